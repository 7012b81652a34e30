/-! a boat arrives: the deed, the ledger, the way home -/
def zp (u : zS_) (f : Int → Int) : zS_ := fun k j => if k = 22 then u 22 j + (if j < 3 then f (j : Int) else 0) else u k j
theorem zp_k {u : zS_} {f : Int → Int} {k j : Nat} (h : k ≠ 22) : zp u f k j = u k j := if_neg h
theorem mpays_eq {u : zS_} {b c : Nat} (h : 0 ≤ u 1 b ∧ u 1 b ≤ 2 ∧ 0 ≤ u 12 b ∧ u 12 b ≤ 2) : mpays (ms u 17 c 2) b c = ms (ms (zp u (fun x => zshare (u 1 b) (u 12 b) (mrew u b c) x)) 17 c 2) 20 c (mrew u b c) := by
  have e1 : mrew (ms u 17 c 2) b c = mrew u b c := rfl
  have e2 : mown (ms u 17 c 2) b c = mown u b c := rfl
  have e3 : ms u 17 c 2 1 b = u 1 b := rfl
  have e4 : ms u 17 c 2 12 b = u 12 b := rfl
  unfold mpays
  rw [e1, e2, e3, e4]
  funext k j
  by_cases hk : k = 22
  · subst hk
    have r0 : ms (ms (zp u (fun x => zshare (u 1 b) (u 12 b) (mrew u b c) x)) 17 c 2) 20 c (mrew u b c) 22 j = u 22 j + (if j < 3 then zshare (u 1 b) (u 12 b) (mrew u b c) (j : Int) else 0) := rfl
    have r1 : ∀ i, ms u 17 c 2 22 i = u 22 i := fun _ => rfl
    have r2 : ∀ i, ms (ms u 17 c 2) 20 c (mrew u b c) 22 i = u 22 i := fun _ => rfl
    rw [r0, ms_kj, ms_kj, ms_kj, r1, r1, r2]
    unfold zshare zown mown
    generalize mrew u b c = rw at *
    by_cases h1 : j = (u 12 b).toNat
    · rw [if_pos h1, if_pos (show j < 3 by omega)]
      by_cases h2 : (u 12 b).toNat = (u 1 b).toNat
      · have h3 : u 12 b = u 1 b := by omega
        have h4 : j = (u 1 b).toNat := by omega
        rw [if_pos h2, if_pos (show (j : Int) = u 1 b by omega), if_pos (show u 1 b = u 12 b by omega), if_pos (show (j : Int) = u 12 b by omega), if_pos h3, ← h4]
        omega
      · have h3 : ¬ u 12 b = u 1 b := by omega
        rw [if_neg h2, if_neg (show ¬ (j : Int) = u 1 b by omega), if_neg (show ¬ u 1 b = u 12 b by omega), if_pos (show (j : Int) = u 12 b by omega), if_neg h3, ← h1]
        omega
    · rw [if_neg h1]
      by_cases h2 : j = (u 1 b).toNat
      · rw [if_pos h2, if_pos (show j < 3 by omega), if_pos (show (j : Int) = u 1 b by omega), if_neg (show ¬ (j : Int) = u 12 b by omega), if_neg (show ¬ u 1 b = u 12 b by omega), if_neg (show ¬ u 12 b = u 1 b by omega), ← h2]
        omega
      · rw [if_neg h2, if_neg (show ¬ (j : Int) = u 1 b by omega), if_neg (show ¬ (j : Int) = u 12 b by omega)]
        by_cases h3 : j < 3
        · rw [if_pos h3]; omega
        · rw [if_neg h3]; omega
  · rw [ms_ne (by omega), ms_ne (by omega)]
    by_cases h1 : k = 20
    · subst h1; exact ms_cg ((ms_ne (by omega)).trans (((ms_ne (by omega)).trans (zp_k (by omega))).symm))
    · rw [ms_ne (by omega)]
      exact ((ms_ne (by omega)).trans (ms_cg (zp_k (by omega)))).symm
theorem marr_pay {u : zS_} {b : Nat} (h8 : u 8 b = 1 ∧ u 11 b = u 24 0) (h9 : 0 ≤ u 9 b) (h : 0 ≤ u 1 b ∧ u 1 b ≤ 2 ∧ 0 ≤ u 12 b ∧ u 12 b ≤ 2) : marr u b = ms (ms (ms (ms (ms (zp u (fun x => zshare (u 1 b) (u 12 b) (mrew u b (u 9 b).toNat) x)) 17 (u 9 b).toNat 2) 20 (u 9 b).toNat (mrew u b (u 9 b).toNat)) 6 b (u 6 b - 2 * mway (u 3 b) (u 14 (u 9 b).toNat))) 9 b (-1)) 11 b (u 24 0 + (u 24 0 - u 10 b)) := by
  unfold marr
  rw [if_pos h8, if_pos h9, mpays_eq h]
theorem marr_rest {u : zS_} {b : Nat} (h8 : u 8 b = 1 ∧ u 11 b = u 24 0) (h9 : ¬ 0 ≤ u 9 b) : marr u b = ms (ms (ms u 8 b 2) 6 b (u 5 b)) 11 b (u 24 0 + (u 24 0 - u 10 b)) := by
  unfold marr
  rw [if_pos h8, if_neg h9]
theorem marr_n {u : zS_} {b : Nat} (h8 : ¬ (u 8 b = 1 ∧ u 11 b = u 24 0)) : marr u b = u := if_neg h8
section ZPAY
variable {tc : Nat → ClassId} {dz : Nat} {ad aB aC aD : Nat → Nat} {nd : Nat} {dd : Nat → Nat → Int} {Wd : Nat → Int64} {u v : zS_} {w w' : zW}
theorem zCx.mono (h : zCx tc dz ad aB aC aD nd dd Wd u w) (hk : ∀ q e, w q = some e → w' q = some e) : zCx tc dz ad aB aC aD nd dd Wd u w' := by
  refine ⟨hk _ _ h.mk, hk _ _ h.we, hk _ _ h.wo, h.wk, hk _ _ h.le, hk _ _ h.pa, h.lB.kept (fun q e hq _ => hk q e hq), h.lC.kept (fun q e hq _ => hk q e hq), h.lD.kept (fun q e hq _ => hk q e hq), ?_, ?_, ?_, h.su, h.ne⟩
  · intro i hi
    obtain ⟨a, b, c, g1, g2⟩ := h.bo i hi
    exact ⟨a, b, c, hk _ _ g1, g2⟩
  · intro j hj
    exact hk _ _ (h.ca j hj)
  · intro k hk'
    exact ⟨hk _ _ (h.de k hk').1, (h.de k hk').2⟩
theorem zpay_ne {tc : Nat → ClassId} {n : Nat} {f : Nat → Int32} (c : Nat) (el : Nat → Option Nat) : ¬ (Sum.inl (tc 0, n, Sum.inl f) : va_E) = zAr tc c el := by
  intro z
  injection z with z
  injection z with _ z
  injection z with _ z
  cases z
theorem zobj_ne {tc : Nat → ClassId} {ci : Nat} {f : List Value} (c : Nat) (el : Nat → Option Nat) : ¬ (Sum.inr (ci, f) : va_E) = zAr tc c el := by intro z; cases z
theorem zcls_ne {ci : Nat} {f g : List Value} (h : ci ≠ 0) : ¬ (Sum.inr (ci, f) : va_E) = Sum.inr (0, g) := by
  intro z
  injection z with z
  injection z with z _
  exact h z
theorem zsum_s {dd : Nat → Nat → Int} {c : Int} {n : Nat} : zsum dd c (n + 1) = zsum dd c n + zshare (dd n 0) (dd n 1) (min (10 * dd n 2 + 5 * dd n 3) (dd n 4)) c := rfl
/-- the ledger behind a deed -/
theorem zCx.pay (h : zCx tc dz ad aB aC aD nd dd Wd u w) {q : Nat} {ow us wy need cap : Int} (hq : w q = some (zDe ow us wy need cap)) (hr : 0 ≤ ow ∧ ow ≤ 2 ∧ 0 ≤ us ∧ us ≤ 2 ∧ 0 ≤ wy ∧ wy ≤ 1000 ∧ 0 ≤ need ∧ need ≤ 1000 ∧ 0 ≤ cap ∧ cap ≤ 1000) (ha : zAdd tc dz w w' (ad 7) nd aD q) {rw0 : Int} (hrw : min (10 * wy + 5 * need) cap = rw0) :
    zCx tc dz ad aB aC (fun j => if j = nd then q else aD j) (nd + 1) (fun k f => if k = nd then (if f = 0 then ow else if f = 1 then us else if f = 2 then wy else if f = 3 then need else cap) else dd k f) Wd (zp u (fun x => zshare ow us rw0 x)) (zu w' (ad 4) (.inl (tc 0, 3, .inl (fun j => zi (zp u (fun x => zshare ow us rw0 x) 22 j))))) := by
  obtain ⟨ha1, ha2, ha3⟩ := ha
  have k1 : ∀ {a : Nat} {ci : Nat} {f : List Value}, w a = some (.inr (ci, f)) → ci ≠ 0 → zu w' (ad 4) (.inl (tc 0, 3, .inl (fun j => zi (zp u (fun x => zshare ow us rw0 x) 22 j)))) a = some (.inr (ci, f)) := by
    intro a ci f g1 g2
    rw [zu_ne (zne g1 h.pa (by intro z; cases z))]
    exact ha2 _ _ g1 (fun f => zcls_ne g2) (fun c el => zobj_ne c el)
  have e13 : zp u (fun x => zshare ow us rw0 x) 13 0 = u 13 0 := rfl
  have e21 : zp u (fun x => zshare ow us rw0 x) 21 0 = u 21 0 := rfl
  have hkl : ∀ {la n : Nat} {a : Nat → Nat}, zLi tc dz w' la n a → zLi tc dz (zu w' (ad 4) (.inl (tc 0, 3, .inl (fun j => zi (zp u (fun x => zshare ow us rw0 x) 22 j))))) la n a := by
    intro la n a hl
    have g4 : w' (ad 4) = some (.inl (tc 0, 3, .inl (fun j => zi (u 22 j)))) := ha2 _ _ h.pa (by intro f z; cases z) (fun c el => zpay_ne c el)
    refine hl.kept (fun q9 e9 hq9 hf => (zu_ne (zne hq9 g4 ?_)).trans hq9)
    rcases hf with ⟨f, rfl⟩ | ⟨c, el, rfl⟩
    · intro z; cases z
    · exact fun z => zpay_ne c el z.symm
  have hfirst : 1 ≤ nd → w (aD 0) = some (zDe (dd 0 0) (dd 0 1) (dd 0 2) (dd 0 3) (dd 0 4)) := fun g => (h.de 0 (by omega)).1
  refine ⟨k1 h.mk (by decide), k1 h.we (by decide), ?_, h.wk, k1 h.le (by decide), zu_eq, ?_, ?_, hkl ha1, ?_, ?_, ?_, ?_, h.ne⟩
  · rw [zu_ne (zne h.wo h.pa (by intro z; injection z with z; injection z with _ z; injection z with _ z; cases z))]
    exact ha2 _ _ h.wo (by intro f z; cases z) (by intro c el z; injection z with z; injection z with _ z; injection z with _ z; injection z with z; cases z)
  · rw [e13]
    refine hkl ?_
    by_cases hn : 1 ≤ (u 13 0).toNat
    · obtain ⟨x1, x2, x3, g1, -⟩ := h.bo 0 (by omega)
      exact ha3 _ _ _ _ _ h.ne.2.1 h.lB hfirst (fun _ => g1) (by intro z; cases z)
    · exact ha3 _ _ _ _ (.inr (1, [])) h.ne.2.1 h.lB hfirst (fun g => absurd g hn) (by intro z; cases z)
  · rw [e21]
    refine hkl ?_
    by_cases hn : 1 ≤ (u 21 0).toNat
    · have g1 := h.ca 0 (by omega)
      unfold zCk at g1
      exact ha3 _ _ _ _ _ h.ne.2.2 h.lC hfirst (fun _ => g1) (by intro z; cases z)
    · exact ha3 _ _ _ _ (.inr (2, [])) h.ne.2.2 h.lC hfirst (fun g => absurd g hn) (by intro z; cases z)
  · intro i hi
    obtain ⟨x1, x2, x3, g1, g2⟩ := h.bo i hi
    exact ⟨x1, x2, x3, k1 g1 (by decide), g2⟩
  · intro j hj
    exact k1 (h.ca j hj) (by decide)
  · intro k hk
    unfold zDk
    by_cases g : k = nd
    · subst g
      simp only [if_true]
      exact ⟨k1 hq (by decide), hr⟩
    · simp only [if_neg g]
      exact ⟨k1 (h.de k (by omega)).1 (by decide), (h.de k (by omega)).2⟩
  · intro c hc
    have hz : ∀ n, n ≤ nd → zsum (fun k f => if k = nd then (if f = 0 then ow else if f = 1 then us else if f = 2 then wy else if f = 3 then need else cap) else dd k f) (c : Int) n = zsum dd (c : Int) n := by
      intro n
      induction n with
      | zero => intro _; rfl
      | succ n ih =>
        intro hn
        unfold zsum
        rw [ih (by omega)]
        simp only [if_neg (show ¬ n = nd by omega)]
    show u 22 c + (if c < 3 then zshare ow us rw0 (c : Int) else 0) = _
    rw [if_pos hc, h.su c hc, zsum_s, hz nd (Nat.le_refl _)]
    simp only [if_true]
    rw [← hrw]
    rfl
end ZPAY
set_option maxHeartbeats 4000000 in
set_option maxRecDepth 100000 in
theorem c_X3_pay (l : Launch) {S : State} {D : va_G} {tc : Nat → ClassId} {A : Nat → Prop} {dz : Nat} (hZ : zB S D tc A dz) {ad aB aC aD : Nat → Nat} {nd : Nat} {dd : Nat → Nat → Int} {Wd : Nat → Int64} {u : zS_} {w : zW} (hC : zCx tc dz ad aB aC aD nd dd Wd u w) {qd : Nat} {ow us wy need cap : Int} (hq : w qd = some (zDe ow us wy need cap)) (hr0 : 0 ≤ ow ∧ ow ≤ 2 ∧ 0 ≤ us ∧ us ≤ 2 ∧ 0 ≤ wy ∧ wy ≤ 1000 ∧ 0 ≤ need ∧ need ≤ 1000 ∧ 0 ≤ cap ∧ cap ≤ 1000) (hnd : nd ≤ 30) : zM l S A yX3_pay cX3_pay 3 (Option.none : Option Jvm.ClassFile.FieldType) { frames := 8, locals := 300, cells := 1, slots := 33 } [.ref (ad 3), .ref (qd)] (zR D A w) (fun v H => v = none ∧ ∃ w1 : zW, zAdd tc dz w w1 (ad 7) nd aD qd ∧ zR D A (zu w1 (ad 4) (.inl (tc 0, 3, .inl (fun k => zi (u 22 k + if k < 3 then zshare ow us (min (10 * wy + 5 * need) cap) (k : Int) else 0))))) H) := by
  refine zM.mk (by decide +kernel) (Nat.le_of_ble_eq_true rfl) ?_
  intro p e s m below meth c ls X0 hR hl
  obtain ⟨hx, hb, hml, hr, hlocks, hown, hnm, hW, hpre, hA⟩ := X0
  have X : zH S A p s m c cX3_pay 3 RX3 := ⟨hx, hb, hml, hown, hW, hpre, hA, hZ.2.2.1⟩
  have hT := hZ.1
  have hK := va_K.moved hW.alike hZ.2.1
  have hS : va_S A s.heap s.heap [] := va_S.rf
  have hl : lv_has ls 3 [(0, .ref (ad 3)), (1, .ref (qd))] := hl
  skip
  refine lv_aload_n hx hb dX3_pay_0 rfl (lv_at hl 0 rfl) ?_
  refine z_get hx hb (q_wsX3 hT hW) hown hK hR hC.le rfl 1 (by decide) (q_75 hT hW) (fun _ h => h) rfl dX3_pay_1 ?_
  refine lv_aload_n hx hb dX3_pay_4 rfl (lv_at hl 1 rfl) ?_
  refine z_addL hZ X hK hl.1 hC.lD hR hS (by omega) (fun i hi => ⟨3, _, Or.inr (Or.inr rfl), (hC.de i hi).1⟩) hq (Or.inr (Or.inr rfl)) (q_529 hT hW) ⟨Nat.le_of_ble_eq_true rfl, Nat.le_of_ble_eq_true rfl⟩ ⟨Nat.le_of_ble_eq_true rfl, Nat.le_of_ble_eq_true rfl⟩ (Nat.le_of_ble_eq_true rfl) dX3_pay_5 (fun H locs w1 hadd hR hS => ?_)
  have hle1 : w1 (ad 3) = some (.inr (4, [.ref (ad 4), .ref (ad 7)])) := hadd.2.1 _ _ hC.le (fun f => zcls_ne (by decide)) (fun c el => zobj_ne c el)
  have hq1 : w1 qd = some (zDe ow us wy need cap) := hadd.2.1 _ _ hq (fun f => zcls_ne (by decide)) (fun c el => zobj_ne c el)
  have hpa1 : w1 (ad 4) = some (.inl (tc 0, 3, .inl (fun j => zi (u 22 j)))) := hadd.2.1 _ _ hC.pa (by intro f z; cases z) (fun c el => zpay_ne c el)
  refine lv_pop hx hb dX3_pay_10 rfl ?_
  refine lv_iconst (v := zi (0)) hx hb dX3_pay_11 rfl ?_
  refine lv_istore_n (lv' := [(2, .int (zi (0))), (0, .ref (ad 3)), (1, .ref (qd))]) hx hb dX3_pay_12 rfl hl (by decide) rfl (fun ls hl => ?_)
  have hR : zR D A (zu w1 (ad 4) (.inl (tc 0, 3, .inl (fun k => zi (u 22 k + if k < 0 then zshare ow us (min (10 * wy + 5 * need) cap) (k : Int) else 0))))) H := by rw [show (fun k => zi (u 22 k + if k < 0 then zshare ow us (min (10 * wy + 5 * need) cap) (k : Int) else 0)) = fun j => zi (u 22 j) from funext fun k => by rw [if_neg (Nat.not_lt_zero k), Int.add_zero], zu_self hpa1]; exact hR
  suffices K : ∀ (fu : Nat) (j : Nat) (H : Heap) (locs : List Loc) (ls : Array Slot), (3 - j) < fu → (j ≤ 3) → zR D A (zu w1 (ad 4) (.inl (tc 0, 3, .inl (fun k => zi (u 22 k + if k < j then zshare ow us (min (10 * wy + 5 * need) cap) (k : Int) else 0))))) H → va_S A s.heap H locs → lv_has ls 3 [(2, .int (zi (((j : Nat) : Int)))), (0, .ref (ad 3)), (1, .ref (qd))] → W p l e { frames := 8, locals := 300, cells := 1, slots := 33 } s m ([.ref (ad 3), .ref (qd)] : List Value).toArray below meth c H locs (0 + 1) (0 + 33) (MQ below (zQ A (fun v H => v = none ∧ ∃ w1 : zW, zAdd tc dz w w1 (ad 7) nd aD qd ∧ zR D A (zu w1 (ad 4) (.inl (tc 0, 3, .inl (fun k => zi (u 22 k + if k < 3 then zshare ow us (min (10 * wy + 5 * need) cap) (k : Int) else 0))))) H)) ([.ref (ad 3), .ref (qd)] : List Value).toArray s ({ frames := 8, locals := 300, cells := 1, slots := 33 } : Room).cells ({ frames := 8, locals := 300, cells := 1, slots := 33 } : Room).slots A) (F0 m 13 ls []) from K _ 0 _ _ _ (Nat.lt_succ_self _) (by omega) hR hS (lv_sub hl [0, 1, 2] rfl)
  intro fu
  induction fu with
  | zero => intro j H locs ls hm; exact absurd hm (Nat.not_lt_zero _)
  | succ fu ih13 =>
    intro j H locs ls hm hj hR hS hl
    have hle2 : (zu w1 (ad 4) (.inl (tc 0, 3, .inl (fun k => zi (u 22 k + if k < j then zshare ow us (min (10 * wy + 5 * need) cap) (k : Int) else 0))))) (ad 3) = some (.inr (4, [.ref (ad 4), .ref (ad 7)])) := (zu_ne (zne hle1 hpa1 (by intro z; cases z))).trans hle1
    have hq2 : (zu w1 (ad 4) (.inl (tc 0, 3, .inl (fun k => zi (u 22 k + if k < j then zshare ow us (min (10 * wy + 5 * need) cap) (k : Int) else 0))))) qd = some (zDe ow us wy need cap) := (zu_ne (zne hq1 hpa1 (by intro z; cases z))).trans hq1
    have hpa2 : (zu w1 (ad 4) (.inl (tc 0, 3, .inl (fun k => zi (u 22 k + if k < j then zshare ow us (min (10 * wy + 5 * need) cap) (k : Int) else 0))))) (ad 4) = some (.inl (tc 0, 3, .inl (fun k => zi (u 22 k + if k < j then zshare ow us (min (10 * wy + 5 * need) cap) (k : Int) else 0)))) := zu_eq
    refine lv_iload_n hx hb dX3_pay_13 rfl (lv_at hl 0 rfl) ?_
    refine lv_aload_n hx hb dX3_pay_14 rfl (lv_at hl 1 rfl) ?_
    refine z_get hx hb (q_wsX3 hT hW) hown hK hR hle2 rfl 0 (by decide) (q_74 hT hW) (fun _ h => h) rfl dX3_pay_15 ?_
    refine z_alen hx hb hK hR 0 hpa2 rfl dX3_pay_18 ?_
    refine z_icmp_ge (a := ((j : Nat) : Int)) (b := 3) (tgt := 42) hx hb dX3_pay_19 (by decide) (by omega) (fun h_19 => ?_) (fun h_19 => ?_)
    · skip
      have hj3 : j = 3 := by omega
      subst hj3
      exact z_vret hx hb hr hlocks hS (by decide) (by decide) dX3_pay_42 ⟨rfl, w1, hadd, hR⟩
    · skip
      refine lv_aload_n hx hb dX3_pay_22 rfl (lv_at hl 1 rfl) ?_
      refine z_get hx hb (q_wsX3 hT hW) hown hK hR hle2 rfl 0 (by decide) (q_74 hT hW) (fun _ h => h) rfl dX3_pay_23 ?_
      refine lv_iload_n hx hb dX3_pay_26 rfl (lv_at hl 0 rfl) ?_
      refine lv_dup2_11 hx hb dX3_pay_27 rfl rfl ?_
      refine z_iald (i := ((j : Nat) : Int)) hx hb hK hR 0 hpa2 rfl (by omega) dX3_pay_28 ?_
      refine lv_aload_n hx hb dX3_pay_29 rfl (lv_at hl 2 rfl) ?_
      refine lv_iload_n hx hb dX3_pay_30 rfl (lv_at hl 0 rfl) ?_
      refine z_invV (n := 1) (C := RX2) (c_X2_shareOf l hZ hq2 (by omega) (cb := (j : Int)) (by omega)) X hS hR hl.1 (q_533 hT hW) (q_21 hT hW) (q_530 hT hW) (q_531 hT hW) (q_532 hT hW) (z_recv hK hR hq2 rfl) (by decide +kernel) rfl ⟨Nat.le_of_ble_eq_true rfl, Nat.le_of_ble_eq_true rfl⟩ ⟨Nat.le_of_ble_eq_true rfl, Nat.le_of_ble_eq_true rfl⟩ (Nat.le_of_ble_eq_true rfl) dX3_pay_31 (fun v H locs hv hS => ?_) rfl
      obtain ⟨rfl, hR⟩ := hv
      refine z_iadd (a := (u 22 j + if j < j then zshare ow us (min (10 * wy + 5 * need) cap) (j : Int) else 0)) (b := (zshare ow us (min (10 * wy + 5 * need) cap) (j : Int))) hx hb dX3_pay_34 ?_
      refine z_iast (i := ((j : Nat) : Int)) (x := zi (((u 22 j + if j < j then zshare ow us (min (10 * wy + 5 * need) cap) (j : Int) else 0) + (zshare ow us (min (10 * wy + 5 * need) cap) (j : Int))))) hx hb hK hR hS 0 hpa2 rfl (by omega) dX3_pay_35 (fun H locs hR hS => ?_)
      have hR : zR D A (zu w1 (ad 4) (.inl (tc 0, 3, .inl (fun k => zi (u 22 k + if k < (j + 1) then zshare ow us (min (10 * wy + 5 * need) cap) (k : Int) else 0))))) H := by
        rw [zu_zu] at hR
        rw [show (fun k => zi (u 22 k + if k < (j + 1) then zshare ow us (min (10 * wy + 5 * need) cap) (k : Int) else 0)) = upd (fun k => zi (u 22 k + if k < j then zshare ow us (min (10 * wy + 5 * need) cap) (k : Int) else 0)) ((j : Int)).toNat (zi (((u 22 j + if j < j then zshare ow us (min (10 * wy + 5 * need) cap) (j : Int) else 0) + (zshare ow us (min (10 * wy + 5 * need) cap) (j : Int))))) from funext fun k => by
          unfold upd
          by_cases g : k = ((j : Int)).toNat
          · have g1 : k = j := by omega
            rw [if_pos g, g1, if_pos (show j < j + 1 by omega), if_neg (show ¬ j < j by omega), Int.add_zero]
          · rw [if_neg g]
            show zi (u 22 k + if k < (j + 1) then zshare ow us (min (10 * wy + 5 * need) cap) (k : Int) else 0) = zi (u 22 k + if k < j then zshare ow us (min (10 * wy + 5 * need) cap) (k : Int) else 0)
            by_cases g1 : k < j
            · rw [if_pos g1, if_pos (show k < j + 1 by omega)]
            · rw [if_neg g1, if_neg (show ¬ k < j + 1 by omega)]]
        exact hR
      refine z_iinc (a := ((j : Nat) : Int)) (n := 1) (lv' := [(2, .int (zi ((((j : Nat) : Int) + 1)))), (0, .ref (ad 3)), (1, .ref (qd))]) hx hb dX3_pay_36 hl (k := 0) rfl (by decide) rfl (fun ls hl => ?_)
      refine lv_goto (tgt := 13) hx hb dX3_pay_39 (by decide) ?_
      exact ih13 (j + 1) _ _ _ (by omega) (by omega) hR hS (lv_sub hl [0, 1, 2] rfl)
set_option maxHeartbeats 4000000 in
set_option maxRecDepth 100000 in
theorem c_X5_finish (l : Launch) {S : State} {D : va_G} {tc : Nat → ClassId} {A : Nat → Prop} {dz : Nat} (hZ : zB S D tc A dz) {ad aB aC aD : Nat → Nat} {nd : Nat} {dd : Nat → Nat → Int} {Wd : Nat → Int64} {u : zS_} {w : zW} (hC : zCx tc dz ad aB aC aD nd dd Wd u w) (hI : zIn u) {i : Nat} (hi : (i : Int) < u 13 0) (h8 : u 8 i = 1 ∧ u 11 i = u 24 0) (h9 : 0 ≤ u 9 i) (hnd : nd ≤ 29) : zM l S A yX5_finish cX5_finish 5 (Option.none : Option Jvm.ClassFile.FieldType) { frames := 9, locals := 350, cells := 2, slots := 38 } [.ref (ad 0), .ref (aB i), .ref (aC (u 9 i).toNat)] (zR D A w) (fun v H => v = none ∧ ∃ (w' : zW) (aD' : Nat → Nat) (dd' : Nat → Nat → Int), zCx tc dz ad aB aC aD' (nd + 1) dd' Wd (marr u i) w' ∧ zR D A w' H) := by
  refine zM.mk (by decide +kernel) (Nat.le_of_ble_eq_true rfl) ?_
  intro p e s m below meth c ls X0 hR hl
  obtain ⟨hx, hb, hml, hr, hlocks, hown, hnm, hW, hpre, hA⟩ := X0
  have X : zH S A p s m c cX5_finish 5 RX5 := ⟨hx, hb, hml, hown, hW, hpre, hA, hZ.2.2.1⟩
  have hT := hZ.1
  have hK := va_K.moved hW.alike hZ.2.1
  have hS : va_S A s.heap s.heap [] := va_S.rf
  have hl : lv_has ls 5 [(0, .ref (ad 0)), (1, .ref (aB i)), (2, .ref (aC (u 9 i).toNat))] := hl
  skip
  have hI1 := hI.1
  obtain ⟨uo, nx, lf, hbo, hb1, hb2, hb3⟩ := hC.bo i (by omega)
  have hIb := hI.2.2.1 i (by omega)
  unfold zIb at hIb
  have hca := hC.ca (u 9 i).toNat (by omega)
  have hIc := hI.2.2.2 (u 9 i).toNat (by omega)
  unfold zIc at hIc
  have hmw := mway_r (a := u 3 i) (b := u 14 (u 9 i).toNat) (by omega)
  have huo := hb1 h9
  obtain ⟨hnx, hlf⟩ := hb3 (by omega)
  rw [zco_s h9] at hbo
  refine lv_aload_n hx hb dX5_finish_0 rfl (lv_at hl 1 rfl) ?_
  refine lv_aload_n hx hb dX5_finish_1 rfl (lv_at hl 2 rfl) ?_
  refine z_get hx hb (q_wsX1 hT hW) hown hK hR hca rfl 1 (by decide) (q_421 hT hW) (fun _ h => h) rfl dX5_finish_2 ?_
  refine z_invV (n := 1) (C := RX0) (c_X0_wayTo l hZ hbo (n := u 14 (u 9 i).toNat) (by omega)) X hS hR hl.1 (q_496 hT hW) (q_13 hT hW) (q_493 hT hW) (q_494 hT hW) (q_495 hT hW) (z_recv hK hR hbo rfl) (by decide +kernel) rfl ⟨Nat.le_of_ble_eq_true rfl, Nat.le_of_ble_eq_true rfl⟩ ⟨Nat.le_of_ble_eq_true rfl, Nat.le_of_ble_eq_true rfl⟩ (Nat.le_of_ble_eq_true rfl) dX5_finish_5 (fun v H locs hv hS => ?_) rfl
  obtain ⟨rfl, hR⟩ := hv
  obtain ⟨wy, hwy⟩ : ∃ wy : Int, wy = ((if 0 ≤ (u 14 (u 9 i).toNat % 8 - u 3 i % 8) then (u 14 (u 9 i).toNat % 8 - u 3 i % 8) else -((u 14 (u 9 i).toNat % 8 - u 3 i % 8))) + (if 0 ≤ (u 14 (u 9 i).toNat / 8 - u 3 i / 8) then (u 14 (u 9 i).toNat / 8 - u 3 i / 8) else -((u 14 (u 9 i).toNat / 8 - u 3 i / 8)))) := ⟨_, rfl⟩
  rw [← hwy]
  have hwm : wy = mway (u 3 i) (u 14 (u 9 i).toNat) := by rw [hwy]; unfold mway mab; omega
  clear hwy
  refine lv_istore_n (lv' := [(3, .int (zi (wy))), (0, .ref (ad 0)), (1, .ref (aB i)), (2, .ref (aC (u 9 i).toNat))]) hx hb dX5_finish_8 rfl hl (by decide) rfl (fun ls hl => ?_)
  refine z_new (fs := [.int (zi (0)), .int (zi (0)), .int (zi (0)), .int (zi (0)), .int (zi (0))]) hx hb (q_wsX2 hT hW) tyX2 tyX2_ok hown (q_502 hT hW) (q_503 hT hW) (q_21 hT hW) hK hR hS hA (ci := 3) rfl (fun j hj => match j, hj with | 0, _ => rfl | 1, _ => rfl | 2, _ => rfl | 3, _ => rfl | 4, _ => rfl | (k + 5), h => absurd h (by omega)) (Nat.le_of_ble_eq_true rfl) (Nat.le_of_ble_eq_true rfl) dX5_finish_9 (fun qd H hfr hR hS => ?_)
  have hR : zR D A (zu w (qd) (.inr (3, [.int (zi (0)), .int (zi (0)), .int (zi (0)), .int (zi (0)), .int (zi (0))]))) H := hR
  have he_1 : (zu w (qd) (.inr (3, [.int (zi (0)), .int (zi (0)), .int (zi (0)), .int (zi (0)), .int (zi (0))]))) (qd) = some (.inr (3, [.int (zi (0)), .int (zi (0)), .int (zi (0)), .int (zi (0)), .int (zi (0))])) := zu_eq
  have he_2 : (zu w (qd) (.inr (3, [.int (zi (0)), .int (zi (0)), .int (zi (0)), .int (zi (0)), .int (zi (0))]))) (ad 0) = some (.inr (6, [.ref (ad 1), .ref (ad 3), .ref (ad 5), .ref (ad 6), .int (zi (u 24 0)), .int (zi (u 23 0))])) := (zu_ne (hfr _ _ hC.mk)).trans hC.mk
  have he_3 : (zu w (qd) (.inr (3, [.int (zi (0)), .int (zi (0)), .int (zi (0)), .int (zi (0)), .int (zi (0))]))) (aB i) = some (.inr (1, [.int (zi (((i : Nat) : Int))), .int (zi (u 1 i)), .int (zi (u 7 i)), .int (zi (u 3 i)), .int (zi (u 4 i)), .int (zi (u 5 i)), .int (zi (u 2 i)), .int (zi (uo)), .int (zi (u 8 i)), .ref (aC (u 9 i).toNat), .int (zi (nx)), .int (zi (u 6 i)), .int (zi (lf))])) := (zu_ne (hfr _ _ hbo)).trans hbo
  have he_4 : (zu w (qd) (.inr (3, [.int (zi (0)), .int (zi (0)), .int (zi (0)), .int (zi (0)), .int (zi (0))]))) (aC (u 9 i).toNat) = some (.inr (2, [.int (zi ((((u 9 i).toNat : Nat) : Int))), .int (zi (u 14 (u 9 i).toNat)), .int (zi (u 15 (u 9 i).toNat)), .int (zi (u 16 (u 9 i).toNat)), .int (zi (u 17 (u 9 i).toNat)), va_rf (zbo u aB (u 9 i).toNat), .int (zi (u 19 (u 9 i).toNat)), .int (zi (u 20 (u 9 i).toNat))])) := (zu_ne (hfr _ _ hca)).trans hca
  have he_5 : (zu w (qd) (.inr (3, [.int (zi (0)), .int (zi (0)), .int (zi (0)), .int (zi (0)), .int (zi (0))]))) (ad 3) = some (.inr (4, [.ref (ad 4), .ref (ad 7)])) := (zu_ne (hfr _ _ hC.le)).trans hC.le
  refine lv_dup hx hb dX5_finish_12 rfl ?_
  refine lv_aload_n hx hb dX5_finish_13 rfl (lv_at hl 2 rfl) ?_
  refine z_get hx hb (q_wsX0 hT hW) hown hK hR he_3 rfl 1 (by decide) (q_249 hT hW) (fun _ h => h) rfl dX5_finish_14 ?_
  refine lv_aload_n hx hb dX5_finish_17 rfl (lv_at hl 2 rfl) ?_
  refine z_get hx hb (q_wsX0 hT hW) hown hK hR he_3 rfl 7 (by decide) (q_258 hT hW) (fun _ h => h) rfl dX5_finish_18 ?_
  refine lv_iload_n hx hb dX5_finish_21 rfl (lv_at hl 0 rfl) ?_
  refine lv_aload_n hx hb dX5_finish_22 rfl (lv_at hl 3 rfl) ?_
  refine z_get hx hb (q_wsX1 hT hW) hown hK hR he_4 rfl 2 (by decide) (q_423 hT hW) (fun _ h => h) rfl dX5_finish_23 ?_
  refine lv_aload_n hx hb dX5_finish_26 rfl (lv_at hl 1 rfl) ?_
  refine z_get hx hb (q_wsX5 hT hW) hown hK hR he_2 rfl 5 (by decide) (q_88 hT hW) (fun _ h => h) rfl dX5_finish_27 ?_
  refine z_invI (n := 5) (c_X2_init l hZ he_1 (ow := u 1 i) (us := uo) (wy := wy) (need := u 15 (u 9 i).toNat) (cap := u 23 0)) X hS hR hl.1 rfl (q_506 hT hW) (q_21 hT hW) (q_504 hT hW) (q_505 hT hW) (by decide +kernel) rfl ⟨Nat.le_of_ble_eq_true rfl, Nat.le_of_ble_eq_true rfl⟩ ⟨Nat.le_of_ble_eq_true rfl, Nat.le_of_ble_eq_true rfl⟩ (Nat.le_of_ble_eq_true rfl) dX5_finish_30 (fun v H locs hv hS => ?_) rfl
  obtain ⟨rfl, hR⟩ := hv
  rw [zu_zu] at hR
  have hR : zR D A (zu w (qd) (.inr (3, [.int (zi (u 1 i)), .int (zi (uo)), .int (zi (wy)), .int (zi (u 15 (u 9 i).toNat)), .int (zi (u 23 0))]))) H := hR
  have he_6 : (zu w (qd) (.inr (3, [.int (zi (u 1 i)), .int (zi (uo)), .int (zi (wy)), .int (zi (u 15 (u 9 i).toNat)), .int (zi (u 23 0))]))) (qd) = some (.inr (3, [.int (zi (u 1 i)), .int (zi (uo)), .int (zi (wy)), .int (zi (u 15 (u 9 i).toNat)), .int (zi (u 23 0))])) := zu_eq
  have he_7 : (zu w (qd) (.inr (3, [.int (zi (u 1 i)), .int (zi (uo)), .int (zi (wy)), .int (zi (u 15 (u 9 i).toNat)), .int (zi (u 23 0))]))) (ad 0) = some (.inr (6, [.ref (ad 1), .ref (ad 3), .ref (ad 5), .ref (ad 6), .int (zi (u 24 0)), .int (zi (u 23 0))])) := (zu_ne (hfr _ _ hC.mk)).trans ((zu_ne (hfr _ _ hC.mk)).symm.trans he_2)
  have he_8 : (zu w (qd) (.inr (3, [.int (zi (u 1 i)), .int (zi (uo)), .int (zi (wy)), .int (zi (u 15 (u 9 i).toNat)), .int (zi (u 23 0))]))) (aB i) = some (.inr (1, [.int (zi (((i : Nat) : Int))), .int (zi (u 1 i)), .int (zi (u 7 i)), .int (zi (u 3 i)), .int (zi (u 4 i)), .int (zi (u 5 i)), .int (zi (u 2 i)), .int (zi (uo)), .int (zi (u 8 i)), .ref (aC (u 9 i).toNat), .int (zi (nx)), .int (zi (u 6 i)), .int (zi (lf))])) := (zu_ne (hfr _ _ hbo)).trans ((zu_ne (hfr _ _ hbo)).symm.trans he_3)
  have he_9 : (zu w (qd) (.inr (3, [.int (zi (u 1 i)), .int (zi (uo)), .int (zi (wy)), .int (zi (u 15 (u 9 i).toNat)), .int (zi (u 23 0))]))) (aC (u 9 i).toNat) = some (.inr (2, [.int (zi ((((u 9 i).toNat : Nat) : Int))), .int (zi (u 14 (u 9 i).toNat)), .int (zi (u 15 (u 9 i).toNat)), .int (zi (u 16 (u 9 i).toNat)), .int (zi (u 17 (u 9 i).toNat)), va_rf (zbo u aB (u 9 i).toNat), .int (zi (u 19 (u 9 i).toNat)), .int (zi (u 20 (u 9 i).toNat))])) := (zu_ne (hfr _ _ hca)).trans ((zu_ne (hfr _ _ hca)).symm.trans he_4)
  have he_10 : (zu w (qd) (.inr (3, [.int (zi (u 1 i)), .int (zi (uo)), .int (zi (wy)), .int (zi (u 15 (u 9 i).toNat)), .int (zi (u 23 0))]))) (ad 3) = some (.inr (4, [.ref (ad 4), .ref (ad 7)])) := (zu_ne (hfr _ _ hC.le)).trans ((zu_ne (hfr _ _ hC.le)).symm.trans he_5)
  refine lv_astore (lv' := [(4, .ref (qd)), (3, .int (zi (wy))), (0, .ref (ad 0)), (1, .ref (aB i)), (2, .ref (aC (u 9 i).toNat))]) hx hb dX5_finish_33 hl (by decide) rfl (fun ls hl => ?_)
  refine lv_aload_n hx hb dX5_finish_35 rfl (lv_at hl 2 rfl) ?_
  refine z_get hx hb (q_wsX5 hT hW) hown hK hR he_7 rfl 1 (by decide) (q_84 hT hW) (fun _ h => h) rfl dX5_finish_36 ?_
  refine lv_aload hx hb dX5_finish_39 (lv_at hl 0 rfl) ?_
  have hC0 : zCx tc dz ad aB aC aD nd dd Wd u (zu w (qd) (.inr (3, [.int (zi (u 1 i)), .int (zi (uo)), .int (zi (wy)), .int (zi (u 15 (u 9 i).toNat)), .int (zi (u 23 0))]))) := hC.mono (fun q e h => (zu_ne (hfr q e h)).trans h)
  refine z_invV (n := 1) (C := RX3) (c_X3_pay l hZ hC0 he_6 (by omega) (by omega)) X hS hR hl.1 (q_527 hT hW) (q_3 hT hW) (q_524 hT hW) (q_525 hT hW) (q_526 hT hW) (z_recv hK hR he_10 rfl) (by decide +kernel) rfl ⟨Nat.le_of_ble_eq_true rfl, Nat.le_of_ble_eq_true rfl⟩ ⟨Nat.le_of_ble_eq_true rfl, Nat.le_of_ble_eq_true rfl⟩ (Nat.le_of_ble_eq_true rfl) dX5_finish_41 (fun v H locs hv hS => ?_) rfl
  obtain ⟨rfl, w1, hadd, hR⟩ := hv
  have hrw : min (10 * wy + 5 * u 15 (u 9 i).toNat) (u 23 0) = mrew u i (u 9 i).toNat := by unfold mrew; rw [← hwm]; omega
  have hC1 := hC0.pay he_6 (by omega) hadd hrw
  have kp : ∀ {a ci : Nat} {f : List Value}, (zu w (qd) (.inr (3, [.int (zi (u 1 i)), .int (zi (uo)), .int (zi (wy)), .int (zi (u 15 (u 9 i).toNat)), .int (zi (u 23 0))]))) a = some (.inr (ci, f)) → ci ≠ 0 → (zu w1 (ad 4) (.inl (tc 0, 3, .inl (fun k => zi (u 22 k + if k < 3 then zshare (u 1 i) uo (min (10 * wy + 5 * u 15 (u 9 i).toNat) (u 23 0)) (k : Int) else 0))))) a = some (.inr (ci, f)) := fun g1 g2 => (zu_ne (zne g1 hC0.pa (by intro z; cases z))).trans (hadd.2.1 _ _ g1 (fun f => zcls_ne g2) (fun c el => zobj_ne c el))
  have hbo2 := kp he_8 (by decide)
  have hca2 := kp he_9 (by decide)
  have hqd2 := kp he_6 (by decide)
  have hmk2 := kp he_7 (by decide)
  rw [hrw] at hbo2 hca2 hqd2 hmk2 hR
  obtain ⟨w2, hw2⟩ : ∃ w2 : zW, w2 = (zu w1 (ad 4) (.inl (tc 0, 3, .inl (fun k => zi (u 22 k + if k < 3 then zshare (u 1 i) uo (mrew u i (u 9 i).toNat) (k : Int) else 0))))) := ⟨_, rfl⟩
  obtain ⟨d2, hC2⟩ : ∃ d2 : Nat → Nat → Int, zCx tc dz ad aB aC (fun j => if j = nd then qd else aD j) (nd + 1) d2 Wd (zp u (fun x => zshare (u 1 i) uo (mrew u i (u 9 i).toNat) x)) w2 := ⟨_, by rw [hw2]; exact hC1⟩
  rw [← hw2] at hbo2 hca2 hqd2 hmk2 hR
  clear hw2 hC1
  refine lv_aload_n hx hb dX5_finish_44 rfl (lv_at hl 4 rfl) ?_
  refine lv_iconst (v := zi (2)) hx hb dX5_finish_45 rfl ?_
  refine z_put hx hb (q_wsX1 hT hW) tyX1 tyX1_ok nmX1 hown hK hR hS hca2 rfl 4 (by decide) (q_427 hT hW) (fun _ h => h) rfl (tyX1_ok 4 (by decide)) rfl rfl (Nat.le_of_ble_eq_true rfl) dX5_finish_46 (fun H locs hR hS => ?_)
  have hR : zR D A (zu w2 (aC (u 9 i).toNat) (.inr (2, [.int (zi ((((u 9 i).toNat : Nat) : Int))), .int (zi (u 14 (u 9 i).toNat)), .int (zi (u 15 (u 9 i).toNat)), .int (zi (u 16 (u 9 i).toNat)), .int (zi (2)), va_rf (zbo u aB (u 9 i).toNat), .int (zi (u 19 (u 9 i).toNat)), .int (zi (u 20 (u 9 i).toNat))]))) H := hR
  have he_11 : (zu w2 (aC (u 9 i).toNat) (.inr (2, [.int (zi ((((u 9 i).toNat : Nat) : Int))), .int (zi (u 14 (u 9 i).toNat)), .int (zi (u 15 (u 9 i).toNat)), .int (zi (u 16 (u 9 i).toNat)), .int (zi (2)), va_rf (zbo u aB (u 9 i).toNat), .int (zi (u 19 (u 9 i).toNat)), .int (zi (u 20 (u 9 i).toNat))]))) (aC (u 9 i).toNat) = some (.inr (2, [.int (zi ((((u 9 i).toNat : Nat) : Int))), .int (zi (u 14 (u 9 i).toNat)), .int (zi (u 15 (u 9 i).toNat)), .int (zi (u 16 (u 9 i).toNat)), .int (zi (2)), va_rf (zbo u aB (u 9 i).toNat), .int (zi (u 19 (u 9 i).toNat)), .int (zi (u 20 (u 9 i).toNat))])) := zu_eq
  have he_12 : (zu w2 (aC (u 9 i).toNat) (.inr (2, [.int (zi ((((u 9 i).toNat : Nat) : Int))), .int (zi (u 14 (u 9 i).toNat)), .int (zi (u 15 (u 9 i).toNat)), .int (zi (u 16 (u 9 i).toNat)), .int (zi (2)), va_rf (zbo u aB (u 9 i).toNat), .int (zi (u 19 (u 9 i).toNat)), .int (zi (u 20 (u 9 i).toNat))]))) (ad 0) = some (.inr (6, [.ref (ad 1), .ref (ad 3), .ref (ad 5), .ref (ad 6), .int (zi (u 24 0)), .int (zi (u 23 0))])) := (zu_ne (zne hmk2 hca2 (by intro z; cases z))).trans hmk2
  have he_13 : (zu w2 (aC (u 9 i).toNat) (.inr (2, [.int (zi ((((u 9 i).toNat : Nat) : Int))), .int (zi (u 14 (u 9 i).toNat)), .int (zi (u 15 (u 9 i).toNat)), .int (zi (u 16 (u 9 i).toNat)), .int (zi (2)), va_rf (zbo u aB (u 9 i).toNat), .int (zi (u 19 (u 9 i).toNat)), .int (zi (u 20 (u 9 i).toNat))]))) (aB i) = some (.inr (1, [.int (zi (((i : Nat) : Int))), .int (zi (u 1 i)), .int (zi (u 7 i)), .int (zi (u 3 i)), .int (zi (u 4 i)), .int (zi (u 5 i)), .int (zi (u 2 i)), .int (zi (uo)), .int (zi (u 8 i)), .ref (aC (u 9 i).toNat), .int (zi (nx)), .int (zi (u 6 i)), .int (zi (lf))])) := (zu_ne (zne hbo2 hca2 (by intro z; cases z))).trans hbo2
  have he_14 : (zu w2 (aC (u 9 i).toNat) (.inr (2, [.int (zi ((((u 9 i).toNat : Nat) : Int))), .int (zi (u 14 (u 9 i).toNat)), .int (zi (u 15 (u 9 i).toNat)), .int (zi (u 16 (u 9 i).toNat)), .int (zi (2)), va_rf (zbo u aB (u 9 i).toNat), .int (zi (u 19 (u 9 i).toNat)), .int (zi (u 20 (u 9 i).toNat))]))) (qd) = some (.inr (3, [.int (zi (u 1 i)), .int (zi (uo)), .int (zi (wy)), .int (zi (u 15 (u 9 i).toNat)), .int (zi (u 23 0))])) := (zu_ne (zne hqd2 hca2 (by intro z; cases z))).trans hqd2
  refine lv_aload_n hx hb dX5_finish_49 rfl (lv_at hl 4 rfl) ?_
  refine lv_aload hx hb dX5_finish_50 (lv_at hl 0 rfl) ?_
  refine z_invV (n := 0) (C := RX2) (c_X2_reward l hZ he_14 (by omega)) X hS hR hl.1 (q_537 hT hW) (q_21 hT hW) (q_539 hT hW) (q_535 hT hW) (q_536 hT hW) (z_recv hK hR he_14 rfl) (by decide +kernel) rfl ⟨Nat.le_of_ble_eq_true rfl, Nat.le_of_ble_eq_true rfl⟩ ⟨Nat.le_of_ble_eq_true rfl, Nat.le_of_ble_eq_true rfl⟩ (Nat.le_of_ble_eq_true rfl) dX5_finish_52 (fun v H locs hv hS => ?_) rfl
  obtain ⟨rfl, hR⟩ := hv
  rw [hrw]
  refine z_put hx hb (q_wsX1 hT hW) tyX1 tyX1_ok nmX1 hown hK hR hS he_11 rfl 7 (by decide) (q_433 hT hW) (fun _ h => h) rfl (tyX1_ok 7 (by decide)) rfl rfl (Nat.le_of_ble_eq_true rfl) dX5_finish_55 (fun H locs hR hS => ?_)
  rw [zu_zu] at hR
  have hR : zR D A (zu w2 (aC (u 9 i).toNat) (.inr (2, [.int (zi ((((u 9 i).toNat : Nat) : Int))), .int (zi (u 14 (u 9 i).toNat)), .int (zi (u 15 (u 9 i).toNat)), .int (zi (u 16 (u 9 i).toNat)), .int (zi (2)), va_rf (zbo u aB (u 9 i).toNat), .int (zi (u 19 (u 9 i).toNat)), .int (zi ((mrew u i (u 9 i).toNat)))]))) H := hR
  have he_15 : (zu w2 (aC (u 9 i).toNat) (.inr (2, [.int (zi ((((u 9 i).toNat : Nat) : Int))), .int (zi (u 14 (u 9 i).toNat)), .int (zi (u 15 (u 9 i).toNat)), .int (zi (u 16 (u 9 i).toNat)), .int (zi (2)), va_rf (zbo u aB (u 9 i).toNat), .int (zi (u 19 (u 9 i).toNat)), .int (zi ((mrew u i (u 9 i).toNat)))]))) (aC (u 9 i).toNat) = some (.inr (2, [.int (zi ((((u 9 i).toNat : Nat) : Int))), .int (zi (u 14 (u 9 i).toNat)), .int (zi (u 15 (u 9 i).toNat)), .int (zi (u 16 (u 9 i).toNat)), .int (zi (2)), va_rf (zbo u aB (u 9 i).toNat), .int (zi (u 19 (u 9 i).toNat)), .int (zi ((mrew u i (u 9 i).toNat)))])) := zu_eq
  have he_16 : (zu w2 (aC (u 9 i).toNat) (.inr (2, [.int (zi ((((u 9 i).toNat : Nat) : Int))), .int (zi (u 14 (u 9 i).toNat)), .int (zi (u 15 (u 9 i).toNat)), .int (zi (u 16 (u 9 i).toNat)), .int (zi (2)), va_rf (zbo u aB (u 9 i).toNat), .int (zi (u 19 (u 9 i).toNat)), .int (zi ((mrew u i (u 9 i).toNat)))]))) (ad 0) = some (.inr (6, [.ref (ad 1), .ref (ad 3), .ref (ad 5), .ref (ad 6), .int (zi (u 24 0)), .int (zi (u 23 0))])) := (zu_ne (zne hmk2 hca2 (by intro z; cases z))).trans ((zu_ne (zne hmk2 hca2 (by intro z; cases z))).symm.trans he_12)
  have he_17 : (zu w2 (aC (u 9 i).toNat) (.inr (2, [.int (zi ((((u 9 i).toNat : Nat) : Int))), .int (zi (u 14 (u 9 i).toNat)), .int (zi (u 15 (u 9 i).toNat)), .int (zi (u 16 (u 9 i).toNat)), .int (zi (2)), va_rf (zbo u aB (u 9 i).toNat), .int (zi (u 19 (u 9 i).toNat)), .int (zi ((mrew u i (u 9 i).toNat)))]))) (aB i) = some (.inr (1, [.int (zi (((i : Nat) : Int))), .int (zi (u 1 i)), .int (zi (u 7 i)), .int (zi (u 3 i)), .int (zi (u 4 i)), .int (zi (u 5 i)), .int (zi (u 2 i)), .int (zi (uo)), .int (zi (u 8 i)), .ref (aC (u 9 i).toNat), .int (zi (nx)), .int (zi (u 6 i)), .int (zi (lf))])) := (zu_ne (zne hbo2 hca2 (by intro z; cases z))).trans ((zu_ne (zne hbo2 hca2 (by intro z; cases z))).symm.trans he_13)
  have he_18 : (zu w2 (aC (u 9 i).toNat) (.inr (2, [.int (zi ((((u 9 i).toNat : Nat) : Int))), .int (zi (u 14 (u 9 i).toNat)), .int (zi (u 15 (u 9 i).toNat)), .int (zi (u 16 (u 9 i).toNat)), .int (zi (2)), va_rf (zbo u aB (u 9 i).toNat), .int (zi (u 19 (u 9 i).toNat)), .int (zi ((mrew u i (u 9 i).toNat)))]))) (qd) = some (.inr (3, [.int (zi (u 1 i)), .int (zi (uo)), .int (zi (wy)), .int (zi (u 15 (u 9 i).toNat)), .int (zi (u 23 0))])) := (zu_ne (zne hqd2 hca2 (by intro z; cases z))).trans ((zu_ne (zne hqd2 hca2 (by intro z; cases z))).symm.trans he_14)
  refine lv_aload_n hx hb dX5_finish_58 rfl (lv_at hl 3 rfl) ?_
  refine lv_aload_n hx hb dX5_finish_59 rfl (lv_at hl 2 rfl) ?_
  refine z_get hx hb (q_wsX5 hT hW) hown hK hR he_16 rfl 4 (by decide) (q_87 hT hW) (fun _ h => h) rfl dX5_finish_60 ?_
  refine lv_iload_n hx hb dX5_finish_63 rfl (lv_at hl 1 rfl) ?_
  refine z_invV (n := 2) (C := RX0) (c_X0_goHome l hZ he_17 (co := some (aC (u 9 i).toNat)) (h := u 24 0) (wy := wy) (by omega)) X hS hR hl.1 (q_543 hT hW) (q_13 hT hW) (q_540 hT hW) (q_541 hT hW) (q_542 hT hW) (z_recv hK hR he_17 rfl) (by decide +kernel) rfl ⟨Nat.le_of_ble_eq_true rfl, Nat.le_of_ble_eq_true rfl⟩ ⟨Nat.le_of_ble_eq_true rfl, Nat.le_of_ble_eq_true rfl⟩ (Nat.le_of_ble_eq_true rfl) dX5_finish_64 (fun v H locs hv hS => ?_) rfl
  obtain ⟨rfl, hR⟩ := hv
  have hR : zR D A (zu (zu w2 (aC (u 9 i).toNat) (.inr (2, [.int (zi ((((u 9 i).toNat : Nat) : Int))), .int (zi (u 14 (u 9 i).toNat)), .int (zi (u 15 (u 9 i).toNat)), .int (zi (u 16 (u 9 i).toNat)), .int (zi (2)), va_rf (zbo u aB (u 9 i).toNat), .int (zi (u 19 (u 9 i).toNat)), .int (zi ((mrew u i (u 9 i).toNat)))]))) (aB i) (.inr (1, [.int (zi (((i : Nat) : Int))), .int (zi (u 1 i)), .int (zi (u 7 i)), .int (zi (u 3 i)), .int (zi (u 4 i)), .int (zi (u 5 i)), .int (zi (u 2 i)), .int (zi (uo)), .int (zi (u 8 i)), .null, .int (zi ((u 24 0 + (u 24 0 - lf)))), .int (zi ((u 6 i - (min (2 * wy) (u 6 i))))), .int (zi (lf))]))) H := hR
  have he_19 : (zu (zu w2 (aC (u 9 i).toNat) (.inr (2, [.int (zi ((((u 9 i).toNat : Nat) : Int))), .int (zi (u 14 (u 9 i).toNat)), .int (zi (u 15 (u 9 i).toNat)), .int (zi (u 16 (u 9 i).toNat)), .int (zi (2)), va_rf (zbo u aB (u 9 i).toNat), .int (zi (u 19 (u 9 i).toNat)), .int (zi ((mrew u i (u 9 i).toNat)))]))) (aB i) (.inr (1, [.int (zi (((i : Nat) : Int))), .int (zi (u 1 i)), .int (zi (u 7 i)), .int (zi (u 3 i)), .int (zi (u 4 i)), .int (zi (u 5 i)), .int (zi (u 2 i)), .int (zi (uo)), .int (zi (u 8 i)), .null, .int (zi ((u 24 0 + (u 24 0 - lf)))), .int (zi ((u 6 i - (min (2 * wy) (u 6 i))))), .int (zi (lf))]))) (aB i) = some (.inr (1, [.int (zi (((i : Nat) : Int))), .int (zi (u 1 i)), .int (zi (u 7 i)), .int (zi (u 3 i)), .int (zi (u 4 i)), .int (zi (u 5 i)), .int (zi (u 2 i)), .int (zi (uo)), .int (zi (u 8 i)), .null, .int (zi ((u 24 0 + (u 24 0 - lf)))), .int (zi ((u 6 i - (min (2 * wy) (u 6 i))))), .int (zi (lf))])) := zu_eq
  have he_20 : (zu (zu w2 (aC (u 9 i).toNat) (.inr (2, [.int (zi ((((u 9 i).toNat : Nat) : Int))), .int (zi (u 14 (u 9 i).toNat)), .int (zi (u 15 (u 9 i).toNat)), .int (zi (u 16 (u 9 i).toNat)), .int (zi (2)), va_rf (zbo u aB (u 9 i).toNat), .int (zi (u 19 (u 9 i).toNat)), .int (zi ((mrew u i (u 9 i).toNat)))]))) (aB i) (.inr (1, [.int (zi (((i : Nat) : Int))), .int (zi (u 1 i)), .int (zi (u 7 i)), .int (zi (u 3 i)), .int (zi (u 4 i)), .int (zi (u 5 i)), .int (zi (u 2 i)), .int (zi (uo)), .int (zi (u 8 i)), .null, .int (zi ((u 24 0 + (u 24 0 - lf)))), .int (zi ((u 6 i - (min (2 * wy) (u 6 i))))), .int (zi (lf))]))) (ad 0) = some (.inr (6, [.ref (ad 1), .ref (ad 3), .ref (ad 5), .ref (ad 6), .int (zi (u 24 0)), .int (zi (u 23 0))])) := (zu_ne (zne hmk2 hbo2 (by intro z; cases z))).trans he_16
  have he_21 : (zu (zu w2 (aC (u 9 i).toNat) (.inr (2, [.int (zi ((((u 9 i).toNat : Nat) : Int))), .int (zi (u 14 (u 9 i).toNat)), .int (zi (u 15 (u 9 i).toNat)), .int (zi (u 16 (u 9 i).toNat)), .int (zi (2)), va_rf (zbo u aB (u 9 i).toNat), .int (zi (u 19 (u 9 i).toNat)), .int (zi ((mrew u i (u 9 i).toNat)))]))) (aB i) (.inr (1, [.int (zi (((i : Nat) : Int))), .int (zi (u 1 i)), .int (zi (u 7 i)), .int (zi (u 3 i)), .int (zi (u 4 i)), .int (zi (u 5 i)), .int (zi (u 2 i)), .int (zi (uo)), .int (zi (u 8 i)), .null, .int (zi ((u 24 0 + (u 24 0 - lf)))), .int (zi ((u 6 i - (min (2 * wy) (u 6 i))))), .int (zi (lf))]))) (aC (u 9 i).toNat) = some (.inr (2, [.int (zi ((((u 9 i).toNat : Nat) : Int))), .int (zi (u 14 (u 9 i).toNat)), .int (zi (u 15 (u 9 i).toNat)), .int (zi (u 16 (u 9 i).toNat)), .int (zi (2)), va_rf (zbo u aB (u 9 i).toNat), .int (zi (u 19 (u 9 i).toNat)), .int (zi ((mrew u i (u 9 i).toNat)))])) := (zu_ne (zne hca2 hbo2 (by intro z; cases z))).trans he_15
  have he_22 : (zu (zu w2 (aC (u 9 i).toNat) (.inr (2, [.int (zi ((((u 9 i).toNat : Nat) : Int))), .int (zi (u 14 (u 9 i).toNat)), .int (zi (u 15 (u 9 i).toNat)), .int (zi (u 16 (u 9 i).toNat)), .int (zi (2)), va_rf (zbo u aB (u 9 i).toNat), .int (zi (u 19 (u 9 i).toNat)), .int (zi ((mrew u i (u 9 i).toNat)))]))) (aB i) (.inr (1, [.int (zi (((i : Nat) : Int))), .int (zi (u 1 i)), .int (zi (u 7 i)), .int (zi (u 3 i)), .int (zi (u 4 i)), .int (zi (u 5 i)), .int (zi (u 2 i)), .int (zi (uo)), .int (zi (u 8 i)), .null, .int (zi ((u 24 0 + (u 24 0 - lf)))), .int (zi ((u 6 i - (min (2 * wy) (u 6 i))))), .int (zi (lf))]))) (qd) = some (.inr (3, [.int (zi (u 1 i)), .int (zi (uo)), .int (zi (wy)), .int (zi (u 15 (u 9 i).toNat)), .int (zi (u 23 0))])) := (zu_ne (zne hqd2 hbo2 (by intro z; cases z))).trans he_18
  have hm := marr_pay h8 h9 (by omega)
  rw [huo] at hC2
  have hC3 : zCx tc dz ad aB aC (fun j => if j = nd then qd else aD j) (nd + 1) d2 Wd (ms (ms (zp u (fun x => zshare (u 1 i) (u 12 i) (mrew u i (u 9 i).toNat) x)) 17 (u 9 i).toNat 2) 20 (u 9 i).toNat (mrew u i (u 9 i).toNat)) (zu w2 (aC (u 9 i).toNat) (.inr (2, [.int (zi ((((u 9 i).toNat : Nat) : Int))), .int (zi (u 14 (u 9 i).toNat)), .int (zi (u 15 (u 9 i).toNat)), .int (zi (u 16 (u 9 i).toNat)), .int (zi (2)), va_rf (zbo u aB (u 9 i).toNat), .int (zi (u 19 (u 9 i).toNat)), .int (zi ((mrew u i (u 9 i).toNat)))]))) := hC2.call (i := (u 9 i).toNat) (by show u 21 0 ≤ 30; omega) (by show _ < (u 21 0).toNat; omega) (fun k j h => (ms_ne (by omega)).trans (ms_ne (by omega))) (zCk_of zu_eq rfl rfl rfl (by first | rfl | exact ms_s | simp [ms]) rfl rfl (by first | rfl | exact ms_s | simp [ms]))
  have hC4 : zCx tc dz ad aB aC (fun j => if j = nd then qd else aD j) (nd + 1) d2 Wd (marr u i) (zu (zu w2 (aC (u 9 i).toNat) (.inr (2, [.int (zi ((((u 9 i).toNat : Nat) : Int))), .int (zi (u 14 (u 9 i).toNat)), .int (zi (u 15 (u 9 i).toNat)), .int (zi (u 16 (u 9 i).toNat)), .int (zi (2)), va_rf (zbo u aB (u 9 i).toNat), .int (zi (u 19 (u 9 i).toNat)), .int (zi ((mrew u i (u 9 i).toNat)))]))) (aB i) (.inr (1, [.int (zi (((i : Nat) : Int))), .int (zi (u 1 i)), .int (zi (u 7 i)), .int (zi (u 3 i)), .int (zi (u 4 i)), .int (zi (u 5 i)), .int (zi (u 2 i)), .int (zi (uo)), .int (zi (u 8 i)), .null, .int (zi ((u 24 0 + (u 24 0 - lf)))), .int (zi ((u 6 i - (min (2 * wy) (u 6 i))))), .int (zi (lf))]))) := hC3.boat (by show u 13 0 ≤ 6; omega) (by show i < (u 13 0).toNat; omega) (u' := marr u i) (fun k j h => by rw [hm]; exact (ms_ne (by omega)).trans ((ms_ne (by omega)).trans (ms_ne (by omega)))) (zBk_of zu_eq (by rw [hm]; rfl) (by rw [hm]; rfl) (by rw [hm]; rfl) (by rw [hm]; rfl) (by rw [hm]; rfl) (by rw [hm]; rfl) (by rw [hm]; rfl) (zco_n (by rw [hm, ms_k (by decide), ms_s]; decide)) (by
      have hf : marr u i 6 i = u 6 i - 2 * mway (u 3 i) (u 14 (u 9 i).toNat) := by rw [hm]; exact (ms_k (by decide)).trans ((ms_k (by decide)).trans ms_s)
      rw [hf, ← hwm]; omega) (fun q => absurd q (by rw [hm, ms_k (by decide), ms_s]; decide)) (fun q => absurd (show u 8 i = 0 by rw [hm] at q; exact q) (by omega)) (fun _ => ⟨by rw [hm, ms_s, hlf], by rw [hm]; exact hlf⟩))
  exact z_vret hx hb hr hlocks hS (by decide) (by decide) dX5_finish_67 ⟨rfl, _, _, _, hC4, hR⟩
theorem zdone_r {u : zS_} (n : Nat) : 0 ≤ zdone u n ∧ zdone u n ≤ n := by
  induction n with
  | zero => exact ⟨Int.le_refl 0, Int.le_refl 0⟩
  | succ n ih => unfold zdone; by_cases h : u 17 n = 2 <;> simp only [h, if_true, if_false] <;> omega
theorem zdone_c {u v : zS_} (n : Nat) (h : ∀ j, j < n → (v 17 j = 2 ↔ u 17 j = 2)) : zdone v n = zdone u n := by
  induction n with
  | zero => rfl
  | succ n ih =>
    unfold zdone
    rw [ih (fun j hj => h j (by omega))]
    by_cases g : u 17 n = 2
    · rw [if_pos g, if_pos ((h n (by omega)).mpr g)]
    · rw [if_neg g, if_neg (fun z => g ((h n (by omega)).mp z))]
theorem zdone_1 {u v : zS_} {c : Nat} (n : Nat) (hc : c < n) (h1 : u 17 c ≠ 2) (h2 : v 17 c = 2) (h : ∀ j, j ≠ c → v 17 j = u 17 j) : zdone v n = zdone u n + 1 := by
  induction n with
  | zero => omega
  | succ n ih =>
    unfold zdone
    by_cases g : c = n
    · subst g
      rw [zdone_c (v := v) (u := u) c (fun j hj => by rw [h j (by omega)]), if_pos h2, if_neg h1]
      omega
    · rw [ih (by omega), h n (by omega)]
      omega
set_option maxHeartbeats 4000000 in
set_option maxRecDepth 100000 in
theorem c_X5_letBoatsArrive (l : Launch) {S : State} {D : va_G} {tc : Nat → ClassId} {A : Nat → Prop} {dz : Nat} (hZ : zB S D tc A dz) {ad aB aC aD : Nat → Nat} {nd : Nat} {dd : Nat → Nat → Int} {Wd : Nat → Int64} {u : zS_} {w : zW} (hC : zCx tc dz ad aB aC aD nd dd Wd u w) (hI : zIn u) (hD : (nd : Int) = zdone u (u 21 0).toNat) : zM l S A yX5_letBoatsArrive cX5_letBoatsArrive 3 (Option.none : Option Jvm.ClassFile.FieldType) { frames := 10, locals := 400, cells := 12, slots := 228 } [.ref (ad 0)] (zR D A w) (fun v H => v = none ∧ ∃ (w' : zW) (aD' : Nat → Nat) (nd' : Nat) (dd' : Nat → Nat → Int), zCx tc dz ad aB aC aD' nd' dd' Wd (mh3 u) w' ∧ (nd' : Int) = zdone (mh3 u) (u 21 0).toNat ∧ zR D A w' H) := by
  refine zM.mk (by decide +kernel) (Nat.le_of_ble_eq_true rfl) ?_
  intro p e s m below meth c ls X0 hR hl
  obtain ⟨hx, hb, hml, hr, hlocks, hown, hnm, hW, hpre, hA⟩ := X0
  have X : zH S A p s m c cX5_letBoatsArrive 3 RX5 := ⟨hx, hb, hml, hown, hW, hpre, hA, hZ.2.2.1⟩
  have hT := hZ.1
  have hK := va_K.moved hW.alike hZ.2.1
  have hS : va_S A s.heap s.heap [] := va_S.rf
  have hl : lv_has ls 3 [(0, .ref (ad 0))] := hl
  skip
  have hI1 := hI.1
  refine lv_iconst (v := zi (0)) hx hb dX5_letBoatsArrive_0 rfl ?_
  refine lv_istore_n (lv' := [(1, .int (zi (0))), (0, .ref (ad 0))]) hx hb dX5_letBoatsArrive_1 rfl hl (by decide) rfl (fun ls hl => ?_)
  have hI0 := hI
  suffices K : ∀ (fu : Nat) (i : Nat) (U : zS_) (w1 : zW) (aD1 : Nat → Nat) (nd1 : Nat) (dd1 : Nat → Nat → Int) (H : Heap) (locs : List Loc) (ls : Array Slot), ((u 13 0).toNat - i) < fu → ((i : Int) ≤ u 13 0) → (U = zfold marr u i) → (zCx tc dz ad aB aC aD1 nd1 dd1 Wd U w1) → ((nd1 : Int) = zdone U (u 21 0).toNat) → zR D A w1 H → va_S A s.heap H locs → lv_has ls 3 [(1, .int (zi (((i : Nat) : Int)))), (0, .ref (ad 0))] → W p l e { frames := 10, locals := 400, cells := 12, slots := 228 } s m ([.ref (ad 0)] : List Value).toArray below meth c H locs (2 * i) (38 * i) (MQ below (zQ A (fun v H => v = none ∧ ∃ (w' : zW) (aD' : Nat → Nat) (nd' : Nat) (dd' : Nat → Nat → Int), zCx tc dz ad aB aC aD' nd' dd' Wd (mh3 u) w' ∧ (nd' : Int) = zdone (mh3 u) (u 21 0).toNat ∧ zR D A w' H)) ([.ref (ad 0)] : List Value).toArray s ({ frames := 10, locals := 400, cells := 12, slots := 228 } : Room).cells ({ frames := 10, locals := 400, cells := 12, slots := 228 } : Room).slots A) (F0 m 2 ls []) from K _ 0 u w aD nd dd _ _ _ (Nat.lt_succ_self _) (by omega) rfl hC hD hR hS (lv_sub hl [0, 1] rfl)
  intro fu
  induction fu with
  | zero => intro i U w1 aD1 nd1 dd1 H locs ls hm; exact absurd hm (Nat.not_lt_zero _)
  | succ fu ih2 =>
    intro i U w1 aD1 nd1 dd1 H locs ls hm hi hU hC hD hR hS hl
    have hIp := mh3_p hI0 (n := i) hi
    rw [show zfold marr u i = U from hU.symm] at hIp
    obtain ⟨hI, hc13, hc21, hc24, hc23⟩ := hIp
    have hI1 := hI.1
    refine lv_iload_n hx hb dX5_letBoatsArrive_2 rfl (lv_at hl 0 rfl) ?_
    refine lv_aload_n hx hb dX5_letBoatsArrive_3 rfl (lv_at hl 1 rfl) ?_
    refine z_get hx hb (q_wsX5 hT hW) hown hK hR hC.mk rfl 2 (by decide) (q_85 hT hW) (fun _ h => h) rfl dX5_letBoatsArrive_4 ?_
    refine z_sizeL hZ X hK hl.1 hC.lB hR hS (q_215 hT hW) ⟨Nat.le_of_ble_eq_true rfl, Nat.le_of_ble_eq_true rfl⟩ ⟨by show 2 * i + 0 ≤ 12; omega, by show 38 * i + 0 ≤ 228; omega⟩ (Nat.le_of_ble_eq_true rfl) dX5_letBoatsArrive_7 (fun H locs hR hS => ?_)
    refine z_icmp_ge (a := ((i : Nat) : Int)) (b := (((U 13 0).toNat : Nat) : Int)) (tgt := 81) hx hb dX5_letBoatsArrive_12 (by decide) (by omega) (fun h_12 => ?_) (fun h_12 => ?_)
    · skip
      have hbq : i = (u 13 0).toNat := by omega
      have hU2 : U = mh3 u := by rw [hU]; unfold mh3; rw [← hbq]
      exact z_vret hx hb hr hlocks hS (by show 2 * i ≤ 12; omega) (by show 38 * i ≤ 228; omega) dX5_letBoatsArrive_81 ⟨rfl, w1, aD1, nd1, dd1, by rw [← hU2]; exact hC, by rw [← hU2]; exact hD, hR⟩
    · skip
      refine lv_aload_n hx hb dX5_letBoatsArrive_15 rfl (lv_at hl 1 rfl) ?_
      refine z_get hx hb (q_wsX5 hT hW) hown hK hR hC.mk rfl 2 (by decide) (q_85 hT hW) (fun _ h => h) rfl dX5_letBoatsArrive_16 ?_
      refine lv_iload_n hx hb dX5_letBoatsArrive_19 rfl (lv_at hl 0 rfl) ?_
      refine z_getL (i := ((i : Nat) : Int)) hZ X hK hl.1 hC.lB hR hS (by omega) (q_367 hT hW) ⟨Nat.le_of_ble_eq_true rfl, Nat.le_of_ble_eq_true rfl⟩ ⟨by show 2 * i + 0 ≤ 12; omega, by show 38 * i + 0 ≤ 228; omega⟩ (Nat.le_of_ble_eq_true rfl) dX5_letBoatsArrive_20 (fun H locs hR hS => ?_)
      obtain ⟨uo, nx, lf, hbo, hb1, hb2, hb3⟩ := hC.bo i (by omega)
      have hIb := hI.2.2.1 i (by omega)
      unfold zIb at hIb
      refine va_castS hx hb hown (q_240 hT hW) (hK.1 1 _ rfl).2 (z_recv hK hR hbo rfl) dX5_letBoatsArrive_25 ?_
      refine lv_astore_n (lv' := [(2, .ref (aB i)), (1, .int (zi (((i : Nat) : Int)))), (0, .ref (ad 0))]) hx hb dX5_letBoatsArrive_28 rfl hl (by decide) rfl (fun ls hl => ?_)
      refine lv_aload_n hx hb dX5_letBoatsArrive_29 rfl (lv_at hl 0 rfl) ?_
      refine z_get hx hb (q_wsX0 hT hW) hown hK hR hbo rfl 8 (by decide) (q_260 hT hW) (fun _ h => h) rfl dX5_letBoatsArrive_30 ?_
      refine lv_iconst (v := zi (1)) hx hb dX5_letBoatsArrive_33 rfl ?_
      refine z_icmp_ne (a := U 8 i) (b := 1) (tgt := 75) hx hb dX5_letBoatsArrive_34 (by decide) (by omega) (fun h_34 => ?_) (fun h_34 => ?_)
      · skip
        refine z_iinc (a := ((i : Nat) : Int)) (n := 1) (lv' := [(1, .int (zi ((((i : Nat) : Int) + 1)))), (2, .ref (aB i)), (0, .ref (ad 0))]) hx hb dX5_letBoatsArrive_75 hl (k := 1) rfl (by decide) rfl (fun ls hl => ?_)
        refine lv_goto (tgt := 2) hx hb dX5_letBoatsArrive_78 (by decide) ?_
        refine W.widen (k := 2 * (i + 1)) (n := 38 * (i + 1)) (by show 2 * i + 0 ≤ 2 * (i + 1); omega) (by show 38 * i + 0 ≤ 38 * (i + 1); omega) ?_
        have hm : zfold marr u (i + 1) = U := by
          show marr (zfold marr u i) i = _
          rw [← hU]
          exact marr_n (by omega)
        exact ih2 (i + 1) U w1 aD1 nd1 dd1 _ _ _ (by omega) (by omega) hm.symm hC hD hR hS (lv_sub hl [0, 2] rfl)
      · skip
        obtain ⟨hnx, hlf⟩ := hb3 (by omega)
        refine lv_aload_n hx hb dX5_letBoatsArrive_37 rfl (lv_at hl 0 rfl) ?_
        refine z_get hx hb (q_wsX0 hT hW) hown hK hR hbo rfl 10 (by decide) (q_264 hT hW) (fun _ h => h) rfl dX5_letBoatsArrive_38 ?_
        refine lv_aload_n hx hb dX5_letBoatsArrive_41 rfl (lv_at hl 2 rfl) ?_
        refine z_get hx hb (q_wsX5 hT hW) hown hK hR hC.mk rfl 4 (by decide) (q_87 hT hW) (fun _ h => h) rfl dX5_letBoatsArrive_42 ?_
        refine z_icmp_ne (a := nx) (b := U 24 0) (tgt := 75) hx hb dX5_letBoatsArrive_45 (by decide) (by omega) (fun h_45 => ?_) (fun h_45 => ?_)
        · skip
          refine z_iinc (a := ((i : Nat) : Int)) (n := 1) (lv' := [(1, .int (zi ((((i : Nat) : Int) + 1)))), (2, .ref (aB i)), (0, .ref (ad 0))]) hx hb dX5_letBoatsArrive_75 hl (k := 1) rfl (by decide) rfl (fun ls hl => ?_)
          refine lv_goto (tgt := 2) hx hb dX5_letBoatsArrive_78 (by decide) ?_
          refine W.widen (k := 2 * (i + 1)) (n := 38 * (i + 1)) (by show 2 * i + 0 ≤ 2 * (i + 1); omega) (by show 38 * i + 0 ≤ 38 * (i + 1); omega) ?_
          have hm : zfold marr u (i + 1) = U := by
            show marr (zfold marr u i) i = _
            rw [← hU]
            exact marr_n (by omega)
          exact ih2 (i + 1) U w1 aD1 nd1 dd1 _ _ _ (by omega) (by omega) hm.symm hC hD hR hS (lv_sub hl [0, 2] rfl)
        · skip
          by_cases h9 : U 9 i < 0
          · skip
            rw [zco_n h9] at hbo
            refine lv_aload_n hx hb dX5_letBoatsArrive_48 rfl (lv_at hl 0 rfl) ?_
            refine z_get hx hb (q_wsX0 hT hW) hown hK hR hbo rfl 9 (by decide) (q_262 hT hW) (fun _ h => h) rfl dX5_letBoatsArrive_49 ?_
            refine lv_ifnonnullN hx hb dX5_letBoatsArrive_52 ?_
            refine lv_aload_n hx hb dX5_letBoatsArrive_55 rfl (lv_at hl 0 rfl) ?_
            refine lv_aload_n hx hb dX5_letBoatsArrive_56 rfl (lv_at hl 2 rfl) ?_
            refine z_get hx hb (q_wsX5 hT hW) hown hK hR hC.mk rfl 4 (by decide) (q_87 hT hW) (fun _ h => h) rfl dX5_letBoatsArrive_57 ?_
            refine z_invV (n := 1) (C := RX0) (c_X0_rest l hZ hbo (co := none) (h := U 24 0)) X hS hR hl.1 (q_488 hT hW) (q_13 hT hW) (q_485 hT hW) (q_486 hT hW) (q_487 hT hW) (z_recv hK hR hbo rfl) (by decide +kernel) rfl ⟨Nat.le_of_ble_eq_true rfl, Nat.le_of_ble_eq_true rfl⟩ ⟨by show 2 * i + 0 ≤ 12; omega, by show 38 * i + 0 ≤ 228; omega⟩ (Nat.le_of_ble_eq_true rfl) dX5_letBoatsArrive_60 (fun v H locs hv hS => ?_) rfl
            obtain ⟨rfl, hR⟩ := hv
            have hR : zR D A (zu w1 (aB i) (.inr (1, [.int (zi (((i : Nat) : Int))), .int (zi (U 1 i)), .int (zi (U 7 i)), .int (zi (U 3 i)), .int (zi (U 4 i)), .int (zi (U 5 i)), .int (zi (U 2 i)), .int (zi (uo)), .int (zi (2)), .null, .int (zi ((U 24 0 + (U 24 0 - lf)))), .int (zi (U 5 i)), .int (zi (lf))]))) H := hR
            have he_1 : (zu w1 (aB i) (.inr (1, [.int (zi (((i : Nat) : Int))), .int (zi (U 1 i)), .int (zi (U 7 i)), .int (zi (U 3 i)), .int (zi (U 4 i)), .int (zi (U 5 i)), .int (zi (U 2 i)), .int (zi (uo)), .int (zi (2)), .null, .int (zi ((U 24 0 + (U 24 0 - lf)))), .int (zi (U 5 i)), .int (zi (lf))]))) (aB i) = some (.inr (1, [.int (zi (((i : Nat) : Int))), .int (zi (U 1 i)), .int (zi (U 7 i)), .int (zi (U 3 i)), .int (zi (U 4 i)), .int (zi (U 5 i)), .int (zi (U 2 i)), .int (zi (uo)), .int (zi (2)), .null, .int (zi ((U 24 0 + (U 24 0 - lf)))), .int (zi (U 5 i)), .int (zi (lf))])) := zu_eq
            have he_2 : (zu w1 (aB i) (.inr (1, [.int (zi (((i : Nat) : Int))), .int (zi (U 1 i)), .int (zi (U 7 i)), .int (zi (U 3 i)), .int (zi (U 4 i)), .int (zi (U 5 i)), .int (zi (U 2 i)), .int (zi (uo)), .int (zi (2)), .null, .int (zi ((U 24 0 + (U 24 0 - lf)))), .int (zi (U 5 i)), .int (zi (lf))]))) (ad 0) = some (.inr (6, [.ref (ad 1), .ref (ad 3), .ref (ad 5), .ref (ad 6), .int (zi (U 24 0)), .int (zi (U 23 0))])) := (zu_ne (zne hC.mk hbo (by intro z; cases z))).trans hC.mk
            refine lv_goto (tgt := 75) hx hb dX5_letBoatsArrive_63 (by decide) ?_
            refine z_iinc (a := ((i : Nat) : Int)) (n := 1) (lv' := [(1, .int (zi ((((i : Nat) : Int) + 1)))), (2, .ref (aB i)), (0, .ref (ad 0))]) hx hb dX5_letBoatsArrive_75 hl (k := 1) rfl (by decide) rfl (fun ls hl => ?_)
            refine lv_goto (tgt := 2) hx hb dX5_letBoatsArrive_78 (by decide) ?_
            refine W.widen (k := 2 * (i + 1)) (n := 38 * (i + 1)) (by show 2 * i + 0 ≤ 2 * (i + 1); omega) (by show 38 * i + 0 ≤ 38 * (i + 1); omega) ?_
            have hm : zfold marr u (i + 1) = (ms (ms (ms U 8 i 2) 6 i (U 5 i)) 11 i (U 24 0 + (U 24 0 - U 10 i))) := by
              show marr (zfold marr u i) i = _
              rw [← hU]
              exact marr_rest ⟨by omega, by omega⟩ (by omega)
            have hC1 : zCx tc dz ad aB aC aD1 nd1 dd1 Wd (ms (ms (ms U 8 i 2) 6 i (U 5 i)) 11 i (U 24 0 + (U 24 0 - U 10 i))) (zu w1 (aB i) (.inr (1, [.int (zi (((i : Nat) : Int))), .int (zi (U 1 i)), .int (zi (U 7 i)), .int (zi (U 3 i)), .int (zi (U 4 i)), .int (zi (U 5 i)), .int (zi (U 2 i)), .int (zi (uo)), .int (zi (2)), .null, .int (zi ((U 24 0 + (U 24 0 - lf)))), .int (zi (U 5 i)), .int (zi (lf))]))) := hC.boat (by omega) (by omega) (fun k j h => (ms_ne (by omega)).trans ((ms_ne (by omega)).trans (ms_ne (by omega)))) (zBk_of zu_eq rfl rfl rfl rfl rfl rfl (by first | rfl | exact ms_s | simp [ms]) (zco_n h9) (by first | rfl | exact ms_s | simp [ms]) (fun q => absurd q (show ¬ 0 ≤ U 9 i by omega)) (fun q => absurd q (by rw [show (ms (ms (ms U 8 i 2) 6 i (U 5 i)) 11 i (U 24 0 + (U 24 0 - U 10 i))) 8 i = 2 from (by first | rfl | exact ms_s | simp [ms])]; decide)) (fun _ => ⟨by rw [ms_s, hlf], hlf⟩))
            exact ih2 (i + 1) (zfold marr u (i + 1)) _ aD1 nd1 dd1 _ _ _ (by omega) (by omega) rfl (by rw [hm]; exact hC1) (by rw [hm]; exact hD.trans (zdone_c (u := U) (v := (ms (ms (ms U 8 i 2) 6 i (U 5 i)) 11 i (U 24 0 + (U 24 0 - U 10 i)))) _ (fun j _ => Iff.rfl)).symm) hR hS (lv_sub hl [0, 2] rfl)
          · skip
            rw [zco_s (by omega)] at hbo
            refine lv_aload_n hx hb dX5_letBoatsArrive_48 rfl (lv_at hl 0 rfl) ?_
            refine z_get hx hb (q_wsX0 hT hW) hown hK hR hbo rfl 9 (by decide) (q_262 hT hW) (fun _ h => h) rfl dX5_letBoatsArrive_49 ?_
            refine lv_ifnonnull (tgt := 66) hx hb dX5_letBoatsArrive_52 (by decide) ?_
            refine lv_aload_n hx hb dX5_letBoatsArrive_66 rfl (lv_at hl 2 rfl) ?_
            refine lv_aload_n hx hb dX5_letBoatsArrive_67 rfl (lv_at hl 0 rfl) ?_
            refine lv_aload_n hx hb dX5_letBoatsArrive_68 rfl (lv_at hl 0 rfl) ?_
            refine z_get hx hb (q_wsX0 hT hW) hown hK hR hbo rfl 9 (by decide) (q_262 hT hW) (fun _ h => h) rfl dX5_letBoatsArrive_69 ?_
            have hIc := hI.2.2.2 (U 9 i).toNat (by omega)
            unfold zIc at hIc
            have hm := marr_pay (u := U) (b := i) ⟨by omega, by omega⟩ (by omega) (by omega)
            have hz1 : zdone (marr U i) (u 21 0).toNat = zdone U (u 21 0).toNat + 1 := zdone_1 (c := (U 9 i).toNat) _ (by omega) (by omega) (by rw [hm]; simp [ms]) (fun j hj => by rw [hm]; exact (ms_ne (by omega)).trans ((ms_ne (by omega)).trans ((ms_ne (by omega)).trans ((ms_ne (by omega)).trans (ms_ne (by omega))))))
            have hz2 := zdone_r (u := marr U i) (u 21 0).toNat
            refine z_invV (n := 2) (C := RX5) (c_X5_finish l hZ hC hI (i := i) (by omega) ⟨by omega, by omega⟩ (by omega) (by omega)) X hS hR hl.1 (q_492 hT hW) (q_1 hT hW) (q_489 hT hW) (q_491 hT hW) (q_p9 hT hW) (z_recv hK hR hC.mk rfl) (by decide +kernel) rfl ⟨Nat.le_of_ble_eq_true rfl, Nat.le_of_ble_eq_true rfl⟩ ⟨by show 2 * i + 2 ≤ 12; omega, by show 38 * i + 38 ≤ 228; omega⟩ (Nat.le_of_ble_eq_true rfl) dX5_letBoatsArrive_72 (fun v H locs hv hS => ?_) rfl
            obtain ⟨rfl, w2, aD2, dd2, hC2, hR⟩ := hv
            refine z_iinc (a := ((i : Nat) : Int)) (n := 1) (lv' := [(1, .int (zi ((((i : Nat) : Int) + 1)))), (2, .ref (aB i)), (0, .ref (ad 0))]) hx hb dX5_letBoatsArrive_75 hl (k := 1) rfl (by decide) rfl (fun ls hl => ?_)
            refine lv_goto (tgt := 2) hx hb dX5_letBoatsArrive_78 (by decide) ?_
            refine W.widen (k := 2 * (i + 1)) (n := 38 * (i + 1)) (by show 2 * i + 2 ≤ 2 * (i + 1); omega) (by show 38 * i + 38 ≤ 38 * (i + 1); omega) ?_
            have hm2 : zfold marr u (i + 1) = marr U i := by
              show marr (zfold marr u i) i = _
              rw [← hU]
            exact ih2 (i + 1) (zfold marr u (i + 1)) w2 aD2 (nd1 + 1) dd2 _ _ _ (by omega) (by omega) rfl (by rw [hm2]; exact hC2) (by rw [hm2]; omega) hR hS (lv_sub hl [0, 2] rfl)

