/-! an hour, the hours, and every other call keep the property -/
theorem zPr_mgo {u : zS_} (hI : zIn u) (hn : u 24 0 < 999) (h : zPr u) : zPr (mgo u) := by
  obtain ⟨hP, hC, h19⟩ := h
  have g1 := zIn_mh1 hI hn
  have p1 := zPb_mh1 hP
  have t1 : ∀ b : Nat, (b : Int) < mh1 u 13 0 → zTA (mh1 u) b := fun b hb => zTA_mh1 (hC b hb)
  have n1 : ∀ c : Nat, (c : Int) < u 21 0 → mh1 u 19 c ≤ mh1 u 24 0 - 1 := fun c hc => by
    have e : mh1 u 24 0 = u 24 0 + 1 := ms_s
    have e2 : mh1 u 19 c = u 19 c := rfl
    rw [e, e2]; have := h19 c hc; omega
  have e1 : mh1 u 21 0 = u 21 0 := rfl
  obtain ⟨v, hv⟩ : ∃ v, v = mh1 u := ⟨_, rfl⟩
  rw [← hv] at g1 p1 t1 n1 e1
  have f2 : ∀ n : Nat, (n : Int) ≤ v 13 0 → zPb (zfold mturn v n) ∧ ∀ b : Nat, (b : Int) < v 13 0 → zTA (zfold mturn v n) b := by
    intro n
    induction n with
    | zero => intro _; exact ⟨p1, t1⟩
    | succ n ih =>
      intro hn
      obtain ⟨q1, q2⟩ := ih (by omega)
      obtain ⟨i1, i2, -⟩ := mh2_p g1 (n := n) (by omega)
      exact ⟨zPb_mturn i1 q1 (by rw [i2]; omega) (q2 n (by omega)), fun b hb => zTA_mturn i1 (by rw [i2]; omega) (q2 n (by omega)) (q2 b hb)⟩
  have k1 := g1.1
  obtain ⟨p2, t2⟩ := f2 (v 13 0).toNat (by omega)
  obtain ⟨g2, e13, e21, e24, -⟩ := mh2_p g1 (n := (v 13 0).toNat) (by omega)
  have n2 : ∀ c : Nat, zfold mturn v (v 13 0).toNat 19 c = v 19 c := fun c => zfold_k _ (fun w i => mturn_k ⟨by decide, by decide, by decide, by decide⟩)
  have m2 : zfold mturn v (v 13 0).toNat = mh2 v := rfl
  rw [m2] at p2 t2 g2 e13 e21 e24 n2
  obtain ⟨w, hw⟩ : ∃ w, w = mh2 v := ⟨_, rfl⟩
  rw [← hw] at p2 t2 g2 e13 e21 e24 n2
  have f3 : ∀ n : Nat, (n : Int) ≤ w 13 0 → zPb (zfold marr w n) ∧ (∀ b : Nat, (b : Int) < w 13 0 → zTA (zfold marr w n) b) ∧ ∀ b : Nat, b < n → zTB (zfold marr w n) b := by
    intro n
    induction n with
    | zero => intro _; exact ⟨p2, fun b hb => t2 b (by omega), fun b hb => absurd hb (Nat.not_lt_zero b)⟩
    | succ n ih =>
      intro hn
      obtain ⟨q1, q2, q3⟩ := ih (by omega)
      obtain ⟨i1, i2, -⟩ := mh3_p g2 (n := n) (by omega)
      refine ⟨zPb_marr i1 q1 (by rw [i2]; omega) (q2 n (by omega)), fun b hb => zTA_marr i1 (by rw [i2]; omega) (q2 n (by omega)) (q2 b hb), fun b hb => ?_⟩
      by_cases e : b = n
      · subst e; exact zTB_marr i1 (by rw [i2]; omega) (q2 b (by omega))
      · exact zTB_marr_o i1 (by rw [i2]; omega) e (q3 b (by omega))
  have k2 := g2.1
  obtain ⟨p3, -, t3⟩ := f3 (w 13 0).toNat (by omega)
  obtain ⟨g3, d13, d21, d24, -⟩ := mh3_p g2 (n := (w 13 0).toNat) (by omega)
  have n3 : ∀ c : Nat, zfold marr w (w 13 0).toNat 19 c = w 19 c := fun c => zfold_k _ (fun w i => marr_k ⟨by decide, by decide, by decide, by decide, by decide, by decide, by decide⟩)
  have m3 : zfold marr w (w 13 0).toNat = mh3 w := rfl
  rw [m3] at p3 t3 g3 d13 d21 d24 n3
  obtain ⟨x, hx⟩ : ∃ x, x = mh3 w := ⟨_, rfl⟩
  rw [← hx] at p3 t3 g3 d13 d21 d24 n3
  have f4 : ∀ n : Nat, (n : Int) ≤ x 13 0 → zPb (zfold mfree x n) ∧ (∀ b : Nat, (b : Int) < x 13 0 → n ≤ b → zTB (zfold mfree x n) b) ∧ ∀ b : Nat, b < n → zTC (zfold mfree x n) b := by
    intro n
    induction n with
    | zero => intro _; exact ⟨p3, fun b hb _ => t3 b (by omega), fun b hb => absurd hb (Nat.not_lt_zero b)⟩
    | succ n ih =>
      intro hn
      obtain ⟨q1, q2, q3⟩ := ih (by omega)
      obtain ⟨i1, i2, -⟩ := mh4_p g3 (n := n) (by omega)
      refine ⟨zPb_mfree q1, fun b hb hnb => (zT_mfree_o (by omega)).1 (q2 b hb (by omega)), fun b hb => ?_⟩
      by_cases e : b = n
      · subst e; exact zTC_mfree i1 (by rw [i2]; omega) (q2 b (by omega) (Nat.le_refl b))
      · exact (zT_mfree_o e).2 (q3 b (by omega))
  have k3 := g3.1
  obtain ⟨p4, -, t4⟩ := f4 (x 13 0).toNat (by omega)
  obtain ⟨g4, c13, c21, c24, -⟩ := mh4_p g3 (n := (x 13 0).toNat) (by omega)
  have n4 : ∀ c : Nat, zfold mfree x (x 13 0).toNat 19 c = x 19 c := fun c => zfold_k _ (fun w i => mfree_k (by decide))
  have m4 : zfold mfree x (x 13 0).toNat = mh4 x := rfl
  rw [m4] at p4 t4 g4 c13 c21 c24 n4
  obtain ⟨y, hy⟩ : ∃ y, y = mh4 x := ⟨_, rfl⟩
  rw [← hy] at p4 t4 g4 c13 c21 c24 n4
  have f5 : ∀ n : Nat, (n : Int) ≤ y 21 0 → zPb (zfold mcall y n) ∧ (∀ b : Nat, (b : Int) < y 13 0 → zTC (zfold mcall y n) b) ∧ ∀ c : Nat, zfold mcall y n 19 c ≤ y 19 c + (if c < n then 1 else 0) := by
    intro n
    induction n with
    | zero => intro _; exact ⟨p4, fun b hb => t4 b (by omega), fun c => by rw [if_neg (Nat.not_lt_zero c)]; show y 19 c ≤ _; omega⟩
    | succ n ih =>
      intro hn
      obtain ⟨q1, q2, q3⟩ := ih (by omega)
      obtain ⟨i1, i2, i3, -⟩ := mh5_p g4 (n := n) (by omega)
      refine ⟨zPb_mcall i1 q1 (by rw [i3]; omega), fun b hb => zTC_mcall i1 (by rw [i3]; omega) (q2 b hb), fun c => ?_⟩
      have q4 := q3 c
      show mcall (zfold mcall y n) n 19 c ≤ _
      rcases m19_mcall (u := zfold mcall y n) (c := n) (j := c) with z | ⟨z1, z2⟩
      · rw [z]
        by_cases e : c < n
        · rw [if_pos e] at q4; rw [if_pos (by omega)]; exact q4
        · rw [if_neg e] at q4
          by_cases e2 : c < n + 1
          · rw [if_pos e2]; omega
          · rw [if_neg e2]; exact q4
      · rw [z2]
        rw [if_neg (by omega)] at q4
        rw [if_pos (by omega)]
        omega
  have k4 := g4.1
  obtain ⟨p5, t5, n5⟩ := f5 (y 21 0).toNat (by omega)
  obtain ⟨g5, b13, b21, b24, -⟩ := mh5_p g4 (n := (y 21 0).toNat) (by omega)
  have m5 : zfold mcall y (y 21 0).toNat = mgo u := by
    unfold mgo; rw [← hv, ← hw, ← hx, ← hy]; rfl
  rw [m5] at p5 t5 n5 b13 b21 b24
  refine ⟨p5, fun b hb => t5 b (by omega), fun c hc => ?_⟩
  have q := n5 c
  have q1 := n1 c (by omega)
  rw [n4, n3, n2] at q
  by_cases e : c < (y 21 0).toNat
  · rw [if_pos e] at q; omega
  · rw [if_neg e] at q; omega
theorem zPr_mpass {u : zS_} (hI : zIn u) (h : zPr u) (n : Nat) (hn : u 24 0 + (n : Int) ≤ 999) : zPr (mpass u n) := by
  induction n with
  | zero => exact h
  | succ n ih =>
    have p := zIn_mpass hI n (by omega)
    exact zPr_mgo p.1 (by show mpass u n 24 0 < 999; rw [p.2.1]; omega) (ih (by omega))
/-- only fields that the property doesn't look at change -/
theorem zPr_same {u v : zS_} (h : zPr u) (e : ∀ k j, (k = 8 ∨ k = 9 ∨ k = 10 ∨ k = 11 ∨ k = 13 ∨ k = 17 ∨ k = 18 ∨ k = 19 ∨ k = 20 ∨ k = 21 ∨ k = 22 ∨ k = 24) → v k j = u k j) : zPr v := by
  obtain ⟨h1, h2, h3⟩ := h
  refine ⟨zPb_to h1 (e 13 0 (by omega)) (e 21 0 (by omega)) (fun b _ t => ?_) (fun c _ t => ?_) (fun j => e 20 j (by omega)) (fun j => e 22 j (by omega)), fun b hb => ?_, fun c hc => ?_⟩
  · unfold zTm at t ⊢
    rw [e 8 b (by omega), e 9 b (by omega), e 10 b (by omega), e 11 b (by omega), e 24 0 (by omega)]; exact t
  · unfold zCl at t ⊢
    rw [e 17 c (by omega), e 18 c (by omega), e 19 c (by omega), e 20 c (by omega), e 9 _ (by omega)]; exact t
  · rw [e 13 0 (by omega)] at hb
    have t := h2 b hb
    unfold zTC at t ⊢
    rw [e 8 b (by omega), e 10 b (by omega), e 11 b (by omega), e 24 0 (by omega)]; exact t
  · rw [e 21 0 (by omega)] at hc
    rw [e 19 c (by omega), e 24 0 (by omega)]; exact h3 c hc
theorem zPr_cap {u : zS_} {a : Int} (h : zPr u) : zPr (ms u 23 0 a) := zPr_same h (fun k j hk => ms_k (by omega))
theorem zPr_lend {u : zS_} {i : Nat} {x : Int} (h : zPr u) : zPr (ms u 2 i x) := zPr_same h (fun k j hk => ms_k (by omega))
theorem zPr_fore {u : zS_} {f t a z st : Int} (h : zPr u) : zPr (muFore u f t a z st) := zPr_same h (fun k j hk => mfo_k (by omega))
theorem zPr_boat {u : zS_} {a b k d f : Int} (hI : zIn u) (hU : zUn u) (h : zPr u) : zPr (muBoat u a b k d f) := by
  obtain ⟨⟨h1, h2, h4⟩, h5, h3⟩ := h
  have hI1 := hI.1
  have e13 : muBoat u a b k d f 13 0 = u 13 0 + 1 := ms_s
  have ek : ∀ kk i, i ≠ (u 13 0).toNat → kk ≠ 13 → muBoat u a b k d f kk i = u kk i := by
    intro kk i hi hk
    unfold muBoat
    rw [ms_ne (by omega), ms_ne (by omega), ms_ne (by omega), ms_ne (by omega), ms_ne (by omega), ms_ne (by omega), ms_ne (by omega), ms_ne (by omega), ms_ne (by omega)]
  have c8 : muBoat u a b k d f 8 (u 13 0).toNat = 0 := hU.1 (u 13 0).toNat (by omega)
  have c9 : muBoat u a b k d f 9 (u 13 0).toNat = -1 := by unfold muBoat; simp [ms]
  have e24 : muBoat u a b k d f 24 0 = u 24 0 := rfl
  refine ⟨⟨fun i hi => ?_, fun c hc => ?_, ?_⟩, fun i hi => ?_, fun c hc => h3 c hc⟩
  · rw [e13] at hi
    by_cases q : i = (u 13 0).toNat
    · subst q
      unfold zTm
      rw [c8, c9]
      exact ⟨fun z => absurd z (by decide), fun z => absurd z (by decide), fun z => absurd z (by decide)⟩
    · have t := h1 i (by omega)
      unfold zTm at t ⊢
      rw [ek 8 i q (by decide), ek 9 i q (by decide), ek 10 i q (by decide), ek 11 i q (by decide), e24]; exact t
  · have t := h2 c hc
    have hC := hI.2.2.2 c hc
    unfold zIc at hC
    unfold zCl at t ⊢
    refine ⟨fun z => ?_, t.2.1, t.2.2.1, t.2.2.2.1, t.2.2.2.2⟩
    have t1 := t.1 z
    refine ⟨t1.1, ?_⟩
    show muBoat u a b k d f 9 (u 18 c).toNat = (c : Int)
    rw [ek 9 _ (by omega) (by decide)]
    exact t1.2
  · exact (zgot_c (u := u) (v := muBoat u a b k d f) (fun _ => rfl)).trans (h4.trans (zrw_c (u := u) (v := muBoat u a b k d f) _ (fun _ _ => rfl)).symm)
  · rw [e13] at hi
    by_cases q : i = (u 13 0).toNat
    · subst q
      intro z
      exact absurd c8 z
    · have t := h5 i (by omega)
      unfold zTC at t ⊢
      rw [ek 8 i q (by decide), ek 10 i q (by decide), ek 11 i q (by decide), e24]; exact t
theorem zPr_call {u : zS_} {a n z : Int} (hI : zIn u) (hU : zUn u) (h : zPr u) : zPr (muCall u a n z) := by
  obtain ⟨⟨h1, h2, h4⟩, h5, h3⟩ := h
  have hI1 := hI.1
  have e21 : muCall u a n z 21 0 = u 21 0 + 1 := ms_s
  have ek : ∀ kk j, j ≠ (u 21 0).toNat → kk ≠ 21 → muCall u a n z kk j = u kk j := by
    intro kk j hj hk
    unfold muCall
    rw [ms_ne (by omega), ms_ne (by omega), ms_ne (by omega), ms_ne (by omega), ms_ne (by omega)]
  have g := hU.2 (u 21 0).toNat (by omega)
  have c17 : muCall u a n z 17 (u 21 0).toNat = 0 := g.1
  have c18 : muCall u a n z 18 (u 21 0).toNat = -1 := by unfold muCall; simp [ms]
  have c19 : muCall u a n z 19 (u 21 0).toNat = 0 := g.2.1
  have c20 : muCall u a n z 20 (u 21 0).toNat = 0 := g.2.2
  refine ⟨⟨h1, fun c hc => ?_, ?_⟩, h5, fun c hc => ?_⟩
  · rw [e21] at hc
    by_cases q : c = (u 21 0).toNat
    · subst q
      unfold zCl
      rw [c17, c18, c19, c20]
      exact ⟨fun z => absurd z (by decide), fun _ => rfl, ⟨fun _ => rfl, fun _ => rfl⟩, by decide, fun z => absurd z (by decide)⟩
    · have t := h2 c (by omega)
      unfold zCl at t ⊢
      rw [ek 17 c q (by decide), ek 18 c q (by decide), ek 19 c q (by decide), ek 20 c q (by decide)]
      exact t
  · rw [e21, show (u 21 0 + 1).toNat = (u 21 0).toNat + 1 by omega]
    show zgot u = zrw (muCall u a n z) (u 21 0).toNat + muCall u a n z 20 (u 21 0).toNat
    rw [c20, h4, zrw_c (u := u) (v := muCall u a n z) _ (fun j hj => ek 20 j (by omega) (by decide))]
    omega
  · rw [e21] at hc
    show muCall u a n z 19 c ≤ u 24 0
    by_cases q : c = (u 21 0).toNat
    · subst q; rw [c19]; omega
    · rw [ek 19 c q (by decide)]; exact h3 c (by omega)
theorem zPr_mu0 : zPr mu0 := ⟨⟨fun b hb => absurd hb (by show ¬ (b : Int) < 0; omega), fun c hc => absurd hc (by show ¬ (c : Int) < 0; omega), rfl⟩, fun b hb => absurd hb (by show ¬ (b : Int) < 0; omega), fun c hc => absurd hc (by show ¬ (c : Int) < 0; omega)⟩
/-- all that the law keeps of the state -/
def zOk (u : zS_) : Prop := zIn u ∧ zUn u ∧ zPr u
theorem zOk_mu0 : zOk mu0 := ⟨zIn_mu0, zUn_mu0, zPr_mu0⟩
theorem zOk_cap {u : zS_} {a : Int} (h : zOk u) (ha : mcCap a = 0) : zOk (ms u 23 0 a) := ⟨zIn_cap h.1 (by unfold mcCap at ha; omega), h.2.1, zPr_cap h.2.2⟩
theorem zOk_lend {u : zS_} {a b : Int} (h : zOk u) (ha : mcLend u a b = 0) : zOk (ms u 2 a.toNat b) := ⟨zIn_lend h.1 (by unfold mcLend at ha; omega), h.2.1, zPr_lend h.2.2⟩
theorem zOk_fore {u : zS_} {f t a z st : Int} (h : zOk u) (ha : mcFore u f t a z st = 0) : zOk (muFore u f t a z st) := ⟨zIn_fore h.1 (by unfold mcFore at ha; omega), zUn_fore h.2.1, zPr_fore h.2.2⟩
theorem zOk_boat {u : zS_} {a b k d f : Int} (h : zOk u) (ha : mcBoat u a b k d f = 0) : zOk (muBoat u a b k d f) := by
  have hI1 := h.1.1
  unfold mcBoat at ha
  exact ⟨zIn_boat h.1 h.2.1 (by omega) (by omega), zUn_boat h.1 h.2.1, zPr_boat h.1 h.2.1 h.2.2⟩
theorem zOk_call {u : zS_} {a n z : Int} (h : zOk u) (ha : mcCall u a n z = 0) : zOk (muCall u a n z) := by
  have hI1 := h.1.1
  unfold mcCall at ha
  exact ⟨zIn_call h.1 h.2.1 (by omega) (by omega), zUn_call h.1 h.2.1, zPr_call h.1 h.2.1 h.2.2⟩
theorem zOk_pass {u : zS_} {n : Int} (h : zOk u) (ha : mcPass u n = 0) : zOk (mpass u n.toNat) ∧ mpass u n.toNat 24 0 = u 24 0 + n := by
  unfold mcPass at ha
  have p := zIn_mpass h.1 n.toNat (by omega)
  exact ⟨⟨p.1, zUn_mpass h.1 h.2.1 n.toNat (by omega), zPr_mpass h.1 h.2.2 n.toNat (by omega)⟩, by rw [p.2.1]; omega⟩
