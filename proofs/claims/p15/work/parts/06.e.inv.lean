/-! the state's shape behind every call -/
theorem ms_ms {u : zS_} {k j : Nat} {x y : Int} : ms (ms u k j x) k j y = ms u k j y := by
  funext a b
  unfold ms
  by_cases h : a = k ∧ b = j
  · rw [if_pos h, if_pos h]
  · rw [if_neg h, if_neg h, if_neg h]
theorem zIn_cap {u : zS_} {a : Int} (h : zIn u) (ha : 0 ≤ a ∧ a ≤ 1000) : zIn (ms u 23 0 a) := by
  obtain ⟨h1, h2, h3, h4⟩ := h
  exact ⟨⟨h1.1, h1.2.1, h1.2.2.1, h1.2.2.2.1, h1.2.2.2.2.1, h1.2.2.2.2.2.1, by rw [ms_s]; omega⟩, h2, h3, h4⟩
theorem zIn_lend {u : zS_} {i : Nat} {x : Int} (h : zIn u) (hx : 0 ≤ x ∧ x ≤ 2) : zIn (ms u 2 i x) := by
  obtain ⟨h1, h2, h3, h4⟩ := h
  refine ⟨h1, h2, fun j hj => ?_, h4⟩
  have g := h3 j hj
  unfold zIb at g ⊢
  refine ⟨⟨g.1.1, g.1.2.1, ?_, ?_, g.1.2.2.2.2⟩, g.2⟩
  · rw [ms_kj]; by_cases q : j = i
    · rw [if_pos q]; omega
    · rw [if_neg q]; omega
  · rw [ms_kj]; by_cases q : j = i
    · rw [if_pos q]; omega
    · rw [if_neg q]; omega
theorem zIn_fore {u : zS_} {f t a z st : Int} (h : zIn u) (hs : 0 ≤ st ∧ st ≤ 9) : zIn (muFore u f t a z st) := by
  have e : ∀ k j, k ≠ 0 → muFore u f t a z st k j = u k j := fun k j hk => mfo_k hk
  obtain ⟨h1, h2, h3, h4⟩ := h
  refine ⟨by rw [e 13 0 (by decide), e 21 0 (by decide), e 24 0 (by decide), e 23 0 (by decide)]; exact h1, fun j => ?_, fun i hi => ?_, fun j hj => ?_⟩
  · unfold muFore mfo
    by_cases q : mrect f t a z j
    · rw [if_pos ⟨rfl, q⟩]; exact hs
    · rw [if_neg (fun z => q z.2)]; exact h2 j
  · rw [e 13 0 (by decide)] at hi
    have g := h3 i hi
    unfold zIb at g ⊢
    rw [e 1 _ (by decide), e 2 _ (by decide), e 3 _ (by decide), e 4 _ (by decide), e 5 _ (by decide), e 6 _ (by decide), e 7 _ (by decide), e 8 _ (by decide), e 9 _ (by decide), e 21 0 (by decide), e 11 _ (by decide), e 14 _ (by decide), e 17 _ (by decide), e 18 _ (by decide), e 12 _ (by decide), e 10 _ (by decide), e 24 0 (by decide)]
    exact g
  · rw [e 21 0 (by decide)] at hj
    have g := h4 j hj
    unfold zIc at g ⊢
    rw [e 14 _ (by decide), e 15 _ (by decide), e 16 _ (by decide), e 17 _ (by decide), e 18 _ (by decide), e 13 0 (by decide)]
    exact g
theorem zIn_boat {u : zS_} {a b k d f : Int} (h : zIn u) (hU : zUn u) (hr : 0 ≤ a ∧ a ≤ 2 ∧ 0 ≤ b ∧ b ≤ 47 ∧ 1 ≤ k ∧ k ≤ 3 ∧ 1 ≤ d ∧ d ≤ 100 ∧ 0 ≤ f ∧ f ≤ 9) (hn : u 13 0 ≤ 5) : zIn (muBoat u a b k d f) := by
  obtain ⟨h1, h2, h3, h4⟩ := h
  have e13 : muBoat u a b k d f 13 0 = u 13 0 + 1 := ms_s
  have ek : ∀ kk i, i ≠ (u 13 0).toNat → kk ≠ 13 → muBoat u a b k d f kk i = u kk i := by
    intro kk i hi hk
    unfold muBoat
    rw [ms_ne (by omega), ms_ne (by omega), ms_ne (by omega), ms_ne (by omega), ms_ne (by omega), ms_ne (by omega), ms_ne (by omega), ms_ne (by omega), ms_ne (by omega)]
  refine ⟨⟨by omega, by omega, h1.2.2.1, h1.2.2.2.1, h1.2.2.2.2.1, h1.2.2.2.2.2.1, h1.2.2.2.2.2.2⟩, h2, fun i hi => ?_, fun j hj => ?_⟩
  · rw [e13] at hi
    have e21 : muBoat u a b k d f 21 0 = u 21 0 := rfl
    have e24 : muBoat u a b k d f 24 0 = u 24 0 := rfl
    by_cases q : i = (u 13 0).toNat
    · subst q
      have g8 := hU.1 (u 13 0).toNat (by omega)
      have c1 : muBoat u a b k d f 1 (u 13 0).toNat = a := by unfold muBoat; simp [ms]
      have c2 : muBoat u a b k d f 2 (u 13 0).toNat = a := by unfold muBoat; simp [ms]
      have c3 : muBoat u a b k d f 3 (u 13 0).toNat = b := by unfold muBoat; simp [ms]
      have c4 : muBoat u a b k d f 4 (u 13 0).toNat = k := by unfold muBoat; simp [ms]
      have c5 : muBoat u a b k d f 5 (u 13 0).toNat = d := by unfold muBoat; simp [ms]
      have c6 : muBoat u a b k d f 6 (u 13 0).toNat = d := by unfold muBoat; simp [ms]
      have c7 : muBoat u a b k d f 7 (u 13 0).toNat = f := by unfold muBoat; simp [ms]
      have c8 : muBoat u a b k d f 8 (u 13 0).toNat = 0 := g8
      have c9 : muBoat u a b k d f 9 (u 13 0).toNat = -1 := by unfold muBoat; simp [ms]
      unfold zIb
      rw [c1, c2, c3, c4, c5, c6, c7, c8, c9, e21]
      exact ⟨by omega, fun z => absurd z (by decide), fun z => absurd rfl z⟩
    · have g := h3 i (by omega)
      unfold zIb at g ⊢
      have e14 : ∀ j, muBoat u a b k d f 14 j = u 14 j := fun _ => rfl
      have e17 : ∀ j, muBoat u a b k d f 17 j = u 17 j := fun _ => rfl
      have e18 : ∀ j, muBoat u a b k d f 18 j = u 18 j := fun _ => rfl
      rw [ek 1 i q (by decide), ek 2 i q (by decide), ek 3 i q (by decide), ek 4 i q (by decide), ek 5 i q (by decide), ek 6 i q (by decide), ek 7 i q (by decide), ek 8 i q (by decide), ek 9 i q (by decide), ek 11 i q (by decide), ek 12 i q (by decide), ek 10 i q (by decide), e14, e17, e18, e21, e24]
      exact g
  · have g := h4 j hj
    unfold zIc at g ⊢
    rw [e13]
    exact ⟨g.1, g.2.1, g.2.2.1, g.2.2.2.1, g.2.2.2.2.1, g.2.2.2.2.2.1, g.2.2.2.2.2.2.1, g.2.2.2.2.2.2.2.1, g.2.2.2.2.2.2.2.2.1, Int.lt_trans g.2.2.2.2.2.2.2.2.2 (by omega)⟩
theorem zUn_boat {u : zS_} {a b k d f : Int} (h : zIn u) (hU : zUn u) : zUn (muBoat u a b k d f) := by
  have h1 := h.1
  refine ⟨fun i hi => ?_, hU.2⟩
  rw [show muBoat u a b k d f 13 0 = u 13 0 + 1 from ms_s] at hi
  exact hU.1 i (by omega)
theorem zIn_call {u : zS_} {a n z : Int} (h : zIn u) (hU : zUn u) (hr : 0 ≤ a ∧ a ≤ 47 ∧ 1 ≤ n ∧ n ≤ 50 ∧ 0 ≤ z ∧ z ≤ 999) (hn : u 21 0 ≤ 29) : zIn (muCall u a n z) := by
  obtain ⟨h1, h2, h3, h4⟩ := h
  have e21 : muCall u a n z 21 0 = u 21 0 + 1 := ms_s
  have ek : ∀ kk j, j ≠ (u 21 0).toNat → kk ≠ 21 → muCall u a n z kk j = u kk j := by
    intro kk j hj hk
    unfold muCall
    rw [ms_ne (by omega), ms_ne (by omega), ms_ne (by omega), ms_ne (by omega), ms_ne (by omega)]
  refine ⟨⟨h1.1, h1.2.1, by omega, by omega, h1.2.2.2.2.1, h1.2.2.2.2.2.1, h1.2.2.2.2.2.2⟩, h2, fun i hi => ?_, fun j hj => ?_⟩
  · have g := h3 i hi
    unfold zIb at g ⊢
    rw [e21]
    have e14 : 0 ≤ u 9 i → muCall u a n z 14 (u 9 i).toNat = u 14 (u 9 i).toNat := fun q => ek 14 _ (by omega) (by decide)
    have e18 : 0 ≤ u 9 i → muCall u a n z 18 (u 9 i).toNat = u 18 (u 9 i).toNat := fun q => ek 18 _ (by omega) (by decide)
    refine ⟨⟨g.1.1, g.1.2.1, g.1.2.2.1, g.1.2.2.2.1, g.1.2.2.2.2.1, g.1.2.2.2.2.2.1, g.1.2.2.2.2.2.2.1, g.1.2.2.2.2.2.2.2.1, g.1.2.2.2.2.2.2.2.2.1, g.1.2.2.2.2.2.2.2.2.2.1, g.1.2.2.2.2.2.2.2.2.2.2.1, g.1.2.2.2.2.2.2.2.2.2.2.2.1, g.1.2.2.2.2.2.2.2.2.2.2.2.2.1, g.1.2.2.2.2.2.2.2.2.2.2.2.2.2.1, g.1.2.2.2.2.2.2.2.2.2.2.2.2.2.2.1, g.1.2.2.2.2.2.2.2.2.2.2.2.2.2.2.2.1, g.1.2.2.2.2.2.2.2.2.2.2.2.2.2.2.2.2.1, Int.lt_trans g.1.2.2.2.2.2.2.2.2.2.2.2.2.2.2.2.2.2 (by omega)⟩, fun q => ?_, g.2.2⟩
    have q0 : 0 ≤ u 9 i := q
    show u 8 i = 1 ∧ u 11 i ≤ 999 ∧ 2 * mway (u 3 i) (muCall u a n z 14 (u 9 i).toNat) ≤ u 6 i ∧ u 17 (u 9 i).toNat = 1 ∧ muCall u a n z 18 (u 9 i).toNat = (i : Int) ∧ 0 ≤ u 12 i ∧ u 12 i ≤ 2
    rw [e14 q0, e18 q0]
    exact g.2.1 q0
  · rw [e21] at hj
    by_cases q : j = (u 21 0).toNat
    · subst q
      have g := hU.2 (u 21 0).toNat (by omega)
      unfold zIc
      rw [show muCall u a n z 14 (u 21 0).toNat = a by unfold muCall; simp [ms], show muCall u a n z 15 (u 21 0).toNat = n by unfold muCall; simp [ms], show muCall u a n z 16 (u 21 0).toNat = z by unfold muCall; simp [ms], show muCall u a n z 18 (u 21 0).toNat = -1 by unfold muCall; simp [ms], show muCall u a n z 17 (u 21 0).toNat = 0 from g.1, show muCall u a n z 13 0 = u 13 0 from rfl]
      omega
    · have g := h4 j (by omega)
      unfold zIc at g ⊢
      rw [ek 14 j q (by decide), ek 15 j q (by decide), ek 16 j q (by decide), ek 17 j q (by decide), ek 18 j q (by decide), show muCall u a n z 13 0 = u 13 0 from rfl]
      exact g
theorem zUn_call {u : zS_} {a n z : Int} (h : zIn u) (hU : zUn u) : zUn (muCall u a n z) := by
  have h1 := h.1
  refine ⟨hU.1, fun j hj => ?_⟩
  rw [show muCall u a n z 21 0 = u 21 0 + 1 from ms_s] at hj
  exact hU.2 j (by omega)
theorem zUn_fore {u : zS_} {f t a z st : Int} (hU : zUn u) : zUn (muFore u f t a z st) := by
  have e : ∀ k j, k ≠ 0 → muFore u f t a z st k j = u k j := fun k j hk => mfo_k hk
  exact zUn_to hU (e 13 0 (by decide)) (e 21 0 (by decide)) (fun i _ => e 8 i (by decide)) (fun j _ => ⟨e 17 j (by decide), e 19 j (by decide), e 20 j (by decide)⟩)
