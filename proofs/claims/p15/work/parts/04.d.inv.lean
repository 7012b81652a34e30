/-! the state stays what it always is -/
theorem zIn_mh1 {u : zS_} (h : zIn u) (hn : u 24 0 < 999) : zIn (mh1 u) := by
  obtain ⟨h1, h2, h3, h4⟩ := h
  refine ⟨?_, fun j => ?_, fun i hi => ?_, fun j hj => ?_⟩
  · simp only [mh1, ms]; simp; omega
  · have := h2 j; simpa [mh1, ms] using this
  · have h5 := h3 i (by simpa [mh1, ms] using hi)
    unfold zIb at h5 ⊢
    simp only [mh1, ms]
    simp
    obtain ⟨a, b, c⟩ := h5
    exact ⟨a, b, fun z => by have := c z; omega⟩
  · have h5 := h4 j (by simpa [mh1, ms] using hj)
    unfold zIc at h5 ⊢
    simpa [mh1, ms] using h5
theorem zIn_mturn {u : zS_} (h : zIn u) {b : Nat} (hb : (b : Int) < u 13 0) : zIn (mturn u b) := by
  unfold mturn
  by_cases hc : 0 ≤ u 9 b ∧ u 7 b < u 0 (1000 * u 14 (u 9 b).toNat + u 11 b).toNat
  · rw [if_pos hc]
    obtain ⟨h1, h2, h3, h4⟩ := h
    have hB := h3 b hb
    obtain ⟨a0, a1, a2⟩ := hB
    have a3 := a1 hc.1
    have a4 := a2 (by omega)
    have hmul : 0 ≤ 2 * u 4 b * (u 24 0 - u 10 b) := Int.mul_nonneg (by omega) (by omega)
    have hfu : 0 ≤ u 6 b - (if u 6 b < 2 * u 4 b * (u 24 0 - u 10 b) then u 6 b else 2 * u 4 b * (u 24 0 - u 10 b)) ∧ u 6 b - (if u 6 b < 2 * u 4 b * (u 24 0 - u 10 b) then u 6 b else 2 * u 4 b * (u 24 0 - u 10 b)) ≤ 100 := by
      by_cases q : u 6 b < 2 * u 4 b * (u 24 0 - u 10 b)
      · rw [if_pos q]; omega
      · rw [if_neg q]; omega
    generalize (u 6 b - (if u 6 b < 2 * u 4 b * (u 24 0 - u 10 b) then u 6 b else 2 * u 4 b * (u 24 0 - u 10 b))) = fu at hfu ⊢
    refine ⟨?_, fun j => ?_, fun i hi => ?_, fun j hj => ?_⟩
    · simpa [ms] using h1
    · have := h2 j; simpa [ms] using this
    · have hi' : (i : Int) < u 13 0 := by simpa [ms] using hi
      have h5 := h3 i hi'
      unfold zIb at h5 ⊢
      by_cases e : i = b
      · subst e
        simp only [ms]; simp
        omega
      · have hne : 0 ≤ u 9 i → (u 9 i).toNat ≠ (u 9 b).toNat := by
          intro z q
          have b1 := (h5.2.1 z).2.2.2.2.1
          rw [q, a3.2.2.2.2.1] at b1
          omega
        simp only [ms]
        simp [e]
        refine ⟨by omega, fun z => ?_, by omega⟩
        have := h5.2.1 z
        rw [if_neg (hne z)]
        omega
    · have h5 := h4 j (by simpa [ms] using hj)
      unfold zIc at h5 ⊢
      by_cases e : j = (u 9 b).toNat
      · subst e; simp only [ms]; simp; omega
      · simp only [ms]; simp [e]; omega
  · rw [if_neg hc]; exact h
theorem zIn_mfree {u : zS_} (h : zIn u) {b : Nat} (hb : (b : Int) < u 13 0) : zIn (mfree u b) := by
  unfold mfree
  by_cases hc : u 8 b = 2 ∧ u 11 b = u 24 0
  · rw [if_pos hc]
    obtain ⟨h1, h2, h3, h4⟩ := h
    have hB := h3 b hb
    refine ⟨?_, fun j => ?_, fun i hi => ?_, fun j hj => ?_⟩
    · simpa [ms] using h1
    · have := h2 j; simpa [ms] using this
    · have h5 := h3 i (by simpa [ms] using hi)
      unfold zIb at h5 ⊢
      by_cases e : i = b
      · subst e
        simp only [ms]; simp
        have h6 := h5.2.1
        omega
      · simp only [ms]; simp [e]; exact ⟨by omega, h5.2.1, by omega⟩
    · have h5 := h4 j (by simpa [ms] using hj)
      unfold zIc at h5 ⊢
      simpa [ms] using h5
  · rw [if_neg hc, ms_id]; exact h
theorem mpays_k {u : zS_} {b c k j : Nat} (h : k ≠ 20 ∧ k ≠ 22) : mpays u b c k j = u k j := by
  unfold mpays
  rw [ms_k h.2, ms_k h.2, ms_k h.1]
theorem zIn_marr {u : zS_} (h : zIn u) {b : Nat} (hb : (b : Int) < u 13 0) : zIn (marr u b) := by
  unfold marr
  by_cases hc : u 8 b = 1 ∧ u 11 b = u 24 0
  · rw [if_pos hc]
    obtain ⟨h1, h2, h3, h4⟩ := h
    have hB := h3 b hb
    obtain ⟨a0, a1, a2⟩ := hB
    have a4 := a2 (by omega)
    by_cases hz : 0 ≤ u 9 b
    · rw [if_pos hz]
      have a3 := a1 hz
      refine ⟨?_, fun j => ?_, fun i hi => ?_, fun j hj => ?_⟩
      · simp only [ms, mpays]; simpa using h1
      · have := h2 j; simp only [ms, mpays]; simpa using this
      · have hi' : (i : Int) < u 13 0 := by simpa [ms, mpays] using hi
        have h5 := h3 i hi'
        unfold zIb at h5 ⊢
        by_cases e : i = b
        · subst e
          have hw := mway_r (a := u 3 i) (b := u 14 (u 9 i).toNat) (by have := h4 (u 9 i).toNat (by omega); unfold zIc at this; omega)
          simp only [ms, mpays]; simp
          omega
        · have hne : 0 ≤ u 9 i → (u 9 i).toNat ≠ (u 9 b).toNat := by
            intro z q
            have b1 := (h5.2.1 z).2.2.2.2.1
            rw [q, a3.2.2.2.2.1] at b1
            omega
          simp only [ms, mpays]
          simp [e]
          refine ⟨by omega, fun z => ?_, by omega⟩
          have := h5.2.1 z
          rw [if_neg (hne z)]
          omega
      · have h5 := h4 j (by simpa [ms, mpays] using hj)
        unfold zIc at h5 ⊢
        by_cases e : j = (u 9 b).toNat
        · subst e; simp only [ms, mpays]; simp; omega
        · simp only [ms, mpays]; simp [e]; omega
    · rw [if_neg hz]
      refine ⟨?_, fun j => ?_, fun i hi => ?_, fun j hj => ?_⟩
      · simpa [ms] using h1
      · have := h2 j; simpa [ms] using this
      · have h5 := h3 i (by simpa [ms] using hi)
        unfold zIb at h5 ⊢
        by_cases e : i = b
        · subst e
          simp only [ms]; simp
          omega
        · simp only [ms]; simp [e]; exact ⟨by omega, h5.2.1, by omega⟩
      · have h5 := h4 j (by simpa [ms] using hj)
        unfold zIc at h5 ⊢
        simpa [ms] using h5
  · rw [if_neg hc]; exact h
/-- the boat that is chosen can take the call -/
theorem mbest_can {u : zS_} {c : Nat} (n : Nat) (h : 0 ≤ mbest u c n) : mcan u (mbest u c n).toNat c := by
  induction n with
  | zero => unfold mbest at h; omega
  | succ n ih =>
    unfold mbest at h ⊢
    by_cases q : mcan u n c ∧ (mbest u c n < 0 ∨ mhours u n c < mhours u (mbest u c n).toNat c)
    · rw [if_pos q]; exact q.1
    · rw [if_neg q] at h ⊢; exact ih h
theorem zIn_mtasks {u : zS_} (h : zIn u) {c : Nat} (hc : (c : Int) < u 21 0) (h0 : u 17 c = 0) : zIn (mtasks u c) := by
  unfold mtasks
  by_cases hz : 0 ≤ mbest u c (u 13 0).toNat
  · rw [if_pos hz]
    have hcan := mbest_can _ hz
    have hr := mbest_r (u := u) (c := c) (u 13 0).toNat
    generalize mbest u c (u 13 0).toNat = bt at hz hcan hr ⊢
    obtain ⟨h1, h2, h3, h4⟩ := h
    have hB := h3 bt.toNat (by omega)
    have hC := h4 c hc
    obtain ⟨a0, a1, a2⟩ := hB
    unfold zIc at hC
    have hh := mhours_r (u := u) (b := bt.toNat) (c := c) (by omega)
    obtain ⟨⟨g1, g2, g3, g4⟩, -⟩ := hcan
    refine ⟨?_, fun j => ?_, fun i hi => ?_, fun j hj => ?_⟩
    · simp only [ms]; simpa using h1
    · have := h2 j; simp only [ms]; simpa using this
    · have hi' : (i : Int) < u 13 0 := by simpa [ms] using hi
      have h5 := h3 i hi'
      unfold zIb at h5 ⊢
      by_cases e : i = bt.toNat
      · subst e
        simp only [ms]; simp
        omega
      · have hne : 0 ≤ u 9 i → (u 9 i).toNat ≠ c := by
          intro z q
          have b1 := (h5.2.1 z).2.2.2.1
          rw [q, h0] at b1
          omega
        simp only [ms]
        simp [e]
        refine ⟨by omega, fun z => ?_, by omega⟩
        have := h5.2.1 z
        have h7 := hne z
        omega
    · have h5 := h4 j (by simpa [ms] using hj)
      unfold zIc at h5 ⊢
      by_cases e : j = c
      · subst e; simp only [ms]; simp; omega
      · simp only [ms]; simp [e]; omega
  · rw [if_neg hz]; exact h
theorem zIn_mlost {u : zS_} (h : zIn u) {c : Nat} : zIn (mlost u c) := by
  unfold mlost
  by_cases q : u 17 c = 0 ∧ u 16 c < u 24 0
  · rw [if_pos q]
    obtain ⟨h1, h2, h3, h4⟩ := h
    refine ⟨?_, fun j => ?_, fun i hi => ?_, fun j hj => ?_⟩
    · simpa [ms] using h1
    · have := h2 j; simpa [ms] using this
    · have h5 := h3 i (by simpa [ms] using hi)
      unfold zIb at h5 ⊢
      have hne : 0 ≤ u 9 i → (u 9 i).toNat ≠ c := by
        intro z r
        have b1 := (h5.2.1 z).2.2.2.1
        rw [r, q.1] at b1
        omega
      simp only [ms]; simp
      refine ⟨by omega, fun z => ?_, by omega⟩
      have := h5.2.1 z
      rw [if_neg (hne z)]
      omega
    · have h5 := h4 j (by simpa [ms] using hj)
      unfold zIc at h5 ⊢
      by_cases e : j = c
      · subst e; simp only [ms]; simp; omega
      · simp only [ms]; simp [e]; omega
  · rw [if_neg q]; exact h
theorem mlost_k {u : zS_} {c k j : Nat} (h : k ≠ 17) : mlost u c k j = u k j := by
  unfold mlost
  by_cases q : u 17 c = 0 ∧ u 16 c < u 24 0
  · rw [if_pos q, ms_k h]
  · rw [if_neg q]
theorem zIn_mcall {u : zS_} (h : zIn u) {c : Nat} (hc : (c : Int) < u 21 0) : zIn (mcall u c) := by
  unfold mcall
  by_cases q : mlost u c 17 c = 0
  · rw [if_pos q]; exact zIn_mtasks (zIn_mlost h) (by rw [mlost_k (by decide)]; exact hc) q
  · rw [if_neg q]; exact zIn_mlost h
/-- the counts and the hour stay through an hour's steps -/
theorem mturn_k {u : zS_} {b k j : Nat} (h : k ≠ 17 ∧ k ≠ 9 ∧ k ≠ 11 ∧ k ≠ 6) : mturn u b k j = u k j := by
  unfold mturn
  by_cases q : 0 ≤ u 9 b ∧ u 7 b < u 0 (1000 * u 14 (u 9 b).toNat + u 11 b).toNat
  · rw [if_pos q, ms_k h.2.2.2, ms_k h.2.2.1, ms_k h.2.1, ms_k h.1]
  · rw [if_neg q]
theorem marr_k {u : zS_} {b k j : Nat} (h : k ≠ 17 ∧ k ≠ 9 ∧ k ≠ 11 ∧ k ≠ 6 ∧ k ≠ 8 ∧ k ≠ 20 ∧ k ≠ 22) : marr u b k j = u k j := by
  unfold marr
  by_cases q : u 8 b = 1 ∧ u 11 b = u 24 0
  · rw [if_pos q]
    by_cases z : 0 ≤ u 9 b
    · rw [if_pos z, ms_k h.2.2.1, ms_k h.2.1, ms_k h.2.2.2.1, mpays_k ⟨h.2.2.2.2.2.1, h.2.2.2.2.2.2⟩, ms_k h.1]
    · rw [if_neg z, ms_k h.2.2.1, ms_k h.2.2.2.1, ms_k h.2.2.2.2.1]
  · rw [if_neg q]
theorem mfree_k {u : zS_} {b k j : Nat} (h : k ≠ 8) : mfree u b k j = u k j := by
  unfold mfree
  rw [ms_k h]
theorem mtasks_k {u : zS_} {c k j : Nat} (h : k ≠ 8 ∧ k ≠ 9 ∧ k ≠ 10 ∧ k ≠ 11 ∧ k ≠ 12 ∧ k ≠ 17 ∧ k ≠ 18 ∧ k ≠ 19) : mtasks u c k j = u k j := by
  unfold mtasks
  by_cases q : 0 ≤ mbest u c (u 13 0).toNat
  · rw [if_pos q, ms_k h.2.2.2.2.2.2.2, ms_k h.2.2.2.2.2.2.1, ms_k h.2.2.2.2.2.1, ms_k h.2.2.2.2.1, ms_k h.2.2.2.1, ms_k h.2.2.1, ms_k h.2.1, ms_k h.1]
  · rw [if_neg q]
theorem mcall_k {u : zS_} {c k j : Nat} (h : k ≠ 8 ∧ k ≠ 9 ∧ k ≠ 10 ∧ k ≠ 11 ∧ k ≠ 12 ∧ k ≠ 17 ∧ k ≠ 18 ∧ k ≠ 19) : mcall u c k j = u k j := by
  unfold mcall
  by_cases q : mlost u c 17 c = 0
  · rw [if_pos q, mtasks_k h, mlost_k h.2.2.2.2.2.1]
  · rw [if_neg q, mlost_k h.2.2.2.2.2.1]
theorem zfold_k {f : zS_ → Nat → zS_} {u : zS_} {k j : Nat} (n : Nat) (h : ∀ v i, f v i k j = v k j) : zfold f u n k j = u k j := by
  induction n with
  | zero => rfl
  | succ n ih => unfold zfold; rw [h, ih]
theorem zfold_I {f : zS_ → Nat → zS_} {u : zS_} {I : zS_ → Prop} (n : Nat) (h0 : I u) (h : ∀ v i, i < n → I v → I (f v i)) : I (zfold f u n) := by
  induction n with
  | zero => exact h0
  | succ n ih => unfold zfold; exact h _ _ (Nat.lt_succ_self n) (ih (fun v i hi => h v i (by omega)))
theorem mh2_p {u : zS_} (h : zIn u) {n : Nat} (hn : (n : Int) ≤ u 13 0) : zIn (zfold mturn u n) ∧ zfold mturn u n 13 0 = u 13 0 ∧ zfold mturn u n 21 0 = u 21 0 ∧ zfold mturn u n 24 0 = u 24 0 ∧ zfold mturn u n 23 0 = u 23 0 := by
  have e : ∀ k j, (k = 13 ∨ k = 21 ∨ k = 24 ∨ k = 23) → ∀ m, zfold mturn u m k j = u k j := fun k j hk m => zfold_k m (fun v i => by rcases hk with rfl | rfl | rfl | rfl <;> exact mturn_k ⟨by decide, by decide, by decide, by decide⟩)
  refine ⟨?_, e 13 0 (by omega) n, e 21 0 (by omega) n, e 24 0 (by omega) n, e 23 0 (by omega) n⟩
  have h2 : ∀ m : Nat, (m : Int) ≤ u 13 0 → zIn (zfold mturn u m) := by
    intro m
    induction m with
    | zero => intro _; exact h
    | succ m ih =>
      intro hm
      unfold zfold
      exact zIn_mturn (ih (by omega)) (by rw [e 13 0 (by omega) m]; omega)
  exact h2 n hn
theorem mh3_p {u : zS_} (h : zIn u) {n : Nat} (hn : (n : Int) ≤ u 13 0) : zIn (zfold marr u n) ∧ zfold marr u n 13 0 = u 13 0 ∧ zfold marr u n 21 0 = u 21 0 ∧ zfold marr u n 24 0 = u 24 0 ∧ zfold marr u n 23 0 = u 23 0 := by
  have e : ∀ k j, (k = 13 ∨ k = 21 ∨ k = 24 ∨ k = 23) → ∀ m, zfold marr u m k j = u k j := fun k j hk m => zfold_k m (fun v i => by rcases hk with rfl | rfl | rfl | rfl <;> exact marr_k ⟨by decide, by decide, by decide, by decide, by decide, by decide, by decide⟩)
  refine ⟨?_, e 13 0 (by omega) n, e 21 0 (by omega) n, e 24 0 (by omega) n, e 23 0 (by omega) n⟩
  have h2 : ∀ m : Nat, (m : Int) ≤ u 13 0 → zIn (zfold marr u m) := by
    intro m
    induction m with
    | zero => intro _; exact h
    | succ m ih =>
      intro hm
      unfold zfold
      exact zIn_marr (ih (by omega)) (by rw [e 13 0 (by omega) m]; omega)
  exact h2 n hn
theorem mh4_p {u : zS_} (h : zIn u) {n : Nat} (hn : (n : Int) ≤ u 13 0) : zIn (zfold mfree u n) ∧ zfold mfree u n 13 0 = u 13 0 ∧ zfold mfree u n 21 0 = u 21 0 ∧ zfold mfree u n 24 0 = u 24 0 ∧ zfold mfree u n 23 0 = u 23 0 := by
  have e : ∀ k j, (k = 13 ∨ k = 21 ∨ k = 24 ∨ k = 23) → ∀ m, zfold mfree u m k j = u k j := fun k j hk m => zfold_k m (fun v i => by rcases hk with rfl | rfl | rfl | rfl <;> exact mfree_k (by decide))
  refine ⟨?_, e 13 0 (by omega) n, e 21 0 (by omega) n, e 24 0 (by omega) n, e 23 0 (by omega) n⟩
  have h2 : ∀ m : Nat, (m : Int) ≤ u 13 0 → zIn (zfold mfree u m) := by
    intro m
    induction m with
    | zero => intro _; exact h
    | succ m ih =>
      intro hm
      unfold zfold
      exact zIn_mfree (ih (by omega)) (by rw [e 13 0 (by omega) m]; omega)
  exact h2 n hn
theorem mh5_p {u : zS_} (h : zIn u) {n : Nat} (hn : (n : Int) ≤ u 21 0) : zIn (zfold mcall u n) ∧ zfold mcall u n 13 0 = u 13 0 ∧ zfold mcall u n 21 0 = u 21 0 ∧ zfold mcall u n 24 0 = u 24 0 ∧ zfold mcall u n 23 0 = u 23 0 := by
  have e : ∀ k j, (k = 13 ∨ k = 21 ∨ k = 24 ∨ k = 23) → ∀ m, zfold mcall u m k j = u k j := fun k j hk m => zfold_k m (fun v i => by rcases hk with rfl | rfl | rfl | rfl <;> exact mcall_k ⟨by decide, by decide, by decide, by decide, by decide, by decide, by decide, by decide⟩)
  refine ⟨?_, e 13 0 (by omega) n, e 21 0 (by omega) n, e 24 0 (by omega) n, e 23 0 (by omega) n⟩
  have h2 : ∀ m : Nat, (m : Int) ≤ u 21 0 → zIn (zfold mcall u m) := by
    intro m
    induction m with
    | zero => intro _; exact h
    | succ m ih =>
      intro hm
      unfold zfold
      exact zIn_mcall (ih (by omega)) (by rw [e 21 0 (by omega) m]; omega)
  exact h2 n hn
theorem zIn_mgo {u : zS_} (h : zIn u) (hn : u 24 0 < 999) : zIn (mgo u) ∧ mgo u 24 0 = u 24 0 + 1 ∧ mgo u 13 0 = u 13 0 ∧ mgo u 21 0 = u 21 0 := by
  have g1 := zIn_mh1 h hn
  have e1 : mh1 u 13 0 = u 13 0 ∧ mh1 u 21 0 = u 21 0 ∧ mh1 u 24 0 = u 24 0 + 1 := ⟨ms_k (by decide), ms_k (by decide), ms_s⟩
  have n1 := g1.1
  have g2 := mh2_p g1 (n := (mh1 u 13 0).toNat) (by omega)
  have g3 := mh3_p g2.1 (n := (mh2 (mh1 u) 13 0).toNat) (by have := g2.1.1; unfold mh2; omega)
  have g4 := mh4_p g3.1 (n := (mh3 (mh2 (mh1 u)) 13 0).toNat) (by have := g3.1.1; unfold mh3 mh2; unfold mh2 at this; omega)
  have g5 := mh5_p g4.1 (n := (mh4 (mh3 (mh2 (mh1 u))) 21 0).toNat) (by have := g4.1.1; unfold mh4 mh3 mh2; unfold mh3 mh2 at this; omega)
  refine ⟨g5.1, ?_, ?_, ?_⟩
  · exact g5.2.2.2.1.trans (g4.2.2.2.1.trans (g3.2.2.2.1.trans (g2.2.2.2.1.trans e1.2.2)))
  · exact g5.2.1.trans (g4.2.1.trans (g3.2.1.trans (g2.2.1.trans e1.1)))
  · exact g5.2.2.1.trans (g4.2.2.1.trans (g3.2.2.1.trans (g2.2.2.1.trans e1.2.1)))
theorem zIn_mpass {u : zS_} (h : zIn u) (n : Nat) (hn : u 24 0 + n ≤ 999) : zIn (mpass u n) ∧ mpass u n 24 0 = u 24 0 + n ∧ mpass u n 13 0 = u 13 0 ∧ mpass u n 21 0 = u 21 0 := by
  induction n with
  | zero => exact ⟨h, by show u 24 0 = u 24 0 + ((0 : Nat) : Int); omega, rfl, rfl⟩
  | succ n ih =>
    obtain ⟨i1, i2, i3, i4⟩ := ih (by omega)
    obtain ⟨j1, j2, j3, j4⟩ := zIn_mgo i1 (by omega)
    exact ⟨j1, by show mgo (mpass u n) 24 0 = _; rw [j2, i2]; omega, j3.trans i3, j4.trans i4⟩

