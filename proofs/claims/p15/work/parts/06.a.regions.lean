/-! regions: a world of part of the cells, two worlds as one; calls at a region of their own -/
theorem zR.mono {D : va_G} {A B : Nat → Prop} {w : zW} {H : Heap} (h : zR D A w H) (hAB : ∀ q, q < H.size → A q → B q) : zR D B w H := by
  obtain ⟨ws, hP, hD, hw⟩ := h
  exact ⟨ws, hP, ⟨hD.1, fun k q hk => hAB _ (hP k _ hk).lt (hD.2 k q hk)⟩, hw⟩
theorem zD_pw {A : Nat → Prop} {ws : va_W} (h : va_D A ws) : ws.Pairwise (fun p q => p.1 ≠ q.1) := by
  rw [List.pairwise_iff_getElem]
  intro i j hi hj hij e
  have := h.1 i j _ _ (List.getElem?_eq_getElem hi) (List.getElem?_eq_getElem hj) e
  omega
theorem zD_of {A : Nat → Prop} {ws : va_W} (h : ws.Pairwise (fun p q => p.1 ≠ q.1)) (hA : ∀ p ∈ ws, A p.1) : va_D A ws := by
  rw [List.pairwise_iff_getElem] at h
  refine ⟨fun i j p q hp hq e => ?_, fun k q hk => hA _ (List.mem_of_getElem? hk)⟩
  obtain ⟨hi, rfl⟩ := List.getElem?_eq_some_iff.mp hp
  obtain ⟨hj, rfl⟩ := List.getElem?_eq_some_iff.mp hq
  rcases Nat.lt_trichotomy i j with g | g | g
  · exact absurd e (h i j hi hj g)
  · exact g
  · exact absurd e.symm (h j i hj hi g)
theorem zR.restrict {D : va_G} {A B : Nat → Prop} {w w' : zW} {H : Heap} (h : zR D A w H) (hB : ∀ q e, w' q = some e → w q = some e ∧ B q) : zR D B w' H := by
  obtain ⟨ws, hP, hD, hw⟩ := h
  have hf : ∀ p : Nat × va_E, p ∈ ws.filter (fun p => @decide (B p.1) (Classical.propDecidable _)) ↔ p ∈ ws ∧ B p.1 := fun p => by rw [List.mem_filter]; exact and_congr_right fun _ => by simp
  refine ⟨ws.filter (fun p => @decide (B p.1) (Classical.propDecidable _)), ?_, zD_of ((zD_pw hD).filter _) (fun p hp => ((hf p).mp hp).2), fun q e hq => ?_⟩
  · intro k q hk
    have hm := ((hf q).mp (List.mem_of_getElem? hk)).1
    obtain ⟨k', hk'⟩ := List.getElem?_of_mem hm
    exact hP k' q hk'
  · obtain ⟨h1, h2⟩ := hB q e hq
    obtain ⟨k, hk⟩ := hw q e h1
    exact List.getElem?_of_mem ((hf (q, e)).mpr ⟨List.mem_of_getElem? hk, h2⟩)
def zj (w1 w2 : zW) : zW := fun q => match w1 q with | some e => some e | none => w2 q
theorem zj_1 {w1 w2 : zW} {q : Nat} {e : va_E} (h : w1 q = some e) : zj w1 w2 q = some e := by unfold zj; rw [h]
theorem zj_2 {w1 w2 : zW} {q : Nat} {e : va_E} (h : w2 q = some e) (hn : w1 q = none) : zj w1 w2 q = some e := by unfold zj; rw [hn]; exact h
theorem zR.join {D : va_G} {A B C : Nat → Prop} {w1 w2 : zW} {H : Heap} (h1 : zR D A w1 H) (h2 : zR D B w2 H) (hAB : ∀ q, A q → B q → False) (hA : ∀ q, A q → C q) (hB : ∀ q, B q → C q) : zR D C (zj w1 w2) H := by
  obtain ⟨ws1, hP1, hD1, hw1⟩ := h1
  obtain ⟨ws2, hP2, hD2, hw2⟩ := h2
  have m1 : ∀ p ∈ ws1, A p.1 := fun p hp => by obtain ⟨k, hk⟩ := List.getElem?_of_mem hp; exact hD1.2 k p hk
  have m2 : ∀ p ∈ ws2, B p.1 := fun p hp => by obtain ⟨k, hk⟩ := List.getElem?_of_mem hp; exact hD2.2 k p hk
  refine ⟨ws1 ++ ws2, ?_, zD_of (List.pairwise_append.mpr ⟨zD_pw hD1, zD_pw hD2, fun p hp q hq e => hAB p.1 (m1 p hp) (by rw [e]; exact m2 q hq)⟩) (fun p hp => (List.mem_append.mp hp).elim (fun g => hA _ (m1 p g)) (fun g => hB _ (m2 p g))), fun q e hq => ?_⟩
  · intro k q hk
    rcases List.mem_append.mp (List.mem_of_getElem? hk) with g | g
    · obtain ⟨k', hk'⟩ := List.getElem?_of_mem g; exact hP1 k' q hk'
    · obtain ⟨k', hk'⟩ := List.getElem?_of_mem g; exact hP2 k' q hk'
  · unfold zj at hq
    cases g : w1 q with
    | some e1 =>
      rw [g] at hq
      cases hq
      obtain ⟨k, hk⟩ := hw1 q e g
      exact List.getElem?_of_mem (List.mem_append_left _ (List.mem_of_getElem? hk))
    | none =>
      rw [g] at hq
      obtain ⟨k, hk⟩ := hw2 q e hq
      exact List.getElem?_of_mem (List.mem_append_right _ (List.mem_of_getElem? hk))
theorem zR.none {D : va_G} {A : Nat → Prop} {H : Heap} : zR D A (fun _ => none) H := ⟨[], fun k q hk => by simp at hk, ⟨fun i j p q hp => by simp at hp, fun k q hk => by simp at hk⟩, fun q e hq => by cases hq⟩

