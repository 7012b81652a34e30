/-! the law's regions -/
def zBc (S : State) (m0 : Nat) (aM : Nat → Nat) (o o2 : Nat) : Nat → Prop := fun q => S.heap.size ≤ q ∧ q ≠ m0 ∧ (∀ k, mar k → q ≠ aM k) ∧ q ≠ o ∧ q ≠ o2
def zMm (m0 : Nat) (aM : Nat → Nat) : Nat → Prop := fun q => q = m0 ∨ ∃ k, mar k ∧ q = aM k
def zLA (S : State) (D : va_G) (tc : Nat → ClassId) (dz m0 : Nat) (aM : Nat → Nat) (o o2 : Nat) : Prop := zB S D tc (fun q => S.heap.size ≤ q) dz ∧ zNC S ∧ (S.heap.size ≤ m0 ∧ (∀ k, mar k → S.heap.size ≤ aM k) ∧ S.heap.size ≤ o ∧ S.heap.size ≤ o2) ∧ (o ≠ o2 ∧ o ≠ m0 ∧ o2 ≠ m0 ∧ ∀ k, mar k → aM k ≠ o ∧ aM k ≠ o2)
def zLw (S : State) (D : va_G) (tc : Nat → ClassId) (dz : Nat) (ad : Nat → Nat) (m0 : Nat) (aM : Nat → Nat) (o o2 : Nat) (u : zS_) (H : Heap) : Prop := zHC D tc dz (zBc S m0 aM o o2) ad u H ∧ mH D tc (zMm m0 aM) m0 aM u H ∧ (∃ v, zOL D tc o v H) ∧ ∃ v, zOD D tc o2 v H
theorem mH.frame {D : va_G} {tc : Nat → ClassId} {A B : Nat → Prop} {m0 : Nat} {aM : Nat → Nat} {u : zS_} {H H1 : Heap} (h : mH D tc A m0 aM u H) (hf : zfr B H H1) (hd : ∀ q, A q → q < H.size → ¬ B q) : mH D tc A m0 aM u H1 := by
  obtain ⟨w, hm, hR⟩ := h
  exact ⟨w, hm, hR.frame hf hd⟩
theorem mH.mono {D : va_G} {tc : Nat → ClassId} {A B : Nat → Prop} {m0 : Nat} {aM : Nat → Nat} {u : zS_} {H : Heap} (h : mH D tc A m0 aM u H) (hAB : ∀ q, q < H.size → A q → B q) : mH D tc B m0 aM u H := by
  obtain ⟨w, hm, hR⟩ := h
  exact ⟨w, hm, hR.mono hAB⟩
theorem mH.restrict {D : va_G} {tc : Nat → ClassId} {A : Nat → Prop} {m0 : Nat} {aM : Nat → Nat} {u : zS_} {H : Heap} (h : mH D tc A m0 aM u H) : mH D tc (zMm m0 aM) m0 aM u H := by
  obtain ⟨w, hm, hR⟩ := h
  refine ⟨fun q => @ite _ (zMm m0 aM q) (Classical.propDecidable _) (w q) none, ⟨?_, fun k hk => ?_, hm.2.2⟩, hR.restrict (fun q e hq => ?_)⟩
  · show @ite _ (zMm m0 aM m0) (Classical.propDecidable _) (w m0) none = _
    rw [if_pos (show zMm m0 aM m0 from Or.inl rfl)]; exact hm.1
  · show @ite _ (zMm m0 aM (aM k)) (Classical.propDecidable _) (w (aM k)) none = _
    rw [if_pos (show zMm m0 aM (aM k) from Or.inr ⟨k, hk, rfl⟩)]; exact hm.2.1 k hk
  · by_cases g : zMm m0 aM q
    · simp only [if_pos g] at hq; exact ⟨hq, g⟩
    · simp only [if_neg g] at hq; cases hq
theorem mH.lt {D : va_G} {tc : Nat → ClassId} {A : Nat → Prop} {m0 : Nat} {aM : Nat → Nat} {u : zS_} {H : Heap} (h : mH D tc A m0 aM u H) : m0 < H.size ∧ ∀ k, mar k → aM k < H.size := by
  obtain ⟨w, hm, hR⟩ := h
  exact ⟨hR.lt hm.1, fun k hk => hR.lt (hm.2.1 k hk)⟩
theorem zHC.frame {D : va_G} {tc : Nat → ClassId} {dz : Nat} {A B : Nat → Prop} {ad : Nat → Nat} {u : zS_} {H H1 : Heap} (h : zHC D tc dz A ad u H) (hf : zfr B H H1) (hd : ∀ q, A q → q < H.size → ¬ B q) : zHC D tc dz A ad u H1 := by
  obtain ⟨aB, aC, aD, nd, dd, Wd, w, h1, h2, hR⟩ := h
  exact ⟨aB, aC, aD, nd, dd, Wd, w, h1, h2, hR.frame hf hd⟩
theorem zHC.c25 {D : va_G} {tc : Nat → ClassId} {dz : Nat} {A : Nat → Prop} {ad : Nat → Nat} {u : zS_} {H : Heap} {x : Int} (h : zHC D tc dz A ad u H) : zHC D tc dz A ad (ms u 25 0 x) H := by
  obtain ⟨aB, aC, aD, nd, dd, Wd, w, h1, h2, hR⟩ := h
  exact ⟨aB, aC, aD, nd, dd, Wd, w, h1, h2.trans (zdone_c (u := u) (v := ms u 25 0 x) _ (fun _ _ => Iff.rfl)).symm, hR⟩
theorem zOL.lt {D : va_G} {tc : Nat → ClassId} {o : Nat} {v : Int64} {H : Heap} (h : zOL D tc o v H) : o < H.size := by
  obtain ⟨f, -, hR⟩ := h
  exact hR.lt zu_eq
theorem zOD.lt {D : va_G} {tc : Nat → ClassId} {o : Nat} {v : UInt64} {H : Heap} (h : zOD D tc o v H) : o < H.size := by
  obtain ⟨f, -, hR⟩ := h
  exact hR.lt zu_eq
theorem zOL.frame {D : va_G} {tc : Nat → ClassId} {B : Nat → Prop} {o : Nat} {v : Int64} {H H1 : Heap} (h : zOL D tc o v H) (hf : zfr B H H1) (hd : ¬ B o) : zOL D tc o v H1 := by
  obtain ⟨f, h1, hR⟩ := h
  exact ⟨f, h1, hR.frame hf (fun q hq _ => by rw [hq]; exact hd)⟩
theorem zOD.frame {D : va_G} {tc : Nat → ClassId} {B : Nat → Prop} {o : Nat} {v : UInt64} {H H1 : Heap} (h : zOD D tc o v H) (hf : zfr B H H1) (hd : ¬ B o) : zOD D tc o v H1 := by
  obtain ⟨f, h1, hR⟩ := h
  exact ⟨f, h1, hR.frame hf (fun q hq _ => by rw [hq]; exact hd)⟩
section ZLA
variable {S : State} {D : va_G} {tc : Nat → ClassId} {dz m0 : Nat} {aM : Nat → Nat} {o o2 : Nat} {ad : Nat → Nat} {u : zS_} {H H1 : Heap}
theorem zLA.B (h : zLA S D tc dz m0 aM o o2) : zB S D tc (zBc S m0 aM o o2) dz := ⟨h.1.1, h.1.2.1, fun q hq => hq.1, h.1.2.2.2⟩
theorem zLA.M (h : zLA S D tc dz m0 aM o o2) (hH : S.heap.size ≤ H.size) : zB S D tc (fun q => zMm m0 aM q ∨ H.size ≤ q) dz := ⟨h.1.1, h.1.2.1, fun q hq => by
  rcases hq with (rfl | ⟨k, hk, rfl⟩) | hq
  · exact h.2.2.1.1
  · exact h.2.2.1.2.1 k hk
  · exact Nat.le_trans hH hq, h.1.2.2.2⟩
theorem zLw.fresh (hH : S.heap.size ≤ H.size) (h : zLw S D tc dz ad m0 aM o o2 u H) : ∀ q : Nat, H.size ≤ q → zBc S m0 aM o o2 q := by
  obtain ⟨-, hM, ⟨v1, h1⟩, ⟨v2, h2⟩⟩ := h
  have g1 := h1.lt
  have g2 := h2.lt
  have g3 := hM.lt
  intro q hq
  exact ⟨by omega, by omega, fun k hk z => by have := g3.2 k hk; omega, by omega, by omega⟩
theorem zMm_not (h : zLA S D tc dz m0 aM o o2) : (¬ zMm m0 aM o) ∧ (¬ zMm m0 aM o2) := by
  obtain ⟨-, -, -, h1, h2, h3, h4⟩ := h
  refine ⟨fun z => ?_, fun z => ?_⟩
  · rcases z with z | ⟨k, hk, z⟩
    · exact h2 z
    · exact (h4 k hk).1 z.symm
  · rcases z with z | ⟨k, hk, z⟩
    · exact h3 z
    · exact (h4 k hk).2 z.symm
theorem zBc_M {q : Nat} (h : zBc S m0 aM o o2 q) : ¬ zMm m0 aM q := fun z => z.elim h.2.1 (fun ⟨k, hk, e⟩ => h.2.2.1 k hk e)
end ZLA
