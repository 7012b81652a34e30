/-! the class's cells, in the words of the reference's state u -/
abbrev zBo (num club bears home speed tank user uot st : Int) (co : Option Nat) (nx fu lf : Int) : va_E := .inr (1, [.int (zi num), .int (zi club), .int (zi bears), .int (zi home), .int (zi speed), .int (zi tank), .int (zi user), .int (zi uot), .int (zi st), va_rf co, .int (zi nx), .int (zi fu), .int (zi lf)])
abbrev zCa (num cell need last st : Int) (bo : Option Nat) (tasks rw : Int) : va_E := .inr (2, [.int (zi num), .int (zi cell), .int (zi need), .int (zi last), .int (zi st), va_rf bo, .int (zi tasks), .int (zi rw)])
abbrev zDe (ow us wy need cap : Int) : va_E := .inr (3, [.int (zi ow), .int (zi us), .int (zi wy), .int (zi need), .int (zi cap)])
abbrev zLs (mo : Int) (ea n : Nat) : va_E := .inr (0, [.int (zi mo), .ref ea, .int (zi (n : Int))])
abbrev zAr (tc : Nat → ClassId) (cap : Nat) (el : Nat → Option Nat) : va_E := .inl (tc 4, cap, .inr (.inr (.inr (.inr el))))
/-- a list at la holds the n references a 0 .. -/
def zLi (tc : Nat → ClassId) (dz : Nat) (w : zW) (la n : Nat) (a : Nat → Nat) : Prop := ∃ (mo : Int) (ea cap : Nat) (el : Nat → Option Nat), w la = some (zLs mo ea n) ∧ n ≤ cap ∧ zcap cap ∧ (∀ i, i < n → el i = some (a i)) ∧ ((cap = 0 ∧ ea = dz) ∨ (10 ≤ cap ∧ 1 ≤ n ∧ w ea = some (zAr tc cap el)))
def zco (u : zS_) (aC : Nat → Nat) (i : Nat) : Option Nat := if u 9 i < 0 then none else some (aC (u 9 i).toNat)
def zbo (u : zS_) (aB : Nat → Nat) (j : Nat) : Option Nat := if u 18 j < 0 then none else some (aB (u 18 j).toNat)
def zBk (u : zS_) (aC : Nat → Nat) (w : zW) (a i : Nat) : Prop := ∃ uo nx lf : Int, w a = some (zBo (i : Int) (u 1 i) (u 7 i) (u 3 i) (u 4 i) (u 5 i) (u 2 i) uo (u 8 i) (zco u aC i) nx (u 6 i) lf) ∧ (0 ≤ u 9 i → uo = u 12 i) ∧ (u 8 i = 0 → nx = -1) ∧ (u 8 i ≠ 0 → nx = u 11 i ∧ lf = u 10 i)
def zCk (u : zS_) (aB : Nat → Nat) (w : zW) (a j : Nat) : Prop := w a = some (zCa (j : Int) (u 14 j) (u 15 j) (u 16 j) (u 17 j) (zbo u aB j) (u 19 j) (u 20 j))
def zDk (dd : Nat → Nat → Int) (w : zW) (a k : Nat) : Prop := w a = some (zDe (dd k 0) (dd k 1) (dd k 2) (dd k 3) (dd k 4)) ∧ (0 ≤ dd k 0 ∧ dd k 0 ≤ 2 ∧ 0 ≤ dd k 1 ∧ dd k 1 ≤ 2 ∧ 0 ≤ dd k 2 ∧ dd k 2 ≤ 1000 ∧ 0 ≤ dd k 3 ∧ dd k 3 ≤ 1000 ∧ 0 ≤ dd k 4 ∧ dd k 4 ≤ 1000)
def zWk (u : zS_) (Wd : Nat → Int64) : Prop := ∀ n h : Nat, n < 48 → h < 1000 → (zni (Wd (n * 63 + h / 16)) (h % 16) : Int) = u 0 (1000 * n + h)
def zsum (dd : Nat → Nat → Int) (c : Int) : Nat → Int
  | 0 => 0
  | n + 1 => zsum dd c n + zshare (dd n 0) (dd n 1) (min (10 * dd n 2 + 5 * dd n 3) (dd n 4)) c
def zdone (u : zS_) : Nat → Int
  | 0 => 0
  | n + 1 => zdone u n + (if u 17 n = 2 then 1 else 0)
def zMk (ad : Nat → Nat) (now cap : Int) : va_E := .inr (6, [.ref (ad 1), .ref (ad 3), .ref (ad 5), .ref (ad 6), .int (zi now), .int (zi cap)])
def zCx (tc : Nat → ClassId) (dz : Nat) (ad aB aC aD : Nat → Nat) (nd : Nat) (dd : Nat → Nat → Int) (Wd : Nat → Int64) (u : zS_) (w : zW) : Prop :=
  w (ad 0) = some (zMk ad (u 24 0) (u 23 0)) ∧ w (ad 1) = some (.inr (5, [.ref (ad 2)])) ∧ w (ad 2) = some (.inl (tc 2, 3024, .inr (.inl Wd))) ∧ zWk u Wd ∧
  w (ad 3) = some (.inr (4, [.ref (ad 4), .ref (ad 7)])) ∧ w (ad 4) = some (.inl (tc 0, 3, .inl (fun j => zi (u 22 j)))) ∧
  zLi tc dz w (ad 5) (u 13 0).toNat aB ∧ zLi tc dz w (ad 6) (u 21 0).toNat aC ∧ zLi tc dz w (ad 7) nd aD ∧
  (∀ i, i < (u 13 0).toNat → zBk u aC w (aB i) i) ∧ (∀ j, j < (u 21 0).toNat → zCk u aB w (aC j) j) ∧ (∀ k, k < nd → zDk dd w (aD k) k) ∧
  (∀ c : Nat, c < 3 → u 22 c = zsum dd (c : Int) nd) ∧ (ad 5 ≠ ad 6 ∧ ad 5 ≠ ad 7 ∧ ad 6 ≠ ad 7)
section ZCX
variable {tc : Nat → ClassId} {dz : Nat} {ad aB aC aD : Nat → Nat} {nd : Nat} {dd : Nat → Nat → Int} {Wd : Nat → Int64} {u : zS_} {w : zW}
theorem zCx.mk (h : zCx tc dz ad aB aC aD nd dd Wd u w) : w (ad 0) = some (zMk ad (u 24 0) (u 23 0)) := h.1
theorem zCx.we (h : zCx tc dz ad aB aC aD nd dd Wd u w) : w (ad 1) = some (.inr (5, [.ref (ad 2)])) := h.2.1
theorem zCx.wo (h : zCx tc dz ad aB aC aD nd dd Wd u w) : w (ad 2) = some (.inl (tc 2, 3024, .inr (.inl Wd))) := h.2.2.1
theorem zCx.wk (h : zCx tc dz ad aB aC aD nd dd Wd u w) : zWk u Wd := h.2.2.2.1
theorem zCx.le (h : zCx tc dz ad aB aC aD nd dd Wd u w) : w (ad 3) = some (.inr (4, [.ref (ad 4), .ref (ad 7)])) := h.2.2.2.2.1
theorem zCx.pa (h : zCx tc dz ad aB aC aD nd dd Wd u w) : w (ad 4) = some (.inl (tc 0, 3, .inl (fun j => zi (u 22 j)))) := h.2.2.2.2.2.1
theorem zCx.lB (h : zCx tc dz ad aB aC aD nd dd Wd u w) : zLi tc dz w (ad 5) (u 13 0).toNat aB := h.2.2.2.2.2.2.1
theorem zCx.lC (h : zCx tc dz ad aB aC aD nd dd Wd u w) : zLi tc dz w (ad 6) (u 21 0).toNat aC := h.2.2.2.2.2.2.2.1
theorem zCx.lD (h : zCx tc dz ad aB aC aD nd dd Wd u w) : zLi tc dz w (ad 7) nd aD := h.2.2.2.2.2.2.2.2.1
theorem zCx.bo (h : zCx tc dz ad aB aC aD nd dd Wd u w) : ∀ i, i < (u 13 0).toNat → zBk u aC w (aB i) i := h.2.2.2.2.2.2.2.2.2.1
theorem zCx.ca (h : zCx tc dz ad aB aC aD nd dd Wd u w) : ∀ j, j < (u 21 0).toNat → zCk u aB w (aC j) j := h.2.2.2.2.2.2.2.2.2.2.1
theorem zCx.de (h : zCx tc dz ad aB aC aD nd dd Wd u w) : ∀ k, k < nd → zDk dd w (aD k) k := h.2.2.2.2.2.2.2.2.2.2.2.1
theorem zCx.su (h : zCx tc dz ad aB aC aD nd dd Wd u w) : ∀ c : Nat, c < 3 → u 22 c = zsum dd (c : Int) nd := h.2.2.2.2.2.2.2.2.2.2.2.2.1
theorem zCx.ne (h : zCx tc dz ad aB aC aD nd dd Wd u w) : ad 5 ≠ ad 6 ∧ ad 5 ≠ ad 7 ∧ ad 6 ≠ ad 7 := h.2.2.2.2.2.2.2.2.2.2.2.2.2
/-- a list is kept where its cells are -/
theorem zLi.kept {w' : zW} {la n : Nat} {a : Nat → Nat} (h : zLi tc dz w la n a) (hk : ∀ q e, w q = some e → (∃ f, e = .inr (0, f)) ∨ (∃ c el, e = zAr tc c el) → w' q = some e) : zLi tc dz w' la n a := by
  obtain ⟨mo, ea, cap, el, h1, h2, h3, h4, h5⟩ := h
  refine ⟨mo, ea, cap, el, hk _ _ h1 (Or.inl ⟨_, rfl⟩), h2, h3, h4, ?_⟩
  rcases h5 with h5 | h5
  · exact Or.inl h5
  · exact Or.inr ⟨h5.1, h5.2.1, hk _ _ h5.2.2 (Or.inr ⟨_, _, rfl⟩)⟩
theorem zi_inj {a b : Int} (h : Value.int (zi a) = Value.int (zi b)) (r : -2147483648 ≤ a ∧ a ≤ 2147483647 ∧ -2147483648 ≤ b ∧ b ≤ 2147483647) : a = b := by
  have h1 : zi a = zi b := by injection h
  exact (zi_eq r).mp h1
theorem zCx.binj (h : zCx tc dz ad aB aC aD nd dd Wd u w) (hn : u 13 0 ≤ 6) {i j : Nat} (hi : i < (u 13 0).toNat) (hj : j < (u 13 0).toNat) (e : aB i = aB j) : i = j := by
  obtain ⟨_, _, _, h1, -⟩ := h.bo i hi
  obtain ⟨_, _, _, h2, -⟩ := h.bo j hj
  rw [e, h2] at h1
  have h3 := Option.some.inj h1
  injection h3 with h3
  injection h3 with _ h3
  injection h3 with h3 _
  have := zi_inj h3 (by omega)
  omega
theorem zCx.cinj (h : zCx tc dz ad aB aC aD nd dd Wd u w) (hn : u 21 0 ≤ 30) {i j : Nat} (hi : i < (u 21 0).toNat) (hj : j < (u 21 0).toNat) (e : aC i = aC j) : i = j := by
  have h1 := h.ca i hi
  have h2 := h.ca j hj
  unfold zCk at h1 h2
  rw [e, h2] at h1
  have h3 := Option.some.inj h1
  injection h3 with h3
  injection h3 with _ h3
  injection h3 with h3 _
  have := zi_inj h3 (by omega)
  omega
/-- one boat's numbers change -/
theorem zCx.boat (h : zCx tc dz ad aB aC aD nd dd Wd u w) (hn : u 13 0 ≤ 6) {i : Nat} (hi : i < (u 13 0).toNat) {u' : zS_} {e : va_E} (hu : ∀ k j, (k ≠ 2 ∧ k ≠ 6 ∧ k ≠ 8 ∧ k ≠ 9 ∧ k ≠ 10 ∧ k ≠ 11 ∧ k ≠ 12) ∨ j ≠ i → u' k j = u k j) (hb : zBk u' aC (zu w (aB i) e) (aB i) i) : zCx tc dz ad aB aC aD nd dd Wd u' (zu w (aB i) e) := by
  obtain ⟨uo, nx, lf, hbi, -⟩ := h.bo i hi
  have hk : ∀ q e', w q = some e' → (∀ f, e' ≠ .inr (1, f)) → zu w (aB i) e q = some e' := fun q e' hq hf => (zu_ne (zne hq hbi (hf _))).trans hq
  have e13 : u' 13 0 = u 13 0 := hu 13 0 (Or.inl (by decide))
  have e21 : u' 21 0 = u 21 0 := hu 21 0 (Or.inl (by decide))
  refine ⟨?_, hk _ _ h.we (by intro f z; cases z), hk _ _ h.wo (by intro f z; cases z), ?_, hk _ _ h.le (by intro f z; cases z), ?_, ?_, ?_, ?_, ?_, ?_, ?_, ?_, h.ne⟩
  · rw [hu 24 0 (Or.inl (by decide)), hu 23 0 (Or.inl (by decide))]; exact hk _ _ h.mk (by intro f z; cases z)
  · intro n q hn' hq; rw [hu 0 _ (Or.inl (by decide))]; exact h.wk n q hn' hq
  · have e22 : (fun j => zi (u' 22 j)) = fun j => zi (u 22 j) := funext fun j => by rw [hu 22 j (Or.inl (by decide))]
    rw [e22]; exact hk _ _ h.pa (by intro f z; cases z)
  · rw [e13]; exact h.lB.kept (fun q e' hq hf => hk q e' hq (by rcases hf with ⟨f, rfl⟩ | ⟨c, el, rfl⟩ <;> (intro g z; cases z)))
  · rw [e21]; exact h.lC.kept (fun q e' hq hf => hk q e' hq (by rcases hf with ⟨f, rfl⟩ | ⟨c, el, rfl⟩ <;> (intro g z; cases z)))
  · exact h.lD.kept (fun q e' hq hf => hk q e' hq (by rcases hf with ⟨f, rfl⟩ | ⟨c, el, rfl⟩ <;> (intro g z; cases z)))
  · intro i' hi'
    rw [e13] at hi'
    by_cases q : i' = i
    · subst q; exact hb
    · obtain ⟨uo', nx', lf', g1, g2⟩ := h.bo i' hi'
      refine ⟨uo', nx', lf', ?_, ?_⟩
      · rw [zu_ne (fun z => q (h.binj hn hi' hi z)), hu 1 _ (Or.inr q), hu 7 _ (Or.inr q), hu 3 _ (Or.inr q), hu 4 _ (Or.inr q), hu 5 _ (Or.inr q), hu 2 _ (Or.inr q), hu 8 _ (Or.inr q), hu 6 _ (Or.inr q)]
        unfold zco
        rw [hu 9 _ (Or.inr q)]
        exact g1
      · rw [hu 9 _ (Or.inr q), hu 12 _ (Or.inr q), hu 8 _ (Or.inr q), hu 11 _ (Or.inr q), hu 10 _ (Or.inr q)]
        exact g2
  · intro j hj
    rw [e21] at hj
    have g := h.ca j hj
    unfold zCk zbo at g ⊢
    rw [hu 14 _ (Or.inl (by decide)), hu 15 _ (Or.inl (by decide)), hu 16 _ (Or.inl (by decide)), hu 17 _ (Or.inl (by decide)), hu 18 _ (Or.inl (by decide)), hu 19 _ (Or.inl (by decide)), hu 20 _ (Or.inl (by decide))]
    exact hk _ _ g (by intro f z; cases z)
  · intro k hk'
    have g := h.de k hk'
    exact ⟨hk _ _ g.1 (by intro f z; cases z), g.2⟩
  · intro c hc; rw [hu 22 _ (Or.inl (by decide))]; exact h.su c hc
/-- one call's numbers change -/
theorem zCx.call (h : zCx tc dz ad aB aC aD nd dd Wd u w) (hn : u 21 0 ≤ 30) {i : Nat} (hi : i < (u 21 0).toNat) {u' : zS_} {e : va_E} (hu : ∀ k j, (k ≠ 17 ∧ k ≠ 18 ∧ k ≠ 19 ∧ k ≠ 20) ∨ j ≠ i → u' k j = u k j) (hb : zCk u' aB (zu w (aC i) e) (aC i) i) : zCx tc dz ad aB aC aD nd dd Wd u' (zu w (aC i) e) := by
  have hbi := h.ca i hi
  unfold zCk at hbi
  have hk : ∀ q e', w q = some e' → (∀ f, e' ≠ .inr (2, f)) → zu w (aC i) e q = some e' := fun q e' hq hf => (zu_ne (zne hq hbi (hf _))).trans hq
  have e13 : u' 13 0 = u 13 0 := hu 13 0 (Or.inl (by decide))
  have e21 : u' 21 0 = u 21 0 := hu 21 0 (Or.inl (by decide))
  refine ⟨?_, hk _ _ h.we (by intro f z; cases z), hk _ _ h.wo (by intro f z; cases z), ?_, hk _ _ h.le (by intro f z; cases z), ?_, ?_, ?_, ?_, ?_, ?_, ?_, ?_, h.ne⟩
  · rw [hu 24 0 (Or.inl (by decide)), hu 23 0 (Or.inl (by decide))]; exact hk _ _ h.mk (by intro f z; cases z)
  · intro n q hn' hq; rw [hu 0 _ (Or.inl (by decide))]; exact h.wk n q hn' hq
  · have e22 : (fun j => zi (u' 22 j)) = fun j => zi (u 22 j) := funext fun j => by rw [hu 22 j (Or.inl (by decide))]
    rw [e22]; exact hk _ _ h.pa (by intro f z; cases z)
  · rw [e13]; exact h.lB.kept (fun q e' hq hf => hk q e' hq (by rcases hf with ⟨f, rfl⟩ | ⟨c, el, rfl⟩ <;> (intro g z; cases z)))
  · rw [e21]; exact h.lC.kept (fun q e' hq hf => hk q e' hq (by rcases hf with ⟨f, rfl⟩ | ⟨c, el, rfl⟩ <;> (intro g z; cases z)))
  · exact h.lD.kept (fun q e' hq hf => hk q e' hq (by rcases hf with ⟨f, rfl⟩ | ⟨c, el, rfl⟩ <;> (intro g z; cases z)))
  · intro i' hi'
    rw [e13] at hi'
    obtain ⟨uo', nx', lf', g1, g2⟩ := h.bo i' hi'
    refine ⟨uo', nx', lf', ?_, ?_⟩
    · rw [hu 1 _ (Or.inl (by decide)), hu 7 _ (Or.inl (by decide)), hu 3 _ (Or.inl (by decide)), hu 4 _ (Or.inl (by decide)), hu 5 _ (Or.inl (by decide)), hu 2 _ (Or.inl (by decide)), hu 8 _ (Or.inl (by decide)), hu 6 _ (Or.inl (by decide))]
      unfold zco
      rw [hu 9 _ (Or.inl (by decide))]
      exact hk _ _ g1 (by intro f z; cases z)
    · rw [hu 9 _ (Or.inl (by decide)), hu 12 _ (Or.inl (by decide)), hu 8 _ (Or.inl (by decide)), hu 11 _ (Or.inl (by decide)), hu 10 _ (Or.inl (by decide))]
      exact g2
  · intro j hj
    rw [e21] at hj
    by_cases q : j = i
    · subst q; exact hb
    · have g := h.ca j hj
      unfold zCk zbo at g ⊢
      rw [zu_ne (fun z => q (h.cinj hn hj hi z)), hu 14 _ (Or.inr q), hu 15 _ (Or.inr q), hu 16 _ (Or.inr q), hu 17 _ (Or.inr q), hu 18 _ (Or.inr q), hu 19 _ (Or.inr q), hu 20 _ (Or.inr q)]
      exact g
  · intro k hk'
    have g := h.de k hk'
    exact ⟨hk _ _ g.1 (by intro f z; cases z), g.2⟩
  · intro c hc; rw [hu 22 _ (Or.inl (by decide))]; exact h.su c hc
end ZCX

