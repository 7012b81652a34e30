theorem mcall_y {u : zS_} {c : Nat} (h : mlost u c 17 c = 0) : mcall u c = mtasks (mlost u c) c := if_pos h
theorem mcall_n {u : zS_} {c : Nat} (h : ¬ mlost u c 17 c = 0) : mcall u c = mlost u c := if_neg h
theorem mlost_y {u : zS_} {c : Nat} (h : u 17 c = 0 ∧ u 16 c < u 24 0) : mlost u c = ms u 17 c 3 := if_pos h
theorem mlost_n {u : zS_} {c : Nat} (h : ¬ (u 17 c = 0 ∧ u 16 c < u 24 0)) : mlost u c = u := if_neg h
theorem mfree_y {u : zS_} {b : Nat} (h : u 8 b = 2 ∧ u 11 b = u 24 0) : mfree u b = ms u 8 b 0 := by
  unfold mfree; rw [if_pos h]
theorem mfree_n {u : zS_} {b : Nat} (h : ¬ (u 8 b = 2 ∧ u 11 b = u 24 0)) : mfree u b = ms u 8 b (u 8 b) := by
  unfold mfree; rw [if_neg h]
theorem zn_nat (n : Nat) : ((n : Int)).toNat = n := rfl
/-! what each call answers and does: c its way out (0 returns, 1.. the exceptions in their order) -/
def mcBoat (u : zS_) (a b k d f : Int) : Int := if ¬ ((0 ≤ a ∧ a ≤ 2) ∧ (0 ≤ b ∧ b ≤ 47)) then 1 else if ¬ ((1 ≤ k ∧ k ≤ 3) ∧ (1 ≤ d ∧ d ≤ 100) ∧ (0 ≤ f ∧ f ≤ 9)) then 2 else if u 13 0 = 6 then 3 else 0
def muBoat (u : zS_) (a b k d f : Int) : zS_ := ms (ms (ms (ms (ms (ms (ms (ms (ms u 1 (u 13 0).toNat a) 2 (u 13 0).toNat a) 3 (u 13 0).toNat b) 4 (u 13 0).toNat k) 5 (u 13 0).toNat d) 6 (u 13 0).toNat d) 7 (u 13 0).toNat f) 9 (u 13 0).toNat (-1)) 13 0 (u 13 0 + 1)
def mcLend (u : zS_) (a b : Int) : Int := if (0 ≤ a ∧ a ≤ u 13 0 - 1) ∧ (0 ≤ b ∧ b ≤ 2) then 0 else 1
def mcFore (u : zS_) (f t a z st : Int) : Int := if ¬ ((0 ≤ f ∧ f ≤ 47) ∧ (0 ≤ t ∧ t ≤ 47)) then 1 else if f % 8 ≤ t % 8 ∧ f / 8 ≤ t / 8 ∧ (u 24 0 ≤ a ∧ a ≤ 999) ∧ (a ≤ z ∧ z ≤ 999) ∧ (0 ≤ st ∧ st ≤ 9) then 0 else 2
/-- s at the places of P in field 0 -/
noncomputable def mfo (u : zS_) (Pl : Nat → Prop) (st : Int) : zS_ := fun k j => @ite _ (k = 0 ∧ Pl j) (Classical.propDecidable _) st (u k j)
def mrect (f t a z : Int) (j : Nat) : Prop := (j : Int) / 1000 ≤ 47 ∧ (f % 8 ≤ (j : Int) / 1000 % 8 ∧ (j : Int) / 1000 % 8 ≤ t % 8) ∧ (f / 8 ≤ (j : Int) / 1000 / 8 ∧ (j : Int) / 1000 / 8 ≤ t / 8) ∧ a ≤ (j : Int) % 1000 ∧ (j : Int) % 1000 ≤ z
noncomputable def muFore (u : zS_) (f t a z st : Int) : zS_ := mfo u (mrect f t a z) st
theorem mfo_k {u : zS_} {Pl : Nat → Prop} {st : Int} {k j : Nat} (h : k ≠ 0) : mfo u Pl st k j = u k j := if_neg (fun z => h z.1)
theorem mfo_ms {u : zS_} {Pl : Nat → Prop} {st : Int} {i : Nat} : ms (mfo u Pl st) 0 i st = mfo u (fun j => Pl j ∨ j = i) st := by
  funext k j
  unfold ms mfo
  by_cases h : k = 0 ∧ j = i
  · rw [if_pos h, if_pos ⟨h.1, Or.inr h.2⟩]
  · rw [if_neg h]
    by_cases h2 : k = 0 ∧ Pl j
    · rw [if_pos h2, if_pos ⟨h2.1, Or.inl h2.2⟩]
    · rw [if_neg h2, if_neg (fun z => z.2.elim (fun q => h2 ⟨z.1, q⟩) (fun q => h ⟨z.1, q⟩))]
theorem mfo_c {u : zS_} {Pl Ql : Nat → Prop} {st : Int} (h : ∀ j, Pl j ↔ Ql j) : mfo u Pl st = mfo u Ql st := by
  rw [show Pl = Ql from funext fun j => propext (h j)]
theorem mfo_0 {u : zS_} {Pl : Nat → Prop} {st : Int} (h : ∀ j, ¬ Pl j) : mfo u Pl st = u := by
  funext k j
  exact if_neg (fun z => h j z.2)
def mcCall (u : zS_) (a n z : Int) : Int := if ¬ (0 ≤ a ∧ a ≤ 47) then 1 else if ¬ ((1 ≤ n ∧ n ≤ 50) ∧ (u 24 0 + 1 ≤ z ∧ z ≤ 999)) then 2 else if u 21 0 = 30 then 3 else 0
def muCall (u : zS_) (a n z : Int) : zS_ := ms (ms (ms (ms (ms u 14 (u 21 0).toNat a) 15 (u 21 0).toNat n) 16 (u 21 0).toNat z) 18 (u 21 0).toNat (-1)) 21 0 (u 21 0 + 1)
def mcCap (a : Int) : Int := if 0 ≤ a ∧ a ≤ 1000 then 0 else 1
def mcPass (u : zS_) (n : Int) : Int := if ¬ (1 ≤ n ∧ n ≤ 48) then 1 else if 999 < u 24 0 + n then 2 else 0
def mcStorm (u : zS_) (a h : Int) : Int := if ¬ (0 ≤ a ∧ a ≤ 47) then 1 else if u 24 0 ≤ h ∧ h ≤ 999 then 0 else 2
def mcOfB (u : zS_) (a n : Int) : Int := if ¬ (0 ≤ a ∧ a ≤ u 13 0 - 1) then 1 else if 0 ≤ n ∧ n ≤ 3 then 0 else 2
def mvOfB (u : zS_) (a n : Int) : Int := if n = 0 then u 8 a.toNat else if n = 1 then u 9 a.toNat else if n = 2 then (if u 8 a.toNat = 0 then -1 else u 11 a.toNat) else u 6 a.toNat
def mcOfC (u : zS_) (a n : Int) : Int := if ¬ (0 ≤ a ∧ a ≤ u 21 0 - 1) then 1 else if 0 ≤ n ∧ n ≤ 3 then 0 else 2
def mvOfC (u : zS_) (a n : Int) : Int := if n = 0 then u 17 a.toNat else if n = 1 then u 18 a.toNat else if n = 2 then u 19 a.toNat else u 20 a.toNat
def mcClub (a : Int) : Int := if 0 ≤ a ∧ a ≤ 2 then 0 else 1
def mcCell (a : Int) : Int := if 0 ≤ a ∧ a ≤ 47 then 0 else 1
def mu0 : zS_ := fun k _ => if k = 23 then 200 else 0
