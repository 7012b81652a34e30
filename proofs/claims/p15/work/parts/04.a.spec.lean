/-! what the market's state is, in numbers: m k j is place j of the reference's field k (a number's place is 0):
0 storm 1 bc 2 bl 3 bh 4 bs 5 holding 6 fuel 7 bears 8 how 9 task 10 since 11 next 12 by 13 boats 14 cc 15 cn 16 cl 17 ck 18 cb 19 often 20 reward 21 calls 22 got 23 cap 24 now 25 thrown -/
abbrev zS_ : Type := Nat → Nat → Int
def ms (u : zS_) (k j : Nat) (x : Int) : zS_ := fun a b => if a = k ∧ b = j then x else u a b
theorem ms_k {u : zS_} {k j k' j' : Nat} {x : Int} (h : k' ≠ k) : ms u k j x k' j' = u k' j' := if_neg (fun z => h z.1)
theorem ms_j {u : zS_} {k j j' : Nat} {x : Int} (h : j' ≠ j) : ms u k j x k j' = u k j' := if_neg (fun z => h z.2)
theorem ms_s {u : zS_} {k j : Nat} {x : Int} : ms u k j x k j = x := if_pos ⟨rfl, rfl⟩
theorem ms_kj {u : zS_} {k j j' : Nat} {x : Int} : ms u k j x k j' = if j' = j then x else u k j' := by
  unfold ms
  by_cases h : j' = j
  · rw [if_pos ⟨rfl, h⟩, if_pos h]
  · rw [if_neg (fun z => h z.2), if_neg h]
theorem ms_id {u : zS_} {k j : Nat} : ms u k j (u k j) = u := by
  funext a b
  unfold ms
  by_cases h : a = k ∧ b = j
  · rw [if_pos h, h.1, h.2]
  · rw [if_neg h]
/-- f once for each place below n -/
def zfold (f : zS_ → Nat → zS_) (u : zS_) : Nat → zS_
  | 0 => u
  | n + 1 => f (zfold f u n) n
def mab (a : Int) : Int := if a < 0 then -a else a
def mway (a b : Int) : Int := mab (a % 8 - b % 8) + mab (a / 8 - b / 8)
def mits (u : zS_) (b c : Nat) : Int := (mway (u 3 b) (u 14 c) + u 4 b - 1) / u 4 b
def mhours (u : zS_) (b c : Nat) : Int := if mits u b c < 1 then 1 else mits u b c
def mcan (u : zS_) (b c : Nat) : Prop := (u 8 b = 0 ∧ mhours u b c ≤ 5 ∧ u 24 0 + mhours u b c ≤ u 16 c ∧ 2 * mway (u 3 b) (u 14 c) ≤ u 6 b) ∧ u 0 (1000 * u 14 c + u 24 0 + mhours u b c).toNat ≤ u 7 b
noncomputable def mbest (u : zS_) (c : Nat) : Nat → Int
  | 0 => -1
  | n + 1 => @ite _ (mcan u n c ∧ (mbest u c n < 0 ∨ mhours u n c < mhours u (mbest u c n).toNat c)) (Classical.propDecidable _) (n : Int) (mbest u c n)
noncomputable def mtasks (u : zS_) (c : Nat) : zS_ :=
  if 0 ≤ mbest u c (u 13 0).toNat then
    ms (ms (ms (ms (ms (ms (ms (ms u 8 (mbest u c (u 13 0).toNat).toNat 1) 9 (mbest u c (u 13 0).toNat).toNat (c : Int)) 10 (mbest u c (u 13 0).toNat).toNat (u 24 0)) 11 (mbest u c (u 13 0).toNat).toNat (u 24 0 + mhours u (mbest u c (u 13 0).toNat).toNat c)) 12 (mbest u c (u 13 0).toNat).toNat (u 2 (mbest u c (u 13 0).toNat).toNat)) 17 c 1) 18 c (mbest u c (u 13 0).toNat)) 19 c (u 19 c + 1)
  else u
def mturn (u : zS_) (b : Nat) : zS_ :=
  if 0 ≤ u 9 b ∧ u 7 b < u 0 (1000 * u 14 (u 9 b).toNat + u 11 b).toNat then
    ms (ms (ms (ms u 17 (u 9 b).toNat 0) 9 b (-1)) 11 b (u 24 0 + (u 24 0 - u 10 b))) 6 b (u 6 b - (if u 6 b < 2 * u 4 b * (u 24 0 - u 10 b) then u 6 b else 2 * u 4 b * (u 24 0 - u 10 b)))
  else u
def mrew (u : zS_) (b c : Nat) : Int := if 10 * mway (u 3 b) (u 14 c) + 5 * u 15 c < u 23 0 then 10 * mway (u 3 b) (u 14 c) + 5 * u 15 c else u 23 0
def mown (u : zS_) (b c : Nat) : Int := if u 12 b = u 1 b then mrew u b c else mrew u b c / 2
def mpays (u : zS_) (b c : Nat) : zS_ :=
  ms (ms (ms u 20 c (mrew u b c)) 22 (u 1 b).toNat (u 22 (u 1 b).toNat + mown u b c)) 22 (u 12 b).toNat (ms u 22 (u 1 b).toNat (u 22 (u 1 b).toNat + mown u b c) 22 (u 12 b).toNat + (mrew u b c - mown u b c))
def marr (u : zS_) (b : Nat) : zS_ :=
  if u 8 b = 1 ∧ u 11 b = u 24 0 then
    if 0 ≤ u 9 b then
      ms (ms (ms (mpays (ms u 17 (u 9 b).toNat 2) b (u 9 b).toNat) 6 b (u 6 b - 2 * mway (u 3 b) (u 14 (u 9 b).toNat))) 9 b (-1)) 11 b (u 24 0 + (u 24 0 - u 10 b))
    else ms (ms (ms u 8 b 2) 6 b (u 5 b)) 11 b (u 24 0 + (u 24 0 - u 10 b))
  else u
def mfree (u : zS_) (b : Nat) : zS_ := ms u 8 b (if u 8 b = 2 ∧ u 11 b = u 24 0 then 0 else u 8 b)
def mlost (u : zS_) (c : Nat) : zS_ := if u 17 c = 0 ∧ u 16 c < u 24 0 then ms u 17 c 3 else u
noncomputable def mcall (u : zS_) (c : Nat) : zS_ := if mlost u c 17 c = 0 then mtasks (mlost u c) c else mlost u c
def mh1 (u : zS_) : zS_ := ms u 24 0 (u 24 0 + 1)
def mh2 (u : zS_) : zS_ := zfold mturn u (u 13 0).toNat
def mh3 (u : zS_) : zS_ := zfold marr u (u 13 0).toNat
def mh4 (u : zS_) : zS_ := zfold mfree u (u 13 0).toNat
noncomputable def mh5 (u : zS_) : zS_ := zfold mcall u (u 21 0).toNat
noncomputable def mgo (u : zS_) : zS_ := mh5 (mh4 (mh3 (mh2 (mh1 u))))
noncomputable def mpass (u : zS_) (n : Nat) : zS_ := zfold (fun u _ => mgo u) u n
/-- what a state of the reference always is: boats, calls, all -/
def zIb (u : zS_) (i : Nat) : Prop :=
  (0 ≤ u 1 i ∧ u 1 i ≤ 2 ∧ 0 ≤ u 2 i ∧ u 2 i ≤ 2 ∧ 0 ≤ u 3 i ∧ u 3 i ≤ 47 ∧ 1 ≤ u 4 i ∧ u 4 i ≤ 3 ∧ 1 ≤ u 5 i ∧ u 5 i ≤ 100 ∧ 0 ≤ u 6 i ∧ u 6 i ≤ 100 ∧ 0 ≤ u 7 i ∧ u 7 i ≤ 9 ∧ 0 ≤ u 8 i ∧ u 8 i ≤ 2 ∧ -1 ≤ u 9 i ∧ u 9 i < u 21 0) ∧
  (0 ≤ u 9 i → u 8 i = 1 ∧ u 11 i ≤ 999 ∧ 2 * mway (u 3 i) (u 14 (u 9 i).toNat) ≤ u 6 i ∧ u 17 (u 9 i).toNat = 1 ∧ u 18 (u 9 i).toNat = (i : Int) ∧ 0 ≤ u 12 i ∧ u 12 i ≤ 2) ∧
  (u 8 i ≠ 0 → 0 ≤ u 10 i ∧ u 10 i ≤ u 24 0 ∧ 0 ≤ u 11 i ∧ u 11 i ≤ 2000)
def zIc (u : zS_) (j : Nat) : Prop := 0 ≤ u 14 j ∧ u 14 j ≤ 47 ∧ 1 ≤ u 15 j ∧ u 15 j ≤ 50 ∧ 0 ≤ u 16 j ∧ u 16 j ≤ 999 ∧ 0 ≤ u 17 j ∧ u 17 j ≤ 3 ∧ -1 ≤ u 18 j ∧ u 18 j < u 13 0
def zIn (u : zS_) : Prop :=
  (0 ≤ u 13 0 ∧ u 13 0 ≤ 6 ∧ 0 ≤ u 21 0 ∧ u 21 0 ≤ 30 ∧ 0 ≤ u 24 0 ∧ u 24 0 ≤ 999 ∧ 0 ≤ u 23 0 ∧ u 23 0 ≤ 1000) ∧ (∀ j : Nat, 0 ≤ u 0 j ∧ u 0 j ≤ 9) ∧ (∀ i : Nat, (i : Int) < u 13 0 → zIb u i) ∧ ∀ j : Nat, (j : Int) < u 21 0 → zIc u j
theorem mway_r {a b : Int} (h : 0 ≤ a ∧ a ≤ 47 ∧ 0 ≤ b ∧ b ≤ 47) : 0 ≤ mway a b ∧ mway a b ≤ 12 := by
  unfold mway mab
  omega
theorem mits_r {u : zS_} {b c : Nat} (h : 0 ≤ u 3 b ∧ u 3 b ≤ 47 ∧ 0 ≤ u 14 c ∧ u 14 c ≤ 47 ∧ 1 ≤ u 4 b ∧ u 4 b ≤ 3) : 0 ≤ mits u b c ∧ mits u b c ≤ 12 := by
  have h1 := mway_r (a := u 3 b) (b := u 14 c) (by omega)
  unfold mits
  generalize mway (u 3 b) (u 14 c) = y at h1 ⊢
  have h2 : u 4 b = 1 ∨ u 4 b = 2 ∨ u 4 b = 3 := by omega
  rcases h2 with e | e | e <;> rw [e] <;> omega
theorem mhours_r {u : zS_} {b c : Nat} (h : 0 ≤ u 3 b ∧ u 3 b ≤ 47 ∧ 0 ≤ u 14 c ∧ u 14 c ≤ 47 ∧ 1 ≤ u 4 b ∧ u 4 b ≤ 3) : 1 ≤ mhours u b c ∧ mhours u b c ≤ 12 := by
  have h1 := mits_r h
  unfold mhours
  omega
theorem mbest_r {u : zS_} {c : Nat} (n : Nat) : -1 ≤ mbest u c n ∧ mbest u c n < n := by
  induction n with
  | zero => unfold mbest; omega
  | succ n ih =>
    unfold mbest
    by_cases h : mcan u n c ∧ (mbest u c n < 0 ∨ mhours u n c < mhours u (mbest u c n).toNat c)
    · rw [if_pos h]; omega
    · rw [if_neg h]; omega

