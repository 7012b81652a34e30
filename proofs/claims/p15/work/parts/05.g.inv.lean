/-! what the class's cells need beside: places not in use, the number of deeds -/
def zUn (u : zS_) : Prop := (∀ i : Nat, u 13 0 ≤ (i : Int) → u 8 i = 0) ∧ ∀ j : Nat, u 21 0 ≤ (j : Int) → u 17 j = 0 ∧ u 19 j = 0 ∧ u 20 j = 0
theorem zUn_to {u v : zS_} (h : zUn u) (h13 : v 13 0 = u 13 0) (h21 : v 21 0 = u 21 0) (h8 : ∀ i : Nat, u 13 0 ≤ (i : Int) → v 8 i = u 8 i) (h17 : ∀ j : Nat, u 21 0 ≤ (j : Int) → v 17 j = u 17 j ∧ v 19 j = u 19 j ∧ v 20 j = u 20 j) : zUn v := by
  refine ⟨fun i hi => ?_, fun j hj => ?_⟩
  · rw [h13] at hi; rw [h8 i hi]; exact h.1 i hi
  · rw [h21] at hj; rw [(h17 j hj).1, (h17 j hj).2.1, (h17 j hj).2.2]; exact h.2 j hj
theorem zUn_mturn {u : zS_} {b : Nat} (hI : zIn u) (hb : (b : Int) < u 13 0) (h : zUn u) : zUn (mturn u b) := by
  by_cases g : 0 ≤ u 9 b ∧ u 7 b < u 0 (1000 * u 14 (u 9 b).toNat + u 11 b).toNat
  · have hB := hI.2.2.1 b hb
    unfold zIb at hB
    rw [zmt_y g]
    exact zUn_to h rfl rfl (fun i hi => rfl) (fun j hj => ⟨(ms_ne (by omega)).trans ((ms_ne (by omega)).trans ((ms_ne (by omega)).trans (ms_ne (by omega)))), rfl, rfl⟩)
  · rw [zmt_n g]; exact h
theorem zdone_mturn {u : zS_} {b : Nat} (hI : zIn u) (hb : (b : Int) < u 13 0) (n : Nat) : zdone (mturn u b) n = zdone u n := by
  by_cases g : 0 ≤ u 9 b ∧ u 7 b < u 0 (1000 * u 14 (u 9 b).toNat + u 11 b).toNat
  · have hB := hI.2.2.1 b hb
    unfold zIb at hB
    rw [zmt_y g]
    refine zdone_c n (fun j hj => ?_)
    rw [ms_ne (by omega), ms_ne (by omega), ms_ne (by omega), ms_kj]
    by_cases q : j = (u 9 b).toNat
    · rw [if_pos q, q]; omega
    · rw [if_neg q]
  · rw [zmt_n g]
theorem zUn_marr {u : zS_} {b : Nat} (hI : zIn u) (hb : (b : Int) < u 13 0) (hX : 0 ≤ u 12 b ∧ u 12 b ≤ 2 ∨ ¬ 0 ≤ u 9 b) (h : zUn u) : zUn (marr u b) := by
  have hB := hI.2.2.1 b hb
  unfold zIb at hB
  by_cases g : u 8 b = 1 ∧ u 11 b = u 24 0
  · by_cases g9 : 0 ≤ u 9 b
    · rw [marr_pay g g9 (by omega)]
      exact zUn_to h rfl rfl (fun i hi => rfl) (fun j hj => ⟨(ms_ne (by omega)).trans ((ms_ne (by omega)).trans ((ms_ne (by omega)).trans ((ms_ne (by omega)).trans (ms_ne (by omega))))), rfl, (ms_ne (by omega)).trans ((ms_ne (by omega)).trans ((ms_ne (by omega)).trans (ms_ne (by omega))))⟩)
    · rw [marr_rest g g9]
      exact zUn_to h rfl rfl (fun i hi => (ms_ne (by omega)).trans ((ms_ne (by omega)).trans (ms_ne (by omega)))) (fun j hj => ⟨rfl, rfl, rfl⟩)
  · rw [marr_n g]; exact h
theorem zUn_mfree {u : zS_} {b : Nat} (hb : (b : Int) < u 13 0) (h : zUn u) : zUn (mfree u b) := zUn_to h rfl rfl (fun i hi => ms_ne (by omega)) (fun j hj => ⟨rfl, rfl, rfl⟩)
theorem mlost_18 {u : zS_} {c k j : Nat} (h : k ≠ 17) : mlost u c k j = u k j := mlost_k h
theorem zUn_mcall {u : zS_} {c : Nat} (hc : (c : Int) < u 21 0) (h : zUn u) : zUn (mcall u c) := by
  have h1 : zUn (mlost u c) := by
    by_cases g : u 17 c = 0 ∧ u 16 c < u 24 0
    · rw [mlost_y g]; exact zUn_to h rfl rfl (fun i hi => rfl) (fun j hj => ⟨ms_ne (by omega), rfl, rfl⟩)
    · rw [mlost_n g]; exact h
  by_cases g : mlost u c 17 c = 0
  · rw [mcall_y g]
    have hb := mbest_r (u := mlost u c) (c := c) (mlost u c 13 0).toNat
    have e21 : mlost u c 21 0 = u 21 0 := mlost_k (by decide)
    by_cases g2 : mbest (mlost u c) c (mlost u c 13 0).toNat < 0
    · rw [mtasks_n g2]; exact h1
    · rw [mtasks_y (b := (mbest (mlost u c) c (mlost u c 13 0).toNat).toNat) (by omega)]
      exact zUn_to h1 rfl rfl (fun i hi => (ms_ne (by omega)).trans ((ms_ne (by omega)).trans ((ms_ne (by omega)).trans ((ms_ne (by omega)).trans ((ms_ne (by omega)).trans ((ms_ne (by omega)).trans ((ms_ne (by omega)).trans (ms_ne (by omega))))))))) (fun j hj => ⟨(ms_ne (by omega)).trans ((ms_ne (by omega)).trans ((ms_ne (by omega)).trans ((ms_ne (by omega)).trans ((ms_ne (by omega)).trans ((ms_ne (by omega)).trans ((ms_ne (by omega)).trans (ms_ne (by omega)))))))), ms_ne (by omega), rfl⟩)
  · rw [mcall_n g]; exact h1
theorem zdone_mcall {u : zS_} {c : Nat} (n : Nat) : zdone (mcall u c) n = zdone u n := by
  have h1 : ∀ j, mlost u c 17 j = 2 ↔ u 17 j = 2 := by
    intro j
    by_cases g : u 17 c = 0 ∧ u 16 c < u 24 0
    · rw [mlost_y g, ms_kj]
      by_cases q : j = c
      · rw [if_pos q, q]; omega
      · rw [if_neg q]
    · rw [mlost_n g]
  refine zdone_c n (fun j _ => ?_)
  by_cases g : mlost u c 17 c = 0
  · rw [mcall_y g]
    by_cases g2 : mbest (mlost u c) c (mlost u c 13 0).toNat < 0
    · rw [mtasks_n g2]; exact h1 j
    · have hb := mbest_r (u := mlost u c) (c := c) (mlost u c 13 0).toNat
      rw [mtasks_y (b := (mbest (mlost u c) c (mlost u c 13 0).toNat).toNat) (by omega), ms_ne (by omega), ms_ne (by omega), ms_kj]
      by_cases q : j = c
      · have q2 := h1 c
        rw [if_pos q, q]; omega
      · rw [if_neg q]; exact h1 j
  · rw [mcall_n g]; exact h1 j
theorem zdone_mh2 {u : zS_} (hI : zIn u) (m : Nat) : zdone (mh2 u) m = zdone u m := by
  have h : ∀ n : Nat, (n : Int) ≤ u 13 0 → zdone (zfold mturn u n) m = zdone u m := by
    intro n
    induction n with
    | zero => intro _; rfl
    | succ n ih =>
      intro hn
      obtain ⟨p1, p2, -⟩ := mh2_p hI (n := n) (by omega)
      exact (zdone_mturn p1 (by rw [p2]; omega) m).trans (ih (by omega))
  exact h _ (by have := hI.1; omega)
theorem zdone_mh4 {u : zS_} (m : Nat) : zdone (mh4 u) m = zdone u m := by
  have h : ∀ n : Nat, zdone (zfold mfree u n) m = zdone u m := by
    intro n
    induction n with
    | zero => rfl
    | succ n ih => exact (zdone_c (u := zfold mfree u n) (v := zfold mfree u (n + 1)) m (fun j _ => Iff.rfl)).trans ih
  exact h _
theorem zdone_mh5 {u : zS_} (m : Nat) : zdone (mh5 u) m = zdone u m := by
  have h : ∀ n : Nat, zdone (zfold mcall u n) m = zdone u m := by
    intro n
    induction n with
    | zero => rfl
    | succ n ih => exact (zdone_mcall m).trans ih
  exact h _
theorem zUn_go {u : zS_} (hI : zIn u) (hn : u 24 0 < 999) (h : zUn u) : zUn (mgo u) := by
  have g1 := zIn_mh1 hI hn
  have u1 : zUn (mh1 u) := h
  have h2 : ∀ n : Nat, (n : Int) ≤ mh1 u 13 0 → zUn (zfold mturn (mh1 u) n) := by
    intro n
    induction n with
    | zero => intro _; exact u1
    | succ n ih =>
      intro hn
      obtain ⟨p1, p2, -⟩ := mh2_p g1 (n := n) (by omega)
      exact zUn_mturn p1 (by rw [p2]; omega) (ih (by omega))
  have i1 := g1.1
  obtain ⟨g2, e13, e21, e24, e23⟩ := mh2_p g1 (n := (mh1 u 13 0).toNat) (by omega)
  have u2 := h2 (mh1 u 13 0).toNat (by omega)
  have h3 : ∀ n : Nat, (n : Int) ≤ mh2 (mh1 u) 13 0 → zUn (zfold marr (mh2 (mh1 u)) n) := by
    intro n
    induction n with
    | zero => intro _; exact u2
    | succ n ih =>
      intro hn
      obtain ⟨p1, p2, -⟩ := mh3_p (u := mh2 (mh1 u)) g2 (n := n) (by omega)
      have hB := p1.2.2.1 n (by rw [p2]; omega)
      unfold zIb at hB
      exact zUn_marr p1 (by rw [p2]; omega) (by omega) (ih (by omega))
  have i2 := g2.1
  obtain ⟨g3, f13, f21, f24, f23⟩ := mh3_p (u := mh2 (mh1 u)) g2 (n := (mh2 (mh1 u) 13 0).toNat) (by unfold mh2; omega)
  have u3 := h3 (mh2 (mh1 u) 13 0).toNat (by unfold mh2; omega)
  have h4 : ∀ n : Nat, (n : Int) ≤ mh3 (mh2 (mh1 u)) 13 0 → zUn (zfold mfree (mh3 (mh2 (mh1 u))) n) := by
    intro n
    induction n with
    | zero => intro _; exact u3
    | succ n ih =>
      intro hn
      obtain ⟨p1, p2, -⟩ := mh4_p (u := mh3 (mh2 (mh1 u))) g3 (n := n) (by omega)
      exact zUn_mfree (by rw [p2]; omega) (ih (by omega))
  have i3 := g3.1
  obtain ⟨g4, d13, d21, d24, d23⟩ := mh4_p (u := mh3 (mh2 (mh1 u))) g3 (n := (mh3 (mh2 (mh1 u)) 13 0).toNat) (by unfold mh3; omega)
  have u4 := h4 (mh3 (mh2 (mh1 u)) 13 0).toNat (by unfold mh3; omega)
  have h5 : ∀ n : Nat, (n : Int) ≤ mh4 (mh3 (mh2 (mh1 u))) 21 0 → zUn (zfold mcall (mh4 (mh3 (mh2 (mh1 u)))) n) := by
    intro n
    induction n with
    | zero => intro _; exact u4
    | succ n ih =>
      intro hn
      obtain ⟨p1, p2, p3, -⟩ := mh5_p (u := mh4 (mh3 (mh2 (mh1 u)))) g4 (n := n) (by omega)
      exact zUn_mcall (by rw [p3]; omega) (ih (by omega))
  have i4 := g4.1
  exact h5 (mh4 (mh3 (mh2 (mh1 u))) 21 0).toNat (by unfold mh4; omega)
theorem zUn_mpass {u : zS_} (hI : zIn u) (h : zUn u) (n : Nat) (hn : u 24 0 + (n : Int) ≤ 999) : zUn (mpass u n) := by
  induction n with
  | zero => exact h
  | succ n ih =>
    have p := zIn_mpass hI n (by omega)
    exact zUn_go p.1 (by show mpass u n 24 0 < 999; rw [p.2.1]; omega) (ih (by omega))
section ZADD
variable {tc : Nat → ClassId} {dz : Nat} {ad aB aC aD : Nat → Nat} {nd : Nat} {dd : Nat → Nat → Int} {Wd : Nat → Int64} {u v : zS_} {w w' : zW}
theorem zAdd.keep {la n q : Nat} {a : Nat → Nat} (ha : zAdd tc dz w w' la n a q) {b ci : Nat} {f : List Value} (g : w b = some (.inr (ci, f))) (h : ci ≠ 0) : w' b = some (.inr (ci, f)) := ha.2.1 _ _ g (fun _ => zcls_ne h) (fun c el => zobj_ne c el)
theorem zwo_ne {tc : Nat → ClassId} {n : Nat} {f : Nat → Int64} (c : Nat) (el : Nat → Option Nat) : ¬ (Sum.inl (tc 2, n, Sum.inr (Sum.inl f)) : va_E) = zAr tc c el := by
  intro z
  injection z with z
  injection z with _ z
  injection z with _ z
  injection z with z
  cases z
theorem zCx.f1 (h : zCx tc dz ad aB aC aD nd dd Wd u w) : ∃ e : va_E, (1 ≤ (u 13 0).toNat → w (aB 0) = some e) ∧ ∃ f, e = .inr (1, f) := by
  by_cases hn : 1 ≤ (u 13 0).toNat
  · obtain ⟨x1, x2, x3, g1, -⟩ := h.bo 0 (by omega)
    exact ⟨_, fun _ => g1, _, rfl⟩
  · exact ⟨.inr (1, []), fun z => absurd z hn, _, rfl⟩
theorem zCx.f2 (h : zCx tc dz ad aB aC aD nd dd Wd u w) : ∃ e : va_E, (1 ≤ (u 21 0).toNat → w (aC 0) = some e) ∧ ∃ f, e = .inr (2, f) := by
  by_cases hn : 1 ≤ (u 21 0).toNat
  · have g1 := h.ca 0 (by omega)
    unfold zCk at g1
    exact ⟨_, fun _ => g1, _, rfl⟩
  · exact ⟨.inr (2, []), fun z => absurd z hn, _, rfl⟩
theorem zCx.f3 (h : zCx tc dz ad aB aC aD nd dd Wd u w) : ∃ e : va_E, (1 ≤ nd → w (aD 0) = some e) ∧ ∃ f, e = .inr (3, f) := by
  by_cases hn : 1 ≤ nd
  · exact ⟨_, fun _ => (h.de 0 (by omega)).1, _, rfl⟩
  · exact ⟨.inr (3, []), fun z => absurd z hn, _, rfl⟩
/-- a boat more -/
theorem zCx.addB (h : zCx tc dz ad aB aC aD nd dd Wd u w) (hI : zIn u) (h8 : u 8 (u 13 0).toNat = 0) {q : Nat} {a b k d f uo lf : Int} (hq : w q = some (zBo (((u 13 0).toNat : Nat) : Int) a f b k d a uo 0 none (-1) d lf)) (ha : zAdd tc dz w w' (ad 5) (u 13 0).toNat aB q) :
    zCx tc dz ad (fun j => if j = (u 13 0).toNat then q else aB j) aC aD nd dd Wd (muBoat u a b k d f) w' := by
  have hI1 := hI.1
  obtain ⟨e1, p1, f1, rfl⟩ := h.f1
  obtain ⟨e2, p2, f2, rfl⟩ := h.f2
  obtain ⟨e3, p3, f3, rfl⟩ := h.f3
  have e13 : (muBoat u a b k d f 13 0).toNat = (u 13 0).toNat + 1 := by
    rw [show muBoat u a b k d f 13 0 = u 13 0 + 1 from ms_s]; omega
  have e21 : muBoat u a b k d f 21 0 = u 21 0 := rfl
  refine ⟨ha.keep h.mk (by decide), ha.keep h.we (by decide), ha.2.1 _ _ h.wo (by intro f z; cases z) (fun c el => zwo_ne c el), h.wk, ha.keep h.le (by decide), ha.2.1 _ _ h.pa (by intro f z; cases z) (fun c el => zpay_ne c el), ?_, ?_, ?_, ?_, ?_, fun k hk => ⟨ha.keep (h.de k hk).1 (by decide), (h.de k hk).2⟩, h.su, h.ne⟩
  · rw [e13]; exact ha.1
  · exact ha.2.2 _ _ _ _ _ (Ne.symm h.ne.1) h.lC p1 p2 (by intro z; cases z)
  · exact ha.2.2 _ _ _ _ _ (Ne.symm h.ne.2.1) h.lD p1 p3 (by intro z; cases z)
  · intro i hi
    rw [e13] at hi
    show zBk (muBoat u a b k d f) aC w' (if i = (u 13 0).toNat then q else aB i) i
    by_cases g : i = (u 13 0).toNat
    · rw [if_pos g, g]
      have c9 : muBoat u a b k d f 9 (u 13 0).toNat = -1 := by unfold muBoat; simp [ms]
      refine zBk_of (ha.keep hq (by decide)) (by unfold muBoat; simp [ms]) (by unfold muBoat; simp [ms]) (by unfold muBoat; simp [ms]) (by unfold muBoat; simp [ms]) (by unfold muBoat; simp [ms]) (by unfold muBoat; simp [ms]) h8 (zco_n (by rw [c9]; decide)) (by unfold muBoat; simp [ms]) (fun z => absurd z (by rw [c9]; decide)) (fun _ => rfl) (fun z => absurd h8 z)
    · rw [if_neg g]
      obtain ⟨x1, x2, x3, g1, g2⟩ := h.bo i (by omega)
      have hk : ∀ kk, kk ≠ 13 → muBoat u a b k d f kk i = u kk i := by
        intro kk hkk
        unfold muBoat
        rw [ms_ne (by omega), ms_ne (by omega), ms_ne (by omega), ms_ne (by omega), ms_ne (by omega), ms_ne (by omega), ms_ne (by omega), ms_ne (by omega), ms_ne (by omega)]
      refine ⟨x1, x2, x3, ?_, ?_⟩
      · unfold zco
        rw [hk 1 (by decide), hk 7 (by decide), hk 3 (by decide), hk 4 (by decide), hk 5 (by decide), hk 2 (by decide), hk 8 (by decide), hk 9 (by decide), hk 6 (by decide)]
        exact ha.keep g1 (by decide)
      · rw [hk 9 (by decide), hk 12 (by decide), hk 8 (by decide), hk 11 (by decide), hk 10 (by decide)]
        exact g2
  · intro j hj
    have hj' : j < (u 21 0).toNat := hj
    have g := h.ca j hj'
    have hc := hI.2.2.2 j (by omega)
    unfold zIc at hc
    unfold zCk at g ⊢
    have hbo : zbo (muBoat u a b k d f) (fun j => if j = (u 13 0).toNat then q else aB j) j = zbo u aB j := by
      show (if u 18 j < 0 then none else some (if (u 18 j).toNat = (u 13 0).toNat then q else aB (u 18 j).toNat)) = _
      unfold zbo
      by_cases z : u 18 j < 0
      · rw [if_pos z, if_pos z]
      · rw [if_neg z, if_neg z, if_neg (by omega)]
    rw [hbo]
    exact ha.keep g (by decide)
/-- a call more -/
theorem zCx.addC (h : zCx tc dz ad aB aC aD nd dd Wd u w) (hI : zIn u) (h8 : u 17 (u 21 0).toNat = 0 ∧ u 19 (u 21 0).toNat = 0 ∧ u 20 (u 21 0).toNat = 0) {q : Nat} {a n z : Int} (hq : w q = some (zCa (((u 21 0).toNat : Nat) : Int) a n z 0 none 0 0)) (ha : zAdd tc dz w w' (ad 6) (u 21 0).toNat aC q) :
    zCx tc dz ad aB (fun j => if j = (u 21 0).toNat then q else aC j) aD nd dd Wd (muCall u a n z) w' := by
  have hI1 := hI.1
  obtain ⟨e1, p1, f1, rfl⟩ := h.f1
  obtain ⟨e2, p2, f2, rfl⟩ := h.f2
  obtain ⟨e3, p3, f3, rfl⟩ := h.f3
  have e21 : (muCall u a n z 21 0).toNat = (u 21 0).toNat + 1 := by
    rw [show muCall u a n z 21 0 = u 21 0 + 1 from ms_s]; omega
  refine ⟨ha.keep h.mk (by decide), ha.keep h.we (by decide), ha.2.1 _ _ h.wo (by intro f z; cases z) (fun c el => zwo_ne c el), h.wk, ha.keep h.le (by decide), ha.2.1 _ _ h.pa (by intro f z; cases z) (fun c el => zpay_ne c el), ?_, ?_, ?_, ?_, ?_, fun k hk => ⟨ha.keep (h.de k hk).1 (by decide), (h.de k hk).2⟩, h.su, h.ne⟩
  · exact ha.2.2 _ _ _ _ _ h.ne.1 h.lB p2 p1 (by intro z; cases z)
  · rw [e21]; exact ha.1
  · exact ha.2.2 _ _ _ _ _ (Ne.symm h.ne.2.2) h.lD p2 p3 (by intro z; cases z)
  · intro i hi
    have hi' : i < (u 13 0).toNat := hi
    obtain ⟨x1, x2, x3, g1, g2⟩ := h.bo i hi'
    have hb := hI.2.2.1 i (by omega)
    unfold zIb at hb
    have hco : zco (muCall u a n z) (fun j => if j = (u 21 0).toNat then q else aC j) i = zco u aC i := by
      show (if u 9 i < 0 then none else some (if (u 9 i).toNat = (u 21 0).toNat then q else aC (u 9 i).toNat)) = _
      unfold zco
      by_cases z : u 9 i < 0
      · rw [if_pos z, if_pos z]
      · rw [if_neg z, if_neg z, if_neg (by omega)]
    refine ⟨x1, x2, x3, ?_, g2⟩
    rw [hco]
    exact ha.keep g1 (by decide)
  · intro j hj
    rw [e21] at hj
    show zCk (muCall u a n z) aB w' (if j = (u 21 0).toNat then q else aC j) j
    by_cases g : j = (u 21 0).toNat
    · rw [if_pos g, g]
      exact zCk_of (ha.keep hq (by decide)) (by unfold muCall; simp [ms]) (by unfold muCall; simp [ms]) (by unfold muCall; simp [ms]) h8.1 (by unfold zbo; rw [show muCall u a n z 18 (u 21 0).toNat = -1 by unfold muCall; simp [ms]]; rfl) h8.2.1 h8.2.2
    · rw [if_neg g]
      have g1 := h.ca j (by omega)
      have hk : ∀ kk, kk ≠ 21 → muCall u a n z kk j = u kk j := by
        intro kk hkk
        unfold muCall
        rw [ms_ne (by omega), ms_ne (by omega), ms_ne (by omega), ms_ne (by omega), ms_ne (by omega)]
      unfold zCk zbo at g1 ⊢
      rw [hk 14 (by decide), hk 15 (by decide), hk 16 (by decide), hk 17 (by decide), hk 18 (by decide), hk 19 (by decide), hk 20 (by decide)]
      exact ha.keep g1 (by decide)
end ZADD

