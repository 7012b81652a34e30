/-! what the property says of the state, and that every call keeps it -/
def zTm (u : zS_) (b : Nat) : Prop := (u 8 b = 1 → u 11 b ≤ u 10 b + 10) ∧ (0 ≤ u 9 b → u 11 b ≤ u 10 b + 5) ∧ (u 8 b = 2 → u 11 b ≤ u 24 0 + 10)
def zTA (u : zS_) (b : Nat) : Prop := u 8 b ≠ 0 → u 10 b < u 24 0 ∧ u 24 0 ≤ u 11 b
def zTB (u : zS_) (b : Nat) : Prop := u 8 b ≠ 0 → u 10 b < u 24 0 ∧ u 24 0 ≤ u 11 b ∧ (u 8 b = 1 → u 24 0 < u 11 b)
def zTC (u : zS_) (b : Nat) : Prop := u 8 b ≠ 0 → u 10 b ≤ u 24 0 ∧ u 24 0 < u 11 b
def zCl (u : zS_) (c : Nat) : Prop := (u 17 c = 1 → 0 ≤ u 18 c ∧ u 9 (u 18 c).toNat = (c : Int)) ∧ (u 17 c ≠ 2 → u 20 c = 0) ∧ (u 19 c = 0 ↔ u 18 c = -1) ∧ 0 ≤ u 19 c ∧ (u 17 c = 2 → 0 ≤ u 18 c)
def zgot (u : zS_) : Int := u 22 0 + u 22 1 + u 22 2
def zrw (u : zS_) : Nat → Int
  | 0 => 0
  | n + 1 => zrw u n + u 20 n
def zPb (u : zS_) : Prop := (∀ b : Nat, (b : Int) < u 13 0 → zTm u b) ∧ (∀ c : Nat, (c : Int) < u 21 0 → zCl u c) ∧ zgot u = zrw u (u 21 0).toNat
def zPr (u : zS_) : Prop := zPb u ∧ (∀ b : Nat, (b : Int) < u 13 0 → zTC u b) ∧ ∀ c : Nat, (c : Int) < u 21 0 → u 19 c ≤ u 24 0
theorem zrw_c {u v : zS_} (n : Nat) (h : ∀ j, j < n → v 20 j = u 20 j) : zrw v n = zrw u n := by
  induction n with
  | zero => rfl
  | succ n ih =>
    unfold zrw
    rw [ih (fun j hj => h j (by omega)), h n (by omega)]
theorem zrw_ms {u : zS_} {c : Nat} {x : Int} (n : Nat) : zrw (ms u 20 c x) n = zrw u n + (if c < n then x - u 20 c else 0) := by
  induction n with
  | zero => rw [if_neg (by omega)]; rfl
  | succ n ih =>
    unfold zrw
    rw [ih, ms_kj]
    by_cases h : n = c
    · rw [if_pos h, if_neg (by omega), if_pos (by omega), h]; omega
    · rw [if_neg h]
      by_cases h2 : c < n
      · rw [if_pos h2, if_pos (by omega)]; omega
      · rw [if_neg h2, if_neg (by omega)]; omega
theorem zgot_c {u v : zS_} (h : ∀ j, v 22 j = u 22 j) : zgot v = zgot u := by
  unfold zgot; rw [h, h, h]
theorem zshare_3 {o u rw : Int} (h : 0 ≤ o ∧ o ≤ 2 ∧ 0 ≤ u ∧ u ≤ 2) : zshare o u rw 0 + zshare o u rw 1 + zshare o u rw 2 = rw := by
  unfold zshare
  generalize zown o u rw = x
  have h1 : o = 0 ∨ o = 1 ∨ o = 2 := by omega
  have h2 : u = 0 ∨ u = 1 ∨ u = 2 := by omega
  rcases h1 with rfl | rfl | rfl <;> rcases h2 with rfl | rfl | rfl <;> simp <;> omega
/-- steps that leave all but some boats' numbers -/
theorem zPb_to {u v : zS_} (h : zPb u) (h13 : v 13 0 = u 13 0) (h21 : v 21 0 = u 21 0) (ht : ∀ b : Nat, (b : Int) < u 13 0 → zTm u b → zTm v b) (hc : ∀ c : Nat, (c : Int) < u 21 0 → zCl u c → zCl v c) (h20 : ∀ j, v 20 j = u 20 j) (h22 : ∀ j, v 22 j = u 22 j) : zPb v := by
  obtain ⟨h1, h2, h3⟩ := h
  refine ⟨fun b hb => ?_, fun c hc' => ?_, ?_⟩
  · rw [h13] at hb; exact ht b hb (h1 b hb)
  · rw [h21] at hc'; exact hc c hc' (h2 c hc')
  · rw [zgot_c h22, h21, h3]; exact (zrw_c _ (fun j _ => h20 j)).symm
theorem zPb_mh1 {u : zS_} (h : zPb u) : zPb (mh1 u) := zPb_to h rfl rfl (fun b _ g => by
  unfold zTm at g ⊢
  have e : mh1 u 24 0 = u 24 0 + 1 := ms_s
  have e8 : mh1 u 8 b = u 8 b := rfl
  have e9 : mh1 u 9 b = u 9 b := rfl
  have e10 : mh1 u 10 b = u 10 b := rfl
  have e11 : mh1 u 11 b = u 11 b := rfl
  rw [e, e8, e9, e10, e11]
  exact ⟨g.1, g.2.1, fun z => by have := g.2.2 z; omega⟩) (fun c _ g => g) (fun _ => rfl) (fun _ => rfl)
theorem zTA_mh1 {u : zS_} {b : Nat} (h : zTC u b) : zTA (mh1 u) b := by
  unfold zTC at h
  unfold zTA
  have e : mh1 u 24 0 = u 24 0 + 1 := ms_s
  have e8 : mh1 u 8 b = u 8 b := rfl
  have e10 : mh1 u 10 b = u 10 b := rfl
  have e11 : mh1 u 11 b = u 11 b := rfl
  rw [e, e8, e10, e11]
  intro z
  have := h z
  omega
theorem zPb_mturn {u : zS_} (hI : zIn u) (h : zPb u) {b : Nat} (hb : (b : Int) < u 13 0) (hA : zTA u b) : zPb (mturn u b) := by
  by_cases g : 0 ≤ u 9 b ∧ u 7 b < u 0 (1000 * u 14 (u 9 b).toNat + u 11 b).toNat
  · rw [zmt_y g]
    obtain ⟨a0, a1, a2⟩ := hI.2.2.1 b hb
    have a3 := a1 g.1
    have a4 := hA (by omega)
    generalize (u 6 b - (if u 6 b < 2 * u 4 b * (u 24 0 - u 10 b) then u 6 b else 2 * u 4 b * (u 24 0 - u 10 b))) = fu
    refine zPb_to h rfl rfl (fun i hi t => ?_) (fun c hc t => ?_) (fun _ => rfl) (fun _ => rfl)
    · unfold zTm at t ⊢
      by_cases e : i = b
      · subst e
        simp only [ms]; simp
        have := t.2.1 g.1
        omega
      · simp only [ms]; simp [e]; exact t
    · unfold zCl at t ⊢
      by_cases e : c = (u 9 b).toNat
      · subst e
        have t2 := t.2.1 (by omega)
        simp only [ms]; simp
        omega
      · have hne : u 17 c = 1 → (u 18 c).toNat ≠ b := by
          intro z q
          have t1 := t.1 z
          rw [q] at t1
          omega
        simp only [ms]; simp [e]
        refine ⟨fun z => ?_, t.2.1, t.2.2.1, t.2.2.2.1, t.2.2.2.2⟩
        have t1 := t.1 z
        rw [if_neg (hne z)]
        exact t1
  · rw [zmt_n g]; exact h
theorem zTA_mturn {u : zS_} (hI : zIn u) {b i : Nat} (hb : (b : Int) < u 13 0) (hA : zTA u b) (h : zTA u i) : zTA (mturn u b) i := by
  by_cases g : 0 ≤ u 9 b ∧ u 7 b < u 0 (1000 * u 14 (u 9 b).toNat + u 11 b).toNat
  · rw [zmt_y g]
    obtain ⟨a0, a1, a2⟩ := hI.2.2.1 b hb
    have a3 := a1 g.1
    have a4 := hA (by omega)
    generalize (u 6 b - (if u 6 b < 2 * u 4 b * (u 24 0 - u 10 b) then u 6 b else 2 * u 4 b * (u 24 0 - u 10 b))) = fu
    unfold zTA at h ⊢
    by_cases e : i = b
    · subst e
      simp only [ms]; simp
      omega
    · simp only [ms]; simp [e]; exact h
  · rw [zmt_n g]; exact h
theorem zPb_marr {u : zS_} (hI : zIn u) (h : zPb u) {b : Nat} (hb : (b : Int) < u 13 0) (hA : zTA u b) : zPb (marr u b) := by
  obtain ⟨a0, a1, a2⟩ := hI.2.2.1 b hb
  by_cases g : u 8 b = 1 ∧ u 11 b = u 24 0
  · have a4 := hA (by omega)
    by_cases g9 : 0 ≤ u 9 b
    · have a3 := a1 g9
      rw [marr_pay g g9 (by omega)]
      obtain ⟨h1, h2, h3⟩ := h
      refine ⟨fun i hi => ?_, fun c hc => ?_, ?_⟩
      · have t := h1 i hi
        unfold zTm at t ⊢
        by_cases e : i = b
        · subst e
          simp only [ms, zp]; simp
          have := t.2.1 g9
          omega
        · simp only [ms, zp]; simp [e]; exact t
      · have t := h2 c hc
        unfold zCl at t ⊢
        by_cases e : c = (u 9 b).toNat
        · subst e
          simp only [ms, zp]; simp
          omega
        · have hne : u 17 c = 1 → (u 18 c).toNat ≠ b := by
            intro z q
            have t1 := t.1 z
            rw [q] at t1
            omega
          simp only [ms, zp]; simp [e]
          refine ⟨fun z => ?_, t.2.1, t.2.2.1, t.2.2.2.1, t.2.2.2.2⟩
          have t1 := t.1 z
          rw [if_neg (hne z)]
          exact t1
      · have t := (h2 (u 9 b).toNat (by omega)).2.1 (by omega)
        have hs := zshare_3 (o := u 1 b) (u := u 12 b) (rw := mrew u b (u 9 b).toNat) (by omega)
        generalize mrew u b (u 9 b).toNat = rw at hs ⊢
        generalize u 6 b - 2 * mway (u 3 b) (u 14 (u 9 b).toNat) = fu
        have e1 : ∀ n, zrw (ms (ms (ms (ms (ms (zp u (fun x => zshare (u 1 b) (u 12 b) rw x)) 17 (u 9 b).toNat 2) 20 (u 9 b).toNat rw) 6 b fu) 9 b (-1)) 11 b (u 24 0 + (u 24 0 - u 10 b))) n = zrw (ms u 20 (u 9 b).toNat rw) n := fun n => zrw_c n (fun j _ => rfl)
        have e2 : zgot (ms (ms (ms (ms (ms (zp u (fun x => zshare (u 1 b) (u 12 b) rw x)) 17 (u 9 b).toNat 2) 20 (u 9 b).toNat rw) 6 b fu) 9 b (-1)) 11 b (u 24 0 + (u 24 0 - u 10 b))) = zgot u + rw := by
          show (u 22 0 + zshare (u 1 b) (u 12 b) rw 0) + (u 22 1 + zshare (u 1 b) (u 12 b) rw 1) + (u 22 2 + zshare (u 1 b) (u 12 b) rw 2) = zgot u + rw
          unfold zgot
          omega
        rw [e1, e2]
        show zgot u + rw = zrw (ms u 20 (u 9 b).toNat rw) (u 21 0).toNat
        rw [zrw_ms, if_pos (by omega), t, h3]
        omega
    · rw [marr_rest g g9]
      refine zPb_to h rfl rfl (fun i hi t => ?_) (fun c hc t => t) (fun _ => rfl) (fun _ => rfl)
      unfold zTm at t ⊢
      by_cases e : i = b
      · subst e
        have t1 := t.1 g.1
        simp only [ms]; simp
        omega
      · simp only [ms]; simp [e]; exact t
  · rw [marr_n g]; exact h
theorem zTA_marr {u : zS_} (hI : zIn u) {b i : Nat} (hb : (b : Int) < u 13 0) (hA : zTA u b) (h : zTA u i) : zTA (marr u b) i := by
  obtain ⟨a0, a1, a2⟩ := hI.2.2.1 b hb
  by_cases g : u 8 b = 1 ∧ u 11 b = u 24 0
  · have a4 := hA (by omega)
    by_cases g9 : 0 ≤ u 9 b
    · have a3 := a1 g9
      rw [marr_pay g g9 (by omega)]
      unfold zTA at h ⊢
      by_cases e : i = b
      · subst e
        simp only [ms, zp]; simp
        omega
      · simp only [ms, zp]; simp [e]; exact h
    · rw [marr_rest g g9]
      unfold zTA at h ⊢
      by_cases e : i = b
      · subst e
        simp only [ms]; simp
        omega
      · simp only [ms]; simp [e]; exact h
  · rw [marr_n g]; exact h
theorem zTB_marr {u : zS_} (hI : zIn u) {b : Nat} (hb : (b : Int) < u 13 0) (hA : zTA u b) : zTB (marr u b) b := by
  obtain ⟨a0, a1, a2⟩ := hI.2.2.1 b hb
  by_cases g : u 8 b = 1 ∧ u 11 b = u 24 0
  · have a4 := hA (by omega)
    by_cases g9 : 0 ≤ u 9 b
    · have a3 := a1 g9
      rw [marr_pay g g9 (by omega)]
      unfold zTB
      simp only [ms, zp]; simp
      omega
    · rw [marr_rest g g9]
      unfold zTB
      simp only [ms]; simp
      omega
  · rw [marr_n g]
    intro z
    have := hA z
    omega
theorem zTB_marr_o {u : zS_} (hI : zIn u) {b i : Nat} (hb : (b : Int) < u 13 0) (hi : i ≠ b) (h : zTB u i) : zTB (marr u b) i := by
  obtain ⟨a0, a1, a2⟩ := hI.2.2.1 b hb
  by_cases g : u 8 b = 1 ∧ u 11 b = u 24 0
  · by_cases g9 : 0 ≤ u 9 b
    · have a3 := a1 g9
      rw [marr_pay g g9 (by omega)]
      unfold zTB at h ⊢
      simp only [ms, zp]; simp [hi]; exact h
    · rw [marr_rest g g9]
      unfold zTB at h ⊢
      simp only [ms]; simp [hi]; exact h
  · rw [marr_n g]; exact h
theorem zPb_mfree {u : zS_} (h : zPb u) {b : Nat} : zPb (mfree u b) := by
  by_cases g : u 8 b = 2 ∧ u 11 b = u 24 0
  · rw [mfree_y g]
    refine zPb_to h rfl rfl (fun i hi t => ?_) (fun c hc t => t) (fun _ => rfl) (fun _ => rfl)
    unfold zTm at t ⊢
    by_cases e : i = b
    · subst e
      simp only [ms]; simp
      omega
    · simp only [ms]; simp [e]; exact t
  · rw [mfree_n g, ms_id]; exact h
theorem zTC_mfree {u : zS_} (hI : zIn u) {b : Nat} (hb : (b : Int) < u 13 0) (h : zTB u b) : zTC (mfree u b) b := by
  obtain ⟨a0, a1, a2⟩ := hI.2.2.1 b hb
  by_cases g : u 8 b = 2 ∧ u 11 b = u 24 0
  · rw [mfree_y g]
    intro z
    exact absurd (ms_s : ms u 8 b 0 8 b = 0) z
  · rw [mfree_n g, ms_id]
    intro z
    have := h z
    omega
theorem zT_mfree_o {u : zS_} {b i : Nat} (hi : i ≠ b) : (zTB u i → zTB (mfree u b) i) ∧ (zTC u i → zTC (mfree u b) i) := by
  have e8 : mfree u b 8 i = u 8 i := ms_j hi
  have e10 : mfree u b 10 i = u 10 i := rfl
  have e11 : mfree u b 11 i = u 11 i := rfl
  have e24 : mfree u b 24 0 = u 24 0 := rfl
  unfold zTB zTC
  rw [e8, e10, e11, e24]
  exact ⟨fun z => z, fun z => z⟩
theorem zPb_mlost {u : zS_} (h : zPb u) {c : Nat} : zPb (mlost u c) := by
  by_cases g : u 17 c = 0 ∧ u 16 c < u 24 0
  · rw [mlost_y g]
    refine zPb_to h rfl rfl (fun i hi t => t) (fun j hj t => ?_) (fun _ => rfl) (fun _ => rfl)
    unfold zCl at t ⊢
    by_cases e : j = c
    · subst e
      have t2 := t.2.1 (by omega)
      simp only [ms]; simp
      omega
    · simp only [ms]; simp [e]; exact t
  · rw [mlost_n g]; exact h
theorem zPb_mtasks {u : zS_} (hI : zIn u) (h : zPb u) {c : Nat} (hc : (c : Int) < u 21 0) (h0 : u 17 c = 0) : zPb (mtasks u c) := by
  by_cases hz : mbest u c (u 13 0).toNat < 0
  · rw [mtasks_n hz]; exact h
  · have hcan := mbest_can (u := u) (c := c) (u 13 0).toNat (by omega)
    have hr := mbest_r (u := u) (c := c) (u 13 0).toNat
    obtain ⟨bt, hbt⟩ : ∃ bt : Nat, mbest u c (u 13 0).toNat = (bt : Int) := ⟨(mbest u c (u 13 0).toNat).toNat, by omega⟩
    rw [hbt] at hcan hr
    rw [mtasks_y hbt]
    have hB := hI.2.2.1 bt (by have := hI.1; omega)
    have hC := hI.2.2.2 c hc
    unfold zIc at hC
    obtain ⟨a0, a1, a2⟩ := hB
    have hh := mhours_r (u := u) (b := bt) (c := c) (by omega)
    obtain ⟨⟨g1, g2, g3, g4⟩, -⟩ := hcan
    have g1 : u 8 bt = 0 := g1
    have g2 : mhours u bt c ≤ 5 := g2
    refine zPb_to h rfl rfl (fun i hi t => ?_) (fun j hj t => ?_) (fun _ => rfl) (fun _ => rfl)
    · unfold zTm at t ⊢
      by_cases e : i = bt
      · subst e
        simp only [ms]; simp
        omega
      · simp only [ms]; simp [e]; exact t
    · unfold zCl at t ⊢
      by_cases e : j = c
      · subst e
        have t2 := t.2.1 (by omega)
        simp only [ms]; simp
        omega
      · have hne : u 17 j = 1 → (u 18 j).toNat ≠ bt := by
          intro z q
          have t1 := t.1 z
          rw [q] at t1
          omega
        simp only [ms]; simp [e]
        refine ⟨fun z => ?_, t.2.1, t.2.2.1, t.2.2.2.1, t.2.2.2.2⟩
        have t1 := t.1 z
        rw [if_neg (hne z)]
        exact t1
theorem zTC_mtasks {u : zS_} (hI : zIn u) {c i : Nat} (hc : (c : Int) < u 21 0) (h : zTC u i) : zTC (mtasks u c) i := by
  by_cases hz : mbest u c (u 13 0).toNat < 0
  · rw [mtasks_n hz]; exact h
  · have hr := mbest_r (u := u) (c := c) (u 13 0).toNat
    obtain ⟨bt, hbt⟩ : ∃ bt : Nat, mbest u c (u 13 0).toNat = (bt : Int) := ⟨(mbest u c (u 13 0).toNat).toNat, by omega⟩
    rw [hbt] at hr
    rw [mtasks_y hbt]
    have hB := hI.2.2.1 bt (by have := hI.1; omega)
    have hC := hI.2.2.2 c hc
    unfold zIc at hC
    obtain ⟨a0, a1, a2⟩ := hB
    have hh := mhours_r (u := u) (b := bt) (c := c) (by omega)
    unfold zTC at h ⊢
    by_cases e : i = bt
    · subst e
      simp only [ms]; simp
      omega
    · simp only [ms]; simp [e]; exact h
theorem zPb_mcall {u : zS_} (hI : zIn u) (h : zPb u) {c : Nat} (hc : (c : Int) < u 21 0) : zPb (mcall u c) := by
  by_cases q : mlost u c 17 c = 0
  · rw [mcall_y q]; exact zPb_mtasks (zIn_mlost hI) (zPb_mlost h) (by rw [mlost_k (by decide)]; exact hc) q
  · rw [mcall_n q]; exact zPb_mlost h
theorem zTC_mcall {u : zS_} (hI : zIn u) {c i : Nat} (hc : (c : Int) < u 21 0) (h : zTC u i) : zTC (mcall u c) i := by
  have h1 : zTC (mlost u c) i := by
    unfold zTC at h ⊢
    rw [mlost_k (by decide), mlost_k (by decide), mlost_k (by decide), mlost_k (by decide)]
    exact h
  by_cases q : mlost u c 17 c = 0
  · rw [mcall_y q]; exact zTC_mtasks (zIn_mlost hI) (by rw [mlost_k (by decide)]; exact hc) h1
  · rw [mcall_n q]; exact h1
theorem m19_mcall {u : zS_} {c j : Nat} : mcall u c 19 j = u 19 j ∨ (j = c ∧ mcall u c 19 j = u 19 j + 1) := by
  by_cases q : mlost u c 17 c = 0
  · rw [mcall_y q]
    by_cases hz : mbest (mlost u c) c (mlost u c 13 0).toNat < 0
    · rw [mtasks_n hz, mlost_k (by decide)]; exact Or.inl rfl
    · obtain ⟨bt, hbt⟩ : ∃ bt : Nat, mbest (mlost u c) c (mlost u c 13 0).toNat = (bt : Int) := ⟨(mbest (mlost u c) c (mlost u c 13 0).toNat).toNat, by omega⟩
      rw [mtasks_y hbt, ms_kj]
      by_cases e : j = c
      · rw [if_pos e, mlost_k (by decide), e]; exact Or.inr ⟨rfl, rfl⟩
      · rw [if_neg e]
        left
        rw [ms_k (by decide), ms_k (by decide), ms_k (by decide), ms_k (by decide), ms_k (by decide), ms_k (by decide), ms_k (by decide), mlost_k (by decide)]
  · rw [mcall_n q, mlost_k (by decide)]; exact Or.inl rfl
