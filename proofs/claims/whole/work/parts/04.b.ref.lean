/-! the reference in the heap: an object at m0, its rows at aM -/
def mlen (k : Nat) : Nat := if k = 0 then 48000 else if k ≤ 12 then 6 else if k = 22 then 3 else 30
def mar (k : Nat) : Prop := k ≤ 22 ∧ k ≠ 13 ∧ k ≠ 21
def mA (tc : Nat → ClassId) (u : zS_) (k : Nat) : va_E := .inl (if k = 0 then tc 1 else tc 0, mlen k, .inl (fun j => zi (u k j)))
def mF (aM : Nat → Nat) (u : zS_) : List Value := [.ref (aM 0), .ref (aM 1), .ref (aM 2), .ref (aM 3), .ref (aM 4), .ref (aM 5), .ref (aM 6), .ref (aM 7), .ref (aM 8), .ref (aM 9), .ref (aM 10), .ref (aM 11), .ref (aM 12), .int (zi (u 13 0)), .ref (aM 14), .ref (aM 15), .ref (aM 16), .ref (aM 17), .ref (aM 18), .ref (aM 19), .ref (aM 20), .int (zi (u 21 0)), .ref (aM 22), .int (zi (u 23 0)), .int (zi (u 24 0)), .int (zi (u 25 0))]
def mR (tc : Nat → ClassId) (m0 : Nat) (aM : Nat → Nat) (u : zS_) (w : zW) : Prop := w m0 = some (.inr (7, mF aM u)) ∧ (∀ k, mar k → w (aM k) = some (mA tc u k)) ∧ ∀ j k, mar j → mar k → aM j = aM k → j = k
theorem upd_ms {u : zS_} {k i : Nat} {x : Int} : upd (fun j => zi (u k j)) i (zi x) = fun j => zi (ms u k i x k j) := by
  funext j
  rw [ms_kj]
  unfold upd
  by_cases h : j = i
  · rw [if_pos h, if_pos h]
  · rw [if_neg h, if_neg h]
theorem mF_arr {aM : Nat → Nat} {u : zS_} {k i : Nat} {x : Int} (hk : mar k) : mF aM (ms u k i x) = mF aM u := by
  obtain ⟨h1, h2, h3⟩ := hk
  unfold mF
  rw [ms_k (by omega), ms_k (by omega), ms_k (by omega), ms_k (by omega), ms_k (by omega)]
theorem mA_ne {tc : Nat → ClassId} {u : zS_} {k i j : Nat} {x : Int} (h : j ≠ k) : mA tc (ms u k i x) j = mA tc u j := by
  have e : (fun q => zi (ms u k i x j q)) = fun q => zi (u j q) := funext fun q => by rw [ms_k h]
  unfold mA
  rw [e]
theorem mR.m0 {tc : Nat → ClassId} {m0 : Nat} {aM : Nat → Nat} {u : zS_} {w : zW} (h : mR tc m0 aM u w) {k : Nat} (hk : mar k) : m0 ≠ aM k := zne h.1 (h.2.1 k hk) (by intro z; cases z)
theorem mR.set {tc : Nat → ClassId} {m0 : Nat} {aM : Nat → Nat} {u : zS_} {w : zW} (h : mR tc m0 aM u w) {k : Nat} (hk : mar k) (i : Nat) (x : Int) : mR tc m0 aM (ms u k i x) (zu w (aM k) (mA tc (ms u k i x) k)) := by
  refine ⟨?_, fun j hj => ?_, h.2.2⟩
  · rw [zu_ne (h.m0 hk), mF_arr hk]; exact h.1
  · by_cases e : j = k
    · subst e; exact zu_eq
    · rw [zu_ne (fun z => e (h.2.2 j k hj hk z)), mA_ne e]; exact h.2.1 j hj
theorem mR.seti {tc : Nat → ClassId} {m0 : Nat} {aM : Nat → Nat} {u : zS_} {w : zW} (h : mR tc m0 aM u w) {k : Nat} (hk : ¬ mar k) (x : Int) : mR tc m0 aM (ms u k 0 x) (zu w m0 (.inr (7, mF aM (ms u k 0 x)))) := by
  refine ⟨zu_eq, fun j hj => ?_, h.2.2⟩
  have e : j ≠ k := fun z => hk (z ▸ hj)
  rw [zu_ne (Ne.symm (h.m0 hj)), mA_ne e]; exact h.2.1 j hj
section ZM
variable {p : Program} {l : Launch} {e : Env} {R : Room} {s : State} {m : MethodId} {args : Array Value} {below : List Frame} {meth : Method} {c : Code} {H : Heap} {locs : List Loc} {cells slots : Nat} {Q : State → Prop}
variable {cc : ByteArray} {pc : Nat} {ls : Array Slot} {rest : List Value} {D : va_G} {A : Nat → Prop} {tc : Nat → ClassId} {m0 : Nat} {aM : Nat → Nat} {u : zS_}
/-- the reference is in this heap -/
def mH (D : va_G) (tc : Nat → ClassId) (A : Nat → Prop) (m0 : Nat) (aM : Nat → Nat) (u : zS_) (H : Heap) : Prop := ∃ w : zW, mR tc m0 aM u w ∧ zR D A w H
theorem m_get (hx : p.tables.exec = Jvm.exec) (hb : c.code = cc) {index : Nat} (hts : ∀ w ∈ u_ws RX6 TX6 26, w.before args s = true) (hown : s.vm.findClass RX6 = some m.cls) (hK : va_K D vwCl (zt tc) s) (hM : mH D tc A m0 aM u H) (k : Nat) (hk : k < 26) (hlink : (Cond.fieldLink RX6 index RX6 (TX6 k).2.1 (TX6 k).2.2.1).before args s = true) (hsame : ∀ x, s.fieldFound? (TX6 k).1 (TX6 k).2.1 (TX6 k).2.2.1 = some x → s.fieldFound? RX6 (TX6 k).2.1 (TX6 k).2.2.1 = some x) {v : Value} (hv : (mF aM u)[k]? = some v) (hdg : decode cc pc = .ok (.getfield index, 3))
    (kk : W p l e R s m args below meth c H locs cells slots Q (F0 m (pc + 3) ls (v :: rest))) : W p l e R s m args below meth c H locs cells slots Q (F0 m pc ls (.ref m0 :: rest)) := by
  obtain ⟨w, hm, hR⟩ := hM
  exact z_get hx hb hts hown hK hR hm.1 rfl k hk hlink hsame hv hdg kk
theorem m_put (hx : p.tables.exec = Jvm.exec) (hb : c.code = cc) {index : Nat} (hts : ∀ w ∈ u_ws RX6 TX6 26, w.before args s = true) (hown : s.vm.findClass RX6 = some m.cls) (hK : va_K D vwCl (zt tc) s) (hM : mH D tc A m0 aM u H) (hS : va_S A s.heap H locs) (k : Nat) (hk : k < 26) (hnk : ¬ mar k) (hlink : (Cond.fieldLink RX6 index RX6 (TX6 k).2.1 (TX6 k).2.2.1).before args s = true) (hsame : ∀ x, s.fieldFound? (TX6 k).1 (TX6 k).2.1 (TX6 k).2.2.1 = some x → s.fieldFound? RX6 (TX6 k).2.1 (TX6 k).2.2.1 = some x) (hfin : (TX6 k).2.2.2 = false) {x : Int} (hd : parseFieldDescriptor (TX6 k).2.2.1 = some .int) (hset : (mF aM u).set k (.int (zi x)) = mF aM (ms u k 0 x)) (hdg : decode cc pc = .ok (.putfield index, 3))
    (kk : ∀ (H : Heap) (locs : List Loc), mH D tc A m0 aM (ms u k 0 x) H → va_S A s.heap H locs → W p l e R s m args below meth c H locs cells slots Q (F0 m (pc + 3) ls rest)) : W p l e R s m args below meth c H locs cells slots Q (F0 m pc ls (.int (zi x) :: .ref m0 :: rest)) := by
  obtain ⟨w, hm, hR⟩ := hM
  exact z_put hx hb hts tyX6 tyX6_ok nmX6 hown hK hR hS hm.1 rfl k hk hlink hsame hfin hd rfl rfl hk hdg (fun H1 locs1 hR1 hS1 => kk H1 locs1 ⟨_, hm.seti hnk x, by rw [hset] at hR1; exact hR1⟩ hS1)
theorem m_iald (hx : p.tables.exec = Jvm.exec) (hb : c.code = cc) (hK : va_K D vwCl (zt tc) s) (hM : mH D tc A m0 aM u H) (k : Nat) (hk : mar k) (hk0 : k ≠ 0) {i v : Int} (hin : 0 ≤ i ∧ i < mlen k) (hv : u k i.toNat = v) (hdg : decode cc pc = .ok (.iaload, 1))
    (kk : W p l e R s m args below meth c H locs cells slots Q (F0 m (pc + 1) ls (.int (zi v) :: rest))) : W p l e R s m args below meth c H locs cells slots Q (F0 m pc ls (.int (zi i) :: .ref (aM k) :: rest)) := by
  obtain ⟨w, hm, hR⟩ := hM
  have h1 := hm.2.1 k hk
  unfold mA at h1
  rw [if_neg hk0] at h1
  subst hv
  have hl : mlen k ≤ 48000 := by unfold mlen; split <;> (try split) <;> (try split) <;> omega
  exact z_iald hx hb hK hR 0 h1 rfl ⟨hin.1, hin.2, by omega⟩ hdg kk
theorem m_iast (hx : p.tables.exec = Jvm.exec) (hb : c.code = cc) (hK : va_K D vwCl (zt tc) s) (hM : mH D tc A m0 aM u H) (hS : va_S A s.heap H locs) (k : Nat) (hk : mar k) (hk0 : k ≠ 0) {i x : Int} (hin : 0 ≤ i ∧ i < mlen k) (hdg : decode cc pc = .ok (.iastore, 1))
    (kk : ∀ (H : Heap) (locs : List Loc), mH D tc A m0 aM (ms u k i.toNat x) H → va_S A s.heap H locs → W p l e R s m args below meth c H locs cells slots Q (F0 m (pc + 1) ls rest)) : W p l e R s m args below meth c H locs cells slots Q (F0 m pc ls (.int (zi x) :: .int (zi i) :: .ref (aM k) :: rest)) := by
  obtain ⟨w, hm, hR⟩ := hM
  have h1 := hm.2.1 k hk
  unfold mA at h1
  rw [if_neg hk0] at h1
  have hl : mlen k ≤ 48000 := by unfold mlen; split <;> (try split) <;> (try split) <;> omega
  refine z_iast hx hb hK hR hS 0 h1 rfl ⟨hin.1, hin.2, by omega⟩ hdg (fun H1 locs1 hR1 hS1 => kk H1 locs1 ⟨_, hm.set hk i.toNat x, ?_⟩ hS1)
  rw [upd_ms] at hR1
  unfold mA
  rw [if_neg hk0]
  exact hR1
theorem m_bald (hx : p.tables.exec = Jvm.exec) (hb : c.code = cc) (hK : va_K D vwCl (zt tc) s) (hM : mH D tc A m0 aM u H) {i v : Int} (hin : 0 ≤ i ∧ i < 48000) (hv : u 0 i.toNat = v) (hdg : decode cc pc = .ok (.baload, 1))
    (kk : W p l e R s m args below meth c H locs cells slots Q (F0 m (pc + 1) ls (.int (zi v) :: rest))) : W p l e R s m args below meth c H locs cells slots Q (F0 m pc ls (.int (zi i) :: .ref (aM 0) :: rest)) := by
  obtain ⟨w, hm, hR⟩ := hM
  have h1 := hm.2.1 0 ⟨by decide, by decide, by decide⟩
  unfold mA at h1
  rw [if_pos rfl] at h1
  subst hv
  exact z_bald hx hb hK hR 1 h1 rfl ⟨hin.1, hin.2, by decide⟩ hdg kk
theorem m_bast (hx : p.tables.exec = Jvm.exec) (hb : c.code = cc) (hK : va_K D vwCl (zt tc) s) (hM : mH D tc A m0 aM u H) (hS : va_S A s.heap H locs) {i x : Int} {y : Int32} (hin : 0 ≤ i ∧ i < 48000) (hy : vp_nar .byte y = zi x) (hdg : decode cc pc = .ok (.bastore, 1))
    (kk : ∀ (H : Heap) (locs : List Loc), mH D tc A m0 aM (ms u 0 i.toNat x) H → va_S A s.heap H locs → W p l e R s m args below meth c H locs cells slots Q (F0 m (pc + 1) ls rest)) : W p l e R s m args below meth c H locs cells slots Q (F0 m pc ls (.int y :: .int (zi i) :: .ref (aM 0) :: rest)) := by
  obtain ⟨w, hm, hR⟩ := hM
  have hk : mar 0 := ⟨by decide, by decide, by decide⟩
  have h1 := hm.2.1 0 hk
  unfold mA at h1
  rw [if_pos rfl] at h1
  refine z_bast hx hb hK hR hS 1 h1 rfl ⟨hin.1, hin.2, by decide⟩ hdg (fun H1 locs1 hR1 hS1 => kk H1 locs1 ⟨_, hm.set hk i.toNat x, ?_⟩ hS1)
  rw [hy, upd_ms] at hR1
  unfold mA
  rw [if_pos rfl]
  exact hR1
theorem m_recv (hK : va_K D vwCl (zt tc) s) (hM : mH D tc A m0 aM u H) : ∃ cell : Cell, H[m0]? = some cell ∧ cell.vm.isStatics = false ∧ s.vm.findClass RX6 = some cell.cls := by
  obtain ⟨w, hm, hR⟩ := hM
  exact z_recv hK hR hm.1 rfl
end ZM
