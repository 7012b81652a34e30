/-! lists at a call: size, get, add through the interface -/
section ZLL
variable {p : Program} {l : Launch} {e : Env} {R : Room} {s : State} {m : MethodId} {args : Array Value} {below : List Frame} {meth : Method} {c : Code} {H : Heap} {locs : List Loc} {cells slots : Nat} {Q : State → Prop}
variable {cc : ByteArray} {pc : Nat} {ls : Array Slot} {rest : List Value} {S : State} {D : va_G} {A : Nat → Prop} {tc : Nat → ClassId} {dz : Nat} {nL : Nat} {own : String} {index count : Nat} {w : zW} {la n : Nat} {a : Nat → Nat}
theorem z_sizeL (hZ : zB S D tc A dz) (X : zH S A p s m c cc nL own) (hK : va_K D vwCl (zt tc) s) (hlv : ls.size = nL) (hL : zLi tc dz w la n a) (hR : zR D A w H) (hS : va_S A s.heap H locs) (hlink : (Cond.methodLink own index ⟨"java/util/List", "size", "()I"⟩).before args s = true) (hR1 : 1 + 1 ≤ R.frames ∧ 8 + (1 + 11) + 20 ≤ R.locals) (hf : cells ≤ R.cells ∧ slots ≤ R.slots) (hrest : (rest.map fun v => v.category).sum ≤ 8) (hdg : decode cc pc = .ok (.invokeinterface index count, 5))
    (kk : ∀ (H : Heap) (locs : List Loc), zR D A w H → va_S A s.heap H locs → W p l e R s m args below meth c H locs cells slots Q (F0 m (pc + 5) ls (.int (zi (n : Int)) :: rest))) : W p l e R s m args below meth c H locs cells slots Q (F0 m pc ls (.ref la :: rest)) := by
  obtain ⟨mo, ea, cap, el, h1, -⟩ := hL
  refine z_invF (n := 0) (C := RJx4a65c) (hK.1 0 _ rfl).2 (c_Jx4a65c_size_8abf5 l hZ h1) X hS hR hlv (q_223 hZ.1 X.2.2.2.2.1) (q_6 hZ.1 X.2.2.2.2.1) hlink (q_221 hZ.1 X.2.2.2.2.1) (q_219 hZ.1 X.2.2.2.2.1) (z_Fw_size hZ.1 X.2.2.2.2.1) (z_recv hK hR h1 rfl) (by decide +kernel) rfl hR1 hf hrest hdg (fun v H1 locs1 hv hS1 => ?_) rfl
  obtain ⟨rfl, hR1⟩ := hv
  exact kk H1 locs1 hR1 hS1
theorem z_getL (hZ : zB S D tc A dz) (X : zH S A p s m c cc nL own) (hK : va_K D vwCl (zt tc) s) (hlv : ls.size = nL) (hL : zLi tc dz w la n a) (hR : zR D A w H) (hS : va_S A s.heap H locs) {i : Int} (hi : 0 ≤ i ∧ i < n) (hlink : (Cond.methodLink own index ⟨"java/util/List", "get", "(I)Ljava/lang/Object;"⟩).before args s = true) (hR1 : 3 + 1 ≤ R.frames ∧ 8 + (2 + 11) + 80 ≤ R.locals) (hf : cells ≤ R.cells ∧ slots ≤ R.slots) (hrest : (rest.map fun v => v.category).sum ≤ 8) (hdg : decode cc pc = .ok (.invokeinterface index count, 5))
    (kk : ∀ (H : Heap) (locs : List Loc), zR D A w H → va_S A s.heap H locs → W p l e R s m args below meth c H locs cells slots Q (F0 m (pc + 5) ls (.ref (a i.toNat) :: rest))) : W p l e R s m args below meth c H locs cells slots Q (F0 m pc ls (.int (zi i) :: .ref la :: rest)) := by
  obtain ⟨mo, ea, cap, el, h1, h2, h3, h4, h5⟩ := hL
  have h6 : 10 ≤ cap ∧ 1 ≤ n ∧ w ea = some (zAr tc cap el) := by
    rcases h5 with h5 | h5
    · omega
    · exact h5
  have hc : cap ≤ 33 := by unfold zcap at h3; omega
  refine z_invF (n := 1) (C := RJx4a65c) (hK.1 0 _ rfl).2 (c_Jx4a65c_get_915e3 l hZ h1 h6.2.2 (i := i) (by omega)) X hS hR hlv (q_374 hZ.1 X.2.2.2.2.1) (q_6 hZ.1 X.2.2.2.2.1) hlink (q_372 hZ.1 X.2.2.2.2.1) (q_370 hZ.1 X.2.2.2.2.1) (z_Fw_get hZ.1 X.2.2.2.2.1) (z_recv hK hR h1 rfl) (by decide +kernel) rfl hR1 hf hrest hdg (fun v H1 locs1 hv hS1 => ?_) rfl
  obtain ⟨rfl, hR1⟩ := hv
  rw [h4 i.toNat (by omega)]
  exact kk H1 locs1 hR1 hS1
/-- the world behind an add: the list is one longer, all but its own two cells is kept -/
def zAdd (tc : Nat → ClassId) (dz : Nat) (w w' : zW) (la n : Nat) (a : Nat → Nat) (eo : Nat) : Prop :=
  zLi tc dz w' la (n + 1) (fun j => if j = n then eo else a j) ∧ (∀ q e', w q = some e' → (∀ f, e' ≠ .inr (0, f)) → (∀ c el, e' ≠ zAr tc c el) → w' q = some e') ∧
  ∀ la2 n2 a2 e1 e2, la2 ≠ la → zLi tc dz w la2 n2 a2 → (1 ≤ n → w (a 0) = some e1) → (1 ≤ n2 → w (a2 0) = some e2) → e1 ≠ e2 → zLi tc dz w' la2 n2 a2
theorem zadd_mk {w' : zW} {mo mo' : Int} {ea ea' cap cap' eo : Nat} {el el' : Nat → Option Nat} (h1 : w la = some (zLs mo ea n)) (h4 : ∀ i, i < n → el i = some (a i)) (h5 : (cap = 0 ∧ ea = dz) ∨ (10 ≤ cap ∧ 1 ≤ n ∧ w ea = some (zAr tc cap el)))
    (hw : w' = zu (zu w ea' (zAr tc cap' el')) la (zLs mo' ea' (n + 1))) (hea : (ea' = ea ∧ 10 ≤ cap) ∨ ∀ (q' : Nat) (e' : va_E), w q' = some e' → q' ≠ ea') (hc : n + 1 ≤ cap' ∧ 10 ≤ cap' ∧ zcap cap') (he : ∀ i, i < n → el' i = el i) (hn : el' n = some eo) : zAdd tc dz w w' la n a eo := by
  have hla : la ≠ ea' := by
    rcases hea with ⟨rfl, q⟩ | q
    · rcases h5 with h5 | h5
      · omega
      · exact zne h1 h5.2.2 (by intro z; cases z)
    · exact q _ _ h1
  have hkeep : ∀ q e', w q = some e' → q ≠ la → q ≠ ea' → w' q = some e' := fun q e' hq z1 z2 => by rw [hw, zu_ne z1, zu_ne z2]; exact hq
  refine ⟨⟨mo', ea', cap', el', by rw [hw]; exact zu_eq, hc.1, hc.2.2, fun i hi => ?_, Or.inr ⟨hc.2.1, by omega, by rw [hw, zu_ne (Ne.symm hla)]; exact zu_eq⟩⟩, fun q e' hq z1 z2 => ?_, fun la2 n2 a2 e1 e2 hl2 hL2 g1 g2 hne => ?_⟩
  · show el' i = some (if i = n then eo else a i)
    by_cases hi2 : i = n
    · rw [if_pos hi2, hi2]; exact hn
    · rw [if_neg hi2, he i (by omega)]; exact h4 i (by omega)
  · refine hkeep q e' hq (zne hq h1 (z1 _)) ?_
    rcases hea with ⟨rfl, q9⟩ | q9
    · rcases h5 with h5 | h5
      · omega
      · exact zne hq h5.2.2 (z2 _ _)
    · exact q9 _ _ hq
  · obtain ⟨m2, ea2, cap2, el2, k1, k2, k3, k4, k5⟩ := hL2
    refine ⟨m2, ea2, cap2, el2, hkeep _ _ k1 hl2 ?_, k2, k3, k4, ?_⟩
    · rcases hea with ⟨rfl, q9⟩ | q9
      · rcases h5 with h5 | h5
        · omega
        · exact zne k1 h5.2.2 (by intro z; cases z)
      · exact q9 _ _ k1
    · rcases k5 with k5 | k5
      · exact Or.inl k5
      · refine Or.inr ⟨k5.1, k5.2.1, hkeep _ _ k5.2.2 (zne k5.2.2 h1 (by intro z; cases z)) ?_⟩
        rcases hea with ⟨rfl, q9⟩ | q9
        · rcases h5 with h5 | h5
          · omega
          · intro z
            have t1 := k5.2.2
            rw [z, h5.2.2] at t1
            have t2 := Option.some.inj t1
            injection t2 with t2
            injection t2 with _ t2
            injection t2 with _ t2
            injection t2 with t2
            injection t2 with t2
            injection t2 with t2
            injection t2 with t2
            have t3 := h4 0 (by omega)
            rw [t2, k4 0 (by omega)] at t3
            have t4 := Option.some.inj t3
            have t5 := g1 (by omega)
            have t6 := g2 (by omega)
            rw [t4, t5] at t6
            exact hne (Option.some.inj t6)
        · exact q9 _ _ k5.2.2
theorem z_addL (hZ : zB S D tc A dz) (X : zH S A p s m c cc nL own) (hK : va_K D vwCl (zt tc) s) (hlv : ls.size = nL) (hL : zLi tc dz w la n a) (hR : zR D A w H) (hS : va_S A s.heap H locs) {eo cio : Nat} {fo : List Value} (hn : n ≤ 32) (hel : ∀ i, i < n → ∃ ci fs, (ci = 1 ∨ ci = 2 ∨ ci = 3) ∧ w (a i) = some (.inr (ci, fs))) (heo : w eo = some (.inr (cio, fo))) (hcio : cio = 1 ∨ cio = 2 ∨ cio = 3) (hlink : (Cond.methodLink own index ⟨"java/util/List", "add", "(Ljava/lang/Object;)Z"⟩).before args s = true) (hR1 : 7 + 1 ≤ R.frames ∧ 8 + (2 + 11) + 260 ≤ R.locals) (hf : cells + 1 ≤ R.cells ∧ slots + 33 ≤ R.slots) (hrest : (rest.map fun v => v.category).sum ≤ 8) (hdg : decode cc pc = .ok (.invokeinterface index count, 5))
    (kk : ∀ (H : Heap) (locs : List Loc) (w' : zW), zAdd tc dz w w' la n a eo → zR D A w' H → va_S A s.heap H locs → W p l e R s m args below meth c H locs (cells + 1) (slots + 33) Q (F0 m (pc + 5) ls (.int (zi 1) :: rest))) : W p l e R s m args below meth c H locs cells slots Q (F0 m pc ls (.ref eo :: .ref la :: rest)) := by
  obtain ⟨mo, ea, cap, el, h1, h2, h3, h4, h5⟩ := hL
  by_cases hfull : n = cap
  · rcases h5 with h5 | h5
    · obtain ⟨rfl, rfl⟩ := h5
      subst hfull
      refine z_invF (n := 1) (C := RJx4a65c) (hK.1 0 _ rfl).2 (c_addE l hZ h1 heo hcio) X hS hR hlv (q_303 hZ.1 X.2.2.2.2.1) (q_6 hZ.1 X.2.2.2.2.1) hlink (q_301 hZ.1 X.2.2.2.2.1) (q_299 hZ.1 X.2.2.2.2.1) (z_Fw_add hZ.1 X.2.2.2.2.1) (z_recv hK hR h1 rfl) (by decide +kernel) rfl hR1 hf hrest hdg (fun v H1 locs1 hv hS1 => ?_) rfl
      obtain ⟨rfl, q, hfr, hR1⟩ := hv
      exact kk H1 locs1 _ (zadd_mk (cap := 0) (el := el) h1 h4 (Or.inl ⟨rfl, rfl⟩) rfl (Or.inr hfr) ⟨by omega, by omega, by unfold zcap; omega⟩ (fun i hi => absurd hi (Nat.not_lt_zero i)) (if_pos rfl)) hR1 hS1
    · subst hfull
      have h6 : n = 10 ∨ n = 15 ∨ n = 22 := by unfold zcap at h3; omega
      refine z_invF (n := 1) (C := RJx4a65c) (hK.1 0 _ rfl).2 (c_addG l hZ h1 h5.2.2 h6 (fun i hi y hy => ?_) heo hcio) X hS hR hlv (q_303 hZ.1 X.2.2.2.2.1) (q_6 hZ.1 X.2.2.2.2.1) hlink (q_301 hZ.1 X.2.2.2.2.1) (q_299 hZ.1 X.2.2.2.2.1) (z_Fw_add hZ.1 X.2.2.2.2.1) (z_recv hK hR h1 rfl) (by decide +kernel) rfl hR1 hf hrest hdg (fun v H1 locs1 hv hS1 => ?_) rfl
      · have := h4 i hi
        rw [hy] at this
        cases this
        exact hel i hi
      · obtain ⟨rfl, q, hfr, hR1⟩ := hv
        exact kk H1 locs1 _ (zadd_mk h1 h4 (Or.inr h5) rfl (Or.inr hfr) ⟨by omega, by omega, by unfold zcap; omega⟩ (fun i hi => by rw [show va_up (va_cpy el (fun _ => none) 0 0 n) n (some eo) i = va_cpy el (fun _ => none) 0 0 n i from if_neg (by omega)]; exact (pk_cpy_in (Nat.zero_le i) (by omega)).trans (by rw [Nat.zero_add, Nat.sub_zero])) (if_pos rfl)) hR1 hS1
  · have h6 : 10 ≤ cap ∧ 1 ≤ n ∧ w ea = some (zAr tc cap el) := by
      rcases h5 with h5 | h5
      · omega
      · exact h5
    have hc : cap ≤ 33 := by unfold zcap at h3; omega
    refine W.widen (k := cells + 1) (n := slots + 33) (by omega) (by omega) ?_
    refine z_invF (n := 1) (C := RJx4a65c) (hK.1 0 _ rfl).2 (c_addR l hZ h1 h6.2.2 ⟨by omega, hc⟩ heo hcio) X hS hR hlv (q_303 hZ.1 X.2.2.2.2.1) (q_6 hZ.1 X.2.2.2.2.1) hlink (q_301 hZ.1 X.2.2.2.2.1) (q_299 hZ.1 X.2.2.2.2.1) (z_Fw_add hZ.1 X.2.2.2.2.1) (z_recv hK hR h1 rfl) (by decide +kernel) rfl ⟨Nat.le_trans (by show 2 + 1 ≤ 7 + 1; omega) hR1.1, Nat.le_trans (by show 8 + (2 + 11) + 60 ≤ 8 + (2 + 11) + 260; omega) hR1.2⟩ hf hrest hdg (fun v H1 locs1 hv hS1 => ?_) rfl
    obtain ⟨rfl, hR1⟩ := hv
    exact kk H1 locs1 _ (zadd_mk (el' := va_up el n (some eo)) (mo' := mo + 1) (cap' := cap) h1 h4 (Or.inr h6) rfl (Or.inl ⟨rfl, h6.1⟩) ⟨by omega, h6.1, h3⟩ (fun i hi => if_neg (by omega)) (if_pos rfl)) hR1 hS1
end ZLL

