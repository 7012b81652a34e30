/-! what holds at the base: the law's start -/
def zstr : List Nat := [59, 89, 96, 102, 245, 248, 250, 252, 254]
def zSt (S : State) (dz : Nat) : Prop :=
  va_Z "java/util/ArrayList" "DEFAULTCAPACITY_EMPTY_ELEMENTDATA" "[Ljava/lang/Object;" (.ref dz) (fun q => S.heap.size ≤ q) S S.heap ∧
  va_T (.object "java/lang/Object") dz 0 (fun _ => .null) (fun q => S.heap.size ≤ q) S S.heap ∧
  vx_Zq Bundle.tN "UNASSIGNED_STACK" Bundle.steD (fun q => S.heap.size ≤ q) S S.heap ∧
  vx_Zq Bundle.tN "SUPPRESSED_SENTINEL" Bundle.listD (fun q => S.heap.size ≤ q) S S.heap ∧
  (∃ mi : Nat, va_Mi "[Ljava/lang/Object;" mi S) ∧
  ∀ (k : Nat) (tx : String), k ∈ zstr → (Cond.stringRef RX5 k tx).before #[] S = true → ∃ sa : Nat, vk_R RX5 k tx sa S
def zB (S : State) (D : va_G) (tc : Nat → ClassId) (A : Nat → Prop) (dz : Nat) : Prop := zT S ∧ va_K D vwCl (zt tc) S ∧ (∀ q, A q → S.heap.size ≤ q) ∧ zSt S dz
theorem z_Fw_size {S s : State} (hT : zT S) (hW : S.WarmedH s.vm) : va_Fw "java/util/ArrayList" ⟨"java/util/List", "size", "()I"⟩ yJx4a65c_size_8abf5 s :=
  va_Fw.moved ⟨by decide +kernel, by decide +kernel⟩ hW.alike (va_Fw.of (q_217 hT) (q_216 hT) (q_222 hT) (q_220 hT) (va_Nw.use rfl (q_218 hT (State.WarmedH.refl S))))
theorem z_Fw_get {S s : State} (hT : zT S) (hW : S.WarmedH s.vm) : va_Fw "java/util/ArrayList" ⟨"java/util/List", "get", "(I)Ljava/lang/Object;"⟩ yJx4a65c_get_915e3 s :=
  va_Fw.moved ⟨by decide +kernel, by decide +kernel⟩ hW.alike (va_Fw.of (q_369 hT) (q_368 hT) (q_373 hT) (q_371 hT) (va_Nw.use rfl (q_218 hT (State.WarmedH.refl S))))
theorem z_Fw_add {S s : State} (hT : zT S) (hW : S.WarmedH s.vm) : va_Fw "java/util/ArrayList" ⟨"java/util/List", "add", "(Ljava/lang/Object;)Z"⟩ yJx4a65c_add_9ea2d s :=
  va_Fw.moved ⟨by decide +kernel, by decide +kernel⟩ hW.alike (va_Fw.of (q_298 hT) (q_297 hT) (q_302 hT) (q_300 hT) (va_Nw.use rfl (q_218 hT (State.WarmedH.refl S))))
section ZMM
variable {p : Program} {l : Launch} {e : Env} {R : Room} {s : State} {m : MethodId} {args : Array Value} {below : List Frame} {meth : Method} {c : Code} {H : Heap} {locs : List Loc} {cells slots : Nat} {Q : State → Prop}
variable {cc : ByteArray} {pc : Nat} {ls : Array Slot} {rest : List Value} {a b : Int} {S : State} {nL : Nat} {A : Nat → Prop} {own : String} {index : Nat}
theorem z_abs (hT : zT S) (X : zH S A p s m c cc nL own) (hlv : ls.size = nL) (hlink : (Cond.methodLink own index Lib.Math.abs.name).before args s = true) (h : -2147483647 ≤ a ∧ a ≤ 2147483647) (hframes : 1 ≤ R.frames) (hlocals : (rest.map fun v => v.category).sum + 13 ≤ R.locals) (hc : cells ≤ R.cells) (hs : slots ≤ R.slots) (hdg : decode cc pc = .ok (.invokestatic index, 3))
    (k : W p l e R s m args below meth c H locs cells slots Q (F0 m (pc + 3) ls (.int (zi (if 0 ≤ a then a else -a)) :: rest))) : W p l e R s m args below meth c H locs cells slots Q (F0 m pc ls (.int (zi a) :: rest)) := by
  have e1 : (if 0 ≤ zi a then zi a else 0 - zi a) = zi (if 0 ≤ a then a else -a) := by
    by_cases h0 : 0 ≤ a
    · rw [if_pos h0, if_pos (by rw [← zi_0, zi_le (by omega)]; exact h0)]
    · rw [if_neg h0, if_neg (by rw [← zi_0, zi_le (by omega)]; exact h0), ← zi_0, zi_sub]
      congr 1; omega
  exact va_mabs X.1 X.2.1 (X.2.2.1.trans hlv.symm) X.2.2.2.1 hlink (q_499 hT X.2.2.2.2.1) (q_15 hT X.2.2.2.2.1) (q_500 hT X.2.2.2.2.1) hframes hlocals hc hs hdg (by rw [e1]; exact k)
theorem z_max (hT : zT S) (X : zH S A p s m c cc nL own) (hlv : ls.size = nL) (hlink : (Cond.methodLink own index Lib.Math.max.name).before args s = true) (h : -2147483648 ≤ a ∧ a ≤ 2147483647 ∧ -2147483648 ≤ b ∧ b ≤ 2147483647) (hframes : 1 ≤ R.frames) (hlocals : (rest.map fun v => v.category).sum + 13 ≤ R.locals) (hc : cells ≤ R.cells) (hs : slots ≤ R.slots) (hdg : decode cc pc = .ok (.invokestatic index, 3))
    (k : W p l e R s m args below meth c H locs cells slots Q (F0 m (pc + 3) ls (.int (zi (max a b)) :: rest))) : W p l e R s m args below meth c H locs cells slots Q (F0 m pc ls (.int (zi b) :: .int (zi a) :: rest)) := by
  have e1 : (if zi a < zi b then zi b else zi a) = zi (max a b) := by
    by_cases h0 : a < b
    · rw [if_pos (by rw [zi_lt h]; exact h0)]
      congr 1; omega
    · rw [if_neg (by rw [zi_lt h]; exact h0)]
      congr 1; omega
  exact va_mmax X.1 X.2.1 (X.2.2.1.trans hlv.symm) X.2.2.2.1 hlink (q_320 hT X.2.2.2.2.1) (q_15 hT X.2.2.2.2.1) (q_321 hT X.2.2.2.2.1) hframes hlocals hc hs hdg (by rw [e1]; exact k)
theorem z_min (hT : zT S) (X : zH S A p s m c cc nL own) (hlv : ls.size = nL) (hlink : (Cond.methodLink own index Lib.Math.min.name).before args s = true) (h : -2147483648 ≤ a ∧ a ≤ 2147483647 ∧ -2147483648 ≤ b ∧ b ≤ 2147483647) (hframes : 1 ≤ R.frames) (hlocals : (rest.map fun v => v.category).sum + 13 ≤ R.locals) (hc : cells ≤ R.cells) (hs : slots ≤ R.slots) (hdg : decode cc pc = .ok (.invokestatic index, 3))
    (k : W p l e R s m args below meth c H locs cells slots Q (F0 m (pc + 3) ls (.int (zi (min a b)) :: rest))) : W p l e R s m args below meth c H locs cells slots Q (F0 m pc ls (.int (zi b) :: .int (zi a) :: rest)) := by
  have e1 : (if zi b < zi a then zi b else zi a) = zi (min a b) := by
    by_cases h0 : b < a
    · rw [if_pos (by rw [zi_lt (by omega)]; exact h0)]
      congr 1; omega
    · rw [if_neg (by rw [zi_lt (by omega)]; exact h0)]
      congr 1; omega
  exact va_mmin X.1 X.2.1 (X.2.2.1.trans hlv.symm) X.2.2.2.1 hlink (q_350 hT X.2.2.2.2.1) (q_15 hT X.2.2.2.2.1) (q_351 hT X.2.2.2.2.1) hframes hlocals hc hs hdg (by rw [e1]; exact k)
end ZMM

