/-! the law's loop -/
set_option maxHeartbeats 4000000 in
set_option maxRecDepth 100000 in
theorem whole_loop {p : Program} {l : Launch} {e : Env} {s : State} {m : MethodId} {below : List Frame} {meth : Method} {c : Code} {b L : Nat} {xs : Nat → Int32} {D : va_G} {tc : Nat → ClassId} {dz m0 : Nat} {aM : Nat → Nat} {o o2 : Nat} {ad : Nat → Nat} (hst : l.stackTraces = false) (hL : L ≤ 3072) (C0 : lw_At p s m meth c b L xs) (hLA : zLA s D tc dz m0 aM o o2) : ∀ (fu kk : Nat) (u : zS_) (H : Heap) (locs : List Loc) (ls : Array Slot) (cells slots : Nat), 3072 < fu + 6 * kk → 6 * kk ≤ L → cells ≤ 100 + 600 * kk → slots ≤ 52000 + 10960 * kk → zIn u → zUn u → zLw s D tc dz ad m0 aM o o2 u H → va_S (fun q => s.heap.size ≤ q) s.heap H locs → lv_has ls 8 [(5, .int (zi (6 * (kk : Int)))), (4, .ref o2), (3, .ref o), (2, .ref m0), (1, .ref (ad 0)), (0, .ref b)] → W p l e room_1 s m #[Value.ref b] below meth c H locs cells slots (lw_Z below #[Value.ref b] s) (F0 m 28 ls []) := by
  obtain ⟨hx, hb, hr, hml, hown, hts, hX, hbl, hlocks, hpre⟩ := id C0
  have hbA : ¬ (fun q => s.heap.size ≤ q) b := fun z => absurd z (by show ¬ s.heap.size ≤ b; omega)
  intro fu
  induction fu with
  | zero => intro kk u H locs ls cells slots h1 h2; omega
  | succ fu ih =>
    intro kk u H locs ls cells slots h1 h2 hce hsl hI hU hw hS hl
    refine lv_iload hx hb dL_law_28 (lv_at hl 0 rfl) ?_
    refine lv_aload_n hx hb dL_law_30 rfl (lv_at hl 5 rfl) ?_
    refine va_slen hx hb hX hbl hbA hS dL_law_31 ?_
    rw [show Int32.ofNat L = zi (L : Int) from Int32.ofInt_eq_ofNat.symm]
    refine lv_bipush (v := zi (6)) hx hb dL_law_32 rfl ?_
    refine z_isub (a := (L : Int)) (b := 6) hx hb dL_law_34 ?_
    refine z_icmp_gt (a := 6 * (kk : Int)) (b := (L : Int) - 6) (tgt := 976) hx hb dL_law_35 (by decide) (by omega) (fun hg => ?_) (fun hg => ?_)
    · refine lv_iconst (v := 1) hx hb dL_law_976 (by decide) ?_
      refine va_forget (fun q hq => hS.2.2 q hq) ?_
      refine W.widen (k := 601024) (n := 7293034) (by omega) (by omega) ?_
      exact W.base (lw_ret (Drawn.sameBut.refl s.drawn lw_cs) hx hb hr hlocks dL_law_977)
    · have hkk : 6 * kk + 6 ≤ L := by omega
      have kq : ∀ (u' : zS_) (H : Heap) (locs : List Loc) (ls : Array Slot) (cells' slots' : Nat), cells' ≤ cells + 600 → slots' ≤ slots + 10960 → zIn u' → zUn u' → zLw s D tc dz ad m0 aM o o2 u' H → va_S (fun q => s.heap.size ≤ q) s.heap H locs → lv_has ls 8 [(5, .int (zi (6 * (kk : Int)))), (4, .ref o2), (3, .ref o), (2, .ref m0), (1, .ref (ad 0)), (0, .ref b)] → W p l e room_1 s m #[Value.ref b] below meth c H locs cells' slots' (lw_Z below #[Value.ref b] s) (F0 m 970 ls []) := by
        intro u' H locs ls cells' slots' hc9 hs9 hI hU hw hS hl
        refine z_iinc (a := 6 * (kk : Int)) (n := 6) (lv' := [(5, .int (zi (6 * (kk : Int) + 6))), (4, .ref o2), (3, .ref o), (2, .ref m0), (1, .ref (ad 0)), (0, .ref b)]) hx hb dL_law_970 hl (k := 0) rfl (by decide) rfl (fun ls hl => ?_)
        refine lv_goto (tgt := 28) hx hb dL_law_973 (by decide) ?_
        rw [show 6 * (kk : Int) + 6 = 6 * ((kk + 1 : Nat) : Int) by omega] at hl
        exact ih (kk + 1) u' H locs ls cells' slots' (by omega) (by omega) (by omega) (by omega) hI hU hw hS hl
      obtain ⟨a0, r0, e0⟩ := zi_ex (xs (6 * kk))
      obtain ⟨a1, r1, e1⟩ := zi_ex (xs (6 * kk + 1))
      obtain ⟨a2, r2, e2⟩ := zi_ex (xs (6 * kk + 2))
      obtain ⟨a3, r3, e3⟩ := zi_ex (xs (6 * kk + 3))
      obtain ⟨a4, r4, e4⟩ := zi_ex (xs (6 * kk + 4))
      obtain ⟨a5, r5, e5⟩ := zi_ex (xs (6 * kk + 5))
      refine lv_aload_n hx hb dL_law_38 rfl (lv_at hl 5 rfl) ?_
      refine lv_iload hx hb dL_law_39 (lv_at hl 0 rfl) ?_
      refine z_sld (i := 6 * (kk : Int)) (v := a0) hx hb hX hbl hbA hS (by omega) (by rw [show (6 * (kk : Int)).toNat = 6 * kk by omega]; exact e0) dL_law_41 ?_
      refine lv_bipush (v := zi (15)) hx hb dL_law_42 rfl ?_
      refine lv_iand hx hb dL_law_44 ?_
      generalize zi a0 &&& zi 15 = x
      by_cases hx0 : x.toInt < 0 ∨ 11 < x.toInt
      · refine lv_tableOut (tgt := 970) hx hb dL_law_45 hx0 (by decide) ?_
        exact kq u H locs ls cells slots (by omega) (by omega) hI hU hw hS hl
      · have hx1 : x.toInt = 0 ∨ x.toInt = 1 ∨ x.toInt = 2 ∨ x.toInt = 3 ∨ x.toInt = 4 ∨ x.toInt = 5 ∨ x.toInt = 6 ∨ x.toInt = 7 ∨ x.toInt = 8 ∨ x.toInt = 9 ∨ x.toInt = 10 ∨ x.toInt = 11 := by omega
        have hcs : cells + 600 ≤ 601024 ∧ slots + 10960 ≤ 7293034 := by omega
        rcases hx1 with hk | hk | hk | hk | hk | hk | hk | hk | hk | hk | hk | hk
        · refine lv_tableIn (off := 63) (tgt := 108) hx hb dL_law_45 (by omega) (by omega) (by rw [hk]; rfl) (by decide) ?_
          exact t_boat hst hx hb hml hown hX hbl hL hLA hI hU hkk ⟨r1.1, r1.2, r2.1, r2.2, r3.1, r3.2, r4.1, r4.2, r5.1, r5.2⟩ e1 e2 e3 e4 e5 hw hS hl hcs kq
        · refine lv_tableIn (off := 167) (tgt := 212) hx hb dL_law_45 (by omega) (by omega) (by rw [hk]; rfl) (by decide) ?_
          exact t_lend hst hx hb hml hown hX hbl hL hLA hI hU hkk ⟨r1.1, r1.2, r2.1, r2.2⟩ e1 e2 hw hS hl hcs kq
        · refine lv_tableIn (off := 235) (tgt := 280) hx hb dL_law_45 (by omega) (by omega) (by rw [hk]; rfl) (by decide) ?_
          exact t_foretell hst hx hb hml hown hX hbl hL hLA hI hU hkk ⟨r1.1, r1.2, r2.1, r2.2, r3.1, r3.2, r4.1, r4.2, r5.1, r5.2⟩ e1 e2 e3 e4 e5 hw hS hl hcs kq
        · refine lv_tableIn (off := 339) (tgt := 384) hx hb dL_law_45 (by omega) (by omega) (by rw [hk]; rfl) (by decide) ?_
          exact t_call hst hx hb hml hown hX hbl hL hLA hI hU hkk ⟨r1.1, r1.2, r2.1, r2.2, r3.1, r3.2⟩ e1 e2 e3 hw hS hl hcs kq
        · refine lv_tableIn (off := 419) (tgt := 464) hx hb dL_law_45 (by omega) (by omega) (by rw [hk]; rfl) (by decide) ?_
          exact t_cap hst hx hb hml hown hX hbl hL hLA hI hU hkk ⟨r1.1, r1.2⟩ e1 hw hS hl hcs kq
        · refine lv_tableIn (off := 475) (tgt := 520) hx hb dL_law_45 (by omega) (by omega) (by rw [hk]; rfl) (by decide) ?_
          exact t_pass hst hx hb hml hown hX hbl hL hLA hI hU hkk ⟨r1.1, r1.2⟩ e1 hw hS hl hcs kq
        · refine lv_tableIn (off := 531) (tgt := 576) hx hb dL_law_45 (by omega) (by omega) (by rw [hk]; rfl) (by decide) ?_
          exact t_storm hst hx hb hml hown hX hbl hL hLA hI hU hkk ⟨r1.1, r1.2, r2.1, r2.2⟩ e1 e2 hw hS hl hcs kq
        · refine lv_tableIn (off := 599) (tgt := 644) hx hb dL_law_45 (by omega) (by omega) (by rw [hk]; rfl) (by decide) ?_
          exact t_ofBoat hst hx hb hml hown hX hbl hL hLA hI hU hkk ⟨r1.1, r1.2, r2.1, r2.2⟩ e1 e2 hw hS hl hcs kq
        · refine lv_tableIn (off := 667) (tgt := 712) hx hb dL_law_45 (by omega) (by omega) (by rw [hk]; rfl) (by decide) ?_
          exact t_ofCall hst hx hb hml hown hX hbl hL hLA hI hU hkk ⟨r1.1, r1.2, r2.1, r2.2⟩ e1 e2 hw hS hl hcs kq
        · refine lv_tableIn (off := 735) (tgt := 780) hx hb dL_law_45 (by omega) (by omega) (by rw [hk]; rfl) (by decide) ?_
          exact t_rewards hst hx hb hml hown hX hbl hL hLA hI hU hkk ⟨r1.1, r1.2⟩ e1 hw hS hl hcs kq
        · refine lv_tableIn (off := 791) (tgt := 836) hx hb dL_law_45 (by omega) (by omega) (by rw [hk]; rfl) (by decide) ?_
          exact t_rewardsAnew hst hx hb hml hown hX hbl hL hLA hI hU hkk ⟨r1.1, r1.2⟩ e1 hw hS hl hcs kq
        · refine lv_tableIn (off := 847) (tgt := 892) hx hb dL_law_45 (by omega) (by omega) (by rw [hk]; rfl) (by decide) ?_
          exact t_premium hst hx hb hml hown hX hbl hL hLA hI hU hkk ⟨r1.1, r1.2⟩ e1 hw hS hl hcs kq
