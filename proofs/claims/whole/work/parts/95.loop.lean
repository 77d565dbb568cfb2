/-! ===== the law's loop ===== -/
theorem and31 (x : Int32) : ∃ t : Nat, t < 32 ∧ x &&& 31 = nI t := by
  obtain ⟨n, -, rfl⟩ := wb_of32 x
  refine ⟨n &&& 31, Nat.lt_of_le_of_lt Nat.and_le_right (by decide), ?_⟩
  rw [show (31 : Int32) = nI 31 from rfl, fa_andN]
set_option maxHeartbeats 4000000 in
set_option maxRecDepth 100000 in
theorem law_loop {p : Program} {l : Launch} {e : Env} {s : State} {m : MethodId} {below : List Frame} {meth : Method} {c : Code} {Q : State → Prop} {D : va_G} {a g : Nat → Nat} {q b L : Nat} {cI cL cO : ClassId} {xs : Nat → Int32} (C : LC p l s m c D a g q b cI cL cO L xs) (kend : ∀ (H : Heap) (locs : List Loc) (ls : Array Slot) (j : Nat), j ≤ 512 → va_S (fr s) s.heap H locs → W p l e room_1 s m #[Value.ref b] below meth c H locs (100 + 4 * j) (2500 + 24 * j) Q (F0 m 1387 ls [])) : ∀ (d j : Nat), L ≤ 5 * (j + d) → j ≤ 512 → ∀ (H : Heap) (locs : List Loc) (ls : Array Slot) (I M : Nat → Nat → Int32) (J N : Nat → Nat → Int64) (o : Nat → Int64), RI I M → RJ J N → va_P D vwCl (cwL cI cL cO a q I J o) H → va_P D vwCl (rc g cI cL M N) H → va_S (fr s) s.heap H locs → lv_has ls 7 (lvL a g q b j) → W p l e room_1 s m #[Value.ref b] below meth c H locs (100 + 4 * j) (2500 + 24 * j) Q (F0 m 23 ls []) := by
  have hL := C.2.2.2.2.2.2.2.2
  have hx := C.2.1.1
  have hb := C.2.1.2.1
  have hX := C.2.2.2.2.2.2.1
  have hbl := C.2.2.2.2.2.2.2.1
  intro d
  induction d with
  | zero =>
    intro j hd hj H locs ls I M J N o hI hJ hP1 hP2 hS hl
    refine lv_iload hx hb dL_law_23 (lv_at hl 4 rfl) ?_
    refine lv_aload_n hx hb dL_law_25 rfl (lv_at hl 0 rfl) ?_
    refine va_slen hx hb hX hbl (fun z => Nat.not_lt.mpr z hbl) hS dL_law_26 ?_
    refine lv_iconst (v := 5) hx hb dL_law_27 (by decide) ?_
    refine lv_isub hx hb dL_law_28 ?_
    have e5 : (5 : Int32).toInt = 5 := by decide
    have eL : (Int32.ofNat L).toInt = (L : Int) := nI_toInt (n := L) (by omega)
    have e1 : (Int32.ofNat L - 5).toInt = (L : Int) - 5 := by rw [fb_subI (by omega) (by omega), eL, e5]
    have e2 : (nI (5 * j)).toInt = ((5 * j : Nat) : Int) := nI_toInt (by omega)
    exact lv_icmp_gt (tgt := 1387) hx hb dL_law_29 (by decide) (fun _ => kend H locs ls j hj hS) (fun z => absurd ((fa_lt _ _).mpr (by rw [e1, e2]; omega)) z)
  | succ d ih =>
    intro j hd hj H locs ls I M J N o hI hJ hP1 hP2 hS hl
    refine lv_iload hx hb dL_law_23 (lv_at hl 4 rfl) ?_
    refine lv_aload_n hx hb dL_law_25 rfl (lv_at hl 0 rfl) ?_
    refine va_slen hx hb hX hbl (fun z => Nat.not_lt.mpr z hbl) hS dL_law_26 ?_
    refine lv_iconst (v := 5) hx hb dL_law_27 (by decide) ?_
    refine lv_isub hx hb dL_law_28 ?_
    have e5 : (5 : Int32).toInt = 5 := by decide
    have eL : (Int32.ofNat L).toInt = (L : Int) := nI_toInt (n := L) (by omega)
    have e1 : (Int32.ofNat L - 5).toInt = (L : Int) - 5 := by rw [fb_subI (by omega) (by omega), eL, e5]
    have e2 : (nI (5 * j)).toInt = ((5 * j : Nat) : Int) := nI_toInt (by omega)
    refine lv_icmp_gt (tgt := 1387) hx hb dL_law_29 (by decide) (fun _ => kend H locs ls j hj hS) (fun z => ?_)
    have hj5 : 5 * j + 5 ≤ L := by
      have z2 : ¬ (Int32.ofNat L - 5).toInt < (nI (5 * j)).toInt := fun w => z ((fa_lt _ _).mpr w)
      rw [e1, e2] at z2
      omega
    have K : LK p l e s m below meth c Q D a g q b cI cL cO j := by
      intro H locs ls I M J N o hI hJ hP1 hP2 hS hl
      refine lv_iinc (k := 4) (v := nI (5 * (j + 1))) (lv' := [(4, .int (nI (5 * (j + 1)))), (0, .ref b), (1, .ref (a 0)), (2, .ref (g 0)), (3, .ref q)]) hx hb dL_law_1381 hl rfl ((nI_add (5 * j) 5).trans (congrArg nI (by omega))) (by decide) rfl (fun ls hl => ?_)
      refine lv_goto (tgt := 23) hx hb dL_law_1384 (by decide) ?_
      exact ih (j + 1) (by omega) (by omega) H locs ls I M J N o hI hJ hP1 hP2 hS (lv_sub hl [1, 2, 3, 4, 0] rfl)
    refine lv_aload_n hx hb dL_law_32 rfl (lv_at hl 0 rfl) ?_
    refine lv_iload hx hb dL_law_33 (lv_at hl 4 rfl) ?_
    refine va_sld hx hb hX hbl (fun z => Nat.not_lt.mpr z hbl) hS (nI_in (show 5 * j < L by omega) (by omega)) dL_law_35 ?_
    refine lv_bipush (v := 31) hx hb dL_law_36 (by decide) ?_
    refine lv_iand hx hb dL_law_38 ?_
    obtain ⟨t, ht, et⟩ := and31 (xs (nI (5 * j)).toNatClampNeg)
    refine lv_asi (nI t) et ?_
    have tt : (nI t).toInt = (t : Int) := nI_toInt (by omega)
    by_cases h22 : 21 < t
    · refine lv_tableOut (tgt := 1381) hx hb dL_law_39 (Or.inr (by rw [tt]; omega)) (by decide) ?_
      exact W.widen (by omega) (by omega) (K H locs ls I M J N o hI hJ hP1 hP2 hS hl)
    · have h1 : ¬ (nI t).toInt < 0 := by rw [tt]; omega
      have h2 : ¬ 21 < (nI t).toInt := by rw [tt]; omega
      rcases (show t = 0 ∨ t = 1 ∨ t = 2 ∨ t = 3 ∨ t = 4 ∨ t = 5 ∨ t = 6 ∨ t = 7 ∨ t = 8 ∨ t = 9 ∨ t = 10 ∨ t = 11 ∨ t = 12 ∨ t = 13 ∨ t = 14 ∨ t = 15 ∨ t = 16 ∨ t = 17 ∨ t = 18 ∨ t = 19 ∨ t = 20 ∨ t = 21 by omega) with rfl | rfl | rfl | rfl | rfl | rfl | rfl | rfl | rfl | rfl | rfl | rfl | rfl | rfl | rfl | rfl | rfl | rfl | rfl | rfl | rfl | rfl
      · exact lv_tableIn (tgt := 140) hx hb dL_law_39 h1 h2 (off := 101) (by decide) (by decide) (law_0 C hj5 hI hJ hP1 hP2 hS hl K)
      · exact lv_tableIn (tgt := 212) hx hb dL_law_39 h1 h2 (off := 173) (by decide) (by decide) (law_1 C hj5 hI hJ hP1 hP2 hS hl K)
      · exact lv_tableIn (tgt := 272) hx hb dL_law_39 h1 h2 (off := 233) (by decide) (by decide) (law_2 C hj5 hI hJ hP1 hP2 hS hl K)
      · exact lv_tableIn (tgt := 352) hx hb dL_law_39 h1 h2 (off := 313) (by decide) (by decide) (law_3 C hj5 hI hJ hP1 hP2 hS hl K)
      · exact lv_tableIn (tgt := 427) hx hb dL_law_39 h1 h2 (off := 388) (by decide) (by decide) (law_4 C hj5 hI hJ hP1 hP2 hS hl K)
      · exact lv_tableIn (tgt := 483) hx hb dL_law_39 h1 h2 (off := 444) (by decide) (by decide) (law_5 C hj5 hI hJ hP1 hP2 hS hl K)
      · exact lv_tableIn (tgt := 551) hx hb dL_law_39 h1 h2 (off := 512) (by decide) (by decide) (law_6 C hj5 hI hJ hP1 hP2 hS hl K)
      · exact lv_tableIn (tgt := 619) hx hb dL_law_39 h1 h2 (off := 580) (by decide) (by decide) (law_7 C hj5 hI hJ hP1 hP2 hS hl K)
      · exact lv_tableIn (tgt := 710) hx hb dL_law_39 h1 h2 (off := 671) (by decide) (by decide) (law_8 C hj5 hI hJ hP1 hP2 hS hl K)
      · exact lv_tableIn (tgt := 766) hx hb dL_law_39 h1 h2 (off := 727) (by decide) (by decide) (law_9 C hj5 hI hJ hP1 hP2 hS hl K)
      · exact lv_tableIn (tgt := 822) hx hb dL_law_39 h1 h2 (off := 783) (by decide) (by decide) (law_10 C hj5 hI hJ hP1 hP2 hS hl K)
      · exact lv_tableIn (tgt := 925) hx hb dL_law_39 h1 h2 (off := 886) (by decide) (by decide) (law_11 C hj5 hI hJ hP1 hP2 hS hl K)
      · exact lv_tableIn (tgt := 938) hx hb dL_law_39 h1 h2 (off := 899) (by decide) (by decide) (law_12 C hj5 hI hJ hP1 hP2 hS hl K)
      · exact lv_tableIn (tgt := 994) hx hb dL_law_39 h1 h2 (off := 955) (by decide) (by decide) (law_13 C hj5 hI hJ hP1 hP2 hS hl K)
      · exact lv_tableIn (tgt := 1050) hx hb dL_law_39 h1 h2 (off := 1011) (by decide) (by decide) (law_14 C hj5 hI hJ hP1 hP2 hS hl K)
      · exact lv_tableIn (tgt := 1063) hx hb dL_law_39 h1 h2 (off := 1024) (by decide) (by decide) (law_15 C hj5 hI hJ hP1 hP2 hS hl K)
      · exact lv_tableIn (tgt := 1138) hx hb dL_law_39 h1 h2 (off := 1099) (by decide) (by decide) (law_16 C hj5 hI hJ hP1 hP2 hS hl K)
      · exact lv_tableIn (tgt := 1151) hx hb dL_law_39 h1 h2 (off := 1112) (by decide) (by decide) (law_17 C hj5 hI hJ hP1 hP2 hS hl K)
      · exact lv_tableIn (tgt := 1164) hx hb dL_law_39 h1 h2 (off := 1125) (by decide) (by decide) (law_18 C hj5 hI hJ hP1 hP2 hS hl K)
      · exact lv_tableIn (tgt := 1232) hx hb dL_law_39 h1 h2 (off := 1193) (by decide) (by decide) (law_19 C hj5 hI hJ hP1 hP2 hS hl K)
      · exact lv_tableIn (tgt := 1245) hx hb dL_law_39 h1 h2 (off := 1206) (by decide) (by decide) (law_20 C hj5 hI hJ hP1 hP2 hS hl K)
      · exact lv_tableIn (tgt := 1313) hx hb dL_law_39 h1 h2 (off := 1274) (by decide) (by decide) (law_21 C hj5 hI hJ hP1 hP2 hS hl K)
