/-! ===== isWhole ===== -/
abbrev rmW : Room := { frames := 10, cells := 2562, slots := 15372, locals := 180 }
theorem bI_1 : bI true = nI 1 := rfl
theorem bI_0 : bI false = nI 0 := rfl
set_option maxHeartbeats 4000000 in
set_option maxRecDepth 100000 in
theorem iw_loop {p : Program} {l : Launch} {e : Env} {s : State} {m : MethodId} {args : Array Value} {below : List Frame} {meth : Method} {c : Code} {Q : State → Prop} {D : va_G} {a : Nat → Nat} {q1 : Nat} {cI cL cO : ClassId} {I : Nat → Nat → Int32} {h : Nat → Nat} {W9 : Nat → Int32} {A : Nat → Prop} (hl0 : l.stackTraces = false) (S : CallFix p m c cL_isWhole 12 s args wsL_isWhole RL) (hK : va_K D vwCl (oty cI cL cO) s) (hD : ∀ (I : Nat → Nat → Int32) (J : Nat → Nat → Int64), va_D A (oc a cI cL cO I J ++ [(q1, .inl (cI, 6, .inl W9))])) (hES : eS s) (hEH : eH A s s.heap) (hA : ∀ z9 : Nat, s.heap.size ≤ z9 → A z9) (hG : GI I) (hW : ∀ r, r < 6 → W9 r = I 1 r) (kend : ∀ (H : Heap) (locs : List Loc) (ls : Array Slot) (J : Nat → Nat → Int64), gJ J h → va_P D vwCl (oc a cI cL cO I J) H → va_P D vwCl [(q1, .inl (cI, 6, .inl W9))] H → va_S A s.heap H locs → lv_has ls 12 [(7, .int (nI 366)), (6, .int (nI 1)), (5, .int (lwN (fall I h) (lf I (sB I h) 366))), (4, .int (nI (sm (wt (sB I h) w1) 366))), (3, .int (nI (sm (wt (sB I h) (wv (wd I))) 366))), (0, .ref (a 0)), (1, .ref q1), (2, .int (nI (suN I)))] → W p l e rmW s m args below meth c H locs 2562 15372 Q (F0 m 176 ls [])) : ∀ d q, d + q = 366 → ∀ (H : Heap) (locs : List Loc) (ls : Array Slot) (J : Nat → Nat → Int64), gJ J h → va_P D vwCl (oc a cI cL cO I J) H → va_P D vwCl [(q1, .inl (cI, 6, .inl W9))] H → va_S A s.heap H locs → lv_has ls 12 [(7, .int (nI q)), (6, .int (nI 1)), (5, .int (lwN (fall I h) (lf I (sB I h) q))), (4, .int (nI (sm (wt (sB I h) w1) q))), (3, .int (nI (sm (wt (sB I h) (wv (wd I))) q))), (0, .ref (a 0)), (1, .ref q1), (2, .int (nI (suN I)))] → W p l e rmW s m args below meth c H locs (7 * q) (42 * q) Q (F0 m 15 ls []) := by
  have hx := S.1
  have hb := S.2.1
  have hown := S.2.2.2.1
  have hts := S.2.2.2.2
  have hpw := g_pws hG
  have ebd := fun n (hn : n ≤ 366) => nN_bd (fun r hr => (gi_wd hG r hr).2.2) (sB I h) hn
  obtain ⟨f9, hf9, ef9⟩ := fall_b hG h
  have hfb : 0 ≤ (fall I h).toInt ∧ (fall I h).toInt ≤ 100 := by rw [ef9, nI_toInt (by omega)]; omega
  intro d
  induction d with
  | zero =>
    intro q hq H locs ls J hJ hP1 hP2 hS hl
    obtain rfl : q = 366 := by omega
    refine lv_iload hx hb dL_isWhole_15 (lv_at hl 0 rfl) ?_
    refine lv_sipush (v := (nI 366)) hx hb dL_isWhole_17 (by decide) ?_
    refine lv_icmp_ge (tgt := 176) hx hb dL_isWhole_20 (by decide) (fun _ => ?_) (fun z => absurd ((nI_leI (a := 366) (b := 366) (by omega) (by omega)).mpr (by omega)) z)
    exact kend H locs ls J hJ hP1 hP2 hS hl
  | succ d ih =>
    intro q hq H locs ls J hJ hP1 hP2 hS hl
    have hq6 : q / 61 < 6 := by omega
    have hq61 : q % 61 < 61 := Nat.mod_lt _ (by decide)
    have eb1 := pN_bd (sB I h) q
    have eb2 := ebd q (by omega)
    obtain ⟨w9, hw1, hw2⟩ := gi_wd hG (q / 61) hq6
    refine lv_iload hx hb dL_isWhole_15 (lv_at hl 0 rfl) ?_
    refine lv_sipush (v := (nI 366)) hx hb dL_isWhole_17 (by decide) ?_
    refine lv_icmp_ge (tgt := 176) hx hb dL_isWhole_20 (by decide) (fun z => absurd ((nI_leI (a := 366) (b := q) (by omega) (by omega)).mp z) (by omega)) (fun _ => ?_)
    refine lv_iload hx hb dL_isWhole_23 (lv_at hl 1 rfl) ?_
    refine lv_if_eq (tgt := 176) hx hb dL_isWhole_25 (by decide) (fun z => absurd ((nI_eq (a := 1) (b := 0) (by omega) (by omega)).mp z) (by omega)) (fun _ => ?_)
    refine lv_iload hx hb dL_isWhole_28 (lv_at hl 0 rfl) ?_
    refine lv_bipush (v := (nI 61)) hx hb dL_isWhole_30 (by decide) ?_
    refine lv_idiv hx hb dL_isWhole_32 (by decide) ?_
    refine lv_asi (nI (q / 61)) (pk_div (by omega) (by omega) (by omega)) ?_
    refine lv_istore (lv' := [(8, .int (nI (q / 61))), (7, .int (nI q)), (6, .int (nI 1)), (5, .int (lwN (fall I h) (lf I (sB I h) q))), (4, .int (nI (sm (wt (sB I h) w1) q))), (3, .int (nI (sm (wt (sB I h) (wv (wd I))) q))), (0, .ref (a 0)), (1, .ref q1), (2, .int (nI (suN I)))]) hx hb dL_isWhole_33 hl (by decide) rfl (fun ls hl => ?_)
    refine lv_iload hx hb dL_isWhole_35 (lv_at hl 1 rfl) ?_
    refine lv_bipush (v := (nI 61)) hx hb dL_isWhole_37 (by decide) ?_
    refine lv_irem hx hb dL_isWhole_39 (by decide) ?_
    refine lv_asi (nI (q % 61)) (pk_rem (by omega) (by omega) (by omega)) ?_
    refine lv_istore (lv' := [(9, .int (nI (q % 61))), (8, .int (nI (q / 61))), (7, .int (nI q)), (6, .int (nI 1)), (5, .int (lwN (fall I h) (lf I (sB I h) q))), (4, .int (nI (sm (wt (sB I h) w1) q))), (3, .int (nI (sm (wt (sB I h) (wv (wd I))) q))), (0, .ref (a 0)), (1, .ref q1), (2, .int (nI (suN I)))]) hx hb dL_isWhole_40 hl (by decide) rfl (fun ls hl => ?_)
    refine lv_aload_n hx hb dL_isWhole_42 rfl (lv_at hl 7 rfl) ?_
    refine lv_iload hx hb dL_isWhole_43 (lv_at hl 1 rfl) ?_
    refine lv_iload hx hb dL_isWhole_45 (lv_at hl 0 rfl) ?_
    refine l_thi (As := [.int (nI (q / 61)), .int (nI (q % 61))]) (rest := []) S (n_sounds l D a cI cL cO hl0 hG hJ hq6 hq61 H.size) (cwV 2 hts gL_isWhole_X0_sounds rfl rfl rfl (by decide +kernel) ⟨Nat.le_of_ble_eq_true rfl, Nat.le_of_ble_eq_true rfl⟩) hK hP1 hP2 (hD _ _) hES hEH hS hA rfl rfl oc_at0 rfl hl.1 rfl (Nat.le_of_ble_eq_true rfl) dL_isWhole_47 ⟨by show _ ≤ 2562; omega, by show _ ≤ 15372; omega⟩ (fun H locs hP1 hP2 hS => ?_)
    have hJ := g_J hG hJ
    generalize fsW I J 0 0 = J at hJ hP1
    refine lv_istore (lv' := [(10, .int (bI (sB I h (q / 61) (q % 61)))), (9, .int (nI (q % 61))), (8, .int (nI (q / 61))), (7, .int (nI q)), (6, .int (nI 1)), (5, .int (lwN (fall I h) (lf I (sB I h) q))), (4, .int (nI (sm (wt (sB I h) w1) q))), (3, .int (nI (sm (wt (sB I h) (wv (wd I))) q))), (0, .ref (a 0)), (1, .ref q1), (2, .int (nI (suN I)))]) hx hb dL_isWhole_50 hl (by decide) rfl (fun ls hl => ?_)
    refine lv_aload_n hx hb dL_isWhole_52 rfl (lv_at hl 8 rfl) ?_
    refine lv_iload hx hb dL_isWhole_53 (lv_at hl 2 rfl) ?_
    refine lv_iload hx hb dL_isWhole_55 (lv_at hl 1 rfl) ?_
    refine l_hg (As := [.ref (a 0), .int (nI (q / 61)), .int (nI (q % 61))]) (rest := []) S (n_pitch l hl0 D a cI cL cO hG hJ hq6 hq61 H.size) (vx_cwSW 3 hts gL_isWhole_L_pitch rfl rfl rfl (by decide +kernel) ⟨Nat.le_of_ble_eq_true rfl, Nat.le_of_ble_eq_true rfl⟩) hK hP1 hP2 (hD _ _) hES hEH hS hA rfl hl.1 rfl (Nat.le_of_ble_eq_true rfl) dL_isWhole_57 ⟨by show _ ≤ 2562; omega, by show _ ≤ 15372; omega⟩ (fun H locs hP1 hP2 hS => ?_)
    obtain ⟨J, hJ, hP1⟩ := hP1
    have eq1 : sm (wt (sB I h) w1) (q + 1) = sm (wt (sB I h) w1) q + (if sB I h (q / 61) (q % 61) = true then 1 else 0) := rfl
    have eq2 : sm (wt (sB I h) (wv (wd I))) (q + 1) = sm (wt (sB I h) (wv (wd I))) q + (if sB I h (q / 61) (q % 61) = true then wd I (q / 61) + (60 - q % 61) / 12 else 0) := rfl
    cases hb9 : sB I h (q / 61) (q % 61) with
    | true =>
      rw [hb9] at eq1 eq2
      rw [if_pos rfl] at eq1 eq2
      have ex : (pws I (q / 61) (q % 61) - fall I h).toInt = (pws I (q / 61) (q % 61)).toInt - (fall I h).toInt := fb_subI (by have := hpw _ _ hq6 hq61; omega) (by have := hpw _ _ hq6 hq61; omega)
      have e99 : (-99993 : Int32).toInt = -99993 := by decide
      obtain ⟨wn, hwn, ewn⟩ := sb_w hG hq6 hq61 hb9
      have hpp := hpw _ _ hq6 hq61
      refine lv_asi (pws I (q / 61) (q % 61) - fall I h) (if_pos rfl) ?_
      refine lv_istore (lv' := [(11, .int (pws I (q / 61) (q % 61) - fall I h)), (10, .int (bI (sB I h (q / 61) (q % 61)))), (9, .int (nI (q % 61))), (8, .int (nI (q / 61))), (7, .int (nI q)), (6, .int (nI 1)), (5, .int (lwN (fall I h) (lf I (sB I h) q))), (4, .int (nI (sm (wt (sB I h) w1) q))), (3, .int (nI (sm (wt (sB I h) (wv (wd I))) q))), (0, .ref (a 0)), (1, .ref q1), (2, .int (nI (suN I)))]) hx hb dL_isWhole_60 hl (by decide) rfl (fun ls hl => ?_)
      refine lv_iload hx hb dL_isWhole_62 (lv_at hl 1 rfl) ?_
      refine lv_asi (nI 1) (by first | rfl | (rw [hb9]; rfl)) ?_
      refine lv_if_eq (tgt := 95) hx hb dL_isWhole_64 (by decide) (fun z => absurd ((nI_eq (a := 1) (b := 0) (by omega) (by omega)).mp z) (by omega)) (fun _ => ?_)
      refine lv_aload_n hx hb dL_isWhole_67 rfl (lv_at hl 9 rfl) ?_
      refine lv_iload hx hb dL_isWhole_68 (lv_at hl 3 rfl) ?_
      refine lv_iload hx hb dL_isWhole_70 (lv_at hl 2 rfl) ?_
      refine l_thi (As := [.int (nI (q / 61)), .int (nI (q % 61))]) (rest := []) S (n_wear l D a cI cL cO hl0 hq6 hq61 H.size) (cwV 2 hts gL_isWhole_X0_wear rfl rfl rfl (by decide +kernel) ⟨Nat.le_of_ble_eq_true rfl, Nat.le_of_ble_eq_true rfl⟩) hK hP1 hP2 (hD _ _) hES hEH hS hA rfl rfl oc_at0 rfl hl.1 rfl (Nat.le_of_ble_eq_true rfl) dL_isWhole_72 ⟨by show _ ≤ 2562; omega, by show _ ≤ 15372; omega⟩ (fun H locs hP1 hP2 hS => ?_)
      refine lv_asi (nI wn) (ewn) ?_
      refine lv_bipush (v := (nI 50)) hx hb dL_isWhole_75 (by decide) ?_
      refine lv_icmp_ge (tgt := 91) hx hb dL_isWhole_77 (by decide) (fun z => absurd ((nI_leI (a := 50) (b := wn) (by omega) (by omega)).mp z) (by omega)) (fun _ => ?_)
      refine lv_iload hx hb dL_isWhole_80 (lv_at hl 0 rfl) ?_
      refine lv_ldc (v := (-99993)) hx hb hown (hts (.constant RL 25 (-99993)) (by decide +kernel)) dL_isWhole_82 ?_
      refine lv_icmp_le (tgt := 91) hx hb dL_isWhole_84 (by decide) (fun z => absurd (Int32.le_iff_toInt_le.mp z) (by omega)) (fun _ => ?_)
      refine lv_iconst (v := (nI 1)) hx hb dL_isWhole_87 (by decide) ?_
      refine lv_goto (tgt := 107) hx hb dL_isWhole_88 (by decide) ?_
      refine lv_istore (lv' := [(6, .int (nI 1)), (11, .int (pws I (q / 61) (q % 61) - fall I h)), (10, .int (bI (sB I h (q / 61) (q % 61)))), (9, .int (nI (q % 61))), (8, .int (nI (q / 61))), (7, .int (nI q)), (5, .int (lwN (fall I h) (lf I (sB I h) q))), (4, .int (nI (sm (wt (sB I h) w1) q))), (3, .int (nI (sm (wt (sB I h) (wv (wd I))) q))), (0, .ref (a 0)), (1, .ref q1), (2, .int (nI (suN I)))]) hx hb dL_isWhole_107 hl (by decide) rfl (fun ls hl => ?_)
      refine lv_iload hx hb dL_isWhole_109 (lv_at hl 7 rfl) ?_
      refine lv_iload hx hb dL_isWhole_111 (lv_at hl 2 rfl) ?_
      refine lv_asi (nI 1) (by first | rfl | (rw [hb9]; rfl)) ?_
      refine lv_if_eq (tgt := 120) hx hb dL_isWhole_113 (by decide) (fun z => absurd ((nI_eq (a := 1) (b := 0) (by omega) (by omega)).mp z) (by omega)) (fun _ => ?_)
      refine lv_iconst (v := (nI 1)) hx hb dL_isWhole_116 (by decide) ?_
      refine lv_goto (tgt := 121) hx hb dL_isWhole_117 (by decide) ?_
      refine lv_iadd hx hb dL_isWhole_121 ?_
      refine lv_asi (nI ((sm (wt (sB I h) w1) q) + 1)) (nI_add _ _) ?_
      refine lv_istore (lv' := [(4, .int (nI ((sm (wt (sB I h) w1) q) + 1))), (6, .int (nI 1)), (11, .int (pws I (q / 61) (q % 61) - fall I h)), (10, .int (bI (sB I h (q / 61) (q % 61)))), (9, .int (nI (q % 61))), (8, .int (nI (q / 61))), (7, .int (nI q)), (5, .int (lwN (fall I h) (lf I (sB I h) q))), (3, .int (nI (sm (wt (sB I h) (wv (wd I))) q))), (0, .ref (a 0)), (1, .ref q1), (2, .int (nI (suN I)))]) hx hb dL_isWhole_122 hl (by decide) rfl (fun ls hl => ?_)
      refine lv_iload_n hx hb dL_isWhole_124 rfl (lv_at hl 8 rfl) ?_
      refine lv_iload hx hb dL_isWhole_125 (lv_at hl 3 rfl) ?_
      refine lv_asi (nI 1) (by first | rfl | (rw [hb9]; rfl)) ?_
      refine lv_if_eq (tgt := 146) hx hb dL_isWhole_127 (by decide) (fun z => absurd ((nI_eq (a := 1) (b := 0) (by omega) (by omega)).mp z) (by omega)) (fun _ => ?_)
      refine lv_aload_n hx hb dL_isWhole_130 rfl (lv_at hl 10 rfl) ?_
      refine lv_iload hx hb dL_isWhole_131 (lv_at hl 5 rfl) ?_
      refine w_ild hx hb hK hP2 rfl (q0 := 0) rfl hq6 (by decide) dL_isWhole_133 ?_
      refine lv_asi (nI (wd I (q / 61))) ((hW _ hq6).trans w9) ?_
      refine lv_bipush (v := (nI 60)) hx hb dL_isWhole_134 (by decide) ?_
      refine lv_iload hx hb dL_isWhole_136 (lv_at hl 4 rfl) ?_
      refine lv_isub hx hb dL_isWhole_138 ?_
      refine lv_asi (nI (60 - (q % 61))) (pk_sub (by omega)) ?_
      refine lv_bipush (v := (nI 12)) hx hb dL_isWhole_139 (by decide) ?_
      refine lv_idiv hx hb dL_isWhole_141 (by decide) ?_
      refine lv_asi (nI ((60 - (q % 61)) / 12)) (pk_div (by omega) (by omega) (by omega)) ?_
      refine lv_iadd hx hb dL_isWhole_142 ?_
      refine lv_asi (nI ((wd I (q / 61)) + ((60 - (q % 61)) / 12))) (nI_add _ _) ?_
      refine lv_goto (tgt := 147) hx hb dL_isWhole_143 (by decide) ?_
      refine lv_iadd hx hb dL_isWhole_147 ?_
      refine lv_asi (nI ((sm (wt (sB I h) (wv (wd I))) q) + ((wd I (q / 61)) + ((60 - (q % 61)) / 12)))) (nI_add _ _) ?_
      refine lv_istore_n (lv' := [(3, .int (nI ((sm (wt (sB I h) (wv (wd I))) q) + ((wd I (q / 61)) + ((60 - (q % 61)) / 12))))), (4, .int (nI ((sm (wt (sB I h) w1) q) + 1))), (6, .int (nI 1)), (11, .int (pws I (q / 61) (q % 61) - fall I h)), (10, .int (bI (sB I h (q / 61) (q % 61)))), (9, .int (nI (q % 61))), (8, .int (nI (q / 61))), (7, .int (nI q)), (5, .int (lwN (fall I h) (lf I (sB I h) q))), (0, .ref (a 0)), (1, .ref q1), (2, .int (nI (suN I)))]) hx hb dL_isWhole_148 rfl hl (by decide) rfl (fun ls hl => ?_)
      refine lv_iload hx hb dL_isWhole_149 (lv_at hl 4 rfl) ?_
      refine lv_asi (nI 1) (by first | rfl | (rw [hb9]; rfl)) ?_
      refine lv_if_eq (tgt := 166) hx hb dL_isWhole_151 (by decide) (fun z => absurd ((nI_eq (a := 1) (b := 0) (by omega) (by omega)).mp z) (by omega)) (fun _ => ?_)
      refine lv_iload hx hb dL_isWhole_154 (lv_at hl 3 rfl) ?_
      refine lv_iload hx hb dL_isWhole_156 (lv_at hl 8 rfl) ?_
      refine lv_icmp_ge (tgt := 166) hx hb dL_isWhole_158 (by decide) (fun c9 => ?_) (fun c9 => ?_)
      · have e5 : lwN (fall I h) (lf I (sB I h) (q + 1)) = lwN (fall I h) (lf I (sB I h) q) := (lwN_y hfb hpw (by omega) hb9).trans (if_pos c9)
        refine lv_iload hx hb dL_isWhole_166 (lv_at hl 8 rfl) ?_
        refine lv_istore (lv' := [(5, .int (lwN (fall I h) (lf I (sB I h) q))), (3, .int (nI ((sm (wt (sB I h) (wv (wd I))) q) + ((wd I (q / 61)) + ((60 - (q % 61)) / 12))))), (4, .int (nI ((sm (wt (sB I h) w1) q) + 1))), (6, .int (nI 1)), (11, .int (pws I (q / 61) (q % 61) - fall I h)), (10, .int (bI (sB I h (q / 61) (q % 61)))), (9, .int (nI (q % 61))), (8, .int (nI (q / 61))), (7, .int (nI q)), (0, .ref (a 0)), (1, .ref q1), (2, .int (nI (suN I)))]) hx hb dL_isWhole_168 hl (by decide) rfl (fun ls hl => ?_)
        refine lv_iinc (v := (nI (q + 1))) (lv' := [(7, .int (nI (q + 1))), (5, .int (lwN (fall I h) (lf I (sB I h) q))), (3, .int (nI ((sm (wt (sB I h) (wv (wd I))) q) + ((wd I (q / 61)) + ((60 - (q % 61)) / 12))))), (4, .int (nI ((sm (wt (sB I h) w1) q) + 1))), (6, .int (nI 1)), (11, .int (pws I (q / 61) (q % 61) - fall I h)), (10, .int (bI (sB I h (q / 61) (q % 61)))), (9, .int (nI (q % 61))), (8, .int (nI (q / 61))), (0, .ref (a 0)), (1, .ref q1), (2, .int (nI (suN I)))]) hx hb dL_isWhole_170 hl (k := 8) rfl (nI_inc _) (by decide) rfl (fun ls hl => ?_)
        refine lv_goto (tgt := 15) hx hb dL_isWhole_173 (by decide) ?_
        have hl := lv_sub (l' := [(7, .int (nI (q + 1))), (6, .int (nI 1)), (5, .int (lwN (fall I h) (lf I (sB I h) q))), (4, .int (nI ((sm (wt (sB I h) w1) q) + 1))), (3, .int (nI ((sm (wt (sB I h) (wv (wd I))) q) + ((wd I (q / 61)) + ((60 - (q % 61)) / 12))))), (0, .ref (a 0)), (1, .ref q1), (2, .int (nI (suN I)))]) hl [0, 4, 1, 3, 2, 9, 10, 11] rfl
        refine W.widen (k := 7 * (q + 1)) (n := 42 * (q + 1)) (by omega) (by omega) ?_
        rw [← eq1, show sm (wt (sB I h) (wv (wd I))) q + (wd I (q / 61) + (60 - q % 61) / 12) = sm (wt (sB I h) (wv (wd I))) (q + 1) from eq2.symm, ← e5] at hl
        exact ih (q + 1) (by omega) H _ ls J hJ hP1 hP2 hS hl
      · have e5 : lwN (fall I h) (lf I (sB I h) (q + 1)) = pws I (q / 61) (q % 61) - fall I h := (lwN_y hfb hpw (by omega) hb9).trans (if_neg c9)
        refine lv_iload hx hb dL_isWhole_161 (lv_at hl 3 rfl) ?_
        refine lv_goto (tgt := 168) hx hb dL_isWhole_163 (by decide) ?_
        refine lv_istore (lv' := [(5, .int (pws I (q / 61) (q % 61) - fall I h)), (3, .int (nI ((sm (wt (sB I h) (wv (wd I))) q) + ((wd I (q / 61)) + ((60 - (q % 61)) / 12))))), (4, .int (nI ((sm (wt (sB I h) w1) q) + 1))), (6, .int (nI 1)), (11, .int (pws I (q / 61) (q % 61) - fall I h)), (10, .int (bI (sB I h (q / 61) (q % 61)))), (9, .int (nI (q % 61))), (8, .int (nI (q / 61))), (7, .int (nI q)), (0, .ref (a 0)), (1, .ref q1), (2, .int (nI (suN I)))]) hx hb dL_isWhole_168 hl (by decide) rfl (fun ls hl => ?_)
        refine lv_iinc (v := (nI (q + 1))) (lv' := [(7, .int (nI (q + 1))), (5, .int (pws I (q / 61) (q % 61) - fall I h)), (3, .int (nI ((sm (wt (sB I h) (wv (wd I))) q) + ((wd I (q / 61)) + ((60 - (q % 61)) / 12))))), (4, .int (nI ((sm (wt (sB I h) w1) q) + 1))), (6, .int (nI 1)), (11, .int (pws I (q / 61) (q % 61) - fall I h)), (10, .int (bI (sB I h (q / 61) (q % 61)))), (9, .int (nI (q % 61))), (8, .int (nI (q / 61))), (0, .ref (a 0)), (1, .ref q1), (2, .int (nI (suN I)))]) hx hb dL_isWhole_170 hl (k := 8) rfl (nI_inc _) (by decide) rfl (fun ls hl => ?_)
        refine lv_goto (tgt := 15) hx hb dL_isWhole_173 (by decide) ?_
        have hl := lv_sub (l' := [(7, .int (nI (q + 1))), (6, .int (nI 1)), (5, .int (pws I (q / 61) (q % 61) - fall I h)), (4, .int (nI ((sm (wt (sB I h) w1) q) + 1))), (3, .int (nI ((sm (wt (sB I h) (wv (wd I))) q) + ((wd I (q / 61)) + ((60 - (q % 61)) / 12))))), (0, .ref (a 0)), (1, .ref q1), (2, .int (nI (suN I)))]) hl [0, 4, 1, 3, 2, 9, 10, 11] rfl
        refine W.widen (k := 7 * (q + 1)) (n := 42 * (q + 1)) (by omega) (by omega) ?_
        rw [← eq1, show sm (wt (sB I h) (wv (wd I))) q + (wd I (q / 61) + (60 - q % 61) / 12) = sm (wt (sB I h) (wv (wd I))) (q + 1) from eq2.symm, ← e5] at hl
        exact ih (q + 1) (by omega) H _ ls J hJ hP1 hP2 hS hl
    | false =>
      rw [hb9] at eq1 eq2
      rw [if_neg Bool.false_ne_true] at eq1 eq2
      refine lv_asi (-99993) (if_neg Bool.false_ne_true) ?_
      refine lv_istore (lv' := [(11, .int (-99993)), (10, .int (bI (sB I h (q / 61) (q % 61)))), (9, .int (nI (q % 61))), (8, .int (nI (q / 61))), (7, .int (nI q)), (6, .int (nI 1)), (5, .int (lwN (fall I h) (lf I (sB I h) q))), (4, .int (nI (sm (wt (sB I h) w1) q))), (3, .int (nI (sm (wt (sB I h) (wv (wd I))) q))), (0, .ref (a 0)), (1, .ref q1), (2, .int (nI (suN I)))]) hx hb dL_isWhole_60 hl (by decide) rfl (fun ls hl => ?_)
      refine lv_iload hx hb dL_isWhole_62 (lv_at hl 1 rfl) ?_
      refine lv_asi (nI 0) (by first | rfl | (rw [hb9]; rfl)) ?_
      refine lv_if_eq (tgt := 95) hx hb dL_isWhole_64 (by decide) (fun _ => ?_) (fun z => absurd ((nI_eq (a := 0) (b := 0) (by omega) (by omega)).mpr (by omega)) z)
      refine lv_iload hx hb dL_isWhole_95 (lv_at hl 0 rfl) ?_
      refine lv_ldc (v := (-99993)) hx hb hown (hts (.constant RL 25 (-99993)) (by decide +kernel)) dL_isWhole_97 ?_
      refine lv_icmp_ne (tgt := 106) hx hb dL_isWhole_99 (by decide) (fun z => absurd rfl z) (fun _ => ?_)
      refine lv_iconst (v := (nI 1)) hx hb dL_isWhole_102 (by decide) ?_
      refine lv_goto (tgt := 107) hx hb dL_isWhole_103 (by decide) ?_
      refine lv_istore (lv' := [(6, .int (nI 1)), (11, .int (-99993)), (10, .int (bI (sB I h (q / 61) (q % 61)))), (9, .int (nI (q % 61))), (8, .int (nI (q / 61))), (7, .int (nI q)), (5, .int (lwN (fall I h) (lf I (sB I h) q))), (4, .int (nI (sm (wt (sB I h) w1) q))), (3, .int (nI (sm (wt (sB I h) (wv (wd I))) q))), (0, .ref (a 0)), (1, .ref q1), (2, .int (nI (suN I)))]) hx hb dL_isWhole_107 hl (by decide) rfl (fun ls hl => ?_)
      refine lv_iload hx hb dL_isWhole_109 (lv_at hl 7 rfl) ?_
      refine lv_iload hx hb dL_isWhole_111 (lv_at hl 2 rfl) ?_
      refine lv_asi (nI 0) (by first | rfl | (rw [hb9]; rfl)) ?_
      refine lv_if_eq (tgt := 120) hx hb dL_isWhole_113 (by decide) (fun _ => ?_) (fun z => absurd ((nI_eq (a := 0) (b := 0) (by omega) (by omega)).mpr (by omega)) z)
      refine lv_iconst (v := (nI 0)) hx hb dL_isWhole_120 (by decide) ?_
      refine lv_iadd hx hb dL_isWhole_121 ?_
      refine lv_asi (nI ((sm (wt (sB I h) w1) q) + 0)) (nI_add _ _) ?_
      refine lv_istore (lv' := [(4, .int (nI ((sm (wt (sB I h) w1) q) + 0))), (6, .int (nI 1)), (11, .int (-99993)), (10, .int (bI (sB I h (q / 61) (q % 61)))), (9, .int (nI (q % 61))), (8, .int (nI (q / 61))), (7, .int (nI q)), (5, .int (lwN (fall I h) (lf I (sB I h) q))), (3, .int (nI (sm (wt (sB I h) (wv (wd I))) q))), (0, .ref (a 0)), (1, .ref q1), (2, .int (nI (suN I)))]) hx hb dL_isWhole_122 hl (by decide) rfl (fun ls hl => ?_)
      refine lv_iload_n hx hb dL_isWhole_124 rfl (lv_at hl 8 rfl) ?_
      refine lv_iload hx hb dL_isWhole_125 (lv_at hl 3 rfl) ?_
      refine lv_asi (nI 0) (by first | rfl | (rw [hb9]; rfl)) ?_
      refine lv_if_eq (tgt := 146) hx hb dL_isWhole_127 (by decide) (fun _ => ?_) (fun z => absurd ((nI_eq (a := 0) (b := 0) (by omega) (by omega)).mpr (by omega)) z)
      refine lv_iconst (v := (nI 0)) hx hb dL_isWhole_146 (by decide) ?_
      refine lv_iadd hx hb dL_isWhole_147 ?_
      refine lv_asi (nI ((sm (wt (sB I h) (wv (wd I))) q) + 0)) (nI_add _ _) ?_
      refine lv_istore_n (lv' := [(3, .int (nI ((sm (wt (sB I h) (wv (wd I))) q) + 0))), (4, .int (nI ((sm (wt (sB I h) w1) q) + 0))), (6, .int (nI 1)), (11, .int (-99993)), (10, .int (bI (sB I h (q / 61) (q % 61)))), (9, .int (nI (q % 61))), (8, .int (nI (q / 61))), (7, .int (nI q)), (5, .int (lwN (fall I h) (lf I (sB I h) q))), (0, .ref (a 0)), (1, .ref q1), (2, .int (nI (suN I)))]) hx hb dL_isWhole_148 rfl hl (by decide) rfl (fun ls hl => ?_)
      refine lv_iload hx hb dL_isWhole_149 (lv_at hl 4 rfl) ?_
      refine lv_asi (nI 0) (by first | rfl | (rw [hb9]; rfl)) ?_
      refine lv_if_eq (tgt := 166) hx hb dL_isWhole_151 (by decide) (fun _ => ?_) (fun z => absurd ((nI_eq (a := 0) (b := 0) (by omega) (by omega)).mpr (by omega)) z)
      refine lv_iload hx hb dL_isWhole_166 (lv_at hl 8 rfl) ?_
      refine lv_istore (lv' := [(5, .int (lwN (fall I h) (lf I (sB I h) q))), (3, .int (nI ((sm (wt (sB I h) (wv (wd I))) q) + 0))), (4, .int (nI ((sm (wt (sB I h) w1) q) + 0))), (6, .int (nI 1)), (11, .int (-99993)), (10, .int (bI (sB I h (q / 61) (q % 61)))), (9, .int (nI (q % 61))), (8, .int (nI (q / 61))), (7, .int (nI q)), (0, .ref (a 0)), (1, .ref q1), (2, .int (nI (suN I)))]) hx hb dL_isWhole_168 hl (by decide) rfl (fun ls hl => ?_)
      refine lv_iinc (v := (nI (q + 1))) (lv' := [(7, .int (nI (q + 1))), (5, .int (lwN (fall I h) (lf I (sB I h) q))), (3, .int (nI ((sm (wt (sB I h) (wv (wd I))) q) + 0))), (4, .int (nI ((sm (wt (sB I h) w1) q) + 0))), (6, .int (nI 1)), (11, .int (-99993)), (10, .int (bI (sB I h (q / 61) (q % 61)))), (9, .int (nI (q % 61))), (8, .int (nI (q / 61))), (0, .ref (a 0)), (1, .ref q1), (2, .int (nI (suN I)))]) hx hb dL_isWhole_170 hl (k := 8) rfl (nI_inc _) (by decide) rfl (fun ls hl => ?_)
      refine lv_goto (tgt := 15) hx hb dL_isWhole_173 (by decide) ?_
      skip
      have hl := lv_sub (l' := [(7, .int (nI (q + 1))), (6, .int (nI 1)), (5, .int (lwN (fall I h) (lf I (sB I h) q))), (4, .int (nI ((sm (wt (sB I h) w1) q) + 0))), (3, .int (nI ((sm (wt (sB I h) (wv (wd I))) q) + 0))), (0, .ref (a 0)), (1, .ref q1), (2, .int (nI (suN I)))]) hl [0, 4, 1, 3, 2, 9, 10, 11] rfl
      refine W.widen (k := 7 * (q + 1)) (n := 42 * (q + 1)) (by omega) (by omega) ?_
      rw [← eq1, ← eq2, ← lwN_n (fall I h) hb9] at hl
      exact ih (q + 1) (by omega) H _ ls J hJ hP1 hP2 hS hl
