/-! ===== a turn of the law ===== -/
/-- what goes on at the next turn's head -/
def LN (p : Program) (l : Launch) (e : Env) (s : State) (m : MethodId) (below : List Frame) (meth : Method) (c : Code) (Q : State → Prop) (D : va_G) (a : Nat → Nat) (q1 q2 b : Nat) (cI cL cO : ClassId) (T t c9 s9 : Nat) : Prop := ∀ (H : Heap) (locs : List Loc) (ls : Array Slot) (I : Nat → Nat → Int32) (J : Nat → Nat → Int64) (h : Nat → Nat) (W9 Dn : Nat → Int32) (su cp he : Nat), LI I J h W9 Dn su cp he → va_P D vwCl (oc a cI cL cO I J) H → va_P D vwCl (la cI q1 q2 W9 Dn) H → va_S (fr s) s.heap H locs → lv_has ls 22 (lvT a q1 q2 b su cp he T (t + 1)) → W p l e room_1 s m #[Value.ref b] below meth c H locs (c9 + 2800) (s9 + 17000) Q (F0 m 93 ls [])
set_option maxHeartbeats 1000000 in
set_option maxRecDepth 100000 in
theorem end_b {p : Program} {l : Launch} {e : Env} {s : State} {m : MethodId} {below : List Frame} {meth : Method} {c : Code} {H : Heap} {locs : List Loc} {Q : State → Prop} {ls : Array Slot} {D : va_G} {a : Nat → Nat} {q1 q2 b L T t su cp he c9 s9 : Nat} {cI cL cO : ClassId} {xs : Nat → Int32} {I : Nat → Nat → Int32} {J : Nat → Nat → Int64} {h : Nat → Nat} {W9 Dn : Nat → Int32} (C : LC p l s m c D a q1 q2 b cI cL cO L xs) (hLI : LI I J h W9 Dn su cp he) (hP1 : va_P D vwCl (oc a cI cL cO I J) H) (hP2 : va_P D vwCl (la cI q1 q2 W9 Dn) H) (hS : va_S (fr s) s.heap H locs) (ht : t < 1000) (hR : c9 + 2800 ≤ 683036 ∧ s9 + 17000 ≤ 7052515) (K : LN p l e s m below meth c Q D a q1 q2 b cI cL cO T t c9 s9) (hl : lv_has ls 22 [(7, .int (nI 1)), (0, .ref b), (1, .ref (a 0)), (2, .ref q1), (3, .ref q2), (4, .int (nI su)), (5, .int (nI cp)), (6, .int (nI he)), (8, .int (nI T)), (9, .int (nI t))]) : W p l e room_1 s m #[Value.ref b] below meth c H locs (c9 + 200) (s9 + 1200) Q (F0 m 1575 ls []) := by
  have hD := C.D
  have C' := C
  obtain ⟨hl0, S, hK, -, hES, hEH, hX, hbl, hL⟩ := C'
  have hx := S.1
  have hb := S.2.1
  have hown := S.2.2.2.1
  have hts := S.2.2.2.2
  have hA : ∀ z9 : Nat, s.heap.size ≤ z9 → fr s z9 := fun _ h => h
  obtain ⟨hG, hJ, hW, hDn, hsu, hcp, hhe⟩ := hLI
  have bc : cp ≤ 3 := hcp ▸ cc_3 hG
  refine lv_iload hx hb dL_law_1575 (lv_at hl 9 rfl) ?_
  refine lv_bipush (v := (nI 12)) hx hb dL_law_1577 (by decide) ?_
  refine lv_irem hx hb dL_law_1579 (by decide) ?_
  refine lv_asi (nI (t % 12)) (pk_rem (by omega) (by omega) (by omega)) ?_
  refine lv_if_gt (tgt := 1593) hx hb dL_law_1580 (by decide) (fun c1 => ?_) (fun c1 => ?_)
  · skip
    refine lv_iconst (v := (nI 1)) hx hb dL_law_1593 (by decide) ?_
    refine lv_goto (tgt := 1598) hx hb dL_law_1594 (by decide) ?_
    refine lv_istore (lv' := [(7, .int (nI 1)), (0, .ref b), (1, .ref (a 0)), (2, .ref q1), (3, .ref q2), (4, .int (nI su)), (5, .int (nI cp)), (6, .int (nI he)), (8, .int (nI T)), (9, .int (nI t))]) hx hb dL_law_1598 hl (by decide) rfl (fun ls hl => ?_)
    refine lv_iinc (v := (nI (t + 1))) (lv' := [(9, .int (nI (t + 1))), (7, .int (nI 1)), (0, .ref b), (1, .ref (a 0)), (2, .ref q1), (3, .ref q2), (4, .int (nI su)), (5, .int (nI cp)), (6, .int (nI he)), (8, .int (nI T))]) hx hb dL_law_1600 hl (k := 9) rfl (nI_inc _) (by decide) rfl (fun ls hl => ?_)
    refine lv_goto (tgt := 93) hx hb dL_law_1603 (by decide) ?_
    refine W.widen (k := c9 + 2800) (n := s9 + 17000) (by omega) (by omega) ?_
    exact K H _ ls I J h W9 Dn su cp he ⟨hG, hJ, hW, hDn, hsu, hcp, hhe⟩ hP1 hP2 hS (lv_sub hl [1, 2, 3, 4, 5, 6, 7, 8, 9, 0] rfl)
  · refine lv_aload_n hx hb dL_law_1583 rfl (lv_at hl 2 rfl) ?_
    refine lv_aload_n hx hb dL_law_1584 rfl (lv_at hl 3 rfl) ?_
    refine lv_iload hx hb dL_law_1585 (lv_at hl 5 rfl) ?_
    have q9 := n_isWhole l hl0 D a cI cL cO q1 hG hJ hW H.size
    rw [hsu] at q9
    have hD9 : ∀ (J : Nat → Nat → Int64), va_D (fr s) ((oc a cI cL cO I J ++ [(q1, .inl (cI, 6, .inl W9))]) ++ [(q2, .inl (cI, 12, .inl Dn))]) := fun J => by
      rw [List.append_assoc]
      exact hD I J W9 Dn
    have hPw := va_P.fst (w1 := [(q1, .inl (cI, 6, .inl W9))]) (w2 := [(q2, .inl (cI, 12, .inl Dn))]) hP2
    have hPd := va_P.snd (w1 := [(q1, .inl (cI, 6, .inl W9))]) (w2 := [(q2, .inl (cI, 12, .inl Dn))]) hP2
    refine l_hs (As := [.ref (a 0), .ref q1, .int (nI su)]) (rest := []) S q9 (va_cwS 3 hts gL_law_L_isWhole rfl rfl rfl (by decide +kernel) ⟨Nat.le_of_ble_eq_true rfl, Nat.le_of_ble_eq_true rfl⟩) hK (va_P.app hP1 hPw) hPd (hD9 J) hES hEH hS hA rfl hl.1 rfl (Nat.le_of_ble_eq_true rfl) dL_law_1587 ⟨by show _ ≤ 683036; omega, by show _ ≤ 7052515; omega⟩ (fun H locs hP1 hPd hS => ?_)
    obtain ⟨J, hJ, hP⟩ := hP1
    have hP1 := hP.fst
    have hP2 : va_P D vwCl (la cI q1 q2 W9 Dn) H := va_P.app hP.snd hPd
    refine lv_asi (nI 1) rfl ?_
    refine lv_if_eq (tgt := 1597) hx hb dL_law_1590 (by decide) (fun z => absurd ((nI_eq (a := 1) (b := 0) (by omega) (by omega)).mp z) (by omega)) (fun _ => ?_)
    refine lv_iconst (v := (nI 1)) hx hb dL_law_1593 (by decide) ?_
    refine lv_goto (tgt := 1598) hx hb dL_law_1594 (by decide) ?_
    refine lv_istore (lv' := [(7, .int (nI 1)), (0, .ref b), (1, .ref (a 0)), (2, .ref q1), (3, .ref q2), (4, .int (nI su)), (5, .int (nI cp)), (6, .int (nI he)), (8, .int (nI T)), (9, .int (nI t))]) hx hb dL_law_1598 hl (by decide) rfl (fun ls hl => ?_)
    refine lv_iinc (v := (nI (t + 1))) (lv' := [(9, .int (nI (t + 1))), (7, .int (nI 1)), (0, .ref b), (1, .ref (a 0)), (2, .ref q1), (3, .ref q2), (4, .int (nI su)), (5, .int (nI cp)), (6, .int (nI he)), (8, .int (nI T))]) hx hb dL_law_1600 hl (k := 9) rfl (nI_inc _) (by decide) rfl (fun ls hl => ?_)
    refine lv_goto (tgt := 93) hx hb dL_law_1603 (by decide) ?_
    refine W.widen (k := c9 + 2800) (n := s9 + 17000) (by omega) (by omega) ?_
    exact K H _ ls I J h W9 Dn su cp he ⟨hG, hJ, hW, hDn, hsu, hcp, hhe⟩ hP1 hP2 hS (lv_sub hl [1, 2, 3, 4, 5, 6, 7, 8, 9, 0] rfl)
set_option maxHeartbeats 1000000 in
set_option maxRecDepth 100000 in
theorem end_a {p : Program} {l : Launch} {e : Env} {s : State} {m : MethodId} {below : List Frame} {meth : Method} {c : Code} {H : Heap} {locs : List Loc} {Q : State → Prop} {ls : Array Slot} {D : va_G} {a : Nat → Nat} {q1 q2 b L T t su cp he c9 s9 : Nat} {cI cL cO : ClassId} {xs : Nat → Int32} {I : Nat → Nat → Int32} {J : Nat → Nat → Int64} {h : Nat → Nat} {W9 Dn : Nat → Int32} (C : LC p l s m c D a q1 q2 b cI cL cO L xs) (hLI : LI I J h W9 Dn su cp he) (hP1 : va_P D vwCl (oc a cI cL cO I J) H) (hP2 : va_P D vwCl (la cI q1 q2 W9 Dn) H) (hS : va_S (fr s) s.heap H locs) (ht : t < 1000) (hR : c9 + 2800 ≤ 683036 ∧ s9 + 17000 ≤ 7052515) (K : LN p l e s m below meth c Q D a q1 q2 b cI cL cO T t c9 s9) (hl : lv_has ls 22 [(7, .int (nI 1)), (0, .ref b), (1, .ref (a 0)), (2, .ref q1), (3, .ref q2), (4, .int (nI su)), (5, .int (nI cp)), (6, .int (nI he)), (8, .int (nI T)), (9, .int (nI t))]) : W p l e room_1 s m #[Value.ref b] below meth c H locs (c9 + 200) (s9 + 1200) Q (F0 m 1518 ls []) := by
  have hD := C.D
  have C' := C
  obtain ⟨hl0, S, hK, -, hES, hEH, hX, hbl, hL⟩ := C'
  have hx := S.1
  have hb := S.2.1
  have hown := S.2.2.2.1
  have hts := S.2.2.2.2
  have hA : ∀ z9 : Nat, s.heap.size ≤ z9 → fr s z9 := fun _ h => h
  obtain ⟨hG, hJ, hW, hDn, hsu, hcp, hhe⟩ := hLI
  have bc : cp ≤ 3 := hcp ▸ cc_3 hG
  have bsu := gi_su hG
  rw [hsu] at bsu
  obtain ⟨n9, hn9⟩ : ∃ n9, nd I h = n9 := ⟨_, rfl⟩
  have bn : n9 ≤ 5124 := hn9 ▸ nd_bd hG _
  have sl := stN_law (n := n9) (s := su) bsu.2.1
  have sb := stN_lt n9 su
  refine lv_iload hx hb dL_law_1518 (lv_at hl 0 rfl) ?_
  refine lv_if_eq (tgt := 1597) hx hb dL_law_1520 (by decide) (fun z => absurd ((nI_eq (a := 1) (b := 0) (by omega) (by omega)).mp z) (by omega)) (fun _ => ?_)
  refine lv_aload_n hx hb dL_law_1523 rfl (lv_at hl 2 rfl) ?_
  refine l_cls (As := []) (rest := []) S (n_sagStep l D a cI cL cO hG hJ) (cwV 0 hts gL_law_X0_sagStep rfl rfl rfl (by decide +kernel) ⟨Nat.le_of_ble_eq_true rfl, Nat.le_of_ble_eq_true rfl⟩) hK hP1 hP2 (hD _ _ _ _) hS rfl rfl oc_at0 rfl hl.1 rfl (Nat.le_of_ble_eq_true rfl) dL_law_1524 ⟨by show _ ≤ 683036; omega, by show _ ≤ 7052515; omega⟩ (fun H locs hP1 hP2 hS => ?_)
  have hJ := g_J hG hJ
  generalize fsW I J 0 0 = J at hJ hP1
  refine lv_asi (nI (stN n9 su)) (by rw [hn9, hsu]) ?_
  refine lv_aload_n hx hb dL_law_1527 rfl (lv_at hl 2 rfl) ?_
  refine l_cls (As := []) (rest := [.int (nI (stN n9 su))]) S (n_need l D a cI cL cO hG hJ) (cwV 0 hts gL_law_X0_need rfl rfl rfl (by decide +kernel) ⟨Nat.le_of_ble_eq_true rfl, Nat.le_of_ble_eq_true rfl⟩) hK hP1 hP2 (hD _ _ _ _) hS rfl rfl oc_at0 rfl hl.1 rfl (Nat.le_of_ble_eq_true rfl) dL_law_1528 ⟨by show _ ≤ 683036; omega, by show _ ≤ 7052515; omega⟩ (fun H locs hP1 hP2 hS => ?_)
  have hJ := g_J hG hJ
  generalize fsW I J 0 0 = J at hJ hP1
  refine lv_asi (nI n9) (congrArg nI hn9) ?_
  refine lv_iload hx hb dL_law_1531 (lv_at hl 5 rfl) ?_
  refine lv_icmp_gt (tgt := 1540) hx hb dL_law_1533 (by decide) (fun c1 => ?_) (fun c1 => ?_)
  · have c2 := (nI_ltI (a := su) (b := n9) (by omega) (by omega)).mp c1
    refine lv_aload_n hx hb dL_law_1540 rfl (lv_at hl 2 rfl) ?_
    refine l_cls (As := []) (rest := [.int (nI (stN n9 su))]) S (n_need l D a cI cL cO hG hJ) (cwV 0 hts gL_law_X0_need rfl rfl rfl (by decide +kernel) ⟨Nat.le_of_ble_eq_true rfl, Nat.le_of_ble_eq_true rfl⟩) hK hP1 hP2 (hD _ _ _ _) hS rfl rfl oc_at0 rfl hl.1 rfl (Nat.le_of_ble_eq_true rfl) dL_law_1541 ⟨by show _ ≤ 683036; omega, by show _ ≤ 7052515; omega⟩ (fun H locs hP1 hP2 hS => ?_)
    have hJ := g_J hG hJ
    generalize fsW I J 0 0 = J at hJ hP1
    refine lv_asi (nI n9) (congrArg nI hn9) ?_
    refine lv_iload hx hb dL_law_1544 (lv_at hl 5 rfl) ?_
    refine lv_isub hx hb dL_law_1546 ?_
    refine lv_asi (nI (n9 - su)) (pk_sub (by omega)) ?_
    refine lv_iload hx hb dL_law_1547 (lv_at hl 5 rfl) ?_
    refine lv_icmp_lt (tgt := 1557) hx hb dL_law_1549 (by decide) (fun c3 => ?_) (fun c3 => ?_)
    · have c4 := (nI_ltI (a := n9 - su) (b := su) (by omega) (by omega)).mp c3
      have e9 := sl.2 (by omega) (by omega)
      have hq9 : 10 * (n9 - su) / su < 100000 := Nat.lt_of_le_of_lt (Nat.div_le_self _ _) (by omega)
      refine lv_iconst (v := (nI 1)) hx hb dL_law_1557 (by decide) ?_
      refine lv_bipush (v := (nI 10)) hx hb dL_law_1558 (by decide) ?_
      refine lv_aload_n hx hb dL_law_1560 rfl (lv_at hl 2 rfl) ?_
      refine l_cls (As := []) (rest := [.int (nI 10), .int (nI 1), .int (nI (stN n9 su))]) S (n_need l D a cI cL cO hG hJ) (cwV 0 hts gL_law_X0_need rfl rfl rfl (by decide +kernel) ⟨Nat.le_of_ble_eq_true rfl, Nat.le_of_ble_eq_true rfl⟩) hK hP1 hP2 (hD _ _ _ _) hS rfl rfl oc_at0 rfl hl.1 rfl (Nat.le_of_ble_eq_true rfl) dL_law_1561 ⟨by show _ ≤ 683036; omega, by show _ ≤ 7052515; omega⟩ (fun H locs hP1 hP2 hS => ?_)
      have hJ := g_J hG hJ
      generalize fsW I J 0 0 = J at hJ hP1
      refine lv_asi (nI n9) (congrArg nI hn9) ?_
      refine lv_iload hx hb dL_law_1564 (lv_at hl 5 rfl) ?_
      refine lv_isub hx hb dL_law_1566 ?_
      refine lv_asi (nI (n9 - su)) (pk_sub (by omega)) ?_
      refine lv_imul hx hb dL_law_1567 ?_
      refine lv_asi (nI (10 * (n9 - su))) (pk_mul _ _) ?_
      refine lv_iload hx hb dL_law_1568 (lv_at hl 5 rfl) ?_
      refine lv_idiv hx hb dL_law_1570 (nI_ne0 (by omega) (by omega)) ?_
      refine lv_asi (nI ((10 * (n9 - su)) / su)) (pk_div (by omega) (by omega) (by omega)) ?_
      refine lv_iadd hx hb dL_law_1571 ?_
      refine lv_asi (nI (1 + ((10 * (n9 - su)) / su))) (nI_add _ _) ?_
      refine lv_icmp_ne (tgt := 1597) hx hb dL_law_1572 (by decide) (fun z => absurd (congrArg nI e9) z) (fun _ => ?_)
      exact end_b C ⟨hG, hJ, hW, hDn, hsu, hcp, hhe⟩ hP1 hP2 hS ht hR K hl
    · have c4 : ¬ n9 - su < su := fun q => c3 ((nI_ltI (a := n9 - su) (b := su) (by omega) (by omega)).mpr q)
      have e9 := sl.1 (by omega) (by omega)
      refine lv_bipush (v := (nI 10)) hx hb dL_law_1552 (by decide) ?_
      refine lv_goto (tgt := 1572) hx hb dL_law_1554 (by decide) ?_
      refine lv_icmp_ne (tgt := 1597) hx hb dL_law_1572 (by decide) (fun z => absurd (congrArg nI e9) z) (fun _ => ?_)
      exact end_b C ⟨hG, hJ, hW, hDn, hsu, hcp, hhe⟩ hP1 hP2 hS ht hR K hl
  · have c2 : n9 ≤ su := Nat.le_of_not_lt (fun q => c1 ((nI_ltI (a := su) (b := n9) (by omega) (by omega)).mpr q))
    have e9 : stN n9 su = 0 := if_pos c2
    refine lv_iconst (v := (nI 0)) hx hb dL_law_1536 (by decide) ?_
    refine lv_goto (tgt := 1572) hx hb dL_law_1537 (by decide) ?_
    refine lv_icmp_ne (tgt := 1597) hx hb dL_law_1572 (by decide) (fun z => absurd (congrArg nI e9) z) (fun _ => ?_)
    exact end_b C ⟨hG, hJ, hW, hDn, hsu, hcp, hhe⟩ hP1 hP2 hS ht hR K hl
set_option maxHeartbeats 1000000 in
set_option maxRecDepth 100000 in
theorem turn_d {p : Program} {l : Launch} {e : Env} {s : State} {m : MethodId} {below : List Frame} {meth : Method} {c : Code} {H : Heap} {locs : List Loc} {Q : State → Prop} {ls : Array Slot} {D : va_G} {a : Nat → Nat} {q1 q2 b L T t su cp he c9 s9 : Nat} {cI cL cO : ClassId} {xs : Nat → Int32} {I : Nat → Nat → Int32} {J : Nat → Nat → Int64} {h : Nat → Nat} {W9 Dn : Nat → Int32} {Y dd m9 st : Nat} (C : LC p l s m c D a q1 q2 b cI cL cO L xs) (hLI : LI I J h W9 Dn su cp he) (hP1 : va_P D vwCl (oc a cI cL cO I J) H) (hP2 : va_P D vwCl (la cI q1 q2 W9 Dn) H) (hS : va_S (fr s) s.heap H locs) (ht : t < 1000) (hR : c9 + 2800 ≤ 683036 ∧ s9 + 17000 ≤ 7052515) (hY : Y < 2 ^ 28) (hdd : dd < 16) (hm : m9 < 3) (hst : st < 12) (K : LK p l e s m below meth c Q D a q1 q2 b cI cL cO T t c9 s9) (hl : lv_has ls 22 [(7, .int (nI 1)), (0, .ref b), (1, .ref (a 0)), (2, .ref q1), (3, .ref q2), (4, .int (nI su)), (5, .int (nI cp)), (6, .int (nI he)), (8, .int (nI T)), (9, .int (nI t)), (11, .int (nI Y)), (12, .int (nI dd)), (13, .int (nI m9))]) : W p l e room_1 s m #[Value.ref b] below meth c H locs c9 s9 Q (F0 m 207 ls [.int (nI st)]) := by
  have hD := C.D
  have C' := C
  obtain ⟨hl0, S, hK, -, hES, hEH, hX, hbl, hL⟩ := C'
  have hx := S.1
  have hb := S.2.1
  have hown := S.2.2.2.1
  have hts := S.2.2.2.2
  have hA : ∀ z9 : Nat, s.heap.size ≤ z9 → fr s z9 := fun _ h => h
  obtain ⟨hG, hJ, hW, hDn, hsu, hcp, hhe⟩ := hLI
  have bc : cp ≤ 3 := hcp ▸ cc_3 hG
  refine lv_istore (lv' := [(14, .int (nI st)), (7, .int (nI 1)), (0, .ref b), (1, .ref (a 0)), (2, .ref q1), (3, .ref q2), (4, .int (nI su)), (5, .int (nI cp)), (6, .int (nI he)), (8, .int (nI T)), (9, .int (nI t)), (11, .int (nI Y)), (12, .int (nI dd)), (13, .int (nI m9))]) hx hb dL_law_207 hl (by decide) rfl (fun ls hl => ?_)
  refine lv_aload_n hx hb dL_law_209 rfl (lv_at hl 3 rfl) ?_
  obtain ⟨n9, hn9⟩ : ∃ n9, nd I h = n9 := ⟨_, rfl⟩
  obtain ⟨p9, hp9⟩ : ∃ p9, pp I h = p9 := ⟨_, rfl⟩
  refine l_cls (As := []) (rest := []) S (n_need l D a cI cL cO hG hJ) (cwV 0 hts gL_law_X0_need rfl rfl rfl (by decide +kernel) ⟨Nat.le_of_ble_eq_true rfl, Nat.le_of_ble_eq_true rfl⟩) hK hP1 hP2 (hD _ _ _ _) hS rfl rfl oc_at0 rfl hl.1 rfl (Nat.le_of_ble_eq_true rfl) dL_law_210 ⟨by show _ ≤ 683036; omega, by show _ ≤ 7052515; omega⟩ (fun H locs hP1 hP2 hS => ?_)
  have hJ := g_J hG hJ
  generalize fsW I J 0 0 = J at hJ hP1
  refine lv_asi (nI n9) (congrArg nI hn9) ?_
  refine lv_istore (lv' := [(15, .int (nI n9)), (14, .int (nI st)), (7, .int (nI 1)), (0, .ref b), (1, .ref (a 0)), (2, .ref q1), (3, .ref q2), (4, .int (nI su)), (5, .int (nI cp)), (6, .int (nI he)), (8, .int (nI T)), (9, .int (nI t)), (11, .int (nI Y)), (12, .int (nI dd)), (13, .int (nI m9))]) hx hb dL_law_213 hl (by decide) rfl (fun ls hl => ?_)
  refine lv_aload_n hx hb dL_law_215 rfl (lv_at hl 4 rfl) ?_
  refine l_cls (As := []) (rest := []) S (n_pipes l D a cI cL cO hG hJ) (cwV 0 hts gL_law_X0_pipes rfl rfl rfl (by decide +kernel) ⟨Nat.le_of_ble_eq_true rfl, Nat.le_of_ble_eq_true rfl⟩) hK hP1 hP2 (hD _ _ _ _) hS rfl rfl oc_at0 rfl hl.1 rfl (Nat.le_of_ble_eq_true rfl) dL_law_216 ⟨by show _ ≤ 683036; omega, by show _ ≤ 7052515; omega⟩ (fun H locs hP1 hP2 hS => ?_)
  have hJ := g_J hG hJ
  generalize fsW I J 0 0 = J at hJ hP1
  refine lv_asi (nI p9) (congrArg nI hp9) ?_
  refine lv_istore (lv' := [(16, .int (nI p9)), (15, .int (nI n9)), (14, .int (nI st)), (7, .int (nI 1)), (0, .ref b), (1, .ref (a 0)), (2, .ref q1), (3, .ref q2), (4, .int (nI su)), (5, .int (nI cp)), (6, .int (nI he)), (8, .int (nI T)), (9, .int (nI t)), (11, .int (nI Y)), (12, .int (nI dd)), (13, .int (nI m9))]) hx hb dL_law_219 hl (by decide) rfl (fun ls hl => ?_)
  have hl := lv_sub (l' := [(0, .ref b), (1, .ref (a 0)), (2, .ref q1), (3, .ref q2), (4, .int (nI su)), (5, .int (nI cp)), (6, .int (nI he)), (7, .int (nI 1)), (8, .int (nI T)), (9, .int (nI t)), (11, .int (nI Y)), (13, .int (nI m9)), (14, .int (nI st)), (15, .int (nI n9)), (16, .int (nI p9)), (12, .int (nI dd))]) hl [4, 5, 6, 7, 8, 9, 10, 3, 11, 12, 13, 15, 2, 1, 0, 14] rfl
  rcases (show dd = 0 ∨ dd = 1 ∨ dd = 2 ∨ dd = 3 ∨ dd = 4 ∨ dd = 5 ∨ dd = 6 ∨ dd = 7 ∨ dd = 8 ∨ dd = 9 ∨ dd = 10 ∨ dd = 11 ∨ dd = 12 ∨ dd = 13 ∨ dd = 14 ∨ dd = 15 by omega) with rfl | rfl | rfl | rfl | rfl | rfl | rfl | rfl | rfl | rfl | rfl | rfl | rfl | rfl | rfl | rfl
  · skip
    refine lv_iload hx hb dL_law_221 (lv_at hl 15 rfl) ?_
    refine lv_if_ne (tgt := 292) hx hb dL_law_223 (by decide) (fun z => absurd ((nI_eq (a := 0) (b := 0) (by omega) (by omega)).mpr (by omega)) z) (fun _ => ?_)
    exact deed_0 C ⟨hG, hJ, hW, hDn, hsu, hcp, hhe⟩ hP1 hP2 hS hY hm hst hn9 hp9 hR K (lv_sub hl [0, 1, 2, 3, 4, 5, 6, 7, 8, 9, 10, 11, 12, 13, 14] rfl)
  · skip
    refine lv_iload hx hb dL_law_221 (lv_at hl 15 rfl) ?_
    refine lv_if_ne (tgt := 292) hx hb dL_law_223 (by decide) (fun _ => ?_) (fun z => absurd ((nI_eq (a := 1) (b := 0) (by omega) (by omega)).mp z) (by omega))
    refine lv_iload hx hb dL_law_292 (lv_at hl 15 rfl) ?_
    refine lv_iconst (v := (nI 1)) hx hb dL_law_294 (by decide) ?_
    refine lv_icmp_ne (tgt := 354) hx hb dL_law_295 (by decide) (fun z => absurd ((nI_eq (a := 1) (b := 1) (by omega) (by omega)).mpr (by omega)) z) (fun _ => ?_)
    exact deed_1 C ⟨hG, hJ, hW, hDn, hsu, hcp, hhe⟩ hP1 hP2 hS hY hm hst hn9 hp9 hR K (lv_sub hl [0, 1, 2, 3, 4, 5, 6, 7, 8, 9, 10, 11, 12, 13, 14] rfl)
  · skip
    refine lv_iload hx hb dL_law_221 (lv_at hl 15 rfl) ?_
    refine lv_if_ne (tgt := 292) hx hb dL_law_223 (by decide) (fun _ => ?_) (fun z => absurd ((nI_eq (a := 2) (b := 0) (by omega) (by omega)).mp z) (by omega))
    refine lv_iload hx hb dL_law_292 (lv_at hl 15 rfl) ?_
    refine lv_iconst (v := (nI 1)) hx hb dL_law_294 (by decide) ?_
    refine lv_icmp_ne (tgt := 354) hx hb dL_law_295 (by decide) (fun _ => ?_) (fun z => absurd ((nI_eq (a := 2) (b := 1) (by omega) (by omega)).mp z) (by omega))
    refine lv_iload hx hb dL_law_354 (lv_at hl 15 rfl) ?_
    refine lv_iconst (v := (nI 2)) hx hb dL_law_356 (by decide) ?_
    refine lv_icmp_ne (tgt := 518) hx hb dL_law_357 (by decide) (fun z => absurd ((nI_eq (a := 2) (b := 2) (by omega) (by omega)).mpr (by omega)) z) (fun _ => ?_)
    exact deed_2 C ⟨hG, hJ, hW, hDn, hsu, hcp, hhe⟩ hP1 hP2 hS hY hm hst hn9 hp9 hR K (lv_sub hl [0, 1, 2, 3, 4, 5, 6, 7, 8, 9, 10, 11, 12, 13, 14] rfl)
  · skip
    refine lv_iload hx hb dL_law_221 (lv_at hl 15 rfl) ?_
    refine lv_if_ne (tgt := 292) hx hb dL_law_223 (by decide) (fun _ => ?_) (fun z => absurd ((nI_eq (a := 3) (b := 0) (by omega) (by omega)).mp z) (by omega))
    refine lv_iload hx hb dL_law_292 (lv_at hl 15 rfl) ?_
    refine lv_iconst (v := (nI 1)) hx hb dL_law_294 (by decide) ?_
    refine lv_icmp_ne (tgt := 354) hx hb dL_law_295 (by decide) (fun _ => ?_) (fun z => absurd ((nI_eq (a := 3) (b := 1) (by omega) (by omega)).mp z) (by omega))
    refine lv_iload hx hb dL_law_354 (lv_at hl 15 rfl) ?_
    refine lv_iconst (v := (nI 2)) hx hb dL_law_356 (by decide) ?_
    refine lv_icmp_ne (tgt := 518) hx hb dL_law_357 (by decide) (fun _ => ?_) (fun z => absurd ((nI_eq (a := 3) (b := 2) (by omega) (by omega)).mp z) (by omega))
    refine lv_iload hx hb dL_law_518 (lv_at hl 15 rfl) ?_
    refine lv_iconst (v := (nI 3)) hx hb dL_law_520 (by decide) ?_
    refine lv_icmp_ne (tgt := 606) hx hb dL_law_521 (by decide) (fun z => absurd ((nI_eq (a := 3) (b := 3) (by omega) (by omega)).mpr (by omega)) z) (fun _ => ?_)
    exact deed_3 C ⟨hG, hJ, hW, hDn, hsu, hcp, hhe⟩ hP1 hP2 hS hY hm hst hn9 hp9 hR K (lv_sub hl [0, 1, 2, 3, 4, 5, 6, 7, 8, 9, 10, 11, 12, 13, 14] rfl)
  · skip
    refine lv_iload hx hb dL_law_221 (lv_at hl 15 rfl) ?_
    refine lv_if_ne (tgt := 292) hx hb dL_law_223 (by decide) (fun _ => ?_) (fun z => absurd ((nI_eq (a := 4) (b := 0) (by omega) (by omega)).mp z) (by omega))
    refine lv_iload hx hb dL_law_292 (lv_at hl 15 rfl) ?_
    refine lv_iconst (v := (nI 1)) hx hb dL_law_294 (by decide) ?_
    refine lv_icmp_ne (tgt := 354) hx hb dL_law_295 (by decide) (fun _ => ?_) (fun z => absurd ((nI_eq (a := 4) (b := 1) (by omega) (by omega)).mp z) (by omega))
    refine lv_iload hx hb dL_law_354 (lv_at hl 15 rfl) ?_
    refine lv_iconst (v := (nI 2)) hx hb dL_law_356 (by decide) ?_
    refine lv_icmp_ne (tgt := 518) hx hb dL_law_357 (by decide) (fun _ => ?_) (fun z => absurd ((nI_eq (a := 4) (b := 2) (by omega) (by omega)).mp z) (by omega))
    refine lv_iload hx hb dL_law_518 (lv_at hl 15 rfl) ?_
    refine lv_iconst (v := (nI 3)) hx hb dL_law_520 (by decide) ?_
    refine lv_icmp_ne (tgt := 606) hx hb dL_law_521 (by decide) (fun _ => ?_) (fun z => absurd ((nI_eq (a := 4) (b := 3) (by omega) (by omega)).mp z) (by omega))
    refine lv_iload hx hb dL_law_606 (lv_at hl 15 rfl) ?_
    refine lv_bipush (v := (nI 6)) hx hb dL_law_608 (by decide) ?_
    refine lv_icmp_ge (tgt := 710) hx hb dL_law_610 (by decide) (fun z => absurd ((nI_leI (a := 6) (b := 4) (by omega) (by omega)).mp z) (by omega)) (fun _ => ?_)
    exact deed_4 C ⟨hG, hJ, hW, hDn, hsu, hcp, hhe⟩ hP1 hP2 hS hY hm hst hn9 hp9 hR K (lv_sub hl [0, 1, 2, 3, 4, 5, 6, 7, 8, 9, 10, 11, 12, 13, 14] rfl)
  · skip
    refine lv_iload hx hb dL_law_221 (lv_at hl 15 rfl) ?_
    refine lv_if_ne (tgt := 292) hx hb dL_law_223 (by decide) (fun _ => ?_) (fun z => absurd ((nI_eq (a := 5) (b := 0) (by omega) (by omega)).mp z) (by omega))
    refine lv_iload hx hb dL_law_292 (lv_at hl 15 rfl) ?_
    refine lv_iconst (v := (nI 1)) hx hb dL_law_294 (by decide) ?_
    refine lv_icmp_ne (tgt := 354) hx hb dL_law_295 (by decide) (fun _ => ?_) (fun z => absurd ((nI_eq (a := 5) (b := 1) (by omega) (by omega)).mp z) (by omega))
    refine lv_iload hx hb dL_law_354 (lv_at hl 15 rfl) ?_
    refine lv_iconst (v := (nI 2)) hx hb dL_law_356 (by decide) ?_
    refine lv_icmp_ne (tgt := 518) hx hb dL_law_357 (by decide) (fun _ => ?_) (fun z => absurd ((nI_eq (a := 5) (b := 2) (by omega) (by omega)).mp z) (by omega))
    refine lv_iload hx hb dL_law_518 (lv_at hl 15 rfl) ?_
    refine lv_iconst (v := (nI 3)) hx hb dL_law_520 (by decide) ?_
    refine lv_icmp_ne (tgt := 606) hx hb dL_law_521 (by decide) (fun _ => ?_) (fun z => absurd ((nI_eq (a := 5) (b := 3) (by omega) (by omega)).mp z) (by omega))
    refine lv_iload hx hb dL_law_606 (lv_at hl 15 rfl) ?_
    refine lv_bipush (v := (nI 6)) hx hb dL_law_608 (by decide) ?_
    refine lv_icmp_ge (tgt := 710) hx hb dL_law_610 (by decide) (fun z => absurd ((nI_leI (a := 6) (b := 5) (by omega) (by omega)).mp z) (by omega)) (fun _ => ?_)
    exact deed_4 C ⟨hG, hJ, hW, hDn, hsu, hcp, hhe⟩ hP1 hP2 hS hY hm hst hn9 hp9 hR K (lv_sub hl [0, 1, 2, 3, 4, 5, 6, 7, 8, 9, 10, 11, 12, 13, 14] rfl)
  · skip
    refine lv_iload hx hb dL_law_221 (lv_at hl 15 rfl) ?_
    refine lv_if_ne (tgt := 292) hx hb dL_law_223 (by decide) (fun _ => ?_) (fun z => absurd ((nI_eq (a := 6) (b := 0) (by omega) (by omega)).mp z) (by omega))
    refine lv_iload hx hb dL_law_292 (lv_at hl 15 rfl) ?_
    refine lv_iconst (v := (nI 1)) hx hb dL_law_294 (by decide) ?_
    refine lv_icmp_ne (tgt := 354) hx hb dL_law_295 (by decide) (fun _ => ?_) (fun z => absurd ((nI_eq (a := 6) (b := 1) (by omega) (by omega)).mp z) (by omega))
    refine lv_iload hx hb dL_law_354 (lv_at hl 15 rfl) ?_
    refine lv_iconst (v := (nI 2)) hx hb dL_law_356 (by decide) ?_
    refine lv_icmp_ne (tgt := 518) hx hb dL_law_357 (by decide) (fun _ => ?_) (fun z => absurd ((nI_eq (a := 6) (b := 2) (by omega) (by omega)).mp z) (by omega))
    refine lv_iload hx hb dL_law_518 (lv_at hl 15 rfl) ?_
    refine lv_iconst (v := (nI 3)) hx hb dL_law_520 (by decide) ?_
    refine lv_icmp_ne (tgt := 606) hx hb dL_law_521 (by decide) (fun _ => ?_) (fun z => absurd ((nI_eq (a := 6) (b := 3) (by omega) (by omega)).mp z) (by omega))
    refine lv_iload hx hb dL_law_606 (lv_at hl 15 rfl) ?_
    refine lv_bipush (v := (nI 6)) hx hb dL_law_608 (by decide) ?_
    refine lv_icmp_ge (tgt := 710) hx hb dL_law_610 (by decide) (fun _ => ?_) (fun z => absurd ((nI_leI (a := 6) (b := 6) (by omega) (by omega)).mpr (by omega)) z)
    refine lv_iload hx hb dL_law_710 (lv_at hl 15 rfl) ?_
    refine lv_bipush (v := (nI 10)) hx hb dL_law_712 (by decide) ?_
    refine lv_icmp_ge (tgt := 885) hx hb dL_law_714 (by decide) (fun z => absurd ((nI_leI (a := 10) (b := 6) (by omega) (by omega)).mp z) (by omega)) (fun _ => ?_)
    exact deed_6 C ⟨hG, hJ, hW, hDn, hsu, hcp, hhe⟩ hP1 hP2 hS hY hm hst hn9 hp9 hR K (lv_sub hl [0, 1, 2, 3, 4, 5, 6, 7, 8, 9, 10, 11, 12, 13, 14] rfl)
  · skip
    refine lv_iload hx hb dL_law_221 (lv_at hl 15 rfl) ?_
    refine lv_if_ne (tgt := 292) hx hb dL_law_223 (by decide) (fun _ => ?_) (fun z => absurd ((nI_eq (a := 7) (b := 0) (by omega) (by omega)).mp z) (by omega))
    refine lv_iload hx hb dL_law_292 (lv_at hl 15 rfl) ?_
    refine lv_iconst (v := (nI 1)) hx hb dL_law_294 (by decide) ?_
    refine lv_icmp_ne (tgt := 354) hx hb dL_law_295 (by decide) (fun _ => ?_) (fun z => absurd ((nI_eq (a := 7) (b := 1) (by omega) (by omega)).mp z) (by omega))
    refine lv_iload hx hb dL_law_354 (lv_at hl 15 rfl) ?_
    refine lv_iconst (v := (nI 2)) hx hb dL_law_356 (by decide) ?_
    refine lv_icmp_ne (tgt := 518) hx hb dL_law_357 (by decide) (fun _ => ?_) (fun z => absurd ((nI_eq (a := 7) (b := 2) (by omega) (by omega)).mp z) (by omega))
    refine lv_iload hx hb dL_law_518 (lv_at hl 15 rfl) ?_
    refine lv_iconst (v := (nI 3)) hx hb dL_law_520 (by decide) ?_
    refine lv_icmp_ne (tgt := 606) hx hb dL_law_521 (by decide) (fun _ => ?_) (fun z => absurd ((nI_eq (a := 7) (b := 3) (by omega) (by omega)).mp z) (by omega))
    refine lv_iload hx hb dL_law_606 (lv_at hl 15 rfl) ?_
    refine lv_bipush (v := (nI 6)) hx hb dL_law_608 (by decide) ?_
    refine lv_icmp_ge (tgt := 710) hx hb dL_law_610 (by decide) (fun _ => ?_) (fun z => absurd ((nI_leI (a := 6) (b := 7) (by omega) (by omega)).mpr (by omega)) z)
    refine lv_iload hx hb dL_law_710 (lv_at hl 15 rfl) ?_
    refine lv_bipush (v := (nI 10)) hx hb dL_law_712 (by decide) ?_
    refine lv_icmp_ge (tgt := 885) hx hb dL_law_714 (by decide) (fun z => absurd ((nI_leI (a := 10) (b := 7) (by omega) (by omega)).mp z) (by omega)) (fun _ => ?_)
    exact deed_6 C ⟨hG, hJ, hW, hDn, hsu, hcp, hhe⟩ hP1 hP2 hS hY hm hst hn9 hp9 hR K (lv_sub hl [0, 1, 2, 3, 4, 5, 6, 7, 8, 9, 10, 11, 12, 13, 14] rfl)
  · skip
    refine lv_iload hx hb dL_law_221 (lv_at hl 15 rfl) ?_
    refine lv_if_ne (tgt := 292) hx hb dL_law_223 (by decide) (fun _ => ?_) (fun z => absurd ((nI_eq (a := 8) (b := 0) (by omega) (by omega)).mp z) (by omega))
    refine lv_iload hx hb dL_law_292 (lv_at hl 15 rfl) ?_
    refine lv_iconst (v := (nI 1)) hx hb dL_law_294 (by decide) ?_
    refine lv_icmp_ne (tgt := 354) hx hb dL_law_295 (by decide) (fun _ => ?_) (fun z => absurd ((nI_eq (a := 8) (b := 1) (by omega) (by omega)).mp z) (by omega))
    refine lv_iload hx hb dL_law_354 (lv_at hl 15 rfl) ?_
    refine lv_iconst (v := (nI 2)) hx hb dL_law_356 (by decide) ?_
    refine lv_icmp_ne (tgt := 518) hx hb dL_law_357 (by decide) (fun _ => ?_) (fun z => absurd ((nI_eq (a := 8) (b := 2) (by omega) (by omega)).mp z) (by omega))
    refine lv_iload hx hb dL_law_518 (lv_at hl 15 rfl) ?_
    refine lv_iconst (v := (nI 3)) hx hb dL_law_520 (by decide) ?_
    refine lv_icmp_ne (tgt := 606) hx hb dL_law_521 (by decide) (fun _ => ?_) (fun z => absurd ((nI_eq (a := 8) (b := 3) (by omega) (by omega)).mp z) (by omega))
    refine lv_iload hx hb dL_law_606 (lv_at hl 15 rfl) ?_
    refine lv_bipush (v := (nI 6)) hx hb dL_law_608 (by decide) ?_
    refine lv_icmp_ge (tgt := 710) hx hb dL_law_610 (by decide) (fun _ => ?_) (fun z => absurd ((nI_leI (a := 6) (b := 8) (by omega) (by omega)).mpr (by omega)) z)
    refine lv_iload hx hb dL_law_710 (lv_at hl 15 rfl) ?_
    refine lv_bipush (v := (nI 10)) hx hb dL_law_712 (by decide) ?_
    refine lv_icmp_ge (tgt := 885) hx hb dL_law_714 (by decide) (fun z => absurd ((nI_leI (a := 10) (b := 8) (by omega) (by omega)).mp z) (by omega)) (fun _ => ?_)
    exact deed_6 C ⟨hG, hJ, hW, hDn, hsu, hcp, hhe⟩ hP1 hP2 hS hY hm hst hn9 hp9 hR K (lv_sub hl [0, 1, 2, 3, 4, 5, 6, 7, 8, 9, 10, 11, 12, 13, 14] rfl)
  · skip
    refine lv_iload hx hb dL_law_221 (lv_at hl 15 rfl) ?_
    refine lv_if_ne (tgt := 292) hx hb dL_law_223 (by decide) (fun _ => ?_) (fun z => absurd ((nI_eq (a := 9) (b := 0) (by omega) (by omega)).mp z) (by omega))
    refine lv_iload hx hb dL_law_292 (lv_at hl 15 rfl) ?_
    refine lv_iconst (v := (nI 1)) hx hb dL_law_294 (by decide) ?_
    refine lv_icmp_ne (tgt := 354) hx hb dL_law_295 (by decide) (fun _ => ?_) (fun z => absurd ((nI_eq (a := 9) (b := 1) (by omega) (by omega)).mp z) (by omega))
    refine lv_iload hx hb dL_law_354 (lv_at hl 15 rfl) ?_
    refine lv_iconst (v := (nI 2)) hx hb dL_law_356 (by decide) ?_
    refine lv_icmp_ne (tgt := 518) hx hb dL_law_357 (by decide) (fun _ => ?_) (fun z => absurd ((nI_eq (a := 9) (b := 2) (by omega) (by omega)).mp z) (by omega))
    refine lv_iload hx hb dL_law_518 (lv_at hl 15 rfl) ?_
    refine lv_iconst (v := (nI 3)) hx hb dL_law_520 (by decide) ?_
    refine lv_icmp_ne (tgt := 606) hx hb dL_law_521 (by decide) (fun _ => ?_) (fun z => absurd ((nI_eq (a := 9) (b := 3) (by omega) (by omega)).mp z) (by omega))
    refine lv_iload hx hb dL_law_606 (lv_at hl 15 rfl) ?_
    refine lv_bipush (v := (nI 6)) hx hb dL_law_608 (by decide) ?_
    refine lv_icmp_ge (tgt := 710) hx hb dL_law_610 (by decide) (fun _ => ?_) (fun z => absurd ((nI_leI (a := 6) (b := 9) (by omega) (by omega)).mpr (by omega)) z)
    refine lv_iload hx hb dL_law_710 (lv_at hl 15 rfl) ?_
    refine lv_bipush (v := (nI 10)) hx hb dL_law_712 (by decide) ?_
    refine lv_icmp_ge (tgt := 885) hx hb dL_law_714 (by decide) (fun z => absurd ((nI_leI (a := 10) (b := 9) (by omega) (by omega)).mp z) (by omega)) (fun _ => ?_)
    exact deed_6 C ⟨hG, hJ, hW, hDn, hsu, hcp, hhe⟩ hP1 hP2 hS hY hm hst hn9 hp9 hR K (lv_sub hl [0, 1, 2, 3, 4, 5, 6, 7, 8, 9, 10, 11, 12, 13, 14] rfl)
  · skip
    refine lv_iload hx hb dL_law_221 (lv_at hl 15 rfl) ?_
    refine lv_if_ne (tgt := 292) hx hb dL_law_223 (by decide) (fun _ => ?_) (fun z => absurd ((nI_eq (a := 10) (b := 0) (by omega) (by omega)).mp z) (by omega))
    refine lv_iload hx hb dL_law_292 (lv_at hl 15 rfl) ?_
    refine lv_iconst (v := (nI 1)) hx hb dL_law_294 (by decide) ?_
    refine lv_icmp_ne (tgt := 354) hx hb dL_law_295 (by decide) (fun _ => ?_) (fun z => absurd ((nI_eq (a := 10) (b := 1) (by omega) (by omega)).mp z) (by omega))
    refine lv_iload hx hb dL_law_354 (lv_at hl 15 rfl) ?_
    refine lv_iconst (v := (nI 2)) hx hb dL_law_356 (by decide) ?_
    refine lv_icmp_ne (tgt := 518) hx hb dL_law_357 (by decide) (fun _ => ?_) (fun z => absurd ((nI_eq (a := 10) (b := 2) (by omega) (by omega)).mp z) (by omega))
    refine lv_iload hx hb dL_law_518 (lv_at hl 15 rfl) ?_
    refine lv_iconst (v := (nI 3)) hx hb dL_law_520 (by decide) ?_
    refine lv_icmp_ne (tgt := 606) hx hb dL_law_521 (by decide) (fun _ => ?_) (fun z => absurd ((nI_eq (a := 10) (b := 3) (by omega) (by omega)).mp z) (by omega))
    refine lv_iload hx hb dL_law_606 (lv_at hl 15 rfl) ?_
    refine lv_bipush (v := (nI 6)) hx hb dL_law_608 (by decide) ?_
    refine lv_icmp_ge (tgt := 710) hx hb dL_law_610 (by decide) (fun _ => ?_) (fun z => absurd ((nI_leI (a := 6) (b := 10) (by omega) (by omega)).mpr (by omega)) z)
    refine lv_iload hx hb dL_law_710 (lv_at hl 15 rfl) ?_
    refine lv_bipush (v := (nI 10)) hx hb dL_law_712 (by decide) ?_
    refine lv_icmp_ge (tgt := 885) hx hb dL_law_714 (by decide) (fun _ => ?_) (fun z => absurd ((nI_leI (a := 10) (b := 10) (by omega) (by omega)).mpr (by omega)) z)
    refine lv_iload hx hb dL_law_885 (lv_at hl 15 rfl) ?_
    refine lv_bipush (v := (nI 10)) hx hb dL_law_887 (by decide) ?_
    refine lv_icmp_ne (tgt := 965) hx hb dL_law_889 (by decide) (fun z => absurd ((nI_eq (a := 10) (b := 10) (by omega) (by omega)).mpr (by omega)) z) (fun _ => ?_)
    exact deed_10 C ⟨hG, hJ, hW, hDn, hsu, hcp, hhe⟩ hP1 hP2 hS hY hm hst hn9 hp9 hR K (lv_sub hl [0, 1, 2, 3, 4, 5, 6, 7, 8, 9, 10, 11, 12, 13, 14] rfl)
  · skip
    refine lv_iload hx hb dL_law_221 (lv_at hl 15 rfl) ?_
    refine lv_if_ne (tgt := 292) hx hb dL_law_223 (by decide) (fun _ => ?_) (fun z => absurd ((nI_eq (a := 11) (b := 0) (by omega) (by omega)).mp z) (by omega))
    refine lv_iload hx hb dL_law_292 (lv_at hl 15 rfl) ?_
    refine lv_iconst (v := (nI 1)) hx hb dL_law_294 (by decide) ?_
    refine lv_icmp_ne (tgt := 354) hx hb dL_law_295 (by decide) (fun _ => ?_) (fun z => absurd ((nI_eq (a := 11) (b := 1) (by omega) (by omega)).mp z) (by omega))
    refine lv_iload hx hb dL_law_354 (lv_at hl 15 rfl) ?_
    refine lv_iconst (v := (nI 2)) hx hb dL_law_356 (by decide) ?_
    refine lv_icmp_ne (tgt := 518) hx hb dL_law_357 (by decide) (fun _ => ?_) (fun z => absurd ((nI_eq (a := 11) (b := 2) (by omega) (by omega)).mp z) (by omega))
    refine lv_iload hx hb dL_law_518 (lv_at hl 15 rfl) ?_
    refine lv_iconst (v := (nI 3)) hx hb dL_law_520 (by decide) ?_
    refine lv_icmp_ne (tgt := 606) hx hb dL_law_521 (by decide) (fun _ => ?_) (fun z => absurd ((nI_eq (a := 11) (b := 3) (by omega) (by omega)).mp z) (by omega))
    refine lv_iload hx hb dL_law_606 (lv_at hl 15 rfl) ?_
    refine lv_bipush (v := (nI 6)) hx hb dL_law_608 (by decide) ?_
    refine lv_icmp_ge (tgt := 710) hx hb dL_law_610 (by decide) (fun _ => ?_) (fun z => absurd ((nI_leI (a := 6) (b := 11) (by omega) (by omega)).mpr (by omega)) z)
    refine lv_iload hx hb dL_law_710 (lv_at hl 15 rfl) ?_
    refine lv_bipush (v := (nI 10)) hx hb dL_law_712 (by decide) ?_
    refine lv_icmp_ge (tgt := 885) hx hb dL_law_714 (by decide) (fun _ => ?_) (fun z => absurd ((nI_leI (a := 10) (b := 11) (by omega) (by omega)).mpr (by omega)) z)
    refine lv_iload hx hb dL_law_885 (lv_at hl 15 rfl) ?_
    refine lv_bipush (v := (nI 10)) hx hb dL_law_887 (by decide) ?_
    refine lv_icmp_ne (tgt := 965) hx hb dL_law_889 (by decide) (fun _ => ?_) (fun z => absurd ((nI_eq (a := 11) (b := 10) (by omega) (by omega)).mp z) (by omega))
    refine lv_iload hx hb dL_law_965 (lv_at hl 15 rfl) ?_
    refine lv_bipush (v := (nI 11)) hx hb dL_law_967 (by decide) ?_
    refine lv_icmp_ne (tgt := 1097) hx hb dL_law_969 (by decide) (fun z => absurd ((nI_eq (a := 11) (b := 11) (by omega) (by omega)).mpr (by omega)) z) (fun _ => ?_)
    exact deed_11 C ⟨hG, hJ, hW, hDn, hsu, hcp, hhe⟩ hP1 hP2 hS hY hm hst hn9 hp9 hR K (lv_sub hl [0, 1, 2, 3, 4, 5, 6, 7, 8, 9, 10, 11, 12, 13, 14] rfl)
  · skip
    refine lv_iload hx hb dL_law_221 (lv_at hl 15 rfl) ?_
    refine lv_if_ne (tgt := 292) hx hb dL_law_223 (by decide) (fun _ => ?_) (fun z => absurd ((nI_eq (a := 12) (b := 0) (by omega) (by omega)).mp z) (by omega))
    refine lv_iload hx hb dL_law_292 (lv_at hl 15 rfl) ?_
    refine lv_iconst (v := (nI 1)) hx hb dL_law_294 (by decide) ?_
    refine lv_icmp_ne (tgt := 354) hx hb dL_law_295 (by decide) (fun _ => ?_) (fun z => absurd ((nI_eq (a := 12) (b := 1) (by omega) (by omega)).mp z) (by omega))
    refine lv_iload hx hb dL_law_354 (lv_at hl 15 rfl) ?_
    refine lv_iconst (v := (nI 2)) hx hb dL_law_356 (by decide) ?_
    refine lv_icmp_ne (tgt := 518) hx hb dL_law_357 (by decide) (fun _ => ?_) (fun z => absurd ((nI_eq (a := 12) (b := 2) (by omega) (by omega)).mp z) (by omega))
    refine lv_iload hx hb dL_law_518 (lv_at hl 15 rfl) ?_
    refine lv_iconst (v := (nI 3)) hx hb dL_law_520 (by decide) ?_
    refine lv_icmp_ne (tgt := 606) hx hb dL_law_521 (by decide) (fun _ => ?_) (fun z => absurd ((nI_eq (a := 12) (b := 3) (by omega) (by omega)).mp z) (by omega))
    refine lv_iload hx hb dL_law_606 (lv_at hl 15 rfl) ?_
    refine lv_bipush (v := (nI 6)) hx hb dL_law_608 (by decide) ?_
    refine lv_icmp_ge (tgt := 710) hx hb dL_law_610 (by decide) (fun _ => ?_) (fun z => absurd ((nI_leI (a := 6) (b := 12) (by omega) (by omega)).mpr (by omega)) z)
    refine lv_iload hx hb dL_law_710 (lv_at hl 15 rfl) ?_
    refine lv_bipush (v := (nI 10)) hx hb dL_law_712 (by decide) ?_
    refine lv_icmp_ge (tgt := 885) hx hb dL_law_714 (by decide) (fun _ => ?_) (fun z => absurd ((nI_leI (a := 10) (b := 12) (by omega) (by omega)).mpr (by omega)) z)
    refine lv_iload hx hb dL_law_885 (lv_at hl 15 rfl) ?_
    refine lv_bipush (v := (nI 10)) hx hb dL_law_887 (by decide) ?_
    refine lv_icmp_ne (tgt := 965) hx hb dL_law_889 (by decide) (fun _ => ?_) (fun z => absurd ((nI_eq (a := 12) (b := 10) (by omega) (by omega)).mp z) (by omega))
    refine lv_iload hx hb dL_law_965 (lv_at hl 15 rfl) ?_
    refine lv_bipush (v := (nI 11)) hx hb dL_law_967 (by decide) ?_
    refine lv_icmp_ne (tgt := 1097) hx hb dL_law_969 (by decide) (fun _ => ?_) (fun z => absurd ((nI_eq (a := 12) (b := 11) (by omega) (by omega)).mp z) (by omega))
    refine lv_iload hx hb dL_law_1097 (lv_at hl 15 rfl) ?_
    refine lv_bipush (v := (nI 12)) hx hb dL_law_1099 (by decide) ?_
    refine lv_icmp_ne (tgt := 1221) hx hb dL_law_1101 (by decide) (fun z => absurd ((nI_eq (a := 12) (b := 12) (by omega) (by omega)).mpr (by omega)) z) (fun _ => ?_)
    exact deed_12 C ⟨hG, hJ, hW, hDn, hsu, hcp, hhe⟩ hP1 hP2 hS hY hm hst hn9 hp9 hR K (lv_sub hl [0, 1, 2, 3, 4, 5, 6, 7, 8, 9, 10, 11, 12, 13, 14] rfl)
  · skip
    refine lv_iload hx hb dL_law_221 (lv_at hl 15 rfl) ?_
    refine lv_if_ne (tgt := 292) hx hb dL_law_223 (by decide) (fun _ => ?_) (fun z => absurd ((nI_eq (a := 13) (b := 0) (by omega) (by omega)).mp z) (by omega))
    refine lv_iload hx hb dL_law_292 (lv_at hl 15 rfl) ?_
    refine lv_iconst (v := (nI 1)) hx hb dL_law_294 (by decide) ?_
    refine lv_icmp_ne (tgt := 354) hx hb dL_law_295 (by decide) (fun _ => ?_) (fun z => absurd ((nI_eq (a := 13) (b := 1) (by omega) (by omega)).mp z) (by omega))
    refine lv_iload hx hb dL_law_354 (lv_at hl 15 rfl) ?_
    refine lv_iconst (v := (nI 2)) hx hb dL_law_356 (by decide) ?_
    refine lv_icmp_ne (tgt := 518) hx hb dL_law_357 (by decide) (fun _ => ?_) (fun z => absurd ((nI_eq (a := 13) (b := 2) (by omega) (by omega)).mp z) (by omega))
    refine lv_iload hx hb dL_law_518 (lv_at hl 15 rfl) ?_
    refine lv_iconst (v := (nI 3)) hx hb dL_law_520 (by decide) ?_
    refine lv_icmp_ne (tgt := 606) hx hb dL_law_521 (by decide) (fun _ => ?_) (fun z => absurd ((nI_eq (a := 13) (b := 3) (by omega) (by omega)).mp z) (by omega))
    refine lv_iload hx hb dL_law_606 (lv_at hl 15 rfl) ?_
    refine lv_bipush (v := (nI 6)) hx hb dL_law_608 (by decide) ?_
    refine lv_icmp_ge (tgt := 710) hx hb dL_law_610 (by decide) (fun _ => ?_) (fun z => absurd ((nI_leI (a := 6) (b := 13) (by omega) (by omega)).mpr (by omega)) z)
    refine lv_iload hx hb dL_law_710 (lv_at hl 15 rfl) ?_
    refine lv_bipush (v := (nI 10)) hx hb dL_law_712 (by decide) ?_
    refine lv_icmp_ge (tgt := 885) hx hb dL_law_714 (by decide) (fun _ => ?_) (fun z => absurd ((nI_leI (a := 10) (b := 13) (by omega) (by omega)).mpr (by omega)) z)
    refine lv_iload hx hb dL_law_885 (lv_at hl 15 rfl) ?_
    refine lv_bipush (v := (nI 10)) hx hb dL_law_887 (by decide) ?_
    refine lv_icmp_ne (tgt := 965) hx hb dL_law_889 (by decide) (fun _ => ?_) (fun z => absurd ((nI_eq (a := 13) (b := 10) (by omega) (by omega)).mp z) (by omega))
    refine lv_iload hx hb dL_law_965 (lv_at hl 15 rfl) ?_
    refine lv_bipush (v := (nI 11)) hx hb dL_law_967 (by decide) ?_
    refine lv_icmp_ne (tgt := 1097) hx hb dL_law_969 (by decide) (fun _ => ?_) (fun z => absurd ((nI_eq (a := 13) (b := 11) (by omega) (by omega)).mp z) (by omega))
    refine lv_iload hx hb dL_law_1097 (lv_at hl 15 rfl) ?_
    refine lv_bipush (v := (nI 12)) hx hb dL_law_1099 (by decide) ?_
    refine lv_icmp_ne (tgt := 1221) hx hb dL_law_1101 (by decide) (fun _ => ?_) (fun z => absurd ((nI_eq (a := 13) (b := 12) (by omega) (by omega)).mp z) (by omega))
    refine lv_iload hx hb dL_law_1221 (lv_at hl 15 rfl) ?_
    refine lv_bipush (v := (nI 13)) hx hb dL_law_1223 (by decide) ?_
    refine lv_icmp_ne (tgt := 1337) hx hb dL_law_1225 (by decide) (fun z => absurd ((nI_eq (a := 13) (b := 13) (by omega) (by omega)).mpr (by omega)) z) (fun _ => ?_)
    exact deed_13 C ⟨hG, hJ, hW, hDn, hsu, hcp, hhe⟩ hP1 hP2 hS hY hm hst hn9 hp9 hR K (lv_sub hl [0, 1, 2, 3, 4, 5, 6, 7, 8, 9, 10, 11, 12, 13, 14] rfl)
  · skip
    refine lv_iload hx hb dL_law_221 (lv_at hl 15 rfl) ?_
    refine lv_if_ne (tgt := 292) hx hb dL_law_223 (by decide) (fun _ => ?_) (fun z => absurd ((nI_eq (a := 14) (b := 0) (by omega) (by omega)).mp z) (by omega))
    refine lv_iload hx hb dL_law_292 (lv_at hl 15 rfl) ?_
    refine lv_iconst (v := (nI 1)) hx hb dL_law_294 (by decide) ?_
    refine lv_icmp_ne (tgt := 354) hx hb dL_law_295 (by decide) (fun _ => ?_) (fun z => absurd ((nI_eq (a := 14) (b := 1) (by omega) (by omega)).mp z) (by omega))
    refine lv_iload hx hb dL_law_354 (lv_at hl 15 rfl) ?_
    refine lv_iconst (v := (nI 2)) hx hb dL_law_356 (by decide) ?_
    refine lv_icmp_ne (tgt := 518) hx hb dL_law_357 (by decide) (fun _ => ?_) (fun z => absurd ((nI_eq (a := 14) (b := 2) (by omega) (by omega)).mp z) (by omega))
    refine lv_iload hx hb dL_law_518 (lv_at hl 15 rfl) ?_
    refine lv_iconst (v := (nI 3)) hx hb dL_law_520 (by decide) ?_
    refine lv_icmp_ne (tgt := 606) hx hb dL_law_521 (by decide) (fun _ => ?_) (fun z => absurd ((nI_eq (a := 14) (b := 3) (by omega) (by omega)).mp z) (by omega))
    refine lv_iload hx hb dL_law_606 (lv_at hl 15 rfl) ?_
    refine lv_bipush (v := (nI 6)) hx hb dL_law_608 (by decide) ?_
    refine lv_icmp_ge (tgt := 710) hx hb dL_law_610 (by decide) (fun _ => ?_) (fun z => absurd ((nI_leI (a := 6) (b := 14) (by omega) (by omega)).mpr (by omega)) z)
    refine lv_iload hx hb dL_law_710 (lv_at hl 15 rfl) ?_
    refine lv_bipush (v := (nI 10)) hx hb dL_law_712 (by decide) ?_
    refine lv_icmp_ge (tgt := 885) hx hb dL_law_714 (by decide) (fun _ => ?_) (fun z => absurd ((nI_leI (a := 10) (b := 14) (by omega) (by omega)).mpr (by omega)) z)
    refine lv_iload hx hb dL_law_885 (lv_at hl 15 rfl) ?_
    refine lv_bipush (v := (nI 10)) hx hb dL_law_887 (by decide) ?_
    refine lv_icmp_ne (tgt := 965) hx hb dL_law_889 (by decide) (fun _ => ?_) (fun z => absurd ((nI_eq (a := 14) (b := 10) (by omega) (by omega)).mp z) (by omega))
    refine lv_iload hx hb dL_law_965 (lv_at hl 15 rfl) ?_
    refine lv_bipush (v := (nI 11)) hx hb dL_law_967 (by decide) ?_
    refine lv_icmp_ne (tgt := 1097) hx hb dL_law_969 (by decide) (fun _ => ?_) (fun z => absurd ((nI_eq (a := 14) (b := 11) (by omega) (by omega)).mp z) (by omega))
    refine lv_iload hx hb dL_law_1097 (lv_at hl 15 rfl) ?_
    refine lv_bipush (v := (nI 12)) hx hb dL_law_1099 (by decide) ?_
    refine lv_icmp_ne (tgt := 1221) hx hb dL_law_1101 (by decide) (fun _ => ?_) (fun z => absurd ((nI_eq (a := 14) (b := 12) (by omega) (by omega)).mp z) (by omega))
    refine lv_iload hx hb dL_law_1221 (lv_at hl 15 rfl) ?_
    refine lv_bipush (v := (nI 13)) hx hb dL_law_1223 (by decide) ?_
    refine lv_icmp_ne (tgt := 1337) hx hb dL_law_1225 (by decide) (fun _ => ?_) (fun z => absurd ((nI_eq (a := 14) (b := 13) (by omega) (by omega)).mp z) (by omega))
    refine lv_iload hx hb dL_law_1337 (lv_at hl 15 rfl) ?_
    refine lv_bipush (v := (nI 14)) hx hb dL_law_1339 (by decide) ?_
    refine lv_icmp_ne (tgt := 1398) hx hb dL_law_1341 (by decide) (fun z => absurd ((nI_eq (a := 14) (b := 14) (by omega) (by omega)).mpr (by omega)) z) (fun _ => ?_)
    refine lv_iload hx hb dL_law_1344 (lv_at hl 10 rfl) ?_
    refine lv_iconst (v := (nI 1)) hx hb dL_law_1346 (by decide) ?_
    refine lv_iand hx hb dL_law_1347 ?_
    refine lv_asi (nI (Y % 2)) (pk_andN (by omega) 1 (by decide)) ?_
    refine lv_if_ne (tgt := 1398) hx hb dL_law_1348 (by decide) (fun c1 => ?_) (fun c1 => ?_)
    · refine lv_iload hx hb dL_law_1398 (lv_at hl 15 rfl) ?_
      refine lv_bipush (v := (nI 14)) hx hb dL_law_1400 (by decide) ?_
      refine lv_icmp_ne (tgt := 1478) hx hb dL_law_1402 (by decide) (fun z => absurd ((nI_eq (a := 14) (b := 14) (by omega) (by omega)).mpr (by omega)) z) (fun _ => ?_)
      exact deed_14b C ⟨hG, hJ, hW, hDn, hsu, hcp, hhe⟩ hP1 hP2 hS hY hm hst hn9 hp9 hR K (lv_sub hl [0, 1, 2, 3, 4, 5, 6, 7, 8, 9, 10, 11, 12, 13, 14] rfl)
    · skip
      exact deed_14a C ⟨hG, hJ, hW, hDn, hsu, hcp, hhe⟩ hP1 hP2 hS hY hm hst hn9 hp9 hR K (lv_sub hl [0, 1, 2, 3, 4, 5, 6, 7, 8, 9, 10, 11, 12, 13, 14] rfl)
  · skip
    refine lv_iload hx hb dL_law_221 (lv_at hl 15 rfl) ?_
    refine lv_if_ne (tgt := 292) hx hb dL_law_223 (by decide) (fun _ => ?_) (fun z => absurd ((nI_eq (a := 15) (b := 0) (by omega) (by omega)).mp z) (by omega))
    refine lv_iload hx hb dL_law_292 (lv_at hl 15 rfl) ?_
    refine lv_iconst (v := (nI 1)) hx hb dL_law_294 (by decide) ?_
    refine lv_icmp_ne (tgt := 354) hx hb dL_law_295 (by decide) (fun _ => ?_) (fun z => absurd ((nI_eq (a := 15) (b := 1) (by omega) (by omega)).mp z) (by omega))
    refine lv_iload hx hb dL_law_354 (lv_at hl 15 rfl) ?_
    refine lv_iconst (v := (nI 2)) hx hb dL_law_356 (by decide) ?_
    refine lv_icmp_ne (tgt := 518) hx hb dL_law_357 (by decide) (fun _ => ?_) (fun z => absurd ((nI_eq (a := 15) (b := 2) (by omega) (by omega)).mp z) (by omega))
    refine lv_iload hx hb dL_law_518 (lv_at hl 15 rfl) ?_
    refine lv_iconst (v := (nI 3)) hx hb dL_law_520 (by decide) ?_
    refine lv_icmp_ne (tgt := 606) hx hb dL_law_521 (by decide) (fun _ => ?_) (fun z => absurd ((nI_eq (a := 15) (b := 3) (by omega) (by omega)).mp z) (by omega))
    refine lv_iload hx hb dL_law_606 (lv_at hl 15 rfl) ?_
    refine lv_bipush (v := (nI 6)) hx hb dL_law_608 (by decide) ?_
    refine lv_icmp_ge (tgt := 710) hx hb dL_law_610 (by decide) (fun _ => ?_) (fun z => absurd ((nI_leI (a := 6) (b := 15) (by omega) (by omega)).mpr (by omega)) z)
    refine lv_iload hx hb dL_law_710 (lv_at hl 15 rfl) ?_
    refine lv_bipush (v := (nI 10)) hx hb dL_law_712 (by decide) ?_
    refine lv_icmp_ge (tgt := 885) hx hb dL_law_714 (by decide) (fun _ => ?_) (fun z => absurd ((nI_leI (a := 10) (b := 15) (by omega) (by omega)).mpr (by omega)) z)
    refine lv_iload hx hb dL_law_885 (lv_at hl 15 rfl) ?_
    refine lv_bipush (v := (nI 10)) hx hb dL_law_887 (by decide) ?_
    refine lv_icmp_ne (tgt := 965) hx hb dL_law_889 (by decide) (fun _ => ?_) (fun z => absurd ((nI_eq (a := 15) (b := 10) (by omega) (by omega)).mp z) (by omega))
    refine lv_iload hx hb dL_law_965 (lv_at hl 15 rfl) ?_
    refine lv_bipush (v := (nI 11)) hx hb dL_law_967 (by decide) ?_
    refine lv_icmp_ne (tgt := 1097) hx hb dL_law_969 (by decide) (fun _ => ?_) (fun z => absurd ((nI_eq (a := 15) (b := 11) (by omega) (by omega)).mp z) (by omega))
    refine lv_iload hx hb dL_law_1097 (lv_at hl 15 rfl) ?_
    refine lv_bipush (v := (nI 12)) hx hb dL_law_1099 (by decide) ?_
    refine lv_icmp_ne (tgt := 1221) hx hb dL_law_1101 (by decide) (fun _ => ?_) (fun z => absurd ((nI_eq (a := 15) (b := 12) (by omega) (by omega)).mp z) (by omega))
    refine lv_iload hx hb dL_law_1221 (lv_at hl 15 rfl) ?_
    refine lv_bipush (v := (nI 13)) hx hb dL_law_1223 (by decide) ?_
    refine lv_icmp_ne (tgt := 1337) hx hb dL_law_1225 (by decide) (fun _ => ?_) (fun z => absurd ((nI_eq (a := 15) (b := 13) (by omega) (by omega)).mp z) (by omega))
    refine lv_iload hx hb dL_law_1337 (lv_at hl 15 rfl) ?_
    refine lv_bipush (v := (nI 14)) hx hb dL_law_1339 (by decide) ?_
    refine lv_icmp_ne (tgt := 1398) hx hb dL_law_1341 (by decide) (fun _ => ?_) (fun z => absurd ((nI_eq (a := 15) (b := 14) (by omega) (by omega)).mp z) (by omega))
    refine lv_iload hx hb dL_law_1398 (lv_at hl 15 rfl) ?_
    refine lv_bipush (v := (nI 14)) hx hb dL_law_1400 (by decide) ?_
    refine lv_icmp_ne (tgt := 1478) hx hb dL_law_1402 (by decide) (fun _ => ?_) (fun z => absurd ((nI_eq (a := 15) (b := 14) (by omega) (by omega)).mp z) (by omega))
    refine lv_iload hx hb dL_law_1478 (lv_at hl 10 rfl) ?_
    refine lv_iconst (v := (nI 3)) hx hb dL_law_1480 (by decide) ?_
    refine lv_iand hx hb dL_law_1481 ?_
    refine lv_asi (nI (Y % 4)) (pk_andN (by omega) 2 (by decide)) ?_
    refine lv_if_ne (tgt := 1518) hx hb dL_law_1482 (by decide) (fun c1 => ?_) (fun c1 => ?_)
    · refine W.widen (k := c9 + 200) (n := s9 + 1200) (by omega) (by omega) ?_
      exact K H _ ls I J h W9 Dn su cp he ⟨hG, hJ, hW, hDn, hsu, hcp, hhe⟩ hP1 hP2 hS (lv_sub hl [7, 0, 1, 2, 3, 4, 5, 6, 8, 9] rfl)
    · skip
      exact deed_15 C ⟨hG, hJ, hW, hDn, hsu, hcp, hhe⟩ hP1 hP2 hS hY hm hst hn9 hp9 hR K (lv_sub hl [0, 1, 2, 3, 4, 5, 6, 7, 8, 9, 10, 11, 12, 13, 14] rfl)
set_option maxHeartbeats 1000000 in
set_option maxRecDepth 100000 in
theorem turn_c {p : Program} {l : Launch} {e : Env} {s : State} {m : MethodId} {below : List Frame} {meth : Method} {c : Code} {H : Heap} {locs : List Loc} {Q : State → Prop} {ls : Array Slot} {D : va_G} {a : Nat → Nat} {q1 q2 b L T t su cp he c9 s9 : Nat} {cI cL cO : ClassId} {xs : Nat → Int32} {I : Nat → Nat → Int32} {J : Nat → Nat → Int64} {h : Nat → Nat} {W9 Dn : Nat → Int32} {Y dd : Nat} (C : LC p l s m c D a q1 q2 b cI cL cO L xs) (hLI : LI I J h W9 Dn su cp he) (hP1 : va_P D vwCl (oc a cI cL cO I J) H) (hP2 : va_P D vwCl (la cI q1 q2 W9 Dn) H) (hS : va_S (fr s) s.heap H locs) (ht : t < 1000) (hR : c9 + 2800 ≤ 683036 ∧ s9 + 17000 ≤ 7052515) (hY : Y < 2 ^ 28) (hdd : dd < 16) (K : LK p l e s m below meth c Q D a q1 q2 b cI cL cO T t c9 s9) (hl : lv_has ls 22 [(7, .int (nI 1)), (0, .ref b), (1, .ref (a 0)), (2, .ref q1), (3, .ref q2), (4, .int (nI su)), (5, .int (nI cp)), (6, .int (nI he)), (8, .int (nI T)), (9, .int (nI t)), (11, .int (nI Y))]) : W p l e room_1 s m #[Value.ref b] below meth c H locs c9 s9 Q (F0 m 174 ls [.int (nI dd)]) := by
  have hD := C.D
  have C' := C
  obtain ⟨hl0, S, hK, -, hES, hEH, hX, hbl, hL⟩ := C'
  have hx := S.1
  have hb := S.2.1
  have hown := S.2.2.2.1
  have hts := S.2.2.2.2
  have hA : ∀ z9 : Nat, s.heap.size ≤ z9 → fr s z9 := fun _ h => h
  obtain ⟨hG, hJ, hW, hDn, hsu, hcp, hhe⟩ := hLI
  have bc : cp ≤ 3 := hcp ▸ cc_3 hG
  refine lv_istore (lv' := [(12, .int (nI dd)), (7, .int (nI 1)), (0, .ref b), (1, .ref (a 0)), (2, .ref q1), (3, .ref q2), (4, .int (nI su)), (5, .int (nI cp)), (6, .int (nI he)), (8, .int (nI T)), (9, .int (nI t)), (11, .int (nI Y))]) hx hb dL_law_174 hl (by decide) rfl (fun ls hl => ?_)
  refine lv_iload hx hb dL_law_176 (lv_at hl 11 rfl) ?_
  refine lv_iconst (v := (nI 3)) hx hb dL_law_178 (by decide) ?_
  refine lv_irem hx hb dL_law_179 (by decide) ?_
  refine lv_asi (nI (Y % 3)) (pk_rem (by omega) (by omega) (by omega)) ?_
  refine lv_istore (lv' := [(13, .int (nI (Y % 3))), (12, .int (nI dd)), (7, .int (nI 1)), (0, .ref b), (1, .ref (a 0)), (2, .ref q1), (3, .ref q2), (4, .int (nI su)), (5, .int (nI cp)), (6, .int (nI he)), (8, .int (nI T)), (9, .int (nI t)), (11, .int (nI Y))]) hx hb dL_law_180 hl (by decide) rfl (fun ls hl => ?_)
  refine lv_iload hx hb dL_law_182 (lv_at hl 11 rfl) ?_
  refine lv_iconst (v := (nI 3)) hx hb dL_law_184 (by decide) ?_
  refine lv_icmp_ge (tgt := 200) hx hb dL_law_185 (by decide) (fun c1 => ?_) (fun c1 => ?_)
  · have c2 := (nI_leI (a := 3) (b := t) (by omega) (by omega)).mp c1
    refine lv_iload hx hb dL_law_200 (lv_at hl 12 rfl) ?_
    refine lv_iconst (v := (nI 2)) hx hb dL_law_202 (by decide) ?_
    refine lv_ishr hx hb dL_law_203 ?_
    refine lv_asi (nI (Y / 4)) (pk_shrN (by omega) _ 2 (by decide)) ?_
    refine lv_bipush (v := (nI 12)) hx hb dL_law_204 (by decide) ?_
    refine lv_irem hx hb dL_law_206 (by decide) ?_
    refine lv_asi (nI ((Y / 4) % 12)) (pk_rem (by omega) (by omega) (by omega)) ?_
    exact turn_d C ⟨hG, hJ, hW, hDn, hsu, hcp, hhe⟩ hP1 hP2 hS ht hR hY hdd (by omega) (by omega) K (lv_sub hl [2, 3, 4, 5, 6, 7, 8, 9, 10, 11, 12, 1, 0] rfl)
  · have c2 := Nat.lt_of_not_le (fun q => c1 ((nI_leI (a := 3) (b := t) (by omega) (by omega)).mpr q))
    refine lv_iconst (v := (nI 4)) hx hb dL_law_188 (by decide) ?_
    refine lv_iload hx hb dL_law_189 (lv_at hl 11 rfl) ?_
    refine lv_imul hx hb dL_law_191 ?_
    refine lv_asi (nI (4 * t)) (pk_mul _ _) ?_
    refine lv_iload hx hb dL_law_192 (lv_at hl 12 rfl) ?_
    refine lv_iconst (v := (nI 4)) hx hb dL_law_194 (by decide) ?_
    refine lv_irem hx hb dL_law_195 (by decide) ?_
    refine lv_asi (nI (Y % 4)) (pk_rem (by omega) (by omega) (by omega)) ?_
    refine lv_iadd hx hb dL_law_196 ?_
    refine lv_asi (nI ((4 * t) + (Y % 4))) (nI_add _ _) ?_
    refine lv_goto (tgt := 207) hx hb dL_law_197 (by decide) ?_
    exact turn_d C ⟨hG, hJ, hW, hDn, hsu, hcp, hhe⟩ hP1 hP2 hS ht hR hY hdd (by omega) (by omega) K (lv_sub hl [2, 3, 4, 5, 6, 7, 8, 9, 10, 11, 12, 1, 0] rfl)
set_option maxHeartbeats 1000000 in
set_option maxRecDepth 100000 in
theorem turn_x {p : Program} {l : Launch} {e : Env} {s : State} {m : MethodId} {below : List Frame} {meth : Method} {c : Code} {H : Heap} {locs : List Loc} {Q : State → Prop} {ls : Array Slot} {D : va_G} {a : Nat → Nat} {q1 q2 b L T t su cp he c9 s9 : Nat} {cI cL cO : ClassId} {xs : Nat → Int32} {I : Nat → Nat → Int32} {J : Nat → Nat → Int64} {h : Nat → Nat} {W9 Dn : Nat → Int32} {x9 : Int32} (C : LC p l s m c D a q1 q2 b cI cL cO L xs) (hLI : LI I J h W9 Dn su cp he) (hP1 : va_P D vwCl (oc a cI cL cO I J) H) (hP2 : va_P D vwCl (la cI q1 q2 W9 Dn) H) (hS : va_S (fr s) s.heap H locs) (ht : t < 1000) (hR : c9 + 2800 ≤ 683036 ∧ s9 + 17000 ≤ 7052515) (K : LK p l e s m below meth c Q D a q1 q2 b cI cL cO T t c9 s9) (hl : lv_has ls 22 [(7, .int (nI 1)), (0, .ref b), (1, .ref (a 0)), (2, .ref q1), (3, .ref q2), (4, .int (nI su)), (5, .int (nI cp)), (6, .int (nI he)), (8, .int (nI T)), (9, .int (nI t))]) : W p l e room_1 s m #[Value.ref b] below meth c H locs c9 s9 Q (F0 m 136 ls [.int x9]) := by
  have hD := C.D
  have C' := C
  obtain ⟨hl0, S, hK, -, hES, hEH, hX, hbl, hL⟩ := C'
  have hx := S.1
  have hb := S.2.1
  have hown := S.2.2.2.1
  have hts := S.2.2.2.2
  have hA : ∀ z9 : Nat, s.heap.size ≤ z9 → fr s z9 := fun _ h => h
  obtain ⟨hG, hJ, hW, hDn, hsu, hcp, hhe⟩ := hLI
  have bc : cp ≤ 3 := hcp ▸ cc_3 hG
  refine lv_istore (lv' := [(10, .int x9), (7, .int (nI 1)), (0, .ref b), (1, .ref (a 0)), (2, .ref q1), (3, .ref q2), (4, .int (nI su)), (5, .int (nI cp)), (6, .int (nI he)), (8, .int (nI T)), (9, .int (nI t))]) hx hb dL_law_136 hl (by decide) rfl (fun ls hl => ?_)
  refine lv_iload hx hb dL_law_138 (lv_at hl 0 rfl) ?_
  refine lv_iconst (v := (nI 4)) hx hb dL_law_140 (by decide) ?_
  refine lv_ishr hx hb dL_law_141 ?_
  refine lv_ldc (v := 268435455) hx hb hown (hts (.constant RL 59 268435455) (by decide +kernel)) dL_law_142 ?_
  refine lv_iand hx hb dL_law_144 ?_
  obtain ⟨Y, hY, eY⟩ := pk_andE (x9 >>> (nI 4 &&& 31)) (m := 268435455) 28 (by decide)
  refine lv_asi (nI Y) (eY) ?_
  refine lv_istore (lv' := [(11, .int (nI Y)), (10, .int x9), (7, .int (nI 1)), (0, .ref b), (1, .ref (a 0)), (2, .ref q1), (3, .ref q2), (4, .int (nI su)), (5, .int (nI cp)), (6, .int (nI he)), (8, .int (nI T)), (9, .int (nI t))]) hx hb dL_law_145 hl (by decide) rfl (fun ls hl => ?_)
  refine lv_iload hx hb dL_law_147 (lv_at hl 11 rfl) ?_
  refine lv_iconst (v := (nI 3)) hx hb dL_law_149 (by decide) ?_
  refine lv_icmp_ge (tgt := 157) hx hb dL_law_150 (by decide) (fun c1 => ?_) (fun c1 => ?_)
  · refine lv_iload hx hb dL_law_157 (lv_at hl 11 rfl) ?_
    refine lv_bipush (v := (nI 7)) hx hb dL_law_159 (by decide) ?_
    refine lv_icmp_ge (tgt := 169) hx hb dL_law_161 (by decide) (fun c2 => ?_) (fun c2 => ?_)
    · refine lv_iload hx hb dL_law_169 (lv_at hl 1 rfl) ?_
      refine lv_bipush (v := (nI 15)) hx hb dL_law_171 (by decide) ?_
      obtain ⟨dd, hdd, ed⟩ := pk_andE x9 (m := nI 15) 4 (by decide)
      refine lv_iand hx hb dL_law_173 ?_
      refine lv_asi (nI dd) (ed) ?_
      exact turn_c C ⟨hG, hJ, hW, hDn, hsu, hcp, hhe⟩ hP1 hP2 hS ht hR hY hdd K (lv_sub hl [2, 3, 4, 5, 6, 7, 8, 9, 10, 11, 0] rfl)
    · skip
      refine lv_bipush (v := (nI 6)) hx hb dL_law_164 (by decide) ?_
      refine lv_goto (tgt := 174) hx hb dL_law_166 (by decide) ?_
      exact turn_c C ⟨hG, hJ, hW, hDn, hsu, hcp, hhe⟩ hP1 hP2 hS ht hR hY (by decide) K (lv_sub hl [2, 3, 4, 5, 6, 7, 8, 9, 10, 11, 0] rfl)
  · skip
    refine lv_iconst (v := (nI 4)) hx hb dL_law_153 (by decide) ?_
    refine lv_goto (tgt := 174) hx hb dL_law_154 (by decide) ?_
    exact turn_c C ⟨hG, hJ, hW, hDn, hsu, hcp, hhe⟩ hP1 hP2 hS ht hR hY (by decide) K (lv_sub hl [2, 3, 4, 5, 6, 7, 8, 9, 10, 11, 0] rfl)
