/-! ===== the deeds of a turn ===== -/
set_option maxHeartbeats 1000000 in
set_option maxRecDepth 100000 in
theorem deed_3 {p : Program} {l : Launch} {e : Env} {s : State} {m : MethodId} {below : List Frame} {meth : Method} {c : Code} {H : Heap} {locs : List Loc} {Q : State → Prop} {ls : Array Slot} {D : va_G} {a : Nat → Nat} {q1 q2 b L T t Y m9 st n9 p9 su cp he c9 s9 : Nat} {cI cL cO : ClassId} {xs : Nat → Int32} {I : Nat → Nat → Int32} {J : Nat → Nat → Int64} {h : Nat → Nat} {W9 Dn : Nat → Int32} (C : LC p l s m c D a q1 q2 b cI cL cO L xs) (hLI : LI I J h W9 Dn su cp he) (hP1 : va_P D vwCl (oc a cI cL cO I J) H) (hP2 : va_P D vwCl (la cI q1 q2 W9 Dn) H) (hS : va_S (fr s) s.heap H locs) (hY : Y < 2 ^ 28) (hm : m9 < 3) (hst : st < 12) (hn9 : nd I h = n9) (hp9 : pp I h = p9) (hR : c9 + 2800 ≤ 683036 ∧ s9 + 17000 ≤ 7052515) (K : LK p l e s m below meth c Q D a q1 q2 b cI cL cO T t c9 s9) (hl : lv_has ls 22 [(0, .ref b), (1, .ref (a 0)), (2, .ref q1), (3, .ref q2), (4, .int (nI su)), (5, .int (nI cp)), (6, .int (nI he)), (7, .int (nI 1)), (8, .int (nI T)), (9, .int (nI t)), (11, .int (nI Y)), (13, .int (nI m9)), (14, .int (nI st)), (15, .int (nI n9)), (16, .int (nI p9))]) : W p l e room_1 s m #[Value.ref b] below meth c H locs c9 s9 Q (F0 m 524 ls []) := by
  have hD := C.D
  have C' := C
  obtain ⟨hl0, S, hK, -, hES, hEH, hX, hbl, hL⟩ := C'
  have hx := S.1
  have hb := S.2.1
  have hown := S.2.2.2.1
  have hts := S.2.2.2.2
  have hA : ∀ z9 : Nat, s.heap.size ≤ z9 → fr s z9 := fun _ h => h
  obtain ⟨hG, hJ, hW, hDn, hsu, hcp, hhe⟩ := hLI
  have bn : n9 ≤ 5124 := hn9 ▸ nd_bd hG _
  have bp : p9 ≤ 366 := hp9 ▸ pp_bd _
  have bc : cp ≤ 3 := hcp ▸ cc_3 hG
  refine lv_aload_n hx hb dL_law_524 rfl (lv_at hl 1 rfl) ?_
  refine lv_iload hx hb dL_law_525 (lv_at hl 11 rfl) ?_
  refine lv_iload hx hb dL_law_527 (lv_at hl 10 rfl) ?_
  refine lv_iconst (v := (nI 2)) hx hb dL_law_529 (by decide) ?_
  refine lv_ishr hx hb dL_law_530 ?_
  refine lv_asi (nI (Y / 4)) (pk_shrN (by omega) _ 2 (by decide)) ?_
  refine lv_iconst (v := (nI 3)) hx hb dL_law_531 (by decide) ?_
  refine lv_irem hx hb dL_law_532 (by decide) ?_
  refine lv_asi (nI ((Y / 4) % 3)) (pk_rem (by omega) (by omega) (by omega)) ?_
  obtain ⟨t9, ht9, ht3⟩ : ∃ t9, t9 = (Y / 4) % 3 ∧ t9 < 3 := ⟨_, rfl, by omega⟩
  rw [← ht9]
  refine l_thi (As := [.int (nI m9), .int (nI t9)]) (rest := []) S (n_uncouple l D a cI cL cO hl0 hm ht3 H.size) (cwV 2 hts gL_law_X0_uncouple rfl rfl rfl (by decide +kernel) ⟨Nat.le_of_ble_eq_true rfl, Nat.le_of_ble_eq_true rfl⟩) hK hP1 hP2 (hD _ _ _ _) hES hEH hS hA rfl rfl oc_at0 rfl hl.1 rfl (Nat.le_of_ble_eq_true rfl) dL_law_533 ⟨by show _ ≤ 683036; omega, by show _ ≤ 7052515; omega⟩ (fun H locs hP1 hP2 hS => ?_)
  have hG2 := gi_unc (t := t9) hG hm
  have hcc := ccN_c hm ht3 1 (I := I)
  have e1 : bN (!decide ((1 : Int32) = 1)) = 0 := rfl
  rw [hcp, e1] at hcc
  have hle : pp (u2 I (20 + m9) t9 1) h ≤ p9 := hp9 ▸ pp_unc hm
  have h22 : u2 (u2 I (20 + m9) t9 1) (20 + m9) t9 1 = u2 I (20 + m9) t9 1 := u2_u2 _ _ _ _ _
  have hcf : cpd (u2 I (20 + m9) t9 1) m9 t9 = false := by rw [cpd_c, if_pos ⟨rfl, rfl⟩]; rfl
  have n2 : ∀ i, i < 20 → (u2 I (20 + m9) t9 1) i = I i := fun i hi => u2_ne (by omega) _ _
  have hid : cpd I m9 t9 = false → u2 I (20 + m9) t9 1 = I := unc_id
  generalize u2 I (20 + m9) t9 1 = I2 at *
  have hs2 : suN I2 = su := by unfold suN; rw [n2 8 (by decide)]; exact hsu
  have hW2 : ∀ r, r < 6 → W9 r = I2 1 r := by rw [n2 1 (by decide)]; exact hW
  have hD2 : ∀ k, k < 12 → Dn k = bI (dr (I2 8 0) (nI k)) := by rw [n2 8 (by decide)]; exact hDn
  cases hb9 : cpd I m9 t9 with
  | true =>
    rw [hb9] at hcc
    have hcc : ccN I2 + 1 = cp := hcc
    refine lv_asi (nI 1) (by first | rfl | (rw [hb9]; rfl)) ?_
    refine lv_istore (lv' := [(17, .int (nI 1)), (0, .ref b), (1, .ref (a 0)), (2, .ref q1), (3, .ref q2), (4, .int (nI su)), (5, .int (nI cp)), (6, .int (nI he)), (7, .int (nI 1)), (8, .int (nI T)), (9, .int (nI t)), (11, .int (nI Y)), (13, .int (nI m9)), (14, .int (nI st)), (15, .int (nI n9)), (16, .int (nI p9))]) hx hb dL_law_536 hl (by decide) rfl (fun ls hl => ?_)
    refine lv_iload hx hb dL_law_538 (lv_at hl 6 rfl) ?_
    refine lv_iload hx hb dL_law_540 (lv_at hl 0 rfl) ?_
    refine lv_if_eq (tgt := 549) hx hb dL_law_542 (by decide) (fun z => absurd ((nI_eq (a := 1) (b := 0) (by omega) (by omega)).mp z) (by omega)) (fun _ => ?_)
    refine lv_iconst (v := (nI 1)) hx hb dL_law_545 (by decide) ?_
    refine lv_goto (tgt := 550) hx hb dL_law_546 (by decide) ?_
    refine lv_isub hx hb dL_law_550 ?_
    refine lv_asi (nI (cp - 1)) (pk_sub (by omega)) ?_
    refine lv_istore (lv' := [(5, .int (nI (cp - 1))), (17, .int (nI 1)), (0, .ref b), (1, .ref (a 0)), (2, .ref q1), (3, .ref q2), (4, .int (nI su)), (6, .int (nI he)), (7, .int (nI 1)), (8, .int (nI T)), (9, .int (nI t)), (11, .int (nI Y)), (13, .int (nI m9)), (14, .int (nI st)), (15, .int (nI n9)), (16, .int (nI p9))]) hx hb dL_law_551 hl (by decide) rfl (fun ls hl => ?_)
    refine lv_iload hx hb dL_law_553 (lv_at hl 0 rfl) ?_
    refine lv_if_lt (tgt := 600) hx hb dL_law_555 (by decide) (fun z => absurd ((nI_ltI (a := cp - 1) (b := 0) (by omega) (by omega)).mp z) (by omega)) (fun _ => ?_)
    refine lv_aload_n hx hb dL_law_558 rfl (lv_at hl 3 rfl) ?_
    refine l_cls (As := []) (rest := []) S (n_pipes l D a cI cL cO hG2 hJ) (cwV 0 hts gL_law_X0_pipes rfl rfl rfl (by decide +kernel) ⟨Nat.le_of_ble_eq_true rfl, Nat.le_of_ble_eq_true rfl⟩) hK hP1 hP2 (hD _ _ _ _) hS rfl rfl oc_at0 rfl hl.1 rfl (Nat.le_of_ble_eq_true rfl) dL_law_559 ⟨by show _ ≤ 683036; omega, by show _ ≤ 7052515; omega⟩ (fun H locs hP1 hP2 hS => ?_)
    have hJ := g_J hG2 hJ
    generalize fsW I2 J 0 0 = J at hJ hP1
    refine lv_iload hx hb dL_law_562 (lv_at hl 15 rfl) ?_
    refine lv_icmp_gt (tgt := 600) hx hb dL_law_564 (by decide) (fun z => absurd ((nI_ltI (a := p9) (b := pp I2 h) (by omega) (by omega)).mp z) (by omega)) (fun _ => ?_)
    refine lv_iload hx hb dL_law_567 (lv_at hl 1 rfl) ?_
    refine lv_if_ne (tgt := 581) hx hb dL_law_569 (by decide) (fun _ => ?_) (fun z => absurd ((nI_eq (a := 1) (b := 0) (by omega) (by omega)).mp z) (by omega))
    refine lv_aload_n hx hb dL_law_581 rfl (lv_at hl 3 rfl) ?_
    refine lv_iload hx hb dL_law_582 (lv_at hl 12 rfl) ?_
    refine lv_iload hx hb dL_law_584 (lv_at hl 11 rfl) ?_
    refine lv_iconst (v := (nI 2)) hx hb dL_law_586 (by decide) ?_
    refine lv_ishr hx hb dL_law_587 ?_
    refine lv_asi (nI (Y / 4)) (pk_shrN (by omega) _ 2 (by decide)) ?_
    refine lv_iconst (v := (nI 3)) hx hb dL_law_588 (by decide) ?_
    refine lv_irem hx hb dL_law_589 (by decide) ?_
    refine lv_asi (nI ((Y / 4) % 3)) (pk_rem (by omega) (by omega) (by omega)) ?_
    rw [← ht9]
    refine l_thi (As := [.int (nI m9), .int (nI t9)]) (rest := []) S (n_uncouple l D a cI cL cO hl0 hm ht3 H.size) (cwV 2 hts gL_law_X0_uncouple rfl rfl rfl (by decide +kernel) ⟨Nat.le_of_ble_eq_true rfl, Nat.le_of_ble_eq_true rfl⟩) hK hP1 hP2 (hD _ _ _ _) hES hEH hS hA rfl rfl oc_at0 rfl hl.1 rfl (Nat.le_of_ble_eq_true rfl) dL_law_590 ⟨by show _ ≤ 683036; omega, by show _ ≤ 7052515; omega⟩ (fun H locs hP1 hP2 hS => ?_)
    refine lv_asi (nI 0) (by rw [hcf]; rfl) ?_
    rw [h22] at hP1
    refine lv_if_ne (tgt := 600) hx hb dL_law_593 (by decide) (fun z => absurd ((nI_eq (a := 0) (b := 0) (by omega) (by omega)).mpr (by omega)) z) (fun _ => ?_)
    refine lv_iconst (v := (nI 1)) hx hb dL_law_596 (by decide) ?_
    refine lv_goto (tgt := 601) hx hb dL_law_597 (by decide) ?_
    refine lv_istore (lv' := [(7, .int (nI 1)), (5, .int (nI (cp - 1))), (17, .int (nI 1)), (0, .ref b), (1, .ref (a 0)), (2, .ref q1), (3, .ref q2), (4, .int (nI su)), (6, .int (nI he)), (8, .int (nI T)), (9, .int (nI t)), (11, .int (nI Y)), (13, .int (nI m9)), (14, .int (nI st)), (15, .int (nI n9)), (16, .int (nI p9))]) hx hb dL_law_601 hl (by decide) rfl (fun ls hl => ?_)
    refine lv_goto (tgt := 1518) hx hb dL_law_603 (by decide) ?_
    refine W.widen (k := c9 + 200) (n := s9 + 1200) (by omega) (by omega) ?_
    exact K H _ ls I2 J h W9 Dn su (cp - 1) he ⟨hG2, hJ, hW2, hD2, hs2, (by omega), hhe⟩ hP1 hP2 hS (lv_sub hl [0, 3, 4, 5, 6, 7, 1, 8, 9, 10] rfl)
  | false =>
    rw [hb9] at hcc
    have hcc : ccN I2 + 0 = cp := hcc
    refine lv_asi (nI 0) (by first | rfl | (rw [hb9]; rfl)) ?_
    refine lv_istore (lv' := [(17, .int (nI 0)), (0, .ref b), (1, .ref (a 0)), (2, .ref q1), (3, .ref q2), (4, .int (nI su)), (5, .int (nI cp)), (6, .int (nI he)), (7, .int (nI 1)), (8, .int (nI T)), (9, .int (nI t)), (11, .int (nI Y)), (13, .int (nI m9)), (14, .int (nI st)), (15, .int (nI n9)), (16, .int (nI p9))]) hx hb dL_law_536 hl (by decide) rfl (fun ls hl => ?_)
    refine lv_iload hx hb dL_law_538 (lv_at hl 6 rfl) ?_
    refine lv_iload hx hb dL_law_540 (lv_at hl 0 rfl) ?_
    refine lv_if_eq (tgt := 549) hx hb dL_law_542 (by decide) (fun _ => ?_) (fun z => absurd ((nI_eq (a := 0) (b := 0) (by omega) (by omega)).mpr (by omega)) z)
    refine lv_iconst (v := (nI 0)) hx hb dL_law_549 (by decide) ?_
    refine lv_isub hx hb dL_law_550 ?_
    refine lv_asi (nI (cp - 0)) (pk_sub (by omega)) ?_
    refine lv_istore (lv' := [(5, .int (nI (cp - 0))), (17, .int (nI 0)), (0, .ref b), (1, .ref (a 0)), (2, .ref q1), (3, .ref q2), (4, .int (nI su)), (6, .int (nI he)), (7, .int (nI 1)), (8, .int (nI T)), (9, .int (nI t)), (11, .int (nI Y)), (13, .int (nI m9)), (14, .int (nI st)), (15, .int (nI n9)), (16, .int (nI p9))]) hx hb dL_law_551 hl (by decide) rfl (fun ls hl => ?_)
    refine lv_iload hx hb dL_law_553 (lv_at hl 0 rfl) ?_
    refine lv_if_lt (tgt := 600) hx hb dL_law_555 (by decide) (fun z => absurd ((nI_ltI (a := cp - 0) (b := 0) (by omega) (by omega)).mp z) (by omega)) (fun _ => ?_)
    refine lv_aload_n hx hb dL_law_558 rfl (lv_at hl 3 rfl) ?_
    refine l_cls (As := []) (rest := []) S (n_pipes l D a cI cL cO hG2 hJ) (cwV 0 hts gL_law_X0_pipes rfl rfl rfl (by decide +kernel) ⟨Nat.le_of_ble_eq_true rfl, Nat.le_of_ble_eq_true rfl⟩) hK hP1 hP2 (hD _ _ _ _) hS rfl rfl oc_at0 rfl hl.1 rfl (Nat.le_of_ble_eq_true rfl) dL_law_559 ⟨by show _ ≤ 683036; omega, by show _ ≤ 7052515; omega⟩ (fun H locs hP1 hP2 hS => ?_)
    have hJ := g_J hG2 hJ
    generalize fsW I2 J 0 0 = J at hJ hP1
    refine lv_iload hx hb dL_law_562 (lv_at hl 15 rfl) ?_
    refine lv_icmp_gt (tgt := 600) hx hb dL_law_564 (by decide) (fun z => absurd ((nI_ltI (a := p9) (b := pp I2 h) (by omega) (by omega)).mp z) (by omega)) (fun _ => ?_)
    refine lv_iload hx hb dL_law_567 (lv_at hl 1 rfl) ?_
    refine lv_if_ne (tgt := 581) hx hb dL_law_569 (by decide) (fun z => absurd ((nI_eq (a := 0) (b := 0) (by omega) (by omega)).mpr (by omega)) z) (fun _ => ?_)
    refine lv_aload_n hx hb dL_law_572 rfl (lv_at hl 3 rfl) ?_
    refine l_cls (As := []) (rest := []) S (n_need l D a cI cL cO hG2 hJ) (cwV 0 hts gL_law_X0_need rfl rfl rfl (by decide +kernel) ⟨Nat.le_of_ble_eq_true rfl, Nat.le_of_ble_eq_true rfl⟩) hK hP1 hP2 (hD _ _ _ _) hS rfl rfl oc_at0 rfl hl.1 rfl (Nat.le_of_ble_eq_true rfl) dL_law_573 ⟨by show _ ≤ 683036; omega, by show _ ≤ 7052515; omega⟩ (fun H locs hP1 hP2 hS => ?_)
    have hJ := g_J hG2 hJ
    generalize fsW I2 J 0 0 = J at hJ hP1
    refine lv_asi (nI n9) (by rw [hid hb9, hn9]) ?_
    refine lv_iload hx hb dL_law_576 (lv_at hl 14 rfl) ?_
    refine lv_icmp_ne (tgt := 600) hx hb dL_law_578 (by decide) (fun z => absurd ((nI_eq (a := n9) (b := n9) (by omega) (by omega)).mpr (by omega)) z) (fun _ => ?_)
    refine lv_aload_n hx hb dL_law_581 rfl (lv_at hl 3 rfl) ?_
    refine lv_iload hx hb dL_law_582 (lv_at hl 12 rfl) ?_
    refine lv_iload hx hb dL_law_584 (lv_at hl 11 rfl) ?_
    refine lv_iconst (v := (nI 2)) hx hb dL_law_586 (by decide) ?_
    refine lv_ishr hx hb dL_law_587 ?_
    refine lv_asi (nI (Y / 4)) (pk_shrN (by omega) _ 2 (by decide)) ?_
    refine lv_iconst (v := (nI 3)) hx hb dL_law_588 (by decide) ?_
    refine lv_irem hx hb dL_law_589 (by decide) ?_
    refine lv_asi (nI ((Y / 4) % 3)) (pk_rem (by omega) (by omega) (by omega)) ?_
    rw [← ht9]
    refine l_thi (As := [.int (nI m9), .int (nI t9)]) (rest := []) S (n_uncouple l D a cI cL cO hl0 hm ht3 H.size) (cwV 2 hts gL_law_X0_uncouple rfl rfl rfl (by decide +kernel) ⟨Nat.le_of_ble_eq_true rfl, Nat.le_of_ble_eq_true rfl⟩) hK hP1 hP2 (hD _ _ _ _) hES hEH hS hA rfl rfl oc_at0 rfl hl.1 rfl (Nat.le_of_ble_eq_true rfl) dL_law_590 ⟨by show _ ≤ 683036; omega, by show _ ≤ 7052515; omega⟩ (fun H locs hP1 hP2 hS => ?_)
    refine lv_asi (nI 0) (by rw [hcf]; rfl) ?_
    rw [h22] at hP1
    refine lv_if_ne (tgt := 600) hx hb dL_law_593 (by decide) (fun z => absurd ((nI_eq (a := 0) (b := 0) (by omega) (by omega)).mpr (by omega)) z) (fun _ => ?_)
    refine lv_iconst (v := (nI 1)) hx hb dL_law_596 (by decide) ?_
    refine lv_goto (tgt := 601) hx hb dL_law_597 (by decide) ?_
    refine lv_istore (lv' := [(7, .int (nI 1)), (5, .int (nI (cp - 0))), (17, .int (nI 0)), (0, .ref b), (1, .ref (a 0)), (2, .ref q1), (3, .ref q2), (4, .int (nI su)), (6, .int (nI he)), (8, .int (nI T)), (9, .int (nI t)), (11, .int (nI Y)), (13, .int (nI m9)), (14, .int (nI st)), (15, .int (nI n9)), (16, .int (nI p9))]) hx hb dL_law_601 hl (by decide) rfl (fun ls hl => ?_)
    refine lv_goto (tgt := 1518) hx hb dL_law_603 (by decide) ?_
    refine W.widen (k := c9 + 200) (n := s9 + 1200) (by omega) (by omega) ?_
    exact K H _ ls I2 J h W9 Dn su (cp - 0) he ⟨hG2, hJ, hW2, hD2, hs2, (by omega), hhe⟩ hP1 hP2 hS (lv_sub hl [0, 3, 4, 5, 6, 7, 1, 8, 9, 10] rfl)
set_option maxHeartbeats 1000000 in
set_option maxRecDepth 100000 in
theorem deed_4t {p : Program} {l : Launch} {e : Env} {s : State} {m : MethodId} {below : List Frame} {meth : Method} {c : Code} {H : Heap} {locs : List Loc} {Q : State → Prop} {ls : Array Slot} {D : va_G} {a : Nat → Nat} {q1 q2 b L T t Y m9 st n9 p9 su cp he c9 s9 : Nat} {cI cL cO : ClassId} {xs : Nat → Int32} {I : Nat → Nat → Int32} {J : Nat → Nat → Int64} {h : Nat → Nat} {W9 Dn : Nat → Int32} (C : LC p l s m c D a q1 q2 b cI cL cO L xs) (hLI : LI I J h W9 Dn su cp he) (hP1 : va_P D vwCl (oc a cI cL cO I J) H) (hP2 : va_P D vwCl (la cI q1 q2 W9 Dn) H) (hS : va_S (fr s) s.heap H locs) (hY : Y < 2 ^ 28) (hm : m9 < 3) (hst : st < 12) (hn9 : nd I h = n9) (hp9 : pp I h = p9) (hR : c9 + 2800 ≤ 683036 ∧ s9 + 17000 ≤ 7052515) (K : LK p l e s m below meth c Q D a q1 q2 b cI cL cO T t c9 s9) (hl : lv_has ls 22 [(0, .ref b), (1, .ref (a 0)), (2, .ref q1), (3, .ref q2), (4, .int (nI su)), (5, .int (nI cp)), (6, .int (nI he)), (7, .int (nI 1)), (8, .int (nI T)), (9, .int (nI t)), (11, .int (nI Y)), (13, .int (nI m9)), (14, .int (nI st)), (15, .int (nI n9)), (16, .int (nI p9))]) : W p l e room_1 s m #[Value.ref b] below meth c H locs c9 s9 Q (F0 m 634 ls [.int (nI 1)]) := by
  have hD := C.D
  have C' := C
  obtain ⟨hl0, S, hK, -, hES, hEH, hX, hbl, hL⟩ := C'
  have hx := S.1
  have hb := S.2.1
  have hown := S.2.2.2.1
  have hts := S.2.2.2.2
  have hA : ∀ z9 : Nat, s.heap.size ≤ z9 → fr s z9 := fun _ h => h
  obtain ⟨hG, hJ, hW, hDn, hsu, hcp, hhe⟩ := hLI
  have bn : n9 ≤ 5124 := hn9 ▸ nd_bd hG _
  have bp : p9 ≤ 366 := hp9 ▸ pp_bd _
  have bc : cp ≤ 3 := hcp ▸ cc_3 hG
  obtain ⟨d9, hd9, ed⟩ := hG.2.2.1
  refine lv_istore (lv' := [(17, .int (nI 1)), (0, .ref b), (1, .ref (a 0)), (2, .ref q1), (3, .ref q2), (4, .int (nI su)), (5, .int (nI cp)), (6, .int (nI he)), (7, .int (nI 1)), (8, .int (nI T)), (9, .int (nI t)), (11, .int (nI Y)), (13, .int (nI m9)), (14, .int (nI st)), (15, .int (nI n9)), (16, .int (nI p9))]) hx hb dL_law_634 hl (by decide) rfl (fun ls hl => ?_)
  refine lv_aload_n hx hb dL_law_636 rfl (lv_at hl 2 rfl) ?_
  refine lv_iload hx hb dL_law_637 (lv_at hl 13 rfl) ?_
  refine lv_iload hx hb dL_law_639 (lv_at hl 0 rfl) ?_
  refine lv_asi (bI true) rfl ?_
  refine l_thi (As := [.int (nI st), .int (bI true)]) (rest := []) S (n_draw l D a cI cL cO hl0 (b := true) hst ed H.size) (cwV 2 hts gL_law_X0_draw rfl rfl rfl (by decide +kernel) ⟨Nat.le_of_ble_eq_true rfl, Nat.le_of_ble_eq_true rfl⟩) hK hP1 hP2 (hD _ _ _ _) hES hEH hS hA rfl rfl oc_at0 rfl hl.1 rfl (Nat.le_of_ble_eq_true rfl) dL_law_641 ⟨by show _ ≤ 683036; omega, by show _ ≤ 7052515; omega⟩ (fun H locs hP1 hP2 hS => ?_)
  have hdn := (hDn st hst).trans (by rw [ed, dr_bit hst])
  have hG2 := gi_d hG (drw_lt hd9 hst true)
  have hle : p9 ≤ pp (u2 I 8 0 (nI (drw d9 st true))) h := hp9 ▸ pp_on ed
  have hc2 : ccN (u2 I 8 0 (nI (drw d9 st true))) = cp := (cc_same (fun f hf => u2_ne (by omega) _ _)).trans hcp
  have hs2 : suN (u2 I 8 0 (nI (drw d9 st true))) = su := hsu
  have hW2 : ∀ r, r < 6 → W9 r = (u2 I 8 0 (nI (drw d9 st true))) 1 r := hW
  have hD2 : ∀ k, k < 12 → upd Dn st (nI 1) k = bI (dr ((u2 I 8 0 (nI (drw d9 st true))) 8 0) (nI k)) := fun k hk => by
    show upd Dn st (nI 1) k = bI (dr (nI (drw d9 st true)) (nI k))
    rw [dr_bit hk, drw_bit]
    by_cases q : k = st
    · rw [q, upd_at, if_pos rfl]
      rfl
    · rw [upd_ne q, if_neg q, hDn k hk, ed, dr_bit hk]
  generalize u2 I 8 0 (nI (drw d9 st true)) = I2 at *
  have bp2 : pp I2 h ≤ 366 := pp_bd _
  cases hb9 : d9.testBit st with
  | true =>
    rw [hb9] at hdn
    refine lv_asi (nI 1) (by first | rfl | (rw [hb9]; rfl)) ?_
    refine lv_aload_n hx hb dL_law_644 rfl (lv_at hl 4 rfl) ?_
    refine lv_iload hx hb dL_law_645 (lv_at hl 13 rfl) ?_
    refine w_ild hx hb hK hP2 rfl (q0 := 1) rfl (hst) (by decide) dL_law_647 ?_
    refine lv_asi (nI 1) (hdn) ?_
    refine lv_iconst (v := (nI 1)) hx hb dL_law_648 (by decide) ?_
    refine lv_icmp_ne (tgt := 656) hx hb dL_law_649 (by decide) (fun z => absurd ((nI_eq (a := 1) (b := 1) (by omega) (by omega)).mpr (by omega)) z) (fun _ => ?_)
    refine lv_iconst (v := (nI 1)) hx hb dL_law_652 (by decide) ?_
    refine lv_goto (tgt := 657) hx hb dL_law_653 (by decide) ?_
    refine lv_icmp_ne (tgt := 690) hx hb dL_law_657 (by decide) (fun z => absurd ((nI_eq (a := 1) (b := 1) (by omega) (by omega)).mpr (by omega)) z) (fun _ => ?_)
    refine lv_iload hx hb dL_law_660 (lv_at hl 0 rfl) ?_
    refine lv_if_eq (tgt := 677) hx hb dL_law_662 (by decide) (fun z => absurd ((nI_eq (a := 1) (b := 0) (by omega) (by omega)).mp z) (by omega)) (fun _ => ?_)
    refine lv_aload_n hx hb dL_law_665 rfl (lv_at hl 2 rfl) ?_
    refine l_cls (As := []) (rest := []) S (n_pipes l D a cI cL cO hG2 hJ) (cwV 0 hts gL_law_X0_pipes rfl rfl rfl (by decide +kernel) ⟨Nat.le_of_ble_eq_true rfl, Nat.le_of_ble_eq_true rfl⟩) hK hP1 hP2 (hD _ _ _ _) hS rfl rfl oc_at0 rfl hl.1 rfl (Nat.le_of_ble_eq_true rfl) dL_law_666 ⟨by show _ ≤ 683036; omega, by show _ ≤ 7052515; omega⟩ (fun H locs hP1 hP2 hS => ?_)
    have hJ := g_J hG2 hJ
    generalize fsW I2 J 0 0 = J at hJ hP1
    refine lv_iload hx hb dL_law_669 (lv_at hl 15 rfl) ?_
    refine lv_icmp_lt (tgt := 690) hx hb dL_law_671 (by decide) (fun z => absurd ((nI_ltI (a := pp I2 h) (b := p9) (by omega) (by omega)).mp z) (by omega)) (fun _ => ?_)
    refine lv_goto (tgt := 686) hx hb dL_law_674 (by decide) ?_
    refine lv_iconst (v := (nI 1)) hx hb dL_law_686 (by decide) ?_
    refine lv_goto (tgt := 691) hx hb dL_law_687 (by decide) ?_
    refine lv_istore (lv' := [(7, .int (nI 1)), (17, .int (nI 1)), (0, .ref b), (1, .ref (a 0)), (2, .ref q1), (3, .ref q2), (4, .int (nI su)), (5, .int (nI cp)), (6, .int (nI he)), (8, .int (nI T)), (9, .int (nI t)), (11, .int (nI Y)), (13, .int (nI m9)), (14, .int (nI st)), (15, .int (nI n9)), (16, .int (nI p9))]) hx hb dL_law_691 hl (by decide) rfl (fun ls hl => ?_)
    refine lv_aload_n hx hb dL_law_693 rfl (lv_at hl 5 rfl) ?_
    refine lv_iload hx hb dL_law_694 (lv_at hl 13 rfl) ?_
    refine lv_iload hx hb dL_law_696 (lv_at hl 1 rfl) ?_
    refine lv_if_eq (tgt := 705) hx hb dL_law_698 (by decide) (fun z => absurd ((nI_eq (a := 1) (b := 0) (by omega) (by omega)).mp z) (by omega)) (fun _ => ?_)
    refine lv_iconst (v := (nI 1)) hx hb dL_law_701 (by decide) ?_
    refine lv_goto (tgt := 706) hx hb dL_law_702 (by decide) ?_
    refine w_ist (w' := oc a cI cL cO I2 J ++ la cI q1 q2 W9 (upd Dn st (nI 1))) hx hb hK (va_P.app hP1 hP2) (hD _ _ _ _) hS rfl (q0 := 24) rfl rfl (hst) (by decide) dL_law_706 (fun H locs hP hS => ?_)
    have hP1 := hP.fst
    have hP2 := hP.snd
    refine lv_goto (tgt := 1518) hx hb dL_law_707 (by decide) ?_
    refine W.widen (k := c9 + 200) (n := s9 + 1200) (by omega) (by omega) ?_
    exact K H _ ls I2 J h W9 (upd Dn st (nI 1)) su cp he ⟨hG2, hJ, hW2, hD2, hs2, hc2, hhe⟩ hP1 hP2 hS (lv_sub hl [0, 2, 3, 4, 5, 6, 7, 8, 9, 10] rfl)
  | false =>
    rw [hb9] at hdn
    refine lv_asi (nI 0) (by first | rfl | (rw [hb9]; rfl)) ?_
    refine lv_aload_n hx hb dL_law_644 rfl (lv_at hl 4 rfl) ?_
    refine lv_iload hx hb dL_law_645 (lv_at hl 13 rfl) ?_
    refine w_ild hx hb hK hP2 rfl (q0 := 1) rfl (hst) (by decide) dL_law_647 ?_
    refine lv_asi (nI 0) (hdn) ?_
    refine lv_iconst (v := (nI 1)) hx hb dL_law_648 (by decide) ?_
    refine lv_icmp_ne (tgt := 656) hx hb dL_law_649 (by decide) (fun _ => ?_) (fun z => absurd ((nI_eq (a := 0) (b := 1) (by omega) (by omega)).mp z) (by omega))
    refine lv_iconst (v := (nI 0)) hx hb dL_law_656 (by decide) ?_
    refine lv_icmp_ne (tgt := 690) hx hb dL_law_657 (by decide) (fun z => absurd ((nI_eq (a := 0) (b := 0) (by omega) (by omega)).mpr (by omega)) z) (fun _ => ?_)
    refine lv_iload hx hb dL_law_660 (lv_at hl 0 rfl) ?_
    refine lv_if_eq (tgt := 677) hx hb dL_law_662 (by decide) (fun z => absurd ((nI_eq (a := 1) (b := 0) (by omega) (by omega)).mp z) (by omega)) (fun _ => ?_)
    refine lv_aload_n hx hb dL_law_665 rfl (lv_at hl 2 rfl) ?_
    refine l_cls (As := []) (rest := []) S (n_pipes l D a cI cL cO hG2 hJ) (cwV 0 hts gL_law_X0_pipes rfl rfl rfl (by decide +kernel) ⟨Nat.le_of_ble_eq_true rfl, Nat.le_of_ble_eq_true rfl⟩) hK hP1 hP2 (hD _ _ _ _) hS rfl rfl oc_at0 rfl hl.1 rfl (Nat.le_of_ble_eq_true rfl) dL_law_666 ⟨by show _ ≤ 683036; omega, by show _ ≤ 7052515; omega⟩ (fun H locs hP1 hP2 hS => ?_)
    have hJ := g_J hG2 hJ
    generalize fsW I2 J 0 0 = J at hJ hP1
    refine lv_iload hx hb dL_law_669 (lv_at hl 15 rfl) ?_
    refine lv_icmp_lt (tgt := 690) hx hb dL_law_671 (by decide) (fun z => absurd ((nI_ltI (a := pp I2 h) (b := p9) (by omega) (by omega)).mp z) (by omega)) (fun _ => ?_)
    refine lv_goto (tgt := 686) hx hb dL_law_674 (by decide) ?_
    refine lv_iconst (v := (nI 1)) hx hb dL_law_686 (by decide) ?_
    refine lv_goto (tgt := 691) hx hb dL_law_687 (by decide) ?_
    refine lv_istore (lv' := [(7, .int (nI 1)), (17, .int (nI 1)), (0, .ref b), (1, .ref (a 0)), (2, .ref q1), (3, .ref q2), (4, .int (nI su)), (5, .int (nI cp)), (6, .int (nI he)), (8, .int (nI T)), (9, .int (nI t)), (11, .int (nI Y)), (13, .int (nI m9)), (14, .int (nI st)), (15, .int (nI n9)), (16, .int (nI p9))]) hx hb dL_law_691 hl (by decide) rfl (fun ls hl => ?_)
    refine lv_aload_n hx hb dL_law_693 rfl (lv_at hl 5 rfl) ?_
    refine lv_iload hx hb dL_law_694 (lv_at hl 13 rfl) ?_
    refine lv_iload hx hb dL_law_696 (lv_at hl 1 rfl) ?_
    refine lv_if_eq (tgt := 705) hx hb dL_law_698 (by decide) (fun z => absurd ((nI_eq (a := 1) (b := 0) (by omega) (by omega)).mp z) (by omega)) (fun _ => ?_)
    refine lv_iconst (v := (nI 1)) hx hb dL_law_701 (by decide) ?_
    refine lv_goto (tgt := 706) hx hb dL_law_702 (by decide) ?_
    refine w_ist (w' := oc a cI cL cO I2 J ++ la cI q1 q2 W9 (upd Dn st (nI 1))) hx hb hK (va_P.app hP1 hP2) (hD _ _ _ _) hS rfl (q0 := 24) rfl rfl (hst) (by decide) dL_law_706 (fun H locs hP hS => ?_)
    have hP1 := hP.fst
    have hP2 := hP.snd
    refine lv_goto (tgt := 1518) hx hb dL_law_707 (by decide) ?_
    refine W.widen (k := c9 + 200) (n := s9 + 1200) (by omega) (by omega) ?_
    exact K H _ ls I2 J h W9 (upd Dn st (nI 1)) su cp he ⟨hG2, hJ, hW2, hD2, hs2, hc2, hhe⟩ hP1 hP2 hS (lv_sub hl [0, 2, 3, 4, 5, 6, 7, 8, 9, 10] rfl)
set_option maxHeartbeats 1000000 in
set_option maxRecDepth 100000 in
theorem deed_4f {p : Program} {l : Launch} {e : Env} {s : State} {m : MethodId} {below : List Frame} {meth : Method} {c : Code} {H : Heap} {locs : List Loc} {Q : State → Prop} {ls : Array Slot} {D : va_G} {a : Nat → Nat} {q1 q2 b L T t Y m9 st n9 p9 su cp he c9 s9 : Nat} {cI cL cO : ClassId} {xs : Nat → Int32} {I : Nat → Nat → Int32} {J : Nat → Nat → Int64} {h : Nat → Nat} {W9 Dn : Nat → Int32} (C : LC p l s m c D a q1 q2 b cI cL cO L xs) (hLI : LI I J h W9 Dn su cp he) (hP1 : va_P D vwCl (oc a cI cL cO I J) H) (hP2 : va_P D vwCl (la cI q1 q2 W9 Dn) H) (hS : va_S (fr s) s.heap H locs) (hY : Y < 2 ^ 28) (hm : m9 < 3) (hst : st < 12) (hn9 : nd I h = n9) (hp9 : pp I h = p9) (hR : c9 + 2800 ≤ 683036 ∧ s9 + 17000 ≤ 7052515) (K : LK p l e s m below meth c Q D a q1 q2 b cI cL cO T t c9 s9) (hl : lv_has ls 22 [(0, .ref b), (1, .ref (a 0)), (2, .ref q1), (3, .ref q2), (4, .int (nI su)), (5, .int (nI cp)), (6, .int (nI he)), (7, .int (nI 1)), (8, .int (nI T)), (9, .int (nI t)), (11, .int (nI Y)), (13, .int (nI m9)), (14, .int (nI st)), (15, .int (nI n9)), (16, .int (nI p9))]) : W p l e room_1 s m #[Value.ref b] below meth c H locs c9 s9 Q (F0 m 634 ls [.int (nI 0)]) := by
  have hD := C.D
  have C' := C
  obtain ⟨hl0, S, hK, -, hES, hEH, hX, hbl, hL⟩ := C'
  have hx := S.1
  have hb := S.2.1
  have hown := S.2.2.2.1
  have hts := S.2.2.2.2
  have hA : ∀ z9 : Nat, s.heap.size ≤ z9 → fr s z9 := fun _ h => h
  obtain ⟨hG, hJ, hW, hDn, hsu, hcp, hhe⟩ := hLI
  have bn : n9 ≤ 5124 := hn9 ▸ nd_bd hG _
  have bp : p9 ≤ 366 := hp9 ▸ pp_bd _
  have bc : cp ≤ 3 := hcp ▸ cc_3 hG
  obtain ⟨d9, hd9, ed⟩ := hG.2.2.1
  refine lv_istore (lv' := [(17, .int (nI 0)), (0, .ref b), (1, .ref (a 0)), (2, .ref q1), (3, .ref q2), (4, .int (nI su)), (5, .int (nI cp)), (6, .int (nI he)), (7, .int (nI 1)), (8, .int (nI T)), (9, .int (nI t)), (11, .int (nI Y)), (13, .int (nI m9)), (14, .int (nI st)), (15, .int (nI n9)), (16, .int (nI p9))]) hx hb dL_law_634 hl (by decide) rfl (fun ls hl => ?_)
  refine lv_aload_n hx hb dL_law_636 rfl (lv_at hl 2 rfl) ?_
  refine lv_iload hx hb dL_law_637 (lv_at hl 13 rfl) ?_
  refine lv_iload hx hb dL_law_639 (lv_at hl 0 rfl) ?_
  refine lv_asi (bI false) rfl ?_
  refine l_thi (As := [.int (nI st), .int (bI false)]) (rest := []) S (n_draw l D a cI cL cO hl0 (b := false) hst ed H.size) (cwV 2 hts gL_law_X0_draw rfl rfl rfl (by decide +kernel) ⟨Nat.le_of_ble_eq_true rfl, Nat.le_of_ble_eq_true rfl⟩) hK hP1 hP2 (hD _ _ _ _) hES hEH hS hA rfl rfl oc_at0 rfl hl.1 rfl (Nat.le_of_ble_eq_true rfl) dL_law_641 ⟨by show _ ≤ 683036; omega, by show _ ≤ 7052515; omega⟩ (fun H locs hP1 hP2 hS => ?_)
  have hdn := (hDn st hst).trans (by rw [ed, dr_bit hst])
  have hG2 := gi_d hG (drw_lt hd9 hst false)
  have hle : pp (u2 I 8 0 (nI (drw d9 st false))) h ≤ p9 := hp9 ▸ pp_off ed
  have hc2 : ccN (u2 I 8 0 (nI (drw d9 st false))) = cp := (cc_same (fun f hf => u2_ne (by omega) _ _)).trans hcp
  have hs2 : suN (u2 I 8 0 (nI (drw d9 st false))) = su := hsu
  have hW2 : ∀ r, r < 6 → W9 r = (u2 I 8 0 (nI (drw d9 st false))) 1 r := hW
  have hD2 : ∀ k, k < 12 → upd Dn st (nI 0) k = bI (dr ((u2 I 8 0 (nI (drw d9 st false))) 8 0) (nI k)) := fun k hk => by
    show upd Dn st (nI 0) k = bI (dr (nI (drw d9 st false)) (nI k))
    rw [dr_bit hk, drw_bit]
    by_cases q : k = st
    · rw [q, upd_at, if_pos rfl]
      rfl
    · rw [upd_ne q, if_neg q, hDn k hk, ed, dr_bit hk]
  generalize u2 I 8 0 (nI (drw d9 st false)) = I2 at *
  have bp2 : pp I2 h ≤ 366 := pp_bd _
  cases hb9 : d9.testBit st with
  | true =>
    rw [hb9] at hdn
    refine lv_asi (nI 1) (by first | rfl | (rw [hb9]; rfl)) ?_
    refine lv_aload_n hx hb dL_law_644 rfl (lv_at hl 4 rfl) ?_
    refine lv_iload hx hb dL_law_645 (lv_at hl 13 rfl) ?_
    refine w_ild hx hb hK hP2 rfl (q0 := 1) rfl (hst) (by decide) dL_law_647 ?_
    refine lv_asi (nI 1) (hdn) ?_
    refine lv_iconst (v := (nI 1)) hx hb dL_law_648 (by decide) ?_
    refine lv_icmp_ne (tgt := 656) hx hb dL_law_649 (by decide) (fun z => absurd ((nI_eq (a := 1) (b := 1) (by omega) (by omega)).mpr (by omega)) z) (fun _ => ?_)
    refine lv_iconst (v := (nI 1)) hx hb dL_law_652 (by decide) ?_
    refine lv_goto (tgt := 657) hx hb dL_law_653 (by decide) ?_
    refine lv_icmp_ne (tgt := 690) hx hb dL_law_657 (by decide) (fun z => absurd ((nI_eq (a := 1) (b := 1) (by omega) (by omega)).mpr (by omega)) z) (fun _ => ?_)
    refine lv_iload hx hb dL_law_660 (lv_at hl 0 rfl) ?_
    refine lv_if_eq (tgt := 677) hx hb dL_law_662 (by decide) (fun _ => ?_) (fun z => absurd ((nI_eq (a := 0) (b := 0) (by omega) (by omega)).mpr (by omega)) z)
    refine lv_aload_n hx hb dL_law_677 rfl (lv_at hl 2 rfl) ?_
    refine l_cls (As := []) (rest := []) S (n_pipes l D a cI cL cO hG2 hJ) (cwV 0 hts gL_law_X0_pipes rfl rfl rfl (by decide +kernel) ⟨Nat.le_of_ble_eq_true rfl, Nat.le_of_ble_eq_true rfl⟩) hK hP1 hP2 (hD _ _ _ _) hS rfl rfl oc_at0 rfl hl.1 rfl (Nat.le_of_ble_eq_true rfl) dL_law_678 ⟨by show _ ≤ 683036; omega, by show _ ≤ 7052515; omega⟩ (fun H locs hP1 hP2 hS => ?_)
    have hJ := g_J hG2 hJ
    generalize fsW I2 J 0 0 = J at hJ hP1
    refine lv_iload hx hb dL_law_681 (lv_at hl 15 rfl) ?_
    refine lv_icmp_gt (tgt := 690) hx hb dL_law_683 (by decide) (fun z => absurd ((nI_ltI (a := p9) (b := pp I2 h) (by omega) (by omega)).mp z) (by omega)) (fun _ => ?_)
    refine lv_iconst (v := (nI 1)) hx hb dL_law_686 (by decide) ?_
    refine lv_goto (tgt := 691) hx hb dL_law_687 (by decide) ?_
    refine lv_istore (lv' := [(7, .int (nI 1)), (17, .int (nI 0)), (0, .ref b), (1, .ref (a 0)), (2, .ref q1), (3, .ref q2), (4, .int (nI su)), (5, .int (nI cp)), (6, .int (nI he)), (8, .int (nI T)), (9, .int (nI t)), (11, .int (nI Y)), (13, .int (nI m9)), (14, .int (nI st)), (15, .int (nI n9)), (16, .int (nI p9))]) hx hb dL_law_691 hl (by decide) rfl (fun ls hl => ?_)
    refine lv_aload_n hx hb dL_law_693 rfl (lv_at hl 5 rfl) ?_
    refine lv_iload hx hb dL_law_694 (lv_at hl 13 rfl) ?_
    refine lv_iload hx hb dL_law_696 (lv_at hl 1 rfl) ?_
    refine lv_if_eq (tgt := 705) hx hb dL_law_698 (by decide) (fun _ => ?_) (fun z => absurd ((nI_eq (a := 0) (b := 0) (by omega) (by omega)).mpr (by omega)) z)
    refine lv_iconst (v := (nI 0)) hx hb dL_law_705 (by decide) ?_
    refine w_ist (w' := oc a cI cL cO I2 J ++ la cI q1 q2 W9 (upd Dn st (nI 0))) hx hb hK (va_P.app hP1 hP2) (hD _ _ _ _) hS rfl (q0 := 24) rfl rfl (hst) (by decide) dL_law_706 (fun H locs hP hS => ?_)
    have hP1 := hP.fst
    have hP2 := hP.snd
    refine lv_goto (tgt := 1518) hx hb dL_law_707 (by decide) ?_
    refine W.widen (k := c9 + 200) (n := s9 + 1200) (by omega) (by omega) ?_
    exact K H _ ls I2 J h W9 (upd Dn st (nI 0)) su cp he ⟨hG2, hJ, hW2, hD2, hs2, hc2, hhe⟩ hP1 hP2 hS (lv_sub hl [0, 2, 3, 4, 5, 6, 7, 8, 9, 10] rfl)
  | false =>
    rw [hb9] at hdn
    refine lv_asi (nI 0) (by first | rfl | (rw [hb9]; rfl)) ?_
    refine lv_aload_n hx hb dL_law_644 rfl (lv_at hl 4 rfl) ?_
    refine lv_iload hx hb dL_law_645 (lv_at hl 13 rfl) ?_
    refine w_ild hx hb hK hP2 rfl (q0 := 1) rfl (hst) (by decide) dL_law_647 ?_
    refine lv_asi (nI 0) (hdn) ?_
    refine lv_iconst (v := (nI 1)) hx hb dL_law_648 (by decide) ?_
    refine lv_icmp_ne (tgt := 656) hx hb dL_law_649 (by decide) (fun _ => ?_) (fun z => absurd ((nI_eq (a := 0) (b := 1) (by omega) (by omega)).mp z) (by omega))
    refine lv_iconst (v := (nI 0)) hx hb dL_law_656 (by decide) ?_
    refine lv_icmp_ne (tgt := 690) hx hb dL_law_657 (by decide) (fun z => absurd ((nI_eq (a := 0) (b := 0) (by omega) (by omega)).mpr (by omega)) z) (fun _ => ?_)
    refine lv_iload hx hb dL_law_660 (lv_at hl 0 rfl) ?_
    refine lv_if_eq (tgt := 677) hx hb dL_law_662 (by decide) (fun _ => ?_) (fun z => absurd ((nI_eq (a := 0) (b := 0) (by omega) (by omega)).mpr (by omega)) z)
    refine lv_aload_n hx hb dL_law_677 rfl (lv_at hl 2 rfl) ?_
    refine l_cls (As := []) (rest := []) S (n_pipes l D a cI cL cO hG2 hJ) (cwV 0 hts gL_law_X0_pipes rfl rfl rfl (by decide +kernel) ⟨Nat.le_of_ble_eq_true rfl, Nat.le_of_ble_eq_true rfl⟩) hK hP1 hP2 (hD _ _ _ _) hS rfl rfl oc_at0 rfl hl.1 rfl (Nat.le_of_ble_eq_true rfl) dL_law_678 ⟨by show _ ≤ 683036; omega, by show _ ≤ 7052515; omega⟩ (fun H locs hP1 hP2 hS => ?_)
    have hJ := g_J hG2 hJ
    generalize fsW I2 J 0 0 = J at hJ hP1
    refine lv_iload hx hb dL_law_681 (lv_at hl 15 rfl) ?_
    refine lv_icmp_gt (tgt := 690) hx hb dL_law_683 (by decide) (fun z => absurd ((nI_ltI (a := p9) (b := pp I2 h) (by omega) (by omega)).mp z) (by omega)) (fun _ => ?_)
    refine lv_iconst (v := (nI 1)) hx hb dL_law_686 (by decide) ?_
    refine lv_goto (tgt := 691) hx hb dL_law_687 (by decide) ?_
    refine lv_istore (lv' := [(7, .int (nI 1)), (17, .int (nI 0)), (0, .ref b), (1, .ref (a 0)), (2, .ref q1), (3, .ref q2), (4, .int (nI su)), (5, .int (nI cp)), (6, .int (nI he)), (8, .int (nI T)), (9, .int (nI t)), (11, .int (nI Y)), (13, .int (nI m9)), (14, .int (nI st)), (15, .int (nI n9)), (16, .int (nI p9))]) hx hb dL_law_691 hl (by decide) rfl (fun ls hl => ?_)
    refine lv_aload_n hx hb dL_law_693 rfl (lv_at hl 5 rfl) ?_
    refine lv_iload hx hb dL_law_694 (lv_at hl 13 rfl) ?_
    refine lv_iload hx hb dL_law_696 (lv_at hl 1 rfl) ?_
    refine lv_if_eq (tgt := 705) hx hb dL_law_698 (by decide) (fun _ => ?_) (fun z => absurd ((nI_eq (a := 0) (b := 0) (by omega) (by omega)).mpr (by omega)) z)
    refine lv_iconst (v := (nI 0)) hx hb dL_law_705 (by decide) ?_
    refine w_ist (w' := oc a cI cL cO I2 J ++ la cI q1 q2 W9 (upd Dn st (nI 0))) hx hb hK (va_P.app hP1 hP2) (hD _ _ _ _) hS rfl (q0 := 24) rfl rfl (hst) (by decide) dL_law_706 (fun H locs hP hS => ?_)
    have hP1 := hP.fst
    have hP2 := hP.snd
    refine lv_goto (tgt := 1518) hx hb dL_law_707 (by decide) ?_
    refine W.widen (k := c9 + 200) (n := s9 + 1200) (by omega) (by omega) ?_
    exact K H _ ls I2 J h W9 (upd Dn st (nI 0)) su cp he ⟨hG2, hJ, hW2, hD2, hs2, hc2, hhe⟩ hP1 hP2 hS (lv_sub hl [0, 2, 3, 4, 5, 6, 7, 8, 9, 10] rfl)
set_option maxHeartbeats 1000000 in
set_option maxRecDepth 100000 in
theorem deed_4 {p : Program} {l : Launch} {e : Env} {s : State} {m : MethodId} {below : List Frame} {meth : Method} {c : Code} {H : Heap} {locs : List Loc} {Q : State → Prop} {ls : Array Slot} {D : va_G} {a : Nat → Nat} {q1 q2 b L T t Y m9 st n9 p9 su cp he c9 s9 : Nat} {cI cL cO : ClassId} {xs : Nat → Int32} {I : Nat → Nat → Int32} {J : Nat → Nat → Int64} {h : Nat → Nat} {W9 Dn : Nat → Int32} (C : LC p l s m c D a q1 q2 b cI cL cO L xs) (hLI : LI I J h W9 Dn su cp he) (hP1 : va_P D vwCl (oc a cI cL cO I J) H) (hP2 : va_P D vwCl (la cI q1 q2 W9 Dn) H) (hS : va_S (fr s) s.heap H locs) (hY : Y < 2 ^ 28) (hm : m9 < 3) (hst : st < 12) (hn9 : nd I h = n9) (hp9 : pp I h = p9) (hR : c9 + 2800 ≤ 683036 ∧ s9 + 17000 ≤ 7052515) (K : LK p l e s m below meth c Q D a q1 q2 b cI cL cO T t c9 s9) (hl : lv_has ls 22 [(0, .ref b), (1, .ref (a 0)), (2, .ref q1), (3, .ref q2), (4, .int (nI su)), (5, .int (nI cp)), (6, .int (nI he)), (7, .int (nI 1)), (8, .int (nI T)), (9, .int (nI t)), (11, .int (nI Y)), (13, .int (nI m9)), (14, .int (nI st)), (15, .int (nI n9)), (16, .int (nI p9))]) : W p l e room_1 s m #[Value.ref b] below meth c H locs c9 s9 Q (F0 m 613 ls []) := by
  have hD := C.D
  have C' := C
  obtain ⟨hl0, S, hK, -, hES, hEH, hX, hbl, hL⟩ := C'
  have hx := S.1
  have hb := S.2.1
  have hown := S.2.2.2.1
  have hts := S.2.2.2.2
  have hA : ∀ z9 : Nat, s.heap.size ≤ z9 → fr s z9 := fun _ h => h
  obtain ⟨hG, hJ, hW, hDn, hsu, hcp, hhe⟩ := hLI
  have bn : n9 ≤ 5124 := hn9 ▸ nd_bd hG _
  have bp : p9 ≤ 366 := hp9 ▸ pp_bd _
  have bc : cp ≤ 3 := hcp ▸ cc_3 hG
  refine lv_iload hx hb dL_law_613 (lv_at hl 9 rfl) ?_
  refine lv_iconst (v := (nI 3)) hx hb dL_law_615 (by decide) ?_
  refine lv_icmp_lt (tgt := 629) hx hb dL_law_616 (by decide) (fun c1 => ?_) (fun c1 => ?_)
  · skip
    refine lv_iconst (v := (nI 1)) hx hb dL_law_629 (by decide) ?_
    refine lv_goto (tgt := 634) hx hb dL_law_630 (by decide) ?_
    exact deed_4t C ⟨hG, hJ, hW, hDn, hsu, hcp, hhe⟩ hP1 hP2 hS hY hm hst hn9 hp9 hR K hl
  · refine lv_iload hx hb dL_law_619 (lv_at hl 10 rfl) ?_
    refine lv_bipush (v := (nI 8)) hx hb dL_law_621 (by decide) ?_
    refine lv_ishr hx hb dL_law_623 ?_
    refine lv_asi (nI (Y / 256)) (pk_shrN (by omega) _ 8 (by decide)) ?_
    refine lv_iconst (v := (nI 3)) hx hb dL_law_624 (by decide) ?_
    refine lv_iand hx hb dL_law_625 ?_
    refine lv_asi (nI ((Y / 256) % 4)) (pk_andN (by omega) 2 (by decide)) ?_
    refine lv_if_le (tgt := 633) hx hb dL_law_626 (by decide) (fun c2 => ?_) (fun c2 => ?_)
    · skip
      refine lv_iconst (v := (nI 0)) hx hb dL_law_633 (by decide) ?_
      exact deed_4f C ⟨hG, hJ, hW, hDn, hsu, hcp, hhe⟩ hP1 hP2 hS hY hm hst hn9 hp9 hR K hl
    · skip
      refine lv_iconst (v := (nI 1)) hx hb dL_law_629 (by decide) ?_
      refine lv_goto (tgt := 634) hx hb dL_law_630 (by decide) ?_
      exact deed_4t C ⟨hG, hJ, hW, hDn, hsu, hcp, hhe⟩ hP1 hP2 hS hY hm hst hn9 hp9 hR K hl
set_option maxHeartbeats 1000000 in
set_option maxRecDepth 100000 in
theorem deed_6t {p : Program} {l : Launch} {e : Env} {s : State} {m : MethodId} {below : List Frame} {meth : Method} {c : Code} {H : Heap} {locs : List Loc} {Q : State → Prop} {ls : Array Slot} {D : va_G} {a : Nat → Nat} {q1 q2 b L T t Y m9 st n9 p9 su cp he c9 s9 : Nat} {cI cL cO : ClassId} {xs : Nat → Int32} {I : Nat → Nat → Int32} {J : Nat → Nat → Int64} {h : Nat → Nat} {W9 Dn : Nat → Int32} {k9 : Nat}  (C : LC p l s m c D a q1 q2 b cI cL cO L xs) (hLI : LI I J h W9 Dn su cp he) (hP1 : va_P D vwCl (oc a cI cL cO I J) H) (hP2 : va_P D vwCl (la cI q1 q2 W9 Dn) H) (hS : va_S (fr s) s.heap H locs) (hY : Y < 2 ^ 28) (hm : m9 < 3) (hst : st < 12) (hn9 : nd I h = n9) (hp9 : pp I h = p9) (hR : c9 + 2800 ≤ 683036 ∧ s9 + 17000 ≤ 7052515) (K : LK p l e s m below meth c Q D a q1 q2 b cI cL cO T t c9 s9) (hk9 : k9 < 61) (hl : lv_has ls 22 [(17, .int (nI k9)), (0, .ref b), (1, .ref (a 0)), (2, .ref q1), (3, .ref q2), (4, .int (nI su)), (5, .int (nI cp)), (6, .int (nI he)), (7, .int (nI 1)), (8, .int (nI T)), (9, .int (nI t)), (11, .int (nI Y)), (13, .int (nI m9)), (14, .int (nI st)), (15, .int (nI n9)), (16, .int (nI p9))]) : W p l e room_1 s m #[Value.ref b] below meth c H locs c9 s9 Q (F0 m 750 ls [.int (nI 1)]) := by
  have hD := C.D
  have C' := C
  obtain ⟨hl0, S, hK, -, hES, hEH, hX, hbl, hL⟩ := C'
  have hx := S.1
  have hb := S.2.1
  have hown := S.2.2.2.1
  have hts := S.2.2.2.2
  have hA : ∀ z9 : Nat, s.heap.size ≤ z9 → fr s z9 := fun _ h => h
  obtain ⟨hG, hJ, hW, hDn, hsu, hcp, hhe⟩ := hLI
  have bn : n9 ≤ 5124 := hn9 ▸ nd_bd hG _
  have bp : p9 ≤ 366 := hp9 ▸ pp_bd _
  have bc : cp ≤ 3 := hcp ▸ cc_3 hG
  have bhe : he ≤ 183 := by
    have z0 := pcN_le (h 0) 61
    have z1 := pcN_le (h 1) 61
    have z2 := pcN_le (h 2) 61
    rw [← hhe]
    unfold hc
    omega
  refine lv_istore (lv' := [(18, .int (nI 1)), (17, .int (nI k9)), (0, .ref b), (1, .ref (a 0)), (2, .ref q1), (3, .ref q2), (4, .int (nI su)), (5, .int (nI cp)), (6, .int (nI he)), (7, .int (nI 1)), (8, .int (nI T)), (9, .int (nI t)), (11, .int (nI Y)), (13, .int (nI m9)), (14, .int (nI st)), (15, .int (nI n9)), (16, .int (nI p9))]) hx hb dL_law_750 hl (by decide) rfl (fun ls hl => ?_)
  refine lv_aload_n hx hb dL_law_752 rfl (lv_at hl 3 rfl) ?_
  refine lv_iload hx hb dL_law_753 (lv_at hl 13 rfl) ?_
  refine lv_iload hx hb dL_law_755 (lv_at hl 1 rfl) ?_
  refine l_thi (As := [.int (nI m9), .int (nI k9)]) (rest := []) S (n_more l D a cI cL cO hl0 hG hJ hm hk9 H.size) (cwV 2 hts gL_law_X0_more rfl rfl rfl (by decide +kernel) ⟨Nat.le_of_ble_eq_true rfl, Nat.le_of_ble_eq_true rfl⟩) hK hP1 hP2 (hD _ _ _ _) hES hEH hS hA rfl rfl oc_at0 rfl hl.1 rfl (Nat.le_of_ble_eq_true rfl) dL_law_757 ⟨by show _ ≤ 683036; omega, by show _ ≤ 7052515; omega⟩ (fun H locs hP1 hP2 hS => ?_)
  have hJ := (g_more hG hJ hm hk9).2
  generalize fsW I (fsW I J 0 0) m9 (kb (nI k9)) = J at hJ hP1
  have bm : nN (wd I) (sB I (rA h m9 (2 ^ k9))) ≤ 5124 := nd_bd hG _
  have bm2 : nd I h ≤ nN (wd I) (sB I (rA h m9 (2 ^ k9))) := nd_more m9 (2 ^ k9)
  rw [hn9] at bm2
  obtain ⟨v9, hv9⟩ : ∃ v9, v9 = nN (wd I) (sB I (rA h m9 (2 ^ k9))) := ⟨_, rfl⟩
  refine lv_asi (nI (v9 - n9)) (by rw [hv9, hn9]) ?_
  rw [← hv9] at bm bm2
  refine lv_istore (lv' := [(19, .int (nI (v9 - n9))), (18, .int (nI 1)), (17, .int (nI k9)), (0, .ref b), (1, .ref (a 0)), (2, .ref q1), (3, .ref q2), (4, .int (nI su)), (5, .int (nI cp)), (6, .int (nI he)), (7, .int (nI 1)), (8, .int (nI T)), (9, .int (nI t)), (11, .int (nI Y)), (13, .int (nI m9)), (14, .int (nI st)), (15, .int (nI n9)), (16, .int (nI p9))]) hx hb dL_law_760 hl (by decide) rfl (fun ls hl => ?_)
  refine lv_aload_n hx hb dL_law_762 rfl (lv_at hl 4 rfl) ?_
  refine lv_iload hx hb dL_law_763 (lv_at hl 14 rfl) ?_
  refine lv_iload hx hb dL_law_765 (lv_at hl 2 rfl) ?_
  refine lv_iload hx hb dL_law_767 (lv_at hl 1 rfl) ?_
  refine lv_asi (bI true) rfl ?_
  refine l_thi (As := [.int (nI m9), .int (nI k9), .int (bI true)]) (rest := []) S (n_hold l D a cI cL cO hl0 (b := true) hJ hm hk9 H.size) (cwV 3 hts gL_law_X0_hold rfl rfl rfl (by decide +kernel) ⟨Nat.le_of_ble_eq_true rfl, Nat.le_of_ble_eq_true rfl⟩) hK hP1 hP2 (hD _ _ _ _) hES hEH hS hA rfl rfl oc_at0 rfl hl.1 rfl (Nat.le_of_ble_eq_true rfl) dL_law_769 ⟨by show _ ≤ 683036; omega, by show _ ≤ 7052515; omega⟩ (fun H locs hP1 hP2 hS => ?_)
  have hJ := (g_hold hJ hm hk9 true).2
  generalize hoJ J (nI m9) (nI k9) (bI true) = J at hJ hP1
  cases hb9 : (h m9).testBit k9 with
  | true =>
    refine lv_asi (nI 1) (by first | rfl | (rw [hb9]; rfl)) ?_
    have hid : hSet h m9 k9 true = h := hSet_id hb9
    rw [hid] at hJ
    have hm0 : v9 = n9 := by rw [hv9, rA_had hb9]; exact hn9
    have hh2 : hc h = he + 0 := hhe
    refine lv_istore (lv' := [(20, .int (nI 1)), (19, .int (nI (v9 - n9))), (18, .int (nI 1)), (17, .int (nI k9)), (0, .ref b), (1, .ref (a 0)), (2, .ref q1), (3, .ref q2), (4, .int (nI su)), (5, .int (nI cp)), (6, .int (nI he)), (7, .int (nI 1)), (8, .int (nI T)), (9, .int (nI t)), (11, .int (nI Y)), (13, .int (nI m9)), (14, .int (nI st)), (15, .int (nI n9)), (16, .int (nI p9))]) hx hb dL_law_772 hl (by decide) rfl (fun ls hl => ?_)
    refine lv_iload hx hb dL_law_774 (lv_at hl 10 rfl) ?_
    refine lv_iload hx hb dL_law_776 (lv_at hl 0 rfl) ?_
    refine lv_iload hx hb dL_law_778 (lv_at hl 2 rfl) ?_
    refine lv_icmp_ne (tgt := 787) hx hb dL_law_780 (by decide) (fun z => absurd ((nI_eq (a := 1) (b := 1) (by omega) (by omega)).mpr (by omega)) z) (fun _ => ?_)
    refine lv_iconst (v := (nI 0)) hx hb dL_law_783 (by decide) ?_
    refine lv_goto (tgt := 797) hx hb dL_law_784 (by decide) ?_
    refine lv_iadd hx hb dL_law_797 ?_
    refine lv_asi (nI (he + 0)) (nI_add _ _) ?_
    refine lv_istore (lv' := [(6, .int (nI (he + 0))), (20, .int (nI 1)), (19, .int (nI (v9 - n9))), (18, .int (nI 1)), (17, .int (nI k9)), (0, .ref b), (1, .ref (a 0)), (2, .ref q1), (3, .ref q2), (4, .int (nI su)), (5, .int (nI cp)), (7, .int (nI 1)), (8, .int (nI T)), (9, .int (nI t)), (11, .int (nI Y)), (13, .int (nI m9)), (14, .int (nI st)), (15, .int (nI n9)), (16, .int (nI p9))]) hx hb dL_law_798 hl (by decide) rfl (fun ls hl => ?_)
    refine lv_iload hx hb dL_law_800 (lv_at hl 3 rfl) ?_
    refine lv_if_eq (tgt := 835) hx hb dL_law_802 (by decide) (fun z => absurd ((nI_eq (a := 1) (b := 0) (by omega) (by omega)).mp z) (by omega)) (fun _ => ?_)
    refine lv_aload_n hx hb dL_law_805 rfl (lv_at hl 6 rfl) ?_
    refine l_cls (As := []) (rest := []) S (n_need l D a cI cL cO hG hJ) (cwV 0 hts gL_law_X0_need rfl rfl rfl (by decide +kernel) ⟨Nat.le_of_ble_eq_true rfl, Nat.le_of_ble_eq_true rfl⟩) hK hP1 hP2 (hD _ _ _ _) hS rfl rfl oc_at0 rfl hl.1 rfl (Nat.le_of_ble_eq_true rfl) dL_law_806 ⟨by show _ ≤ 683036; omega, by show _ ≤ 7052515; omega⟩ (fun H locs hP1 hP2 hS => ?_)
    have hJ := g_J hG hJ
    generalize fsW I J 0 0 = J at hJ hP1
    refine lv_asi (nI n9) (congrArg nI hn9) ?_
    refine lv_iload hx hb dL_law_809 (lv_at hl 17 rfl) ?_
    refine lv_iload hx hb dL_law_811 (lv_at hl 2 rfl) ?_
    refine lv_iadd hx hb dL_law_813 ?_
    refine lv_asi (nI (n9 + (v9 - n9))) (nI_add _ _) ?_
    refine lv_icmp_ne (tgt := 831) hx hb dL_law_814 (by decide) (fun z => absurd ((nI_eq (a := n9) (b := n9 + (v9 - n9)) (by omega) (by omega)).mpr (by omega)) z) (fun _ => ?_)
    refine lv_iload hx hb dL_law_817 (lv_at hl 1 rfl) ?_
    refine lv_if_eq (tgt := 827) hx hb dL_law_819 (by decide) (fun z => absurd ((nI_eq (a := 1) (b := 0) (by omega) (by omega)).mp z) (by omega)) (fun _ => ?_)
    refine lv_iload hx hb dL_law_822 (lv_at hl 2 rfl) ?_
    refine lv_if_ne (tgt := 831) hx hb dL_law_824 (by decide) (fun z => absurd ((nI_eq (a := v9 - n9) (b := 0) (by omega) (by omega)).mpr (by omega)) z) (fun _ => ?_)
    refine lv_iconst (v := (nI 1)) hx hb dL_law_827 (by decide) ?_
    refine lv_goto (tgt := 880) hx hb dL_law_828 (by decide) ?_
    refine lv_istore (lv' := [(7, .int (nI 1)), (6, .int (nI (he + 0))), (20, .int (nI 1)), (19, .int (nI (v9 - n9))), (18, .int (nI 1)), (17, .int (nI k9)), (0, .ref b), (1, .ref (a 0)), (2, .ref q1), (3, .ref q2), (4, .int (nI su)), (5, .int (nI cp)), (8, .int (nI T)), (9, .int (nI t)), (11, .int (nI Y)), (13, .int (nI m9)), (14, .int (nI st)), (15, .int (nI n9)), (16, .int (nI p9))]) hx hb dL_law_880 hl (by decide) rfl (fun ls hl => ?_)
    refine lv_goto (tgt := 1518) hx hb dL_law_882 (by decide) ?_
    refine W.widen (k := c9 + 200) (n := s9 + 1200) (by omega) (by omega) ?_
    exact K H _ ls I J h W9 Dn su cp (he + 0) ⟨hG, hJ, hW, hDn, hsu, hcp, hh2⟩ hP1 hP2 hS (lv_sub hl [0, 6, 7, 8, 9, 10, 11, 1, 12, 13] rfl)
  | false =>
    refine lv_asi (nI 0) (by first | rfl | (rw [hb9]; rfl)) ?_
    have hq := hc_set hm hk9 (h := h) (b := true) (by rw [hb9]; decide)
    rw [hb9, hhe] at hq
    have hh2 : hc (hSet h m9 k9 true) = he + 1 := hq
    have hn2 : nd I (hSet h m9 k9 true) = v9 := by rw [← rA_on hb9, hv9]; rfl
    generalize hSet h m9 k9 true = h2 at *
    refine lv_istore (lv' := [(20, .int (nI 0)), (19, .int (nI (v9 - n9))), (18, .int (nI 1)), (17, .int (nI k9)), (0, .ref b), (1, .ref (a 0)), (2, .ref q1), (3, .ref q2), (4, .int (nI su)), (5, .int (nI cp)), (6, .int (nI he)), (7, .int (nI 1)), (8, .int (nI T)), (9, .int (nI t)), (11, .int (nI Y)), (13, .int (nI m9)), (14, .int (nI st)), (15, .int (nI n9)), (16, .int (nI p9))]) hx hb dL_law_772 hl (by decide) rfl (fun ls hl => ?_)
    refine lv_iload hx hb dL_law_774 (lv_at hl 10 rfl) ?_
    refine lv_iload hx hb dL_law_776 (lv_at hl 0 rfl) ?_
    refine lv_iload hx hb dL_law_778 (lv_at hl 2 rfl) ?_
    refine lv_icmp_ne (tgt := 787) hx hb dL_law_780 (by decide) (fun _ => ?_) (fun z => absurd ((nI_eq (a := 0) (b := 1) (by omega) (by omega)).mp z) (by omega))
    refine lv_iload hx hb dL_law_787 (lv_at hl 2 rfl) ?_
    refine lv_if_eq (tgt := 796) hx hb dL_law_789 (by decide) (fun z => absurd ((nI_eq (a := 1) (b := 0) (by omega) (by omega)).mp z) (by omega)) (fun _ => ?_)
    refine lv_iconst (v := (nI 1)) hx hb dL_law_792 (by decide) ?_
    refine lv_goto (tgt := 797) hx hb dL_law_793 (by decide) ?_
    refine lv_iadd hx hb dL_law_797 ?_
    refine lv_asi (nI (he + 1)) (nI_add _ _) ?_
    refine lv_istore (lv' := [(6, .int (nI (he + 1))), (20, .int (nI 0)), (19, .int (nI (v9 - n9))), (18, .int (nI 1)), (17, .int (nI k9)), (0, .ref b), (1, .ref (a 0)), (2, .ref q1), (3, .ref q2), (4, .int (nI su)), (5, .int (nI cp)), (7, .int (nI 1)), (8, .int (nI T)), (9, .int (nI t)), (11, .int (nI Y)), (13, .int (nI m9)), (14, .int (nI st)), (15, .int (nI n9)), (16, .int (nI p9))]) hx hb dL_law_798 hl (by decide) rfl (fun ls hl => ?_)
    refine lv_iload hx hb dL_law_800 (lv_at hl 3 rfl) ?_
    refine lv_if_eq (tgt := 835) hx hb dL_law_802 (by decide) (fun z => absurd ((nI_eq (a := 1) (b := 0) (by omega) (by omega)).mp z) (by omega)) (fun _ => ?_)
    refine lv_aload_n hx hb dL_law_805 rfl (lv_at hl 6 rfl) ?_
    refine l_cls (As := []) (rest := []) S (n_need l D a cI cL cO hG hJ) (cwV 0 hts gL_law_X0_need rfl rfl rfl (by decide +kernel) ⟨Nat.le_of_ble_eq_true rfl, Nat.le_of_ble_eq_true rfl⟩) hK hP1 hP2 (hD _ _ _ _) hS rfl rfl oc_at0 rfl hl.1 rfl (Nat.le_of_ble_eq_true rfl) dL_law_806 ⟨by show _ ≤ 683036; omega, by show _ ≤ 7052515; omega⟩ (fun H locs hP1 hP2 hS => ?_)
    have hJ := g_J hG hJ
    generalize fsW I J 0 0 = J at hJ hP1
    refine lv_asi (nI v9) (congrArg nI hn2) ?_
    refine lv_iload hx hb dL_law_809 (lv_at hl 17 rfl) ?_
    refine lv_iload hx hb dL_law_811 (lv_at hl 2 rfl) ?_
    refine lv_iadd hx hb dL_law_813 ?_
    refine lv_asi (nI (n9 + (v9 - n9))) (nI_add _ _) ?_
    refine lv_icmp_ne (tgt := 831) hx hb dL_law_814 (by decide) (fun z => absurd ((nI_eq (a := v9) (b := n9 + (v9 - n9)) (by omega) (by omega)).mpr (by omega)) z) (fun _ => ?_)
    refine lv_iload hx hb dL_law_817 (lv_at hl 1 rfl) ?_
    refine lv_if_eq (tgt := 827) hx hb dL_law_819 (by decide) (fun _ => ?_) (fun z => absurd ((nI_eq (a := 0) (b := 0) (by omega) (by omega)).mpr (by omega)) z)
    refine lv_iconst (v := (nI 1)) hx hb dL_law_827 (by decide) ?_
    refine lv_goto (tgt := 880) hx hb dL_law_828 (by decide) ?_
    refine lv_istore (lv' := [(7, .int (nI 1)), (6, .int (nI (he + 1))), (20, .int (nI 0)), (19, .int (nI (v9 - n9))), (18, .int (nI 1)), (17, .int (nI k9)), (0, .ref b), (1, .ref (a 0)), (2, .ref q1), (3, .ref q2), (4, .int (nI su)), (5, .int (nI cp)), (8, .int (nI T)), (9, .int (nI t)), (11, .int (nI Y)), (13, .int (nI m9)), (14, .int (nI st)), (15, .int (nI n9)), (16, .int (nI p9))]) hx hb dL_law_880 hl (by decide) rfl (fun ls hl => ?_)
    refine lv_goto (tgt := 1518) hx hb dL_law_882 (by decide) ?_
    refine W.widen (k := c9 + 200) (n := s9 + 1200) (by omega) (by omega) ?_
    exact K H _ ls I J h2 W9 Dn su cp (he + 1) ⟨hG, hJ, hW, hDn, hsu, hcp, hh2⟩ hP1 hP2 hS (lv_sub hl [0, 6, 7, 8, 9, 10, 11, 1, 12, 13] rfl)
set_option maxHeartbeats 1000000 in
set_option maxRecDepth 100000 in
theorem deed_6f {p : Program} {l : Launch} {e : Env} {s : State} {m : MethodId} {below : List Frame} {meth : Method} {c : Code} {H : Heap} {locs : List Loc} {Q : State → Prop} {ls : Array Slot} {D : va_G} {a : Nat → Nat} {q1 q2 b L T t Y m9 st n9 p9 su cp he c9 s9 : Nat} {cI cL cO : ClassId} {xs : Nat → Int32} {I : Nat → Nat → Int32} {J : Nat → Nat → Int64} {h : Nat → Nat} {W9 Dn : Nat → Int32} {k9 : Nat}  (C : LC p l s m c D a q1 q2 b cI cL cO L xs) (hLI : LI I J h W9 Dn su cp he) (hP1 : va_P D vwCl (oc a cI cL cO I J) H) (hP2 : va_P D vwCl (la cI q1 q2 W9 Dn) H) (hS : va_S (fr s) s.heap H locs) (hY : Y < 2 ^ 28) (hm : m9 < 3) (hst : st < 12) (hn9 : nd I h = n9) (hp9 : pp I h = p9) (hR : c9 + 2800 ≤ 683036 ∧ s9 + 17000 ≤ 7052515) (K : LK p l e s m below meth c Q D a q1 q2 b cI cL cO T t c9 s9) (hk9 : k9 < 61) (hl : lv_has ls 22 [(17, .int (nI k9)), (0, .ref b), (1, .ref (a 0)), (2, .ref q1), (3, .ref q2), (4, .int (nI su)), (5, .int (nI cp)), (6, .int (nI he)), (7, .int (nI 1)), (8, .int (nI T)), (9, .int (nI t)), (11, .int (nI Y)), (13, .int (nI m9)), (14, .int (nI st)), (15, .int (nI n9)), (16, .int (nI p9))]) : W p l e room_1 s m #[Value.ref b] below meth c H locs c9 s9 Q (F0 m 750 ls [.int (nI 0)]) := by
  have hD := C.D
  have C' := C
  obtain ⟨hl0, S, hK, -, hES, hEH, hX, hbl, hL⟩ := C'
  have hx := S.1
  have hb := S.2.1
  have hown := S.2.2.2.1
  have hts := S.2.2.2.2
  have hA : ∀ z9 : Nat, s.heap.size ≤ z9 → fr s z9 := fun _ h => h
  obtain ⟨hG, hJ, hW, hDn, hsu, hcp, hhe⟩ := hLI
  have bn : n9 ≤ 5124 := hn9 ▸ nd_bd hG _
  have bp : p9 ≤ 366 := hp9 ▸ pp_bd _
  have bc : cp ≤ 3 := hcp ▸ cc_3 hG
  have bhe : he ≤ 183 := by
    have z0 := pcN_le (h 0) 61
    have z1 := pcN_le (h 1) 61
    have z2 := pcN_le (h 2) 61
    rw [← hhe]
    unfold hc
    omega
  refine lv_istore (lv' := [(18, .int (nI 0)), (17, .int (nI k9)), (0, .ref b), (1, .ref (a 0)), (2, .ref q1), (3, .ref q2), (4, .int (nI su)), (5, .int (nI cp)), (6, .int (nI he)), (7, .int (nI 1)), (8, .int (nI T)), (9, .int (nI t)), (11, .int (nI Y)), (13, .int (nI m9)), (14, .int (nI st)), (15, .int (nI n9)), (16, .int (nI p9))]) hx hb dL_law_750 hl (by decide) rfl (fun ls hl => ?_)
  refine lv_aload_n hx hb dL_law_752 rfl (lv_at hl 3 rfl) ?_
  refine lv_iload hx hb dL_law_753 (lv_at hl 13 rfl) ?_
  refine lv_iload hx hb dL_law_755 (lv_at hl 1 rfl) ?_
  refine l_thi (As := [.int (nI m9), .int (nI k9)]) (rest := []) S (n_more l D a cI cL cO hl0 hG hJ hm hk9 H.size) (cwV 2 hts gL_law_X0_more rfl rfl rfl (by decide +kernel) ⟨Nat.le_of_ble_eq_true rfl, Nat.le_of_ble_eq_true rfl⟩) hK hP1 hP2 (hD _ _ _ _) hES hEH hS hA rfl rfl oc_at0 rfl hl.1 rfl (Nat.le_of_ble_eq_true rfl) dL_law_757 ⟨by show _ ≤ 683036; omega, by show _ ≤ 7052515; omega⟩ (fun H locs hP1 hP2 hS => ?_)
  have hJ := (g_more hG hJ hm hk9).2
  generalize fsW I (fsW I J 0 0) m9 (kb (nI k9)) = J at hJ hP1
  have bm : nN (wd I) (sB I (rA h m9 (2 ^ k9))) ≤ 5124 := nd_bd hG _
  have bm2 : nd I h ≤ nN (wd I) (sB I (rA h m9 (2 ^ k9))) := nd_more m9 (2 ^ k9)
  rw [hn9] at bm2
  obtain ⟨v9, hv9⟩ : ∃ v9, v9 = nN (wd I) (sB I (rA h m9 (2 ^ k9))) := ⟨_, rfl⟩
  refine lv_asi (nI (v9 - n9)) (by rw [hv9, hn9]) ?_
  rw [← hv9] at bm bm2
  refine lv_istore (lv' := [(19, .int (nI (v9 - n9))), (18, .int (nI 0)), (17, .int (nI k9)), (0, .ref b), (1, .ref (a 0)), (2, .ref q1), (3, .ref q2), (4, .int (nI su)), (5, .int (nI cp)), (6, .int (nI he)), (7, .int (nI 1)), (8, .int (nI T)), (9, .int (nI t)), (11, .int (nI Y)), (13, .int (nI m9)), (14, .int (nI st)), (15, .int (nI n9)), (16, .int (nI p9))]) hx hb dL_law_760 hl (by decide) rfl (fun ls hl => ?_)
  refine lv_aload_n hx hb dL_law_762 rfl (lv_at hl 4 rfl) ?_
  refine lv_iload hx hb dL_law_763 (lv_at hl 14 rfl) ?_
  refine lv_iload hx hb dL_law_765 (lv_at hl 2 rfl) ?_
  refine lv_iload hx hb dL_law_767 (lv_at hl 1 rfl) ?_
  refine lv_asi (bI false) rfl ?_
  refine l_thi (As := [.int (nI m9), .int (nI k9), .int (bI false)]) (rest := []) S (n_hold l D a cI cL cO hl0 (b := false) hJ hm hk9 H.size) (cwV 3 hts gL_law_X0_hold rfl rfl rfl (by decide +kernel) ⟨Nat.le_of_ble_eq_true rfl, Nat.le_of_ble_eq_true rfl⟩) hK hP1 hP2 (hD _ _ _ _) hES hEH hS hA rfl rfl oc_at0 rfl hl.1 rfl (Nat.le_of_ble_eq_true rfl) dL_law_769 ⟨by show _ ≤ 683036; omega, by show _ ≤ 7052515; omega⟩ (fun H locs hP1 hP2 hS => ?_)
  have hJ := (g_hold hJ hm hk9 false).2
  generalize hoJ J (nI m9) (nI k9) (bI false) = J at hJ hP1
  cases hb9 : (h m9).testBit k9 with
  | true =>
    refine lv_asi (nI 1) (by first | rfl | (rw [hb9]; rfl)) ?_
    have hq := hc_set hm hk9 (h := h) (b := false) (by rw [hb9]; decide)
    rw [hb9, hhe] at hq
    have hq : hc (hSet h m9 k9 false) + 1 = he + 0 := hq
    have hh2 : hc (hSet h m9 k9 false) = he - 1 := by omega
    have hro : rA (hSet h m9 k9 false) m9 (2 ^ k9) = h := rA_off hb9
    generalize hSet h m9 k9 false = h2 at *
    refine lv_istore (lv' := [(20, .int (nI 1)), (19, .int (nI (v9 - n9))), (18, .int (nI 0)), (17, .int (nI k9)), (0, .ref b), (1, .ref (a 0)), (2, .ref q1), (3, .ref q2), (4, .int (nI su)), (5, .int (nI cp)), (6, .int (nI he)), (7, .int (nI 1)), (8, .int (nI T)), (9, .int (nI t)), (11, .int (nI Y)), (13, .int (nI m9)), (14, .int (nI st)), (15, .int (nI n9)), (16, .int (nI p9))]) hx hb dL_law_772 hl (by decide) rfl (fun ls hl => ?_)
    refine lv_iload hx hb dL_law_774 (lv_at hl 10 rfl) ?_
    refine lv_iload hx hb dL_law_776 (lv_at hl 0 rfl) ?_
    refine lv_iload hx hb dL_law_778 (lv_at hl 2 rfl) ?_
    refine lv_icmp_ne (tgt := 787) hx hb dL_law_780 (by decide) (fun _ => ?_) (fun z => absurd ((nI_eq (a := 1) (b := 0) (by omega) (by omega)).mp z) (by omega))
    refine lv_iload hx hb dL_law_787 (lv_at hl 2 rfl) ?_
    refine lv_if_eq (tgt := 796) hx hb dL_law_789 (by decide) (fun _ => ?_) (fun z => absurd ((nI_eq (a := 0) (b := 0) (by omega) (by omega)).mpr (by omega)) z)
    refine lv_iconst (v := (-1)) hx hb dL_law_796 (by decide) ?_
    refine lv_iadd hx hb dL_law_797 ?_
    refine lv_istore (lv' := [(6, .int ((nI he) + (-1))), (20, .int (nI 1)), (19, .int (nI (v9 - n9))), (18, .int (nI 0)), (17, .int (nI k9)), (0, .ref b), (1, .ref (a 0)), (2, .ref q1), (3, .ref q2), (4, .int (nI su)), (5, .int (nI cp)), (7, .int (nI 1)), (8, .int (nI T)), (9, .int (nI t)), (11, .int (nI Y)), (13, .int (nI m9)), (14, .int (nI st)), (15, .int (nI n9)), (16, .int (nI p9))]) hx hb dL_law_798 hl (by decide) rfl (fun ls hl => ?_)
    refine lv_iload hx hb dL_law_800 (lv_at hl 3 rfl) ?_
    have e6 : ((nI he) + (-1)) = nI (he - 1) := by
      have q := pk_m1 (he - 1)
      rw [show he - 1 + 1 = he by omega] at q
      exact q
    have hl : lv_has ls 22 [(6, .int (nI (he - 1))), (20, .int (nI 1)), (19, .int (nI (v9 - n9))), (18, .int (nI 0)), (17, .int (nI k9)), (0, .ref b), (1, .ref (a 0)), (2, .ref q1), (3, .ref q2), (4, .int (nI su)), (5, .int (nI cp)), (7, .int (nI 1)), (8, .int (nI T)), (9, .int (nI t)), (11, .int (nI Y)), (13, .int (nI m9)), (14, .int (nI st)), (15, .int (nI n9)), (16, .int (nI p9))] := by
      rw [← e6]
      exact hl
    refine lv_if_eq (tgt := 835) hx hb dL_law_802 (by decide) (fun _ => ?_) (fun z => absurd ((nI_eq (a := 0) (b := 0) (by omega) (by omega)).mpr (by omega)) z)
    refine lv_iload hx hb dL_law_835 (lv_at hl 1 rfl) ?_
    refine lv_if_eq (tgt := 866) hx hb dL_law_837 (by decide) (fun z => absurd ((nI_eq (a := 1) (b := 0) (by omega) (by omega)).mp z) (by omega)) (fun _ => ?_)
    refine lv_aload_n hx hb dL_law_840 rfl (lv_at hl 6 rfl) ?_
    refine l_cls (As := []) (rest := []) S (n_need l D a cI cL cO hG hJ) (cwV 0 hts gL_law_X0_need rfl rfl rfl (by decide +kernel) ⟨Nat.le_of_ble_eq_true rfl, Nat.le_of_ble_eq_true rfl⟩) hK hP1 hP2 (hD _ _ _ _) hS rfl rfl oc_at0 rfl hl.1 rfl (Nat.le_of_ble_eq_true rfl) dL_law_841 ⟨by show _ ≤ 683036; omega, by show _ ≤ 7052515; omega⟩ (fun H locs hP1 hP2 hS => ?_)
    have hJ := g_J hG hJ
    generalize fsW I J 0 0 = J at hJ hP1
    refine lv_aload_n hx hb dL_law_844 rfl (lv_at hl 6 rfl) ?_
    refine lv_iload hx hb dL_law_845 (lv_at hl 15 rfl) ?_
    refine lv_iload hx hb dL_law_847 (lv_at hl 4 rfl) ?_
    have bm4 : nd I h2 ≤ nN (wd I) (sB I (rA h2 m9 (2 ^ k9))) := nd_more m9 (2 ^ k9)
    refine l_thi (As := [.int (nI m9), .int (nI k9)]) (rest := [.int (nI (nd I h2))]) S (n_more l D a cI cL cO hl0 hG hJ hm hk9 H.size) (cwV 2 hts gL_law_X0_more rfl rfl rfl (by decide +kernel) ⟨Nat.le_of_ble_eq_true rfl, Nat.le_of_ble_eq_true rfl⟩) hK hP1 hP2 (hD _ _ _ _) hES hEH hS hA rfl rfl oc_at0 rfl hl.1 rfl (Nat.le_of_ble_eq_true rfl) dL_law_849 ⟨by show _ ≤ 683036; omega, by show _ ≤ 7052515; omega⟩ (fun H locs hP1 hP2 hS => ?_)
    have hJ := (g_more hG hJ hm hk9).2
    generalize fsW I (fsW I J 0 0) m9 (kb (nI k9)) = J at hJ hP1
    have e4 : nN (wd I) (sB I (rA h2 m9 (2 ^ k9))) = n9 := by rw [hro]; exact hn9
    rw [e4] at bm4
    refine lv_asi (nI (n9 - nd I h2)) (by rw [e4]) ?_
    refine lv_iadd hx hb dL_law_852 ?_
    refine lv_asi (nI ((nd I h2) + (n9 - nd I h2))) (nI_add _ _) ?_
    refine lv_iload hx hb dL_law_853 (lv_at hl 17 rfl) ?_
    refine lv_icmp_ne (tgt := 862) hx hb dL_law_855 (by decide) (fun z => absurd ((nI_eq (a := (nd I h2) + (n9 - nd I h2)) (b := n9) (by omega) (by omega)).mpr (by omega)) z) (fun _ => ?_)
    refine lv_iconst (v := (nI 1)) hx hb dL_law_858 (by decide) ?_
    refine lv_goto (tgt := 880) hx hb dL_law_859 (by decide) ?_
    refine lv_istore (lv' := [(7, .int (nI 1)), (6, .int (nI (he - 1))), (20, .int (nI 1)), (19, .int (nI (v9 - n9))), (18, .int (nI 0)), (17, .int (nI k9)), (0, .ref b), (1, .ref (a 0)), (2, .ref q1), (3, .ref q2), (4, .int (nI su)), (5, .int (nI cp)), (8, .int (nI T)), (9, .int (nI t)), (11, .int (nI Y)), (13, .int (nI m9)), (14, .int (nI st)), (15, .int (nI n9)), (16, .int (nI p9))]) hx hb dL_law_880 hl (by decide) rfl (fun ls hl => ?_)
    refine lv_goto (tgt := 1518) hx hb dL_law_882 (by decide) ?_
    refine W.widen (k := c9 + 200) (n := s9 + 1200) (by omega) (by omega) ?_
    exact K H _ ls I J h2 W9 Dn su cp (he - 1) ⟨hG, hJ, hW, hDn, hsu, hcp, hh2⟩ hP1 hP2 hS (lv_sub hl [0, 6, 7, 8, 9, 10, 11, 1, 12, 13] rfl)
  | false =>
    refine lv_asi (nI 0) (by first | rfl | (rw [hb9]; rfl)) ?_
    have hid : hSet h m9 k9 false = h := hSet_id hb9
    rw [hid] at hJ
    have hh2 : hc h = he + 0 := hhe
    refine lv_istore (lv' := [(20, .int (nI 0)), (19, .int (nI (v9 - n9))), (18, .int (nI 0)), (17, .int (nI k9)), (0, .ref b), (1, .ref (a 0)), (2, .ref q1), (3, .ref q2), (4, .int (nI su)), (5, .int (nI cp)), (6, .int (nI he)), (7, .int (nI 1)), (8, .int (nI T)), (9, .int (nI t)), (11, .int (nI Y)), (13, .int (nI m9)), (14, .int (nI st)), (15, .int (nI n9)), (16, .int (nI p9))]) hx hb dL_law_772 hl (by decide) rfl (fun ls hl => ?_)
    refine lv_iload hx hb dL_law_774 (lv_at hl 10 rfl) ?_
    refine lv_iload hx hb dL_law_776 (lv_at hl 0 rfl) ?_
    refine lv_iload hx hb dL_law_778 (lv_at hl 2 rfl) ?_
    refine lv_icmp_ne (tgt := 787) hx hb dL_law_780 (by decide) (fun z => absurd ((nI_eq (a := 0) (b := 0) (by omega) (by omega)).mpr (by omega)) z) (fun _ => ?_)
    refine lv_iconst (v := (nI 0)) hx hb dL_law_783 (by decide) ?_
    refine lv_goto (tgt := 797) hx hb dL_law_784 (by decide) ?_
    refine lv_iadd hx hb dL_law_797 ?_
    refine lv_asi (nI (he + 0)) (nI_add _ _) ?_
    refine lv_istore (lv' := [(6, .int (nI (he + 0))), (20, .int (nI 0)), (19, .int (nI (v9 - n9))), (18, .int (nI 0)), (17, .int (nI k9)), (0, .ref b), (1, .ref (a 0)), (2, .ref q1), (3, .ref q2), (4, .int (nI su)), (5, .int (nI cp)), (7, .int (nI 1)), (8, .int (nI T)), (9, .int (nI t)), (11, .int (nI Y)), (13, .int (nI m9)), (14, .int (nI st)), (15, .int (nI n9)), (16, .int (nI p9))]) hx hb dL_law_798 hl (by decide) rfl (fun ls hl => ?_)
    refine lv_iload hx hb dL_law_800 (lv_at hl 3 rfl) ?_
    refine lv_if_eq (tgt := 835) hx hb dL_law_802 (by decide) (fun _ => ?_) (fun z => absurd ((nI_eq (a := 0) (b := 0) (by omega) (by omega)).mpr (by omega)) z)
    refine lv_iload hx hb dL_law_835 (lv_at hl 1 rfl) ?_
    refine lv_if_eq (tgt := 866) hx hb dL_law_837 (by decide) (fun _ => ?_) (fun z => absurd ((nI_eq (a := 0) (b := 0) (by omega) (by omega)).mpr (by omega)) z)
    refine lv_aload_n hx hb dL_law_866 rfl (lv_at hl 6 rfl) ?_
    refine l_cls (As := []) (rest := []) S (n_need l D a cI cL cO hG hJ) (cwV 0 hts gL_law_X0_need rfl rfl rfl (by decide +kernel) ⟨Nat.le_of_ble_eq_true rfl, Nat.le_of_ble_eq_true rfl⟩) hK hP1 hP2 (hD _ _ _ _) hS rfl rfl oc_at0 rfl hl.1 rfl (Nat.le_of_ble_eq_true rfl) dL_law_867 ⟨by show _ ≤ 683036; omega, by show _ ≤ 7052515; omega⟩ (fun H locs hP1 hP2 hS => ?_)
    have hJ := g_J hG hJ
    generalize fsW I J 0 0 = J at hJ hP1
    refine lv_asi (nI n9) (congrArg nI hn9) ?_
    refine lv_iload hx hb dL_law_870 (lv_at hl 17 rfl) ?_
    refine lv_icmp_ne (tgt := 879) hx hb dL_law_872 (by decide) (fun z => absurd ((nI_eq (a := n9) (b := n9) (by omega) (by omega)).mpr (by omega)) z) (fun _ => ?_)
    refine lv_iconst (v := (nI 1)) hx hb dL_law_875 (by decide) ?_
    refine lv_goto (tgt := 880) hx hb dL_law_876 (by decide) ?_
    refine lv_istore (lv' := [(7, .int (nI 1)), (6, .int (nI (he + 0))), (20, .int (nI 0)), (19, .int (nI (v9 - n9))), (18, .int (nI 0)), (17, .int (nI k9)), (0, .ref b), (1, .ref (a 0)), (2, .ref q1), (3, .ref q2), (4, .int (nI su)), (5, .int (nI cp)), (8, .int (nI T)), (9, .int (nI t)), (11, .int (nI Y)), (13, .int (nI m9)), (14, .int (nI st)), (15, .int (nI n9)), (16, .int (nI p9))]) hx hb dL_law_880 hl (by decide) rfl (fun ls hl => ?_)
    refine lv_goto (tgt := 1518) hx hb dL_law_882 (by decide) ?_
    refine W.widen (k := c9 + 200) (n := s9 + 1200) (by omega) (by omega) ?_
    exact K H _ ls I J h W9 Dn su cp (he + 0) ⟨hG, hJ, hW, hDn, hsu, hcp, hh2⟩ hP1 hP2 hS (lv_sub hl [0, 6, 7, 8, 9, 10, 11, 1, 12, 13] rfl)
set_option maxHeartbeats 1000000 in
set_option maxRecDepth 100000 in
theorem deed_6 {p : Program} {l : Launch} {e : Env} {s : State} {m : MethodId} {below : List Frame} {meth : Method} {c : Code} {H : Heap} {locs : List Loc} {Q : State → Prop} {ls : Array Slot} {D : va_G} {a : Nat → Nat} {q1 q2 b L T t Y m9 st n9 p9 su cp he c9 s9 : Nat} {cI cL cO : ClassId} {xs : Nat → Int32} {I : Nat → Nat → Int32} {J : Nat → Nat → Int64} {h : Nat → Nat} {W9 Dn : Nat → Int32} (C : LC p l s m c D a q1 q2 b cI cL cO L xs) (hLI : LI I J h W9 Dn su cp he) (hP1 : va_P D vwCl (oc a cI cL cO I J) H) (hP2 : va_P D vwCl (la cI q1 q2 W9 Dn) H) (hS : va_S (fr s) s.heap H locs) (hY : Y < 2 ^ 28) (hm : m9 < 3) (hst : st < 12) (hn9 : nd I h = n9) (hp9 : pp I h = p9) (hR : c9 + 2800 ≤ 683036 ∧ s9 + 17000 ≤ 7052515) (K : LK p l e s m below meth c Q D a q1 q2 b cI cL cO T t c9 s9) (hl : lv_has ls 22 [(0, .ref b), (1, .ref (a 0)), (2, .ref q1), (3, .ref q2), (4, .int (nI su)), (5, .int (nI cp)), (6, .int (nI he)), (7, .int (nI 1)), (8, .int (nI T)), (9, .int (nI t)), (11, .int (nI Y)), (13, .int (nI m9)), (14, .int (nI st)), (15, .int (nI n9)), (16, .int (nI p9))]) : W p l e room_1 s m #[Value.ref b] below meth c H locs c9 s9 Q (F0 m 717 ls []) := by
  have hD := C.D
  have C' := C
  obtain ⟨hl0, S, hK, -, hES, hEH, hX, hbl, hL⟩ := C'
  have hx := S.1
  have hb := S.2.1
  have hown := S.2.2.2.1
  have hts := S.2.2.2.2
  have hA : ∀ z9 : Nat, s.heap.size ≤ z9 → fr s z9 := fun _ h => h
  obtain ⟨hG, hJ, hW, hDn, hsu, hcp, hhe⟩ := hLI
  have bn : n9 ≤ 5124 := hn9 ▸ nd_bd hG _
  have bp : p9 ≤ 366 := hp9 ▸ pp_bd _
  have bc : cp ≤ 3 := hcp ▸ cc_3 hG
  refine lv_iload hx hb dL_law_717 (lv_at hl 10 rfl) ?_
  refine lv_iconst (v := (nI 3)) hx hb dL_law_719 (by decide) ?_
  refine lv_ishr hx hb dL_law_720 ?_
  refine lv_asi (nI (Y / 8)) (pk_shrN (by omega) _ 3 (by decide)) ?_
  refine lv_bipush (v := (nI 61)) hx hb dL_law_721 (by decide) ?_
  refine lv_irem hx hb dL_law_723 (by decide) ?_
  refine lv_asi (nI ((Y / 8) % 61)) (pk_rem (by omega) (by omega) (by omega)) ?_
  refine lv_istore (lv' := [(17, .int (nI ((Y / 8) % 61))), (0, .ref b), (1, .ref (a 0)), (2, .ref q1), (3, .ref q2), (4, .int (nI su)), (5, .int (nI cp)), (6, .int (nI he)), (7, .int (nI 1)), (8, .int (nI T)), (9, .int (nI t)), (11, .int (nI Y)), (13, .int (nI m9)), (14, .int (nI st)), (15, .int (nI n9)), (16, .int (nI p9))]) hx hb dL_law_724 hl (by decide) rfl (fun ls hl => ?_)
  refine lv_iload hx hb dL_law_726 (lv_at hl 10 rfl) ?_
  refine lv_bipush (v := (nI 7)) hx hb dL_law_728 (by decide) ?_
  refine lv_icmp_lt (tgt := 745) hx hb dL_law_730 (by decide) (fun c1 => ?_) (fun c1 => ?_)
  · skip
    refine lv_iconst (v := (nI 1)) hx hb dL_law_745 (by decide) ?_
    refine lv_goto (tgt := 750) hx hb dL_law_746 (by decide) ?_
    exact deed_6t (k9 := (Y / 8) % 61) C ⟨hG, hJ, hW, hDn, hsu, hcp, hhe⟩ hP1 hP2 hS hY hm hst hn9 hp9 hR K (by omega) (lv_sub hl [0, 1, 2, 3, 4, 5, 6, 7, 8, 9, 10, 11, 12, 13, 14, 15] rfl)
  · refine lv_iload hx hb dL_law_733 (lv_at hl 11 rfl) ?_
    refine lv_bipush (v := (nI 9)) hx hb dL_law_735 (by decide) ?_
    refine lv_ishr hx hb dL_law_737 ?_
    refine lv_asi (nI (Y / 512)) (pk_shrN (by omega) _ 9 (by decide)) ?_
    refine lv_bipush (v := (nI 7)) hx hb dL_law_738 (by decide) ?_
    refine lv_iand hx hb dL_law_740 ?_
    refine lv_asi (nI ((Y / 512) % 8)) (pk_andN (by omega) 3 (by decide)) ?_
    refine lv_iconst (v := (nI 1)) hx hb dL_law_741 (by decide) ?_
    refine lv_icmp_le (tgt := 749) hx hb dL_law_742 (by decide) (fun c2 => ?_) (fun c2 => ?_)
    · skip
      refine lv_iconst (v := (nI 0)) hx hb dL_law_749 (by decide) ?_
      exact deed_6f (k9 := (Y / 8) % 61) C ⟨hG, hJ, hW, hDn, hsu, hcp, hhe⟩ hP1 hP2 hS hY hm hst hn9 hp9 hR K (by omega) (lv_sub hl [0, 1, 2, 3, 4, 5, 6, 7, 8, 9, 10, 11, 12, 13, 14, 15] rfl)
    · skip
      refine lv_iconst (v := (nI 1)) hx hb dL_law_745 (by decide) ?_
      refine lv_goto (tgt := 750) hx hb dL_law_746 (by decide) ?_
      exact deed_6t (k9 := (Y / 8) % 61) C ⟨hG, hJ, hW, hDn, hsu, hcp, hhe⟩ hP1 hP2 hS hY hm hst hn9 hp9 hR K (by omega) (lv_sub hl [0, 1, 2, 3, 4, 5, 6, 7, 8, 9, 10, 11, 12, 13, 14, 15] rfl)
