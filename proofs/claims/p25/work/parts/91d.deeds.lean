/-! ===== the deeds of a turn ===== -/
set_option maxHeartbeats 1000000 in
set_option maxRecDepth 100000 in
theorem loop_13 {p : Program} {l : Launch} {e : Env} {s : State} {m : MethodId} {below : List Frame} {meth : Method} {c : Code} {Q : State → Prop} {D : va_G} {a : Nat → Nat} {q1 q2 b L T t Y m9 st n9 p9 su cp he c9 s9 r9 : Nat} {cI cL cO : ClassId} {xs : Nat → Int32} {I : Nat → Nat → Int32} {J : Nat → Nat → Int64} {W9 Dn : Nat → Int32} (C : LC p l s m c D a q1 q2 b cI cL cO L xs) (hG : GI I) (hY : Y < 2 ^ 28) (hr9 : r9 = Y % 6) (hr6 : r9 < 6) (hR : c9 + 2800 ≤ 683036 ∧ s9 + 17000 ≤ 7052515) (kend : ∀ (H : Heap) (locs : List Loc) (ls : Array Slot), va_P D vwCl (oc a cI cL cO I J) H → va_P D vwCl (la cI q1 q2 W9 Dn) H → va_S (fr s) s.heap H locs → lv_has ls 22 [(17, .int (nI (mcN (I (10 + r9)) 61))), (18, .int (nI 61)), (0, .ref b), (1, .ref (a 0)), (2, .ref q1), (3, .ref q2), (4, .int (nI su)), (5, .int (nI cp)), (6, .int (nI he)), (7, .int (nI 1)), (8, .int (nI T)), (9, .int (nI t)), (11, .int (nI Y)), (13, .int (nI m9)), (14, .int (nI st)), (15, .int (nI n9)), (16, .int (nI p9))] → W p l e room_1 s m #[Value.ref b] below meth c H locs (c9 + 2 * 61) (s9 + 12 * 61) Q (F0 m 1273 ls [])) : ∀ d i9, d + i9 = 61 → ∀ (H : Heap) (locs : List Loc) (ls : Array Slot), va_P D vwCl (oc a cI cL cO I J) H → va_P D vwCl (la cI q1 q2 W9 Dn) H → va_S (fr s) s.heap H locs → lv_has ls 22 [(17, .int (nI (mcN (I (10 + r9)) i9))), (18, .int (nI i9)), (0, .ref b), (1, .ref (a 0)), (2, .ref q1), (3, .ref q2), (4, .int (nI su)), (5, .int (nI cp)), (6, .int (nI he)), (7, .int (nI 1)), (8, .int (nI T)), (9, .int (nI t)), (11, .int (nI Y)), (13, .int (nI m9)), (14, .int (nI st)), (15, .int (nI n9)), (16, .int (nI p9))] → W p l e room_1 s m #[Value.ref b] below meth c H locs (c9 + 2 * i9) (s9 + 12 * i9) Q (F0 m 1234 ls []) := by
  have hD := C.D
  obtain ⟨hl0, S, hK, -, hES, hEH, hX, hbl, hL⟩ := C
  have hx := S.1
  have hb := S.2.1
  have hown := S.2.2.2.1
  have hts := S.2.2.2.2
  have hA : ∀ z9 : Nat, s.heap.size ≤ z9 → fr s z9 := fun _ h => h
  intro d
  induction d with
  | zero =>
    intro i9 hi H locs ls hP1 hP2 hS hl
    obtain rfl : i9 = 61 := by omega
    refine lv_iload hx hb dL_law_1234 (lv_at hl 1 rfl) ?_
    refine lv_bipush (v := (nI 61)) hx hb dL_law_1236 (by decide) ?_
    refine lv_icmp_ge (tgt := 1273) hx hb dL_law_1238 (by decide) (fun _ => ?_) (fun z => absurd ((nI_leI (a := 61) (b := 61) (by omega) (by omega)).mpr (by omega)) z)
    exact kend H locs ls hP1 hP2 hS hl
  | succ d ih =>
    intro i9 hi H locs ls hP1 hP2 hS hl
    have hi61 : i9 < 61 := by omega
    have hml : mcN (I (10 + r9)) i9 ≤ i9 := mc_le i9
    obtain ⟨w9, hw9, ew⟩ := hG.2.2.2.2.2.2.2.2 r9 i9 hr6 hi61
    have hps : mcN (I (10 + r9)) (i9 + 1) = mcN (I (10 + r9)) i9 + (if I (10 + r9) i9 < 50 then 0 else 1) := rfl
    refine lv_iload hx hb dL_law_1234 (lv_at hl 1 rfl) ?_
    refine lv_bipush (v := (nI 61)) hx hb dL_law_1236 (by decide) ?_
    refine lv_icmp_ge (tgt := 1273) hx hb dL_law_1238 (by decide) (fun z => absurd ((nI_leI (a := 61) (b := i9) (by omega) (by omega)).mp z) (by omega)) (fun _ => ?_)
    refine lv_iload hx hb dL_law_1241 (lv_at hl 0 rfl) ?_
    refine lv_aload_n hx hb dL_law_1243 rfl (lv_at hl 3 rfl) ?_
    refine lv_iload hx hb dL_law_1244 (lv_at hl 12 rfl) ?_
    refine lv_bipush (v := (nI 6)) hx hb dL_law_1246 (by decide) ?_
    refine lv_irem hx hb dL_law_1248 (by decide) ?_
    refine lv_asi (nI (Y % 6)) (pk_rem (by omega) (by omega) (by omega)) ?_
    refine lv_asi (nI r9) (congrArg nI hr9.symm) ?_
    refine lv_iload hx hb dL_law_1249 (lv_at hl 1 rfl) ?_
    refine l_thi (As := [.int (nI r9), .int (nI i9)]) (rest := [.int (nI (mcN (I (10 + r9)) i9))]) S (n_wear l D a cI cL cO hl0 hr6 hi61 H.size) (cwV 2 hts gL_law_X0_wear rfl rfl rfl (by decide +kernel) ⟨Nat.le_of_ble_eq_true rfl, Nat.le_of_ble_eq_true rfl⟩) hK hP1 hP2 (hD _ _ _ _) hES hEH hS hA rfl rfl oc_at0 rfl hl.1 rfl (Nat.le_of_ble_eq_true rfl) dL_law_1251 ⟨by show _ ≤ 683036; omega, by show _ ≤ 7052515; omega⟩ (fun H locs hP1 hP2 hS => ?_)
    refine lv_asi (nI w9) (ew) ?_
    refine lv_bipush (v := (nI 50)) hx hb dL_law_1254 (by decide) ?_
    refine lv_icmp_lt (tgt := 1263) hx hb dL_law_1256 (by decide) (fun c1 => ?_) (fun c1 => ?_)
    · have e7 : mcN (I (10 + r9)) i9 + 0 = mcN (I (10 + r9)) (i9 + 1) := by
        rw [hps, if_pos (by rw [ew]; exact c1)]
      refine lv_iconst (v := (nI 0)) hx hb dL_law_1263 (by decide) ?_
      refine lv_iadd hx hb dL_law_1264 ?_
      refine lv_asi (nI ((mcN (I (10 + r9)) i9) + 0)) (nI_add _ _) ?_
      refine lv_istore (lv' := [(17, .int (nI ((mcN (I (10 + r9)) i9) + 0))), (18, .int (nI i9)), (0, .ref b), (1, .ref (a 0)), (2, .ref q1), (3, .ref q2), (4, .int (nI su)), (5, .int (nI cp)), (6, .int (nI he)), (7, .int (nI 1)), (8, .int (nI T)), (9, .int (nI t)), (11, .int (nI Y)), (13, .int (nI m9)), (14, .int (nI st)), (15, .int (nI n9)), (16, .int (nI p9))]) hx hb dL_law_1265 hl (by decide) rfl (fun ls hl => ?_)
      refine lv_iinc (v := (nI (i9 + 1))) (lv' := [(18, .int (nI (i9 + 1))), (17, .int (nI ((mcN (I (10 + r9)) i9) + 0))), (0, .ref b), (1, .ref (a 0)), (2, .ref q1), (3, .ref q2), (4, .int (nI su)), (5, .int (nI cp)), (6, .int (nI he)), (7, .int (nI 1)), (8, .int (nI T)), (9, .int (nI t)), (11, .int (nI Y)), (13, .int (nI m9)), (14, .int (nI st)), (15, .int (nI n9)), (16, .int (nI p9))]) hx hb dL_law_1267 hl (k := 1) rfl (nI_inc _) (by decide) rfl (fun ls hl => ?_)
      refine lv_goto (tgt := 1234) hx hb dL_law_1270 (by decide) ?_
      rw [e7] at hl
      refine W.widen (k := c9 + 2 * (i9 + 1)) (n := s9 + 12 * (i9 + 1)) (by omega) (by omega) ?_
      exact ih (i9 + 1) (by omega) H _ ls hP1 hP2 hS (lv_sub hl [1, 0, 2, 3, 4, 5, 6, 7, 8, 9, 10, 11, 12, 13, 14, 15, 16] rfl)
    · have e7 : mcN (I (10 + r9)) i9 + 1 = mcN (I (10 + r9)) (i9 + 1) := by
        rw [hps, if_neg (by rw [ew]; exact c1)]
      refine lv_iconst (v := (nI 1)) hx hb dL_law_1259 (by decide) ?_
      refine lv_goto (tgt := 1264) hx hb dL_law_1260 (by decide) ?_
      refine lv_iadd hx hb dL_law_1264 ?_
      refine lv_asi (nI ((mcN (I (10 + r9)) i9) + 1)) (nI_add _ _) ?_
      refine lv_istore (lv' := [(17, .int (nI ((mcN (I (10 + r9)) i9) + 1))), (18, .int (nI i9)), (0, .ref b), (1, .ref (a 0)), (2, .ref q1), (3, .ref q2), (4, .int (nI su)), (5, .int (nI cp)), (6, .int (nI he)), (7, .int (nI 1)), (8, .int (nI T)), (9, .int (nI t)), (11, .int (nI Y)), (13, .int (nI m9)), (14, .int (nI st)), (15, .int (nI n9)), (16, .int (nI p9))]) hx hb dL_law_1265 hl (by decide) rfl (fun ls hl => ?_)
      refine lv_iinc (v := (nI (i9 + 1))) (lv' := [(18, .int (nI (i9 + 1))), (17, .int (nI ((mcN (I (10 + r9)) i9) + 1))), (0, .ref b), (1, .ref (a 0)), (2, .ref q1), (3, .ref q2), (4, .int (nI su)), (5, .int (nI cp)), (6, .int (nI he)), (7, .int (nI 1)), (8, .int (nI T)), (9, .int (nI t)), (11, .int (nI Y)), (13, .int (nI m9)), (14, .int (nI st)), (15, .int (nI n9)), (16, .int (nI p9))]) hx hb dL_law_1267 hl (k := 1) rfl (nI_inc _) (by decide) rfl (fun ls hl => ?_)
      refine lv_goto (tgt := 1234) hx hb dL_law_1270 (by decide) ?_
      rw [e7] at hl
      refine W.widen (k := c9 + 2 * (i9 + 1)) (n := s9 + 12 * (i9 + 1)) (by omega) (by omega) ?_
      exact ih (i9 + 1) (by omega) H _ ls hP1 hP2 hS (lv_sub hl [1, 0, 2, 3, 4, 5, 6, 7, 8, 9, 10, 11, 12, 13, 14, 15, 16] rfl)
set_option maxHeartbeats 1000000 in
set_option maxRecDepth 100000 in
theorem deed_13 {p : Program} {l : Launch} {e : Env} {s : State} {m : MethodId} {below : List Frame} {meth : Method} {c : Code} {H : Heap} {locs : List Loc} {Q : State → Prop} {ls : Array Slot} {D : va_G} {a : Nat → Nat} {q1 q2 b L T t Y m9 st n9 p9 su cp he c9 s9 : Nat} {cI cL cO : ClassId} {xs : Nat → Int32} {I : Nat → Nat → Int32} {J : Nat → Nat → Int64} {h : Nat → Nat} {W9 Dn : Nat → Int32} (C : LC p l s m c D a q1 q2 b cI cL cO L xs) (hLI : LI I J h W9 Dn su cp he) (hP1 : va_P D vwCl (oc a cI cL cO I J) H) (hP2 : va_P D vwCl (la cI q1 q2 W9 Dn) H) (hS : va_S (fr s) s.heap H locs) (hY : Y < 2 ^ 28) (hm : m9 < 3) (hst : st < 12) (hn9 : nd I h = n9) (hp9 : pp I h = p9) (hR : c9 + 2800 ≤ 683036 ∧ s9 + 17000 ≤ 7052515) (K : LK p l e s m below meth c Q D a q1 q2 b cI cL cO T t c9 s9) (hl : lv_has ls 22 [(0, .ref b), (1, .ref (a 0)), (2, .ref q1), (3, .ref q2), (4, .int (nI su)), (5, .int (nI cp)), (6, .int (nI he)), (7, .int (nI 1)), (8, .int (nI T)), (9, .int (nI t)), (11, .int (nI Y)), (13, .int (nI m9)), (14, .int (nI st)), (15, .int (nI n9)), (16, .int (nI p9))]) : W p l e room_1 s m #[Value.ref b] below meth c H locs c9 s9 Q (F0 m 1228 ls []) := by
  have hD := C.D
  have C' := C
  obtain ⟨hl0, S, hK, -, hES, hEH, hX, hbl, hL⟩ := C'
  have hx := S.1
  have hb := S.2.1
  have hown := S.2.2.2.1
  have hts := S.2.2.2.2
  have hA : ∀ z9 : Nat, s.heap.size ≤ z9 → fr s z9 := fun _ h => h
  obtain ⟨hG, hJ, hW, hDn, hsu, hcp, hhe⟩ := hLI
  have bn : n9 ≤ 5124 := hn9 ▸ nd_bd hG _
  have bp : p9 ≤ 366 := hp9 ▸ pp_bd _
  have bc : cp ≤ 3 := hcp ▸ cc_3 hG
  obtain ⟨r9, hr9, hr6⟩ : ∃ r9, r9 = Y % 6 ∧ r9 < 6 := ⟨_, rfl, by omega⟩
  refine lv_iconst (v := (nI 0)) hx hb dL_law_1228 (by decide) ?_
  refine lv_istore (lv' := [(17, .int (nI 0)), (0, .ref b), (1, .ref (a 0)), (2, .ref q1), (3, .ref q2), (4, .int (nI su)), (5, .int (nI cp)), (6, .int (nI he)), (7, .int (nI 1)), (8, .int (nI T)), (9, .int (nI t)), (11, .int (nI Y)), (13, .int (nI m9)), (14, .int (nI st)), (15, .int (nI n9)), (16, .int (nI p9))]) hx hb dL_law_1229 hl (by decide) rfl (fun ls hl => ?_)
  refine lv_iconst (v := (nI 0)) hx hb dL_law_1231 (by decide) ?_
  refine lv_istore (lv' := [(18, .int (nI 0)), (17, .int (nI 0)), (0, .ref b), (1, .ref (a 0)), (2, .ref q1), (3, .ref q2), (4, .int (nI su)), (5, .int (nI cp)), (6, .int (nI he)), (7, .int (nI 1)), (8, .int (nI T)), (9, .int (nI t)), (11, .int (nI Y)), (13, .int (nI m9)), (14, .int (nI st)), (15, .int (nI n9)), (16, .int (nI p9))]) hx hb dL_law_1232 hl (by decide) rfl (fun ls hl => ?_)
  refine loop_13 C hG hY hr9 hr6 hR (fun H locs ls hP1 hP2 hS hl => ?_) 61 0 rfl H _ ls hP1 hP2 hS (lv_sub hl [1, 0, 2, 3, 4, 5, 6, 7, 8, 9, 10, 11, 12, 13, 14, 15, 16] rfl)
  have hml : mcN (I (10 + r9)) 61 ≤ 61 := mc_le 61
  refine lv_aload_n hx hb dL_law_1273 rfl (lv_at hl 3 rfl) ?_
  refine lv_iload hx hb dL_law_1274 (lv_at hl 12 rfl) ?_
  refine lv_bipush (v := (nI 6)) hx hb dL_law_1276 (by decide) ?_
  refine lv_irem hx hb dL_law_1278 (by decide) ?_
  refine lv_asi (nI (Y % 6)) (pk_rem (by omega) (by omega) (by omega)) ?_
  refine lv_asi (nI r9) (congrArg nI hr9.symm) ?_
  refine l_thi (As := [.int (nI r9)]) (rest := []) S (n_repair l D a cI cL cO hl0 hr6 H.size) (cwV 1 hts gL_law_X0_repair rfl rfl rfl (by decide +kernel) ⟨Nat.le_of_ble_eq_true rfl, Nat.le_of_ble_eq_true rfl⟩) hK hP1 hP2 (hD _ _ _ _) hES hEH hS hA rfl rfl oc_at0 rfl hl.1 rfl (Nat.le_of_ble_eq_true rfl) dL_law_1279 ⟨by show _ ≤ 683036; omega, by show _ ≤ 7052515; omega⟩ (fun H locs hP1 hP2 hS => ?_)
  have hG2 := gi_rp hG hr6
  have hle : p9 ≤ pp (rpI I r9 61) h := hp9 ▸ pp_rp hr6
  have hz : mcN ((rpI I r9 61) (10 + r9)) 61 = 0 := mc_0 61 (fun k hk => rp_in hk)
  have n2 : ∀ i, (i < 10 ∨ 16 ≤ i) → (rpI I r9 61) i = I i := fun i hi => rp_ne (by omega)
  have hc2 : ccN (rpI I r9 61) = cp := (cc_same (fun f hf => n2 _ (Or.inr (by omega)))).trans hcp
  generalize rpI I r9 61 = I2 at *
  have hs2 : suN I2 = su := by unfold suN; rw [n2 8 (by decide)]; exact hsu
  have hW2 : ∀ r, r < 6 → W9 r = I2 1 r := by rw [n2 1 (by decide)]; exact hW
  have hD2 : ∀ k, k < 12 → Dn k = bI (dr (I2 8 0) (nI k)) := by rw [n2 8 (by decide)]; exact hDn
  refine lv_iload hx hb dL_law_1282 (lv_at hl 0 rfl) ?_
  refine lv_icmp_ne (tgt := 1331) hx hb dL_law_1284 (by decide) (fun z => absurd ((nI_eq (a := mcN (I (10 + r9)) 61) (b := mcN (I (10 + r9)) 61) (by omega) (by omega)).mpr (by omega)) z) (fun _ => ?_)
  refine lv_aload_n hx hb dL_law_1287 rfl (lv_at hl 3 rfl) ?_
  refine lv_iload hx hb dL_law_1288 (lv_at hl 12 rfl) ?_
  refine lv_bipush (v := (nI 6)) hx hb dL_law_1290 (by decide) ?_
  refine lv_irem hx hb dL_law_1292 (by decide) ?_
  refine lv_asi (nI (Y % 6)) (pk_rem (by omega) (by omega) (by omega)) ?_
  refine lv_asi (nI r9) (congrArg nI hr9.symm) ?_
  refine l_thi (As := [.int (nI r9)]) (rest := []) S (n_repair l D a cI cL cO hl0 hr6 H.size) (cwV 1 hts gL_law_X0_repair rfl rfl rfl (by decide +kernel) ⟨Nat.le_of_ble_eq_true rfl, Nat.le_of_ble_eq_true rfl⟩) hK hP1 hP2 (hD _ _ _ _) hES hEH hS hA rfl rfl oc_at0 rfl hl.1 rfl (Nat.le_of_ble_eq_true rfl) dL_law_1293 ⟨by show _ ≤ 683036; omega, by show _ ≤ 7052515; omega⟩ (fun H locs hP1 hP2 hS => ?_)
  have hG3 := gi_rp hG2 hr6
  have hle3 : p9 ≤ pp (rpI I2 r9 61) h := Nat.le_trans hle (pp_rp hr6)
  have hz3 : ∀ k, k < 61 → (rpI I2 r9 61) (10 + r9) k = 0 := fun k hk => rp_in hk
  have n3 : ∀ i, (i < 10 ∨ 16 ≤ i) → (rpI I2 r9 61) i = I2 i := fun i hi => rp_ne (by omega)
  have hc3 : ccN (rpI I2 r9 61) = cp := (cc_same (fun f hf => n3 _ (Or.inr (by omega)))).trans hc2
  generalize rpI I2 r9 61 = I3 at *
  have hs3 : suN I3 = su := by unfold suN; rw [n3 8 (by decide)]; exact hs2
  have hW3 : ∀ r, r < 6 → W9 r = I3 1 r := by rw [n3 1 (by decide)]; exact hW2
  have hD3 : ∀ k, k < 12 → Dn k = bI (dr (I3 8 0) (nI k)) := by rw [n3 8 (by decide)]; exact hD2
  have bp3 : pp I3 h ≤ 366 := pp_bd _
  refine lv_asi (nI 0) (congrArg nI hz) ?_
  refine lv_if_ne (tgt := 1331) hx hb dL_law_1296 (by decide) (fun z => absurd ((nI_eq (a := 0) (b := 0) (by omega) (by omega)).mpr (by omega)) z) (fun _ => ?_)
  refine lv_aload_n hx hb dL_law_1299 rfl (lv_at hl 3 rfl) ?_
  refine l_cls (As := []) (rest := []) S (n_pipes l D a cI cL cO hG3 hJ) (cwV 0 hts gL_law_X0_pipes rfl rfl rfl (by decide +kernel) ⟨Nat.le_of_ble_eq_true rfl, Nat.le_of_ble_eq_true rfl⟩) hK hP1 hP2 (hD _ _ _ _) hS rfl rfl oc_at0 rfl hl.1 rfl (Nat.le_of_ble_eq_true rfl) dL_law_1300 ⟨by show _ ≤ 683036; omega, by show _ ≤ 7052515; omega⟩ (fun H locs hP1 hP2 hS => ?_)
  have hJ := g_J hG3 hJ
  generalize fsW I3 J 0 0 = J at hJ hP1
  refine lv_iload hx hb dL_law_1303 (lv_at hl 16 rfl) ?_
  refine lv_icmp_lt (tgt := 1331) hx hb dL_law_1305 (by decide) (fun z => absurd ((nI_ltI (a := pp I3 h) (b := p9) (by omega) (by omega)).mp z) (by omega)) (fun _ => ?_)
  refine lv_aload_n hx hb dL_law_1308 rfl (lv_at hl 3 rfl) ?_
  refine lv_iload hx hb dL_law_1309 (lv_at hl 12 rfl) ?_
  refine lv_bipush (v := (nI 6)) hx hb dL_law_1311 (by decide) ?_
  refine lv_irem hx hb dL_law_1313 (by decide) ?_
  refine lv_asi (nI (Y % 6)) (pk_rem (by omega) (by omega) (by omega)) ?_
  refine lv_asi (nI r9) (congrArg nI hr9.symm) ?_
  refine lv_iload hx hb dL_law_1314 (lv_at hl 12 rfl) ?_
  refine lv_iconst (v := (nI 3)) hx hb dL_law_1316 (by decide) ?_
  refine lv_ishr hx hb dL_law_1317 ?_
  refine lv_asi (nI (Y / 8)) (pk_shrN (by omega) _ 3 (by decide)) ?_
  refine lv_bipush (v := (nI 61)) hx hb dL_law_1318 (by decide) ?_
  refine lv_irem hx hb dL_law_1320 (by decide) ?_
  refine lv_asi (nI ((Y / 8) % 61)) (pk_rem (by omega) (by omega) (by omega)) ?_
  refine l_thi (As := [.int (nI r9), .int (nI ((Y / 8) % 61))]) (rest := []) S (n_wear l D a cI cL cO hl0 hr6 (by omega) H.size) (cwV 2 hts gL_law_X0_wear rfl rfl rfl (by decide +kernel) ⟨Nat.le_of_ble_eq_true rfl, Nat.le_of_ble_eq_true rfl⟩) hK hP1 hP2 (hD _ _ _ _) hES hEH hS hA rfl rfl oc_at0 rfl hl.1 rfl (Nat.le_of_ble_eq_true rfl) dL_law_1321 ⟨by show _ ≤ 683036; omega, by show _ ≤ 7052515; omega⟩ (fun H locs hP1 hP2 hS => ?_)
  refine lv_asi (nI 0) (hz3 _ (by omega)) ?_
  refine lv_if_ne (tgt := 1331) hx hb dL_law_1324 (by decide) (fun z => absurd ((nI_eq (a := 0) (b := 0) (by omega) (by omega)).mpr (by omega)) z) (fun _ => ?_)
  refine lv_iconst (v := (nI 1)) hx hb dL_law_1327 (by decide) ?_
  refine lv_goto (tgt := 1332) hx hb dL_law_1328 (by decide) ?_
  refine lv_istore (lv' := [(7, .int (nI 1)), (17, .int (nI (mcN (I (10 + r9)) 61))), (18, .int (nI 61)), (0, .ref b), (1, .ref (a 0)), (2, .ref q1), (3, .ref q2), (4, .int (nI su)), (5, .int (nI cp)), (6, .int (nI he)), (8, .int (nI T)), (9, .int (nI t)), (11, .int (nI Y)), (13, .int (nI m9)), (14, .int (nI st)), (15, .int (nI n9)), (16, .int (nI p9))]) hx hb dL_law_1332 hl (by decide) rfl (fun ls hl => ?_)
  refine lv_goto (tgt := 1518) hx hb dL_law_1334 (by decide) ?_
  refine W.widen (k := c9 + 200) (n := s9 + 1200) (by omega) (by omega) ?_
  exact K H _ ls I3 J h W9 Dn su cp he ⟨hG3, hJ, hW3, hD3, hs3, hc3, hhe⟩ hP1 hP2 hS (lv_sub hl [0, 3, 4, 5, 6, 7, 8, 9, 10, 11] rfl)
set_option maxHeartbeats 1000000 in
set_option maxRecDepth 100000 in
theorem deed_14a {p : Program} {l : Launch} {e : Env} {s : State} {m : MethodId} {below : List Frame} {meth : Method} {c : Code} {H : Heap} {locs : List Loc} {Q : State → Prop} {ls : Array Slot} {D : va_G} {a : Nat → Nat} {q1 q2 b L T t Y m9 st n9 p9 su cp he c9 s9 : Nat} {cI cL cO : ClassId} {xs : Nat → Int32} {I : Nat → Nat → Int32} {J : Nat → Nat → Int64} {h : Nat → Nat} {W9 Dn : Nat → Int32} (C : LC p l s m c D a q1 q2 b cI cL cO L xs) (hLI : LI I J h W9 Dn su cp he) (hP1 : va_P D vwCl (oc a cI cL cO I J) H) (hP2 : va_P D vwCl (la cI q1 q2 W9 Dn) H) (hS : va_S (fr s) s.heap H locs) (hY : Y < 2 ^ 28) (hm : m9 < 3) (hst : st < 12) (hn9 : nd I h = n9) (hp9 : pp I h = p9) (hR : c9 + 2800 ≤ 683036 ∧ s9 + 17000 ≤ 7052515) (K : LK p l e s m below meth c Q D a q1 q2 b cI cL cO T t c9 s9) (hl : lv_has ls 22 [(0, .ref b), (1, .ref (a 0)), (2, .ref q1), (3, .ref q2), (4, .int (nI su)), (5, .int (nI cp)), (6, .int (nI he)), (7, .int (nI 1)), (8, .int (nI T)), (9, .int (nI t)), (11, .int (nI Y)), (13, .int (nI m9)), (14, .int (nI st)), (15, .int (nI n9)), (16, .int (nI p9))]) : W p l e room_1 s m #[Value.ref b] below meth c H locs c9 s9 Q (F0 m 1351 ls []) := by
  have hD := C.D
  have C' := C
  obtain ⟨hl0, S, hK, -, hES, hEH, hX, hbl, hL⟩ := C'
  have hx := S.1
  have hb := S.2.1
  have hown := S.2.2.2.1
  have hts := S.2.2.2.2
  have hA : ∀ z9 : Nat, s.heap.size ≤ z9 → fr s z9 := fun _ h => h
  obtain ⟨hG, hJ, hW, hDn, hsu, hcp, hhe⟩ := hLI
  have bn : n9 ≤ 5124 := hn9 ▸ nd_bd hG _
  have bp : p9 ≤ 366 := hp9 ▸ pp_bd _
  have bc : cp ≤ 3 := hcp ▸ cc_3 hG
  have hsu2 := gi_su hG
  rw [hsu] at hsu2
  obtain ⟨v9, hv9, hv1, hv2⟩ : ∃ v9, v9 = 10 + Y / 2 % 400 ∧ 10 ≤ v9 ∧ v9 ≤ 1000 := ⟨_, rfl, by omega, by omega⟩
  refine lv_bipush (v := (nI 10)) hx hb dL_law_1351 (by decide) ?_
  refine lv_iload hx hb dL_law_1353 (lv_at hl 10 rfl) ?_
  refine lv_iconst (v := (nI 1)) hx hb dL_law_1355 (by decide) ?_
  refine lv_ishr hx hb dL_law_1356 ?_
  refine lv_asi (nI (Y / 2)) (pk_shrN (by omega) _ 1 (by decide)) ?_
  refine lv_sipush (v := (nI 400)) hx hb dL_law_1357 (by decide) ?_
  refine lv_irem hx hb dL_law_1360 (by decide) ?_
  refine lv_asi (nI ((Y / 2) % 400)) (pk_rem (by omega) (by omega) (by omega)) ?_
  refine lv_iadd hx hb dL_law_1361 ?_
  refine lv_asi (nI (10 + ((Y / 2) % 400))) (nI_add _ _) ?_
  refine lv_asi (nI v9) (congrArg nI hv9.symm) ?_
  refine lv_istore (lv' := [(17, .int (nI v9)), (0, .ref b), (1, .ref (a 0)), (2, .ref q1), (3, .ref q2), (4, .int (nI su)), (5, .int (nI cp)), (6, .int (nI he)), (7, .int (nI 1)), (8, .int (nI T)), (9, .int (nI t)), (11, .int (nI Y)), (13, .int (nI m9)), (14, .int (nI st)), (15, .int (nI n9)), (16, .int (nI p9))]) hx hb dL_law_1362 hl (by decide) rfl (fun ls hl => ?_)
  refine lv_aload_n hx hb dL_law_1364 rfl (lv_at hl 2 rfl) ?_
  refine lv_iload hx hb dL_law_1365 (lv_at hl 0 rfl) ?_
  refine l_thi (As := [.int (nI v9)]) (rest := []) S (n_setSupply l D a cI cL cO hl0 hv1 hv2 H.size) (cwV 1 hts gL_law_X0_setSupply rfl rfl rfl (by decide +kernel) ⟨Nat.le_of_ble_eq_true rfl, Nat.le_of_ble_eq_true rfl⟩) hK hP1 hP2 (hD _ _ _ _) hES hEH hS hA rfl rfl oc_at0 rfl hl.1 rfl (Nat.le_of_ble_eq_true rfl) dL_law_1367 ⟨by show _ ≤ 683036; omega, by show _ ≤ 7052515; omega⟩ (fun H locs hP1 hP2 hS => ?_)
  have hG2 := gi_sup hG hv1 hv2
  have hn2 : nd (u2 I 8 1 (nI v9)) h = n9 := nd_sup.trans hn9
  have hc2 : ccN (u2 I 8 1 (nI v9)) = cp := (cc_same (fun f hf => u2_ne (by omega) _ _)).trans hcp
  have hs2 : suN (u2 I 8 1 (nI v9)) = v9 := nI_clamp (by omega)
  have hW2 : ∀ r, r < 6 → W9 r = (u2 I 8 1 (nI v9)) 1 r := hW
  have hD2 : ∀ k, k < 12 → Dn k = bI (dr ((u2 I 8 1 (nI v9)) 8 0) (nI k)) := hDn
  generalize u2 I 8 1 (nI v9) = I2 at *
  refine lv_asi (nI su) (hsu2.1) ?_
  refine lv_iload hx hb dL_law_1370 (lv_at hl 5 rfl) ?_
  refine lv_icmp_ne (tgt := 1388) hx hb dL_law_1372 (by decide) (fun z => absurd ((nI_eq (a := su) (b := su) (by omega) (by omega)).mpr (by omega)) z) (fun _ => ?_)
  refine lv_aload_n hx hb dL_law_1375 rfl (lv_at hl 2 rfl) ?_
  refine l_cls (As := []) (rest := []) S (n_need l D a cI cL cO hG2 hJ) (cwV 0 hts gL_law_X0_need rfl rfl rfl (by decide +kernel) ⟨Nat.le_of_ble_eq_true rfl, Nat.le_of_ble_eq_true rfl⟩) hK hP1 hP2 (hD _ _ _ _) hS rfl rfl oc_at0 rfl hl.1 rfl (Nat.le_of_ble_eq_true rfl) dL_law_1376 ⟨by show _ ≤ 683036; omega, by show _ ≤ 7052515; omega⟩ (fun H locs hP1 hP2 hS => ?_)
  have hJ := g_J hG2 hJ
  generalize fsW I2 J 0 0 = J at hJ hP1
  refine lv_asi (nI n9) (congrArg nI hn2) ?_
  refine lv_iload hx hb dL_law_1379 (lv_at hl 14 rfl) ?_
  refine lv_icmp_ne (tgt := 1388) hx hb dL_law_1381 (by decide) (fun z => absurd ((nI_eq (a := n9) (b := n9) (by omega) (by omega)).mpr (by omega)) z) (fun _ => ?_)
  refine lv_iconst (v := (nI 1)) hx hb dL_law_1384 (by decide) ?_
  refine lv_goto (tgt := 1389) hx hb dL_law_1385 (by decide) ?_
  refine lv_istore (lv' := [(7, .int (nI 1)), (17, .int (nI v9)), (0, .ref b), (1, .ref (a 0)), (2, .ref q1), (3, .ref q2), (4, .int (nI su)), (5, .int (nI cp)), (6, .int (nI he)), (8, .int (nI T)), (9, .int (nI t)), (11, .int (nI Y)), (13, .int (nI m9)), (14, .int (nI st)), (15, .int (nI n9)), (16, .int (nI p9))]) hx hb dL_law_1389 hl (by decide) rfl (fun ls hl => ?_)
  refine lv_iload hx hb dL_law_1391 (lv_at hl 1 rfl) ?_
  refine lv_istore (lv' := [(4, .int (nI v9)), (7, .int (nI 1)), (17, .int (nI v9)), (0, .ref b), (1, .ref (a 0)), (2, .ref q1), (3, .ref q2), (5, .int (nI cp)), (6, .int (nI he)), (8, .int (nI T)), (9, .int (nI t)), (11, .int (nI Y)), (13, .int (nI m9)), (14, .int (nI st)), (15, .int (nI n9)), (16, .int (nI p9))]) hx hb dL_law_1393 hl (by decide) rfl (fun ls hl => ?_)
  refine lv_goto (tgt := 1518) hx hb dL_law_1395 (by decide) ?_
  refine W.widen (k := c9 + 200) (n := s9 + 1200) (by omega) (by omega) ?_
  exact K H _ ls I2 J h W9 Dn v9 cp he ⟨hG2, hJ, hW2, hD2, hs2, hc2, hhe⟩ hP1 hP2 hS (lv_sub hl [1, 3, 4, 5, 6, 0, 7, 8, 9, 10] rfl)
set_option maxHeartbeats 1000000 in
set_option maxRecDepth 100000 in
theorem deed_14b {p : Program} {l : Launch} {e : Env} {s : State} {m : MethodId} {below : List Frame} {meth : Method} {c : Code} {H : Heap} {locs : List Loc} {Q : State → Prop} {ls : Array Slot} {D : va_G} {a : Nat → Nat} {q1 q2 b L T t Y m9 st n9 p9 su cp he c9 s9 : Nat} {cI cL cO : ClassId} {xs : Nat → Int32} {I : Nat → Nat → Int32} {J : Nat → Nat → Int64} {h : Nat → Nat} {W9 Dn : Nat → Int32} (C : LC p l s m c D a q1 q2 b cI cL cO L xs) (hLI : LI I J h W9 Dn su cp he) (hP1 : va_P D vwCl (oc a cI cL cO I J) H) (hP2 : va_P D vwCl (la cI q1 q2 W9 Dn) H) (hS : va_S (fr s) s.heap H locs) (hY : Y < 2 ^ 28) (hm : m9 < 3) (hst : st < 12) (hn9 : nd I h = n9) (hp9 : pp I h = p9) (hR : c9 + 2800 ≤ 683036 ∧ s9 + 17000 ≤ 7052515) (K : LK p l e s m below meth c Q D a q1 q2 b cI cL cO T t c9 s9) (hl : lv_has ls 22 [(0, .ref b), (1, .ref (a 0)), (2, .ref q1), (3, .ref q2), (4, .int (nI su)), (5, .int (nI cp)), (6, .int (nI he)), (7, .int (nI 1)), (8, .int (nI T)), (9, .int (nI t)), (11, .int (nI Y)), (13, .int (nI m9)), (14, .int (nI st)), (15, .int (nI n9)), (16, .int (nI p9))]) : W p l e room_1 s m #[Value.ref b] below meth c H locs c9 s9 Q (F0 m 1405 ls []) := by
  have hD := C.D
  have C' := C
  obtain ⟨hl0, S, hK, -, hES, hEH, hX, hbl, hL⟩ := C'
  have hx := S.1
  have hb := S.2.1
  have hown := S.2.2.2.1
  have hts := S.2.2.2.2
  have hA : ∀ z9 : Nat, s.heap.size ≤ z9 → fr s z9 := fun _ h => h
  obtain ⟨hG, hJ, hW, hDn, hsu, hcp, hhe⟩ := hLI
  have bn : n9 ≤ 5124 := hn9 ▸ nd_bd hG _
  have bp : p9 ≤ 366 := hp9 ▸ pp_bd _
  have bc : cp ≤ 3 := hcp ▸ cc_3 hG
  obtain ⟨k9, hk9, hk12⟩ : ∃ k9, k9 = Y / 2 % 12 ∧ k9 < 12 := ⟨_, rfl, by omega⟩
  refine lv_iload hx hb dL_law_1405 (lv_at hl 10 rfl) ?_
  refine lv_iconst (v := (nI 1)) hx hb dL_law_1407 (by decide) ?_
  refine lv_ishr hx hb dL_law_1408 ?_
  refine lv_asi (nI (Y / 2)) (pk_shrN (by omega) _ 1 (by decide)) ?_
  refine lv_bipush (v := (nI 12)) hx hb dL_law_1409 (by decide) ?_
  refine lv_irem hx hb dL_law_1411 (by decide) ?_
  refine lv_asi (nI ((Y / 2) % 12)) (pk_rem (by omega) (by omega) (by omega)) ?_
  refine lv_asi (nI k9) (congrArg nI hk9.symm) ?_
  refine lv_istore (lv' := [(17, .int (nI k9)), (0, .ref b), (1, .ref (a 0)), (2, .ref q1), (3, .ref q2), (4, .int (nI su)), (5, .int (nI cp)), (6, .int (nI he)), (7, .int (nI 1)), (8, .int (nI T)), (9, .int (nI t)), (11, .int (nI Y)), (13, .int (nI m9)), (14, .int (nI st)), (15, .int (nI n9)), (16, .int (nI p9))]) hx hb dL_law_1412 hl (by decide) rfl (fun ls hl => ?_)
  refine lv_aload_n hx hb dL_law_1414 rfl (lv_at hl 2 rfl) ?_
  refine l_cls (As := []) (rest := []) S (n_lowest l D a cI cL cO hG hJ) (cwV 0 hts gL_law_X0_lowest rfl rfl rfl (by decide +kernel) ⟨Nat.le_of_ble_eq_true rfl, Nat.le_of_ble_eq_true rfl⟩) hK hP1 hP2 (hD _ _ _ _) hS rfl rfl oc_at0 rfl hl.1 rfl (Nat.le_of_ble_eq_true rfl) dL_law_1415 ⟨by show _ ≤ 683036; omega, by show _ ≤ 7052515; omega⟩ (fun H locs hP1 hP2 hS => ?_)
  have hJ := g_J hG hJ
  generalize fsW I J 0 0 = J at hJ hP1
  refine lv_istore (lv' := [(18, .int (lowV I h)), (17, .int (nI k9)), (0, .ref b), (1, .ref (a 0)), (2, .ref q1), (3, .ref q2), (4, .int (nI su)), (5, .int (nI cp)), (6, .int (nI he)), (7, .int (nI 1)), (8, .int (nI T)), (9, .int (nI t)), (11, .int (nI Y)), (13, .int (nI m9)), (14, .int (nI st)), (15, .int (nI n9)), (16, .int (nI p9))]) hx hb dL_law_1418 hl (by decide) rfl (fun ls hl => ?_)
  refine lv_aload_n hx hb dL_law_1420 rfl (lv_at hl 3 rfl) ?_
  refine lv_iload hx hb dL_law_1421 (lv_at hl 1 rfl) ?_
  refine lv_iload hx hb dL_law_1423 (lv_at hl 12 rfl) ?_
  refine lv_iconst (v := (nI 5)) hx hb dL_law_1425 (by decide) ?_
  refine lv_ishr hx hb dL_law_1426 ?_
  refine lv_asi (nI (Y / 32)) (pk_shrN (by omega) _ 5 (by decide)) ?_
  refine lv_bipush (v := (nI 101)) hx hb dL_law_1427 (by decide) ?_
  refine lv_irem hx hb dL_law_1429 (by decide) ?_
  refine lv_asi (nI ((Y / 32) % 101)) (pk_rem (by omega) (by omega) (by omega)) ?_
  refine lv_bipush (v := (nI 50)) hx hb dL_law_1430 (by decide) ?_
  refine lv_isub hx hb dL_law_1432 ?_
  refine l_thi (As := [.int (nI k9), .int ((nI ((Y / 32) % 101)) - (nI 50))]) (rest := []) S (n_tune l D a cI cL cO hl0 hk12 (rg_det (by omega)) H.size) (cwV 2 hts gL_law_X0_tune rfl rfl rfl (by decide +kernel) ⟨Nat.le_of_ble_eq_true rfl, Nat.le_of_ble_eq_true rfl⟩) hK hP1 hP2 (hD _ _ _ _) hES hEH hS hA rfl rfl oc_at0 rfl hl.1 rfl (Nat.le_of_ble_eq_true rfl) dL_law_1433 ⟨by show _ ≤ 683036; omega, by show _ ≤ 7052515; omega⟩ (fun H locs hP1 hP2 hS => ?_)
  have hro := hG.2.2.2.2.2.2.1 k9 hk12
  have hG2 := gi_tune (k := k9) (x := (nI ((Y / 32) % 101)) - (nI 50)) hG (rg_det (by omega))
  have e2 : (u2 I 7 k9 ((nI ((Y / 32) % 101)) - (nI 50))) 7 k9 = (nI ((Y / 32) % 101)) - (nI 50) := upd_at _ _ _
  have hid : u2 (u2 I 7 k9 ((nI ((Y / 32) % 101)) - (nI 50))) 7 k9 (I 7 k9) = I := by rw [u2_u2, u2_id]
  generalize u2 I 7 k9 ((nI ((Y / 32) % 101)) - (nI 50)) = I2 at *
  refine lv_istore (lv' := [(19, .int (I 7 k9)), (18, .int (lowV I h)), (17, .int (nI k9)), (0, .ref b), (1, .ref (a 0)), (2, .ref q1), (3, .ref q2), (4, .int (nI su)), (5, .int (nI cp)), (6, .int (nI he)), (7, .int (nI 1)), (8, .int (nI T)), (9, .int (nI t)), (11, .int (nI Y)), (13, .int (nI m9)), (14, .int (nI st)), (15, .int (nI n9)), (16, .int (nI p9))]) hx hb dL_law_1436 hl (by decide) rfl (fun ls hl => ?_)
  refine lv_aload_n hx hb dL_law_1438 rfl (lv_at hl 4 rfl) ?_
  refine lv_iload hx hb dL_law_1439 (lv_at hl 2 rfl) ?_
  refine lv_iload hx hb dL_law_1441 (lv_at hl 0 rfl) ?_
  refine l_thi (As := [.int (nI k9), .int (I 7 k9)]) (rest := []) S (n_tune l D a cI cL cO hl0 hk12 hro H.size) (cwV 2 hts gL_law_X0_tune rfl rfl rfl (by decide +kernel) ⟨Nat.le_of_ble_eq_true rfl, Nat.le_of_ble_eq_true rfl⟩) hK hP1 hP2 (hD _ _ _ _) hES hEH hS hA rfl rfl oc_at0 rfl hl.1 rfl (Nat.le_of_ble_eq_true rfl) dL_law_1443 ⟨by show _ ≤ 683036; omega, by show _ ≤ 7052515; omega⟩ (fun H locs hP1 hP2 hS => ?_)
  rw [hid] at hP1
  refine lv_iload hx hb dL_law_1446 (lv_at hl 13 rfl) ?_
  refine lv_iconst (v := (nI 5)) hx hb dL_law_1448 (by decide) ?_
  refine lv_ishr hx hb dL_law_1449 ?_
  refine lv_asi (nI (Y / 32)) (pk_shrN (by omega) _ 5 (by decide)) ?_
  refine lv_bipush (v := (nI 101)) hx hb dL_law_1450 (by decide) ?_
  refine lv_irem hx hb dL_law_1452 (by decide) ?_
  refine lv_asi (nI ((Y / 32) % 101)) (pk_rem (by omega) (by omega) (by omega)) ?_
  refine lv_bipush (v := (nI 50)) hx hb dL_law_1453 (by decide) ?_
  refine lv_isub hx hb dL_law_1455 ?_
  refine lv_icmp_ne (tgt := 1472) hx hb dL_law_1456 (by decide) (fun z => absurd e2 z) (fun _ => ?_)
  refine lv_aload_n hx hb dL_law_1459 rfl (lv_at hl 4 rfl) ?_
  refine l_cls (As := []) (rest := []) S (n_lowest l D a cI cL cO hG hJ) (cwV 0 hts gL_law_X0_lowest rfl rfl rfl (by decide +kernel) ⟨Nat.le_of_ble_eq_true rfl, Nat.le_of_ble_eq_true rfl⟩) hK hP1 hP2 (hD _ _ _ _) hS rfl rfl oc_at0 rfl hl.1 rfl (Nat.le_of_ble_eq_true rfl) dL_law_1460 ⟨by show _ ≤ 683036; omega, by show _ ≤ 7052515; omega⟩ (fun H locs hP1 hP2 hS => ?_)
  have hJ := g_J hG hJ
  generalize fsW I J 0 0 = J at hJ hP1
  refine lv_iload hx hb dL_law_1463 (lv_at hl 1 rfl) ?_
  refine lv_icmp_ne (tgt := 1472) hx hb dL_law_1465 (by decide) (fun z => absurd rfl z) (fun _ => ?_)
  refine lv_iconst (v := (nI 1)) hx hb dL_law_1468 (by decide) ?_
  refine lv_goto (tgt := 1473) hx hb dL_law_1469 (by decide) ?_
  refine lv_istore (lv' := [(7, .int (nI 1)), (19, .int (I 7 k9)), (18, .int (lowV I h)), (17, .int (nI k9)), (0, .ref b), (1, .ref (a 0)), (2, .ref q1), (3, .ref q2), (4, .int (nI su)), (5, .int (nI cp)), (6, .int (nI he)), (8, .int (nI T)), (9, .int (nI t)), (11, .int (nI Y)), (13, .int (nI m9)), (14, .int (nI st)), (15, .int (nI n9)), (16, .int (nI p9))]) hx hb dL_law_1473 hl (by decide) rfl (fun ls hl => ?_)
  refine lv_goto (tgt := 1518) hx hb dL_law_1475 (by decide) ?_
  refine W.widen (k := c9 + 200) (n := s9 + 1200) (by omega) (by omega) ?_
  exact K H _ ls I J h W9 Dn su cp he ⟨hG, hJ, hW, hDn, hsu, hcp, hhe⟩ hP1 hP2 hS (lv_sub hl [0, 4, 5, 6, 7, 8, 9, 10, 11, 12] rfl)
set_option maxHeartbeats 1000000 in
set_option maxRecDepth 100000 in
theorem deed_15 {p : Program} {l : Launch} {e : Env} {s : State} {m : MethodId} {below : List Frame} {meth : Method} {c : Code} {H : Heap} {locs : List Loc} {Q : State → Prop} {ls : Array Slot} {D : va_G} {a : Nat → Nat} {q1 q2 b L T t Y m9 st n9 p9 su cp he c9 s9 : Nat} {cI cL cO : ClassId} {xs : Nat → Int32} {I : Nat → Nat → Int32} {J : Nat → Nat → Int64} {h : Nat → Nat} {W9 Dn : Nat → Int32} (C : LC p l s m c D a q1 q2 b cI cL cO L xs) (hLI : LI I J h W9 Dn su cp he) (hP1 : va_P D vwCl (oc a cI cL cO I J) H) (hP2 : va_P D vwCl (la cI q1 q2 W9 Dn) H) (hS : va_S (fr s) s.heap H locs) (hY : Y < 2 ^ 28) (hm : m9 < 3) (hst : st < 12) (hn9 : nd I h = n9) (hp9 : pp I h = p9) (hR : c9 + 2800 ≤ 683036 ∧ s9 + 17000 ≤ 7052515) (K : LK p l e s m below meth c Q D a q1 q2 b cI cL cO T t c9 s9) (hl : lv_has ls 22 [(0, .ref b), (1, .ref (a 0)), (2, .ref q1), (3, .ref q2), (4, .int (nI su)), (5, .int (nI cp)), (6, .int (nI he)), (7, .int (nI 1)), (8, .int (nI T)), (9, .int (nI t)), (11, .int (nI Y)), (13, .int (nI m9)), (14, .int (nI st)), (15, .int (nI n9)), (16, .int (nI p9))]) : W p l e room_1 s m #[Value.ref b] below meth c H locs c9 s9 Q (F0 m 1485 ls []) := by
  have hD := C.D
  have C' := C
  obtain ⟨hl0, S, hK, -, hES, hEH, hX, hbl, hL⟩ := C'
  have hx := S.1
  have hb := S.2.1
  have hown := S.2.2.2.1
  have hts := S.2.2.2.2
  have hA : ∀ z9 : Nat, s.heap.size ≤ z9 → fr s z9 := fun _ h => h
  obtain ⟨hG, hJ, hW, hDn, hsu, hcp, hhe⟩ := hLI
  have bn : n9 ≤ 5124 := hn9 ▸ nd_bd hG _
  have bp : p9 ≤ 366 := hp9 ▸ pp_bd _
  have bc : cp ≤ 3 := hcp ▸ cc_3 hG
  have bhe : he ≤ 183 := by
    have z0 := pcN_le (h 0) 61
    have z1 := pcN_le (h 1) 61
    have z2 := pcN_le (h 2) 61
    rw [← hhe]
    unfold hc
    omega
  refine lv_aload_n hx hb dL_law_1485 rfl (lv_at hl 1 rfl) ?_
  refine l_cls (As := []) (rest := []) S (n_letGo l D a cI cL cO hJ) (cwV 0 hts gL_law_X0_letGo rfl rfl rfl (by decide +kernel) ⟨Nat.le_of_ble_eq_true rfl, Nat.le_of_ble_eq_true rfl⟩) hK hP1 hP2 (hD _ _ _ _) hS rfl rfl oc_at0 rfl hl.1 rfl (Nat.le_of_ble_eq_true rfl) dL_law_1486 ⟨by show _ ≤ 683036; omega, by show _ ≤ 7052515; omega⟩ (fun H locs hP1 hP2 hS => ?_)
  have hJ := (g_lg hJ).1
  generalize lgJ J 3 = J at hJ hP1
  refine lv_asi (nI he) (congrArg nI hhe) ?_
  refine lv_iload hx hb dL_law_1489 (lv_at hl 6 rfl) ?_
  refine lv_icmp_ne (tgt := 1512) hx hb dL_law_1491 (by decide) (fun z => absurd ((nI_eq (a := he) (b := he) (by omega) (by omega)).mpr (by omega)) z) (fun _ => ?_)
  refine lv_aload_n hx hb dL_law_1494 rfl (lv_at hl 1 rfl) ?_
  refine l_cls (As := []) (rest := []) S (n_pipes l D a cI cL cO hG hJ) (cwV 0 hts gL_law_X0_pipes rfl rfl rfl (by decide +kernel) ⟨Nat.le_of_ble_eq_true rfl, Nat.le_of_ble_eq_true rfl⟩) hK hP1 hP2 (hD _ _ _ _) hS rfl rfl oc_at0 rfl hl.1 rfl (Nat.le_of_ble_eq_true rfl) dL_law_1495 ⟨by show _ ≤ 683036; omega, by show _ ≤ 7052515; omega⟩ (fun H locs hP1 hP2 hS => ?_)
  have hJ := g_J hG hJ
  generalize fsW I J 0 0 = J at hJ hP1
  refine lv_asi (nI 0) (congrArg nI pp_h0) ?_
  refine lv_if_ne (tgt := 1512) hx hb dL_law_1498 (by decide) (fun z => absurd ((nI_eq (a := 0) (b := 0) (by omega) (by omega)).mpr (by omega)) z) (fun _ => ?_)
  refine lv_aload_n hx hb dL_law_1501 rfl (lv_at hl 1 rfl) ?_
  refine l_cls (As := []) (rest := []) S (n_letGo l D a cI cL cO hJ) (cwV 0 hts gL_law_X0_letGo rfl rfl rfl (by decide +kernel) ⟨Nat.le_of_ble_eq_true rfl, Nat.le_of_ble_eq_true rfl⟩) hK hP1 hP2 (hD _ _ _ _) hS rfl rfl oc_at0 rfl hl.1 rfl (Nat.le_of_ble_eq_true rfl) dL_law_1502 ⟨by show _ ≤ 683036; omega, by show _ ≤ 7052515; omega⟩ (fun H locs hP1 hP2 hS => ?_)
  have hJ := (g_lg hJ).1
  generalize lgJ J 3 = J at hJ hP1
  refine lv_asi (nI 0) (congrArg nI hc_0) ?_
  refine lv_if_ne (tgt := 1512) hx hb dL_law_1505 (by decide) (fun z => absurd ((nI_eq (a := 0) (b := 0) (by omega) (by omega)).mpr (by omega)) z) (fun _ => ?_)
  refine lv_iconst (v := (nI 1)) hx hb dL_law_1508 (by decide) ?_
  refine lv_goto (tgt := 1513) hx hb dL_law_1509 (by decide) ?_
  refine lv_istore (lv' := [(7, .int (nI 1)), (0, .ref b), (1, .ref (a 0)), (2, .ref q1), (3, .ref q2), (4, .int (nI su)), (5, .int (nI cp)), (6, .int (nI he)), (8, .int (nI T)), (9, .int (nI t)), (11, .int (nI Y)), (13, .int (nI m9)), (14, .int (nI st)), (15, .int (nI n9)), (16, .int (nI p9))]) hx hb dL_law_1513 hl (by decide) rfl (fun ls hl => ?_)
  refine lv_iconst (v := (nI 0)) hx hb dL_law_1515 (by decide) ?_
  refine lv_istore (lv' := [(6, .int (nI 0)), (7, .int (nI 1)), (0, .ref b), (1, .ref (a 0)), (2, .ref q1), (3, .ref q2), (4, .int (nI su)), (5, .int (nI cp)), (8, .int (nI T)), (9, .int (nI t)), (11, .int (nI Y)), (13, .int (nI m9)), (14, .int (nI st)), (15, .int (nI n9)), (16, .int (nI p9))]) hx hb dL_law_1516 hl (by decide) rfl (fun ls hl => ?_)
  refine W.widen (k := c9 + 200) (n := s9 + 1200) (by omega) (by omega) ?_
  exact K H _ ls I J h0 W9 Dn su cp 0 ⟨hG, hJ, hW, hDn, hsu, hcp, hc_0⟩ hP1 hP2 hS (lv_sub hl [1, 2, 3, 4, 5, 6, 7, 0, 8, 9] rfl)
