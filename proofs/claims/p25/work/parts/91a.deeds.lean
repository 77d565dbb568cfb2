/-! ===== the deeds of a turn ===== -/
set_option maxHeartbeats 1000000 in
set_option maxRecDepth 100000 in
theorem deed_0 {p : Program} {l : Launch} {e : Env} {s : State} {m : MethodId} {below : List Frame} {meth : Method} {c : Code} {H : Heap} {locs : List Loc} {Q : State → Prop} {ls : Array Slot} {D : va_G} {a : Nat → Nat} {q1 q2 b L T t Y m9 st n9 p9 su cp he c9 s9 : Nat} {cI cL cO : ClassId} {xs : Nat → Int32} {I : Nat → Nat → Int32} {J : Nat → Nat → Int64} {h : Nat → Nat} {W9 Dn : Nat → Int32} (C : LC p l s m c D a q1 q2 b cI cL cO L xs) (hLI : LI I J h W9 Dn su cp he) (hP1 : va_P D vwCl (oc a cI cL cO I J) H) (hP2 : va_P D vwCl (la cI q1 q2 W9 Dn) H) (hS : va_S (fr s) s.heap H locs) (hY : Y < 2 ^ 28) (hm : m9 < 3) (hst : st < 12) (hn9 : nd I h = n9) (hp9 : pp I h = p9) (hR : c9 + 2800 ≤ 683036 ∧ s9 + 17000 ≤ 7052515) (K : LK p l e s m below meth c Q D a q1 q2 b cI cL cO T t c9 s9) (hl : lv_has ls 22 [(0, .ref b), (1, .ref (a 0)), (2, .ref q1), (3, .ref q2), (4, .int (nI su)), (5, .int (nI cp)), (6, .int (nI he)), (7, .int (nI 1)), (8, .int (nI T)), (9, .int (nI t)), (11, .int (nI Y)), (13, .int (nI m9)), (14, .int (nI st)), (15, .int (nI n9)), (16, .int (nI p9))]) : W p l e room_1 s m #[Value.ref b] below meth c H locs c9 s9 Q (F0 m 226 ls []) := by
  have hD := C.D
  have C' := C
  obtain ⟨hl0, S, hK, -, hES, hEH, hX, hbl, hL⟩ := C'
  have hx := S.1
  have hb := S.2.1
  have hown := S.2.2.2.1
  have hts := S.2.2.2.2
  have hA : ∀ z9 : Nat, s.heap.size ≤ z9 → fr s z9 := fun _ h => h
  obtain ⟨hG, hJ, hW, hDn, hsu, hcp, hhe⟩ := hLI
  have bn : n9 ≤ 5124 := hn9 ▸ nd_bd hG _
  have bp : p9 ≤ 366 := hp9 ▸ pp_bd _
  have bc : cp ≤ 3 := hcp ▸ cc_3 hG
  refine lv_iload hx hb dL_law_226 (lv_at hl 10 rfl) ?_
  refine lv_bipush (v := (nI 6)) hx hb dL_law_228 (by decide) ?_
  refine lv_irem hx hb dL_law_230 (by decide) ?_
  refine lv_asi (nI (Y % 6)) (pk_rem (by omega) (by omega) (by omega)) ?_
  refine lv_istore (lv' := [(17, .int (nI (Y % 6))), (0, .ref b), (1, .ref (a 0)), (2, .ref q1), (3, .ref q2), (4, .int (nI su)), (5, .int (nI cp)), (6, .int (nI he)), (7, .int (nI 1)), (8, .int (nI T)), (9, .int (nI t)), (11, .int (nI Y)), (13, .int (nI m9)), (14, .int (nI st)), (15, .int (nI n9)), (16, .int (nI p9))]) hx hb dL_law_231 hl (by decide) rfl (fun ls hl => ?_)
  refine lv_aload_n hx hb dL_law_233 rfl (lv_at hl 3 rfl) ?_
  refine lv_iload hx hb dL_law_234 (lv_at hl 0 rfl) ?_
  refine lv_iconst (v := (nI 1)) hx hb dL_law_236 (by decide) ?_
  refine lv_iload hx hb dL_law_237 (lv_at hl 11 rfl) ?_
  refine lv_iconst (v := (nI 5)) hx hb dL_law_239 (by decide) ?_
  refine lv_ishr hx hb dL_law_240 ?_
  refine lv_asi (nI (Y / 32)) (pk_shrN (by omega) _ 5 (by decide)) ?_
  refine lv_bipush (v := (nI 9)) hx hb dL_law_241 (by decide) ?_
  refine lv_irem hx hb dL_law_243 (by decide) ?_
  refine lv_asi (nI ((Y / 32) % 9)) (pk_rem (by omega) (by omega) (by omega)) ?_
  refine lv_iadd hx hb dL_law_244 ?_
  refine lv_asi (nI (1 + ((Y / 32) % 9))) (nI_add _ _) ?_
  refine w_ist (w' := oc a cI cL cO I J ++ la cI q1 q2 (upd W9 (Y % 6) (nI (1 + ((Y / 32) % 9)))) Dn) hx hb hK (va_P.app hP1 hP2) (hD _ _ _ _) hS rfl (q0 := 23) rfl rfl (by omega) (by decide) dL_law_245 (fun H locs hP hS => ?_)
  have hP1 := hP.fst
  have hP2 := hP.snd
  refine lv_aload_n hx hb dL_law_246 rfl (lv_at hl 2 rfl) ?_
  refine lv_iload hx hb dL_law_247 (lv_at hl 0 rfl) ?_
  refine lv_iload hx hb dL_law_249 (lv_at hl 11 rfl) ?_
  refine lv_iconst (v := (nI 3)) hx hb dL_law_251 (by decide) ?_
  refine lv_ishr hx hb dL_law_252 ?_
  refine lv_asi (nI (Y / 8)) (pk_shrN (by omega) _ 3 (by decide)) ?_
  refine lv_iconst (v := (nI 4)) hx hb dL_law_253 (by decide) ?_
  refine lv_irem hx hb dL_law_254 (by decide) ?_
  refine lv_asi (nI ((Y / 8) % 4)) (pk_rem (by omega) (by omega) (by omega)) ?_
  refine lv_aload_n hx hb dL_law_255 rfl (lv_at hl 3 rfl) ?_
  refine lv_iload hx hb dL_law_256 (lv_at hl 0 rfl) ?_
  refine w_ild hx hb hK hP2 rfl (q0 := 0) rfl (by omega) (by decide) dL_law_258 ?_
  refine lv_asi (nI (1 + (Y / 32) % 9)) (upd_at _ _ _) ?_
  refine lv_iload hx hb dL_law_259 (lv_at hl 11 rfl) ?_
  refine lv_bipush (v := (nI 9)) hx hb dL_law_261 (by decide) ?_
  refine lv_ishr hx hb dL_law_263 ?_
  refine lv_asi (nI (Y / 512)) (pk_shrN (by omega) _ 9 (by decide)) ?_
  refine lv_bipush (v := (nI 101)) hx hb dL_law_264 (by decide) ?_
  refine lv_irem hx hb dL_law_266 (by decide) ?_
  refine lv_asi (nI ((Y / 512) % 101)) (pk_rem (by omega) (by omega) (by omega)) ?_
  refine lv_bipush (v := (nI 50)) hx hb dL_law_267 (by decide) ?_
  refine lv_isub hx hb dL_law_269 ?_
  refine l_thv (As := [.int (nI (Y % 6)), .int (nI ((Y / 8) % 4)), .int (nI (1 + (Y / 32) % 9)), .int ((nI ((Y / 512) % 101)) - (nI 50))]) (rest := []) S (n_setRank l D a cI cL cO hl0 (by omega) (by omega) (by omega) (by omega) (rg_det (by omega)) H.size) (cwV 4 hts gL_law_X0_setRank rfl rfl rfl (by decide +kernel) ⟨Nat.le_of_ble_eq_true rfl, Nat.le_of_ble_eq_true rfl⟩) hK hP1 hP2 (hD _ _ _ _) hES hEH hS hA rfl rfl oc_at0 rfl hl.1 rfl (Nat.le_of_ble_eq_true rfl) dL_law_270 ⟨by show _ ≤ 683036; omega, by show _ ≤ 7052515; omega⟩ (fun H locs hP1 hP2 hS => ?_)
  have hG2 := gi_rank (r := Y % 6) (q := (Y / 8) % 4) (w := 1 + (Y / 32) % 9) (d := (nI ((Y / 512) % 101)) - (nI 50)) hG (by omega) (by omega) (by omega) (rg_det (by omega))
  have hp2 : pp (mRank I (Y % 6) ((Y / 8) % 4) (1 + (Y / 32) % 9) ((nI ((Y / 512) % 101)) - (nI 50))) h = p9 := pp_rank.trans hp9
  have hc2 : ccN (mRank I (Y % 6) ((Y / 8) % 4) (1 + (Y / 32) % 9) ((nI ((Y / 512) % 101)) - (nI 50))) = cp := (cc_same (fun f hf => mRank_ne _ _ _ _ _ (by omega))).trans hcp
  have hs2 : suN (mRank I (Y % 6) ((Y / 8) % 4) (1 + (Y / 32) % 9) ((nI ((Y / 512) % 101)) - (nI 50))) = su := hsu
  have hW2 : ∀ r, r < 6 → (upd W9 (Y % 6) (nI (1 + ((Y / 32) % 9)))) r = (mRank I (Y % 6) ((Y / 8) % 4) (1 + (Y / 32) % 9) ((nI ((Y / 512) % 101)) - (nI 50))) 1 r := fun r hr => by
    show upd W9 (Y % 6) (nI (1 + (Y / 32) % 9)) r = upd (I 1) (Y % 6) (nI (1 + (Y / 32) % 9)) r
    by_cases q : r = Y % 6
    · rw [q, upd_at, upd_at]
    · rw [upd_ne q, upd_ne q, hW r hr]
  have hD2 : ∀ k, k < 12 → Dn k = bI (dr ((mRank I (Y % 6) ((Y / 8) % 4) (1 + (Y / 32) % 9) ((nI ((Y / 512) % 101)) - (nI 50))) 8 0) (nI k)) := hDn
  generalize mRank I (Y % 6) ((Y / 8) % 4) (1 + (Y / 32) % 9) ((nI ((Y / 512) % 101)) - (nI 50)) = I2 at *
  refine lv_aload_n hx hb dL_law_273 rfl (lv_at hl 2 rfl) ?_
  refine l_cls (As := []) (rest := []) S (n_pipes l D a cI cL cO hG2 hJ) (cwV 0 hts gL_law_X0_pipes rfl rfl rfl (by decide +kernel) ⟨Nat.le_of_ble_eq_true rfl, Nat.le_of_ble_eq_true rfl⟩) hK hP1 hP2 (hD _ _ _ _) hS rfl rfl oc_at0 rfl hl.1 rfl (Nat.le_of_ble_eq_true rfl) dL_law_274 ⟨by show _ ≤ 683036; omega, by show _ ≤ 7052515; omega⟩ (fun H locs hP1 hP2 hS => ?_)
  have hJ := g_J hG2 hJ
  generalize fsW I2 J 0 0 = J at hJ hP1
  refine lv_asi (nI p9) (congrArg nI hp2) ?_
  refine lv_iload hx hb dL_law_277 (lv_at hl 15 rfl) ?_
  refine lv_icmp_ne (tgt := 286) hx hb dL_law_279 (by decide) (fun z => absurd ((nI_eq (a := p9) (b := p9) (by omega) (by omega)).mpr (by omega)) z) (fun _ => ?_)
  refine lv_iconst (v := (nI 1)) hx hb dL_law_282 (by decide) ?_
  refine lv_goto (tgt := 287) hx hb dL_law_283 (by decide) ?_
  refine lv_istore (lv' := [(7, .int (nI 1)), (17, .int (nI (Y % 6))), (0, .ref b), (1, .ref (a 0)), (2, .ref q1), (3, .ref q2), (4, .int (nI su)), (5, .int (nI cp)), (6, .int (nI he)), (8, .int (nI T)), (9, .int (nI t)), (11, .int (nI Y)), (13, .int (nI m9)), (14, .int (nI st)), (15, .int (nI n9)), (16, .int (nI p9))]) hx hb dL_law_287 hl (by decide) rfl (fun ls hl => ?_)
  refine lv_goto (tgt := 1518) hx hb dL_law_289 (by decide) ?_
  refine W.widen (k := c9 + 200) (n := s9 + 1200) (by omega) (by omega) ?_
  exact K H _ ls I2 J h (upd W9 (Y % 6) (nI (1 + ((Y / 32) % 9)))) Dn su cp he ⟨hG2, hJ, hW2, hD2, hs2, hc2, hhe⟩ hP1 hP2 hS (lv_sub hl [0, 2, 3, 4, 5, 6, 7, 8, 9, 10] rfl)
set_option maxHeartbeats 1000000 in
set_option maxRecDepth 100000 in
theorem deed_1 {p : Program} {l : Launch} {e : Env} {s : State} {m : MethodId} {below : List Frame} {meth : Method} {c : Code} {H : Heap} {locs : List Loc} {Q : State → Prop} {ls : Array Slot} {D : va_G} {a : Nat → Nat} {q1 q2 b L T t Y m9 st n9 p9 su cp he c9 s9 : Nat} {cI cL cO : ClassId} {xs : Nat → Int32} {I : Nat → Nat → Int32} {J : Nat → Nat → Int64} {h : Nat → Nat} {W9 Dn : Nat → Int32} (C : LC p l s m c D a q1 q2 b cI cL cO L xs) (hLI : LI I J h W9 Dn su cp he) (hP1 : va_P D vwCl (oc a cI cL cO I J) H) (hP2 : va_P D vwCl (la cI q1 q2 W9 Dn) H) (hS : va_S (fr s) s.heap H locs) (hY : Y < 2 ^ 28) (hm : m9 < 3) (hst : st < 12) (hn9 : nd I h = n9) (hp9 : pp I h = p9) (hR : c9 + 2800 ≤ 683036 ∧ s9 + 17000 ≤ 7052515) (K : LK p l e s m below meth c Q D a q1 q2 b cI cL cO T t c9 s9) (hl : lv_has ls 22 [(0, .ref b), (1, .ref (a 0)), (2, .ref q1), (3, .ref q2), (4, .int (nI su)), (5, .int (nI cp)), (6, .int (nI he)), (7, .int (nI 1)), (8, .int (nI T)), (9, .int (nI t)), (11, .int (nI Y)), (13, .int (nI m9)), (14, .int (nI st)), (15, .int (nI n9)), (16, .int (nI p9))]) : W p l e room_1 s m #[Value.ref b] below meth c H locs c9 s9 Q (F0 m 298 ls []) := by
  have hD := C.D
  have C' := C
  obtain ⟨hl0, S, hK, -, hES, hEH, hX, hbl, hL⟩ := C'
  have hx := S.1
  have hb := S.2.1
  have hown := S.2.2.2.1
  have hts := S.2.2.2.2
  have hA : ∀ z9 : Nat, s.heap.size ≤ z9 → fr s z9 := fun _ h => h
  obtain ⟨hG, hJ, hW, hDn, hsu, hcp, hhe⟩ := hLI
  have bn : n9 ≤ 5124 := hn9 ▸ nd_bd hG _
  have bp : p9 ≤ 366 := hp9 ▸ pp_bd _
  have bc : cp ≤ 3 := hcp ▸ cc_3 hG
  obtain ⟨d9, hd9, ed⟩ := hG.2.2.1
  refine lv_aload_n hx hb dL_law_298 rfl (lv_at hl 1 rfl) ?_
  refine lv_iload hx hb dL_law_299 (lv_at hl 12 rfl) ?_
  refine lv_iload hx hb dL_law_301 (lv_at hl 11 rfl) ?_
  refine lv_iload hx hb dL_law_303 (lv_at hl 10 rfl) ?_
  refine lv_bipush (v := (nI 6)) hx hb dL_law_305 (by decide) ?_
  refine lv_ishr hx hb dL_law_307 ?_
  refine lv_asi (nI (Y / 64)) (pk_shrN (by omega) _ 6 (by decide)) ?_
  refine lv_bipush (v := (nI 6)) hx hb dL_law_308 (by decide) ?_
  refine lv_irem hx hb dL_law_310 (by decide) ?_
  refine lv_asi (nI ((Y / 64) % 6)) (pk_rem (by omega) (by omega) (by omega)) ?_
  refine l_hg (As := [.ref (a 0), .int (nI st), .int (nI m9), .int (nI ((Y / 64) % 6))]) (rest := []) S (n_stops l hl0 D a cI cL cO (h := h0) hst hm (by omega) ed H.size) (vx_cwSW 4 hts gL_law_L_stops rfl rfl rfl (by decide +kernel) ⟨Nat.le_of_ble_eq_true rfl, Nat.le_of_ble_eq_true rfl⟩) hK hP1 hP2 (hD _ _ _ _) hES hEH hS hA rfl hl.1 rfl (Nat.le_of_ble_eq_true rfl) dL_law_311 ⟨by show _ ≤ 683036; omega, by show _ ≤ 7052515; omega⟩ (fun H locs hP1 hP2 hS => ?_)
  have hdn := (hDn st hst).trans (by rw [ed, dr_bit hst])
  cases hb9 : d9.testBit st with
  | true =>
    rw [hb9] at hdn
    have hP1 := hP1.1 hb9
    refine lv_asi (-3) (if_pos rfl) ?_
    refine lv_istore (lv' := [(17, .int (-3)), (0, .ref b), (1, .ref (a 0)), (2, .ref q1), (3, .ref q2), (4, .int (nI su)), (5, .int (nI cp)), (6, .int (nI he)), (7, .int (nI 1)), (8, .int (nI T)), (9, .int (nI t)), (11, .int (nI Y)), (13, .int (nI m9)), (14, .int (nI st)), (15, .int (nI n9)), (16, .int (nI p9))]) hx hb dL_law_314 hl (by decide) rfl (fun ls hl => ?_)
    refine lv_iload hx hb dL_law_316 (lv_at hl 0 rfl) ?_
    refine lv_aload_n hx hb dL_law_318 rfl (lv_at hl 4 rfl) ?_
    refine lv_iload hx hb dL_law_319 (lv_at hl 13 rfl) ?_
    refine w_ild hx hb hK hP2 rfl (q0 := 1) rfl (hst) (by decide) dL_law_321 ?_
    refine lv_asi (nI 1) (hdn) ?_
    refine lv_iconst (v := (nI 1)) hx hb dL_law_322 (by decide) ?_
    refine lv_icmp_ne (tgt := 331) hx hb dL_law_323 (by decide) (fun z => absurd ((nI_eq (a := 1) (b := 1) (by omega) (by omega)).mpr (by omega)) z) (fun _ => ?_)
    refine lv_bipush (v := (-3)) hx hb dL_law_326 (by decide) ?_
    refine lv_goto (tgt := 332) hx hb dL_law_328 (by decide) ?_
    refine lv_icmp_ne (tgt := 348) hx hb dL_law_332 (by decide) (fun z => absurd rfl z) (fun _ => ?_)
    refine lv_aload_n hx hb dL_law_335 rfl (lv_at hl 2 rfl) ?_
    refine l_cls (As := []) (rest := []) S (n_need l D a cI cL cO hG hJ) (cwV 0 hts gL_law_X0_need rfl rfl rfl (by decide +kernel) ⟨Nat.le_of_ble_eq_true rfl, Nat.le_of_ble_eq_true rfl⟩) hK hP1 hP2 (hD _ _ _ _) hS rfl rfl oc_at0 rfl hl.1 rfl (Nat.le_of_ble_eq_true rfl) dL_law_336 ⟨by show _ ≤ 683036; omega, by show _ ≤ 7052515; omega⟩ (fun H locs hP1 hP2 hS => ?_)
    have hJ := g_J hG hJ
    generalize fsW I J 0 0 = J at hJ hP1
    refine lv_asi (nI n9) (congrArg nI hn9) ?_
    refine lv_iload hx hb dL_law_339 (lv_at hl 14 rfl) ?_
    refine lv_icmp_ne (tgt := 348) hx hb dL_law_341 (by decide) (fun z => absurd ((nI_eq (a := n9) (b := n9) (by omega) (by omega)).mpr (by omega)) z) (fun _ => ?_)
    refine lv_iconst (v := (nI 1)) hx hb dL_law_344 (by decide) ?_
    refine lv_goto (tgt := 349) hx hb dL_law_345 (by decide) ?_
    refine lv_istore (lv' := [(7, .int (nI 1)), (17, .int (-3)), (0, .ref b), (1, .ref (a 0)), (2, .ref q1), (3, .ref q2), (4, .int (nI su)), (5, .int (nI cp)), (6, .int (nI he)), (8, .int (nI T)), (9, .int (nI t)), (11, .int (nI Y)), (13, .int (nI m9)), (14, .int (nI st)), (15, .int (nI n9)), (16, .int (nI p9))]) hx hb dL_law_349 hl (by decide) rfl (fun ls hl => ?_)
    refine lv_goto (tgt := 1518) hx hb dL_law_351 (by decide) ?_
    refine W.widen (k := c9 + 200) (n := s9 + 1200) (by omega) (by omega) ?_
    exact K H _ ls I J h W9 Dn su cp he ⟨hG, hJ, hW, hDn, hsu, hcp, hhe⟩ hP1 hP2 hS (lv_sub hl [0, 2, 3, 4, 5, 6, 7, 8, 9, 10] rfl)
  | false =>
    rw [hb9] at hdn
    have hP1 := hP1.2 hb9
    refine lv_asi (nI 0) (if_neg Bool.false_ne_true) ?_
    have hdf : dr (I 8 0) (nI st) = false := by rw [ed, dr_bit hst, hb9]
    have hG2 := gi_stop (s := st) (m := m9) (r := (Y / 64) % 6) hG hm
    have hn2 : nd (mStop I st m9 ((Y / 64) % 6)) h = n9 := (nd_stop hdf).trans hn9
    have hc2 : ccN (mStop I st m9 ((Y / 64) % 6)) = cp := (cc_same (fun f hf => mStop_ne _ _ _ _ (by omega))).trans hcp
    have hs2 : suN (mStop I st m9 ((Y / 64) % 6)) = su := hsu
    have hW2 : ∀ r, r < 6 → W9 r = (mStop I st m9 ((Y / 64) % 6)) 1 r := hW
    have hD2 : ∀ k, k < 12 → Dn k = bI (dr ((mStop I st m9 ((Y / 64) % 6)) 8 0) (nI k)) := hDn
    generalize mStop I st m9 ((Y / 64) % 6) = I2 at *
    refine lv_istore (lv' := [(17, .int (nI 0)), (0, .ref b), (1, .ref (a 0)), (2, .ref q1), (3, .ref q2), (4, .int (nI su)), (5, .int (nI cp)), (6, .int (nI he)), (7, .int (nI 1)), (8, .int (nI T)), (9, .int (nI t)), (11, .int (nI Y)), (13, .int (nI m9)), (14, .int (nI st)), (15, .int (nI n9)), (16, .int (nI p9))]) hx hb dL_law_314 hl (by decide) rfl (fun ls hl => ?_)
    refine lv_iload hx hb dL_law_316 (lv_at hl 0 rfl) ?_
    refine lv_aload_n hx hb dL_law_318 rfl (lv_at hl 4 rfl) ?_
    refine lv_iload hx hb dL_law_319 (lv_at hl 13 rfl) ?_
    refine w_ild hx hb hK hP2 rfl (q0 := 1) rfl (hst) (by decide) dL_law_321 ?_
    refine lv_asi (nI 0) (hdn) ?_
    refine lv_iconst (v := (nI 1)) hx hb dL_law_322 (by decide) ?_
    refine lv_icmp_ne (tgt := 331) hx hb dL_law_323 (by decide) (fun _ => ?_) (fun z => absurd ((nI_eq (a := 0) (b := 1) (by omega) (by omega)).mp z) (by omega))
    refine lv_iconst (v := (nI 0)) hx hb dL_law_331 (by decide) ?_
    refine lv_icmp_ne (tgt := 348) hx hb dL_law_332 (by decide) (fun z => absurd ((nI_eq (a := 0) (b := 0) (by omega) (by omega)).mpr (by omega)) z) (fun _ => ?_)
    refine lv_aload_n hx hb dL_law_335 rfl (lv_at hl 2 rfl) ?_
    refine l_cls (As := []) (rest := []) S (n_need l D a cI cL cO hG2 hJ) (cwV 0 hts gL_law_X0_need rfl rfl rfl (by decide +kernel) ⟨Nat.le_of_ble_eq_true rfl, Nat.le_of_ble_eq_true rfl⟩) hK hP1 hP2 (hD _ _ _ _) hS rfl rfl oc_at0 rfl hl.1 rfl (Nat.le_of_ble_eq_true rfl) dL_law_336 ⟨by show _ ≤ 683036; omega, by show _ ≤ 7052515; omega⟩ (fun H locs hP1 hP2 hS => ?_)
    have hJ := g_J hG2 hJ
    generalize fsW I2 J 0 0 = J at hJ hP1
    refine lv_asi (nI n9) (congrArg nI hn2) ?_
    refine lv_iload hx hb dL_law_339 (lv_at hl 14 rfl) ?_
    refine lv_icmp_ne (tgt := 348) hx hb dL_law_341 (by decide) (fun z => absurd ((nI_eq (a := n9) (b := n9) (by omega) (by omega)).mpr (by omega)) z) (fun _ => ?_)
    refine lv_iconst (v := (nI 1)) hx hb dL_law_344 (by decide) ?_
    refine lv_goto (tgt := 349) hx hb dL_law_345 (by decide) ?_
    refine lv_istore (lv' := [(7, .int (nI 1)), (17, .int (nI 0)), (0, .ref b), (1, .ref (a 0)), (2, .ref q1), (3, .ref q2), (4, .int (nI su)), (5, .int (nI cp)), (6, .int (nI he)), (8, .int (nI T)), (9, .int (nI t)), (11, .int (nI Y)), (13, .int (nI m9)), (14, .int (nI st)), (15, .int (nI n9)), (16, .int (nI p9))]) hx hb dL_law_349 hl (by decide) rfl (fun ls hl => ?_)
    refine lv_goto (tgt := 1518) hx hb dL_law_351 (by decide) ?_
    refine W.widen (k := c9 + 200) (n := s9 + 1200) (by omega) (by omega) ?_
    exact K H _ ls I2 J h W9 Dn su cp he ⟨hG2, hJ, hW2, hD2, hs2, hc2, hhe⟩ hP1 hP2 hS (lv_sub hl [0, 2, 3, 4, 5, 6, 7, 8, 9, 10] rfl)
set_option maxHeartbeats 1000000 in
set_option maxRecDepth 100000 in
theorem deed_2 {p : Program} {l : Launch} {e : Env} {s : State} {m : MethodId} {below : List Frame} {meth : Method} {c : Code} {H : Heap} {locs : List Loc} {Q : State → Prop} {ls : Array Slot} {D : va_G} {a : Nat → Nat} {q1 q2 b L T t Y m9 st n9 p9 su cp he c9 s9 : Nat} {cI cL cO : ClassId} {xs : Nat → Int32} {I : Nat → Nat → Int32} {J : Nat → Nat → Int64} {h : Nat → Nat} {W9 Dn : Nat → Int32} (C : LC p l s m c D a q1 q2 b cI cL cO L xs) (hLI : LI I J h W9 Dn su cp he) (hP1 : va_P D vwCl (oc a cI cL cO I J) H) (hP2 : va_P D vwCl (la cI q1 q2 W9 Dn) H) (hS : va_S (fr s) s.heap H locs) (hY : Y < 2 ^ 28) (hm : m9 < 3) (hst : st < 12) (hn9 : nd I h = n9) (hp9 : pp I h = p9) (hR : c9 + 2800 ≤ 683036 ∧ s9 + 17000 ≤ 7052515) (K : LK p l e s m below meth c Q D a q1 q2 b cI cL cO T t c9 s9) (hl : lv_has ls 22 [(0, .ref b), (1, .ref (a 0)), (2, .ref q1), (3, .ref q2), (4, .int (nI su)), (5, .int (nI cp)), (6, .int (nI he)), (7, .int (nI 1)), (8, .int (nI T)), (9, .int (nI t)), (11, .int (nI Y)), (13, .int (nI m9)), (14, .int (nI st)), (15, .int (nI n9)), (16, .int (nI p9))]) : W p l e room_1 s m #[Value.ref b] below meth c H locs c9 s9 Q (F0 m 360 ls []) := by
  have hD := C.D
  have C' := C
  obtain ⟨hl0, S, hK, -, hES, hEH, hX, hbl, hL⟩ := C'
  have hx := S.1
  have hb := S.2.1
  have hown := S.2.2.2.1
  have hts := S.2.2.2.2
  have hA : ∀ z9 : Nat, s.heap.size ≤ z9 → fr s z9 := fun _ h => h
  obtain ⟨hG, hJ, hW, hDn, hsu, hcp, hhe⟩ := hLI
  have bn : n9 ≤ 5124 := hn9 ▸ nd_bd hG _
  have bp : p9 ≤ 366 := hp9 ▸ pp_bd _
  have bc : cp ≤ 3 := hcp ▸ cc_3 hG
  refine lv_iload hx hb dL_law_360 (lv_at hl 10 rfl) ?_
  refine lv_iconst (v := (nI 2)) hx hb dL_law_362 (by decide) ?_
  refine lv_ishr hx hb dL_law_363 ?_
  refine lv_asi (nI (Y / 4)) (pk_shrN (by omega) _ 2 (by decide)) ?_
  refine lv_iconst (v := (nI 3)) hx hb dL_law_364 (by decide) ?_
  refine lv_irem hx hb dL_law_365 (by decide) ?_
  refine lv_asi (nI ((Y / 4) % 3)) (pk_rem (by omega) (by omega) (by omega)) ?_
  refine lv_istore (lv' := [(17, .int (nI ((Y / 4) % 3))), (0, .ref b), (1, .ref (a 0)), (2, .ref q1), (3, .ref q2), (4, .int (nI su)), (5, .int (nI cp)), (6, .int (nI he)), (7, .int (nI 1)), (8, .int (nI T)), (9, .int (nI t)), (11, .int (nI Y)), (13, .int (nI m9)), (14, .int (nI st)), (15, .int (nI n9)), (16, .int (nI p9))]) hx hb dL_law_366 hl (by decide) rfl (fun ls hl => ?_)
  refine lv_aload_n hx hb dL_law_368 rfl (lv_at hl 2 rfl) ?_
  refine lv_iload hx hb dL_law_369 (lv_at hl 12 rfl) ?_
  refine lv_iload hx hb dL_law_371 (lv_at hl 0 rfl) ?_
  refine lv_bipush (v := (nI 12)) hx hb dL_law_373 (by decide) ?_
  refine lv_iload hx hb dL_law_375 (lv_at hl 11 rfl) ?_
  refine lv_iconst (v := (nI 4)) hx hb dL_law_377 (by decide) ?_
  refine lv_ishr hx hb dL_law_378 ?_
  refine lv_asi (nI (Y / 16)) (pk_shrN (by omega) _ 4 (by decide)) ?_
  refine lv_iconst (v := (nI 3)) hx hb dL_law_379 (by decide) ?_
  refine lv_irem hx hb dL_law_380 (by decide) ?_
  refine lv_asi (nI ((Y / 16) % 3)) (pk_rem (by omega) (by omega) (by omega)) ?_
  refine lv_imul hx hb dL_law_381 ?_
  refine lv_asi (nI (12 * ((Y / 16) % 3))) (pk_mul _ _) ?_
  refine lv_bipush (v := (nI 12)) hx hb dL_law_382 (by decide) ?_
  refine lv_isub hx hb dL_law_384 ?_
  obtain ⟨xv, x1, x3⟩ := sh_ok (z := (Y / 16) % 3) (by omega)
  generalize hx9 : (nI (12 * ((Y / 16) % 3)) - nI 12 : Int32) = x9 at xv x1 x3
  obtain ⟨t9, ht9, ht3⟩ : ∃ t9, t9 = (Y / 4) % 3 ∧ t9 < 3 := ⟨_, rfl, by omega⟩
  rw [← ht9] at hl ⊢
  refine l_hg (As := [.ref (a 0), .int (nI m9), .int (nI t9), .int x9]) (rest := []) S (n_cpl l hl0 D a cI cL cO hm ht3 x3 H.size) (vx_cwSW 4 hts gL_law_L_couples rfl rfl rfl (by decide +kernel) ⟨Nat.le_of_ble_eq_true rfl, Nat.le_of_ble_eq_true rfl⟩) hK hP1 hP2 (hD _ _ _ _) hES hEH hS hA rfl hl.1 rfl (Nat.le_of_ble_eq_true rfl) dL_law_385 ⟨by show _ ≤ 683036; omega, by show _ ≤ 7052515; omega⟩ (fun H locs hP1 hP2 hS => ?_)
  by_cases hne : m9 = t9
  · have hP1 := hP1.2 (Or.inl hne)
    refine lv_asi (-2) (if_pos hne) ?_
    refine lv_istore (lv' := [(18, .int (-2)), (17, .int (nI t9)), (0, .ref b), (1, .ref (a 0)), (2, .ref q1), (3, .ref q2), (4, .int (nI su)), (5, .int (nI cp)), (6, .int (nI he)), (7, .int (nI 1)), (8, .int (nI T)), (9, .int (nI t)), (11, .int (nI Y)), (13, .int (nI m9)), (14, .int (nI st)), (15, .int (nI n9)), (16, .int (nI p9))]) hx hb dL_law_388 hl (by decide) rfl (fun ls hl => ?_)
    refine lv_iload hx hb dL_law_390 (lv_at hl 13 rfl) ?_
    refine lv_iload hx hb dL_law_392 (lv_at hl 1 rfl) ?_
    refine lv_icmp_ne (tgt := 412) hx hb dL_law_394 (by decide) (fun z => absurd ((nI_eq (a := m9) (b := t9) (by omega) (by omega)).mpr (by omega)) z) (fun _ => ?_)
    refine lv_iload hx hb dL_law_397 (lv_at hl 0 rfl) ?_
    refine lv_bipush (v := (-2)) hx hb dL_law_399 (by decide) ?_
    refine lv_icmp_ne (tgt := 408) hx hb dL_law_401 (by decide) (fun z => absurd rfl z) (fun _ => ?_)
    refine lv_iconst (v := (nI 1)) hx hb dL_law_404 (by decide) ?_
    refine lv_goto (tgt := 457) hx hb dL_law_405 (by decide) ?_
    refine lv_istore (lv' := [(7, .int (nI 1)), (18, .int (-2)), (17, .int (nI t9)), (0, .ref b), (1, .ref (a 0)), (2, .ref q1), (3, .ref q2), (4, .int (nI su)), (5, .int (nI cp)), (6, .int (nI he)), (8, .int (nI T)), (9, .int (nI t)), (11, .int (nI Y)), (13, .int (nI m9)), (14, .int (nI st)), (15, .int (nI n9)), (16, .int (nI p9))]) hx hb dL_law_457 hl (by decide) rfl (fun ls hl => ?_)
    refine lv_iload hx hb dL_law_459 (lv_at hl 1 rfl) ?_
    refine lv_if_ge (tgt := 469) hx hb dL_law_461 (by decide) (fun z => absurd z (by decide)) (fun _ => ?_)
    refine lv_iload hx hb dL_law_464 (lv_at hl 8 rfl) ?_
    refine lv_goto (tgt := 471) hx hb dL_law_466 (by decide) ?_
    refine lv_istore (lv' := [(5, .int (nI cp)), (7, .int (nI 1)), (18, .int (-2)), (17, .int (nI t9)), (0, .ref b), (1, .ref (a 0)), (2, .ref q1), (3, .ref q2), (4, .int (nI su)), (6, .int (nI he)), (8, .int (nI T)), (9, .int (nI t)), (11, .int (nI Y)), (13, .int (nI m9)), (14, .int (nI st)), (15, .int (nI n9)), (16, .int (nI p9))]) hx hb dL_law_471 hl (by decide) rfl (fun ls hl => ?_)
    refine lv_iload hx hb dL_law_473 (lv_at hl 1 rfl) ?_
    refine lv_if_eq (tgt := 512) hx hb dL_law_475 (by decide) (fun z => absurd ((nI_eq (a := 1) (b := 0) (by omega) (by omega)).mp z) (by omega)) (fun _ => ?_)
    refine lv_iload hx hb dL_law_478 (lv_at hl 0 rfl) ?_
    refine lv_if_lt (tgt := 512) hx hb dL_law_480 (by decide) (fun z => absurd ((nI_ltI (a := cp) (b := 0) (by omega) (by omega)).mp z) (by omega)) (fun _ => ?_)
    refine lv_iload hx hb dL_law_483 (lv_at hl 0 rfl) ?_
    refine lv_iconst (v := (nI 3)) hx hb dL_law_485 (by decide) ?_
    refine lv_icmp_gt (tgt := 512) hx hb dL_law_486 (by decide) (fun z => absurd ((nI_ltI (a := 3) (b := cp) (by omega) (by omega)).mp z) (by omega)) (fun _ => ?_)
    refine lv_iload hx hb dL_law_489 (lv_at hl 2 rfl) ?_
    refine lv_if_lt (tgt := 508) hx hb dL_law_491 (by decide) (fun _ => ?_) (fun z => absurd (by decide) z)
    refine lv_iconst (v := (nI 1)) hx hb dL_law_508 (by decide) ?_
    refine lv_goto (tgt := 513) hx hb dL_law_509 (by decide) ?_
    refine lv_istore (lv' := [(7, .int (nI 1)), (5, .int (nI cp)), (18, .int (-2)), (17, .int (nI t9)), (0, .ref b), (1, .ref (a 0)), (2, .ref q1), (3, .ref q2), (4, .int (nI su)), (6, .int (nI he)), (8, .int (nI T)), (9, .int (nI t)), (11, .int (nI Y)), (13, .int (nI m9)), (14, .int (nI st)), (15, .int (nI n9)), (16, .int (nI p9))]) hx hb dL_law_513 hl (by decide) rfl (fun ls hl => ?_)
    refine lv_goto (tgt := 1518) hx hb dL_law_515 (by decide) ?_
    refine W.widen (k := c9 + 200) (n := s9 + 1200) (by omega) (by omega) ?_
    exact K H _ ls I J h W9 Dn su cp he ⟨hG, hJ, hW, hDn, hsu, hcp, hhe⟩ hP1 hP2 hS (lv_sub hl [0, 4, 5, 6, 7, 8, 1, 9, 10, 11] rfl)
  · cases hl9 : ldt I t9 m9 with
    | true =>
      have hP1 := hP1.2 (Or.inr hl9)
      refine lv_asi (-3) (by rw [if_neg hne]; exact if_pos (by first | rfl | exact hl9)) ?_
      refine lv_istore (lv' := [(18, .int (-3)), (17, .int (nI t9)), (0, .ref b), (1, .ref (a 0)), (2, .ref q1), (3, .ref q2), (4, .int (nI su)), (5, .int (nI cp)), (6, .int (nI he)), (7, .int (nI 1)), (8, .int (nI T)), (9, .int (nI t)), (11, .int (nI Y)), (13, .int (nI m9)), (14, .int (nI st)), (15, .int (nI n9)), (16, .int (nI p9))]) hx hb dL_law_388 hl (by decide) rfl (fun ls hl => ?_)
      refine lv_iload hx hb dL_law_390 (lv_at hl 13 rfl) ?_
      refine lv_iload hx hb dL_law_392 (lv_at hl 1 rfl) ?_
      refine lv_icmp_ne (tgt := 412) hx hb dL_law_394 (by decide) (fun _ => ?_) (fun z => absurd ((nI_eq (a := m9) (b := t9) (by omega) (by omega)).mp z) (by omega))
      refine lv_iload hx hb dL_law_412 (lv_at hl 0 rfl) ?_
      refine lv_bipush (v := (-3)) hx hb dL_law_414 (by decide) ?_
      refine lv_icmp_ne (tgt := 436) hx hb dL_law_416 (by decide) (fun z => absurd rfl z) (fun _ => ?_)
      refine lv_aload_n hx hb dL_law_419 rfl (lv_at hl 3 rfl) ?_
      refine l_cls (As := []) (rest := []) S (n_need l D a cI cL cO hG hJ) (cwV 0 hts gL_law_X0_need rfl rfl rfl (by decide +kernel) ⟨Nat.le_of_ble_eq_true rfl, Nat.le_of_ble_eq_true rfl⟩) hK hP1 hP2 (hD _ _ _ _) hS rfl rfl oc_at0 rfl hl.1 rfl (Nat.le_of_ble_eq_true rfl) dL_law_420 ⟨by show _ ≤ 683036; omega, by show _ ≤ 7052515; omega⟩ (fun H locs hP1 hP2 hS => ?_)
      have hJ := g_J hG hJ
      generalize fsW I J 0 0 = J at hJ hP1
      refine lv_asi (nI n9) (congrArg nI hn9) ?_
      refine lv_iload hx hb dL_law_423 (lv_at hl 15 rfl) ?_
      refine lv_icmp_ne (tgt := 432) hx hb dL_law_425 (by decide) (fun z => absurd ((nI_eq (a := n9) (b := n9) (by omega) (by omega)).mpr (by omega)) z) (fun _ => ?_)
      refine lv_iconst (v := (nI 1)) hx hb dL_law_428 (by decide) ?_
      refine lv_goto (tgt := 457) hx hb dL_law_429 (by decide) ?_
      refine lv_istore (lv' := [(7, .int (nI 1)), (18, .int (-3)), (17, .int (nI t9)), (0, .ref b), (1, .ref (a 0)), (2, .ref q1), (3, .ref q2), (4, .int (nI su)), (5, .int (nI cp)), (6, .int (nI he)), (8, .int (nI T)), (9, .int (nI t)), (11, .int (nI Y)), (13, .int (nI m9)), (14, .int (nI st)), (15, .int (nI n9)), (16, .int (nI p9))]) hx hb dL_law_457 hl (by decide) rfl (fun ls hl => ?_)
      refine lv_iload hx hb dL_law_459 (lv_at hl 1 rfl) ?_
      refine lv_if_ge (tgt := 469) hx hb dL_law_461 (by decide) (fun z => absurd z (by decide)) (fun _ => ?_)
      refine lv_iload hx hb dL_law_464 (lv_at hl 8 rfl) ?_
      refine lv_goto (tgt := 471) hx hb dL_law_466 (by decide) ?_
      refine lv_istore (lv' := [(5, .int (nI cp)), (7, .int (nI 1)), (18, .int (-3)), (17, .int (nI t9)), (0, .ref b), (1, .ref (a 0)), (2, .ref q1), (3, .ref q2), (4, .int (nI su)), (6, .int (nI he)), (8, .int (nI T)), (9, .int (nI t)), (11, .int (nI Y)), (13, .int (nI m9)), (14, .int (nI st)), (15, .int (nI n9)), (16, .int (nI p9))]) hx hb dL_law_471 hl (by decide) rfl (fun ls hl => ?_)
      refine lv_iload hx hb dL_law_473 (lv_at hl 1 rfl) ?_
      refine lv_if_eq (tgt := 512) hx hb dL_law_475 (by decide) (fun z => absurd ((nI_eq (a := 1) (b := 0) (by omega) (by omega)).mp z) (by omega)) (fun _ => ?_)
      refine lv_iload hx hb dL_law_478 (lv_at hl 0 rfl) ?_
      refine lv_if_lt (tgt := 512) hx hb dL_law_480 (by decide) (fun z => absurd ((nI_ltI (a := cp) (b := 0) (by omega) (by omega)).mp z) (by omega)) (fun _ => ?_)
      refine lv_iload hx hb dL_law_483 (lv_at hl 0 rfl) ?_
      refine lv_iconst (v := (nI 3)) hx hb dL_law_485 (by decide) ?_
      refine lv_icmp_gt (tgt := 512) hx hb dL_law_486 (by decide) (fun z => absurd ((nI_ltI (a := 3) (b := cp) (by omega) (by omega)).mp z) (by omega)) (fun _ => ?_)
      refine lv_iload hx hb dL_law_489 (lv_at hl 2 rfl) ?_
      refine lv_if_lt (tgt := 508) hx hb dL_law_491 (by decide) (fun _ => ?_) (fun z => absurd (by decide) z)
      refine lv_iconst (v := (nI 1)) hx hb dL_law_508 (by decide) ?_
      refine lv_goto (tgt := 513) hx hb dL_law_509 (by decide) ?_
      refine lv_istore (lv' := [(7, .int (nI 1)), (5, .int (nI cp)), (18, .int (-3)), (17, .int (nI t9)), (0, .ref b), (1, .ref (a 0)), (2, .ref q1), (3, .ref q2), (4, .int (nI su)), (6, .int (nI he)), (8, .int (nI T)), (9, .int (nI t)), (11, .int (nI Y)), (13, .int (nI m9)), (14, .int (nI st)), (15, .int (nI n9)), (16, .int (nI p9))]) hx hb dL_law_513 hl (by decide) rfl (fun ls hl => ?_)
      refine lv_goto (tgt := 1518) hx hb dL_law_515 (by decide) ?_
      refine W.widen (k := c9 + 200) (n := s9 + 1200) (by omega) (by omega) ?_
      exact K H _ ls I J h W9 Dn su cp he ⟨hG, hJ, hW, hDn, hsu, hcp, hhe⟩ hP1 hP2 hS (lv_sub hl [0, 4, 5, 6, 7, 8, 1, 9, 10, 11] rfl)
    | false =>
      have hP1 := hP1.1 hne hl9
      obtain ⟨k9, hk9⟩ : ∃ k9, ccN (u2 I (20 + m9) t9 x9) = k9 := ⟨_, rfl⟩
      refine lv_asi (nI k9) (by rw [if_neg hne]; exact (if_neg (by first | exact Bool.false_ne_true | (rw [hl9]; exact Bool.false_ne_true))).trans (congrArg nI hk9)) ?_
      have hG2 := gi_cpl (x := x9) hG hm ht3 hne xv x1 hl9
      have hcc := ccN_c hm ht3 x9 (I := I)
      have e1 : bN (!decide (x9 = 1)) = 1 := by rw [decide_eq_false x1]; rfl
      rw [hk9, hcp, e1] at hcc
      have bb := bN_le (cpd I m9 t9)
      have hk3 : k9 ≤ 3 := hk9 ▸ cc_3 hG2
      have hlt : ldt (u2 I (20 + m9) t9 x9) m9 t9 = true := by
        have q : cpd (u2 I (20 + m9) t9 x9) m9 t9 = true := by rw [cpd_c, if_pos ⟨rfl, rfl⟩, decide_eq_false x1]; rfl
        unfold ldt
        rw [q]
        rfl
      have n2 : ∀ i, i < 20 → (u2 I (20 + m9) t9 x9) i = I i := fun i hi => u2_ne (by omega) _ _
      generalize u2 I (20 + m9) t9 x9 = I2 at *
      have hs2 : suN I2 = su := by unfold suN; rw [n2 8 (by decide)]; exact hsu
      have hW2 : ∀ r, r < 6 → W9 r = I2 1 r := by rw [n2 1 (by decide)]; exact hW
      have hD2 : ∀ k, k < 12 → Dn k = bI (dr (I2 8 0) (nI k)) := by rw [n2 8 (by decide)]; exact hDn
      refine lv_istore (lv' := [(18, .int (nI k9)), (17, .int (nI t9)), (0, .ref b), (1, .ref (a 0)), (2, .ref q1), (3, .ref q2), (4, .int (nI su)), (5, .int (nI cp)), (6, .int (nI he)), (7, .int (nI 1)), (8, .int (nI T)), (9, .int (nI t)), (11, .int (nI Y)), (13, .int (nI m9)), (14, .int (nI st)), (15, .int (nI n9)), (16, .int (nI p9))]) hx hb dL_law_388 hl (by decide) rfl (fun ls hl => ?_)
      refine lv_iload hx hb dL_law_390 (lv_at hl 13 rfl) ?_
      refine lv_iload hx hb dL_law_392 (lv_at hl 1 rfl) ?_
      refine lv_icmp_ne (tgt := 412) hx hb dL_law_394 (by decide) (fun _ => ?_) (fun z => absurd ((nI_eq (a := m9) (b := t9) (by omega) (by omega)).mp z) (by omega))
      refine lv_iload hx hb dL_law_412 (lv_at hl 0 rfl) ?_
      refine lv_bipush (v := (-3)) hx hb dL_law_414 (by decide) ?_
      refine lv_icmp_ne (tgt := 436) hx hb dL_law_416 (by decide) (fun _ => ?_) (fun z => absurd z (nI_neg (by omega)).1)
      refine lv_iload hx hb dL_law_436 (lv_at hl 0 rfl) ?_
      refine lv_iload hx hb dL_law_438 (lv_at hl 7 rfl) ?_
      rcases (show k9 = cp ∨ k9 = cp + 1 by omega) with hkc | hkc
      · refine lv_icmp_eq (tgt := 452) hx hb dL_law_440 (by decide) (fun _ => ?_) (fun z => absurd ((nI_eq (a := k9) (b := cp) (by omega) (by omega)).mpr (by omega)) z)
        refine lv_iconst (v := (nI 1)) hx hb dL_law_452 (by decide) ?_
        refine lv_goto (tgt := 457) hx hb dL_law_453 (by decide) ?_
        refine lv_istore (lv' := [(7, .int (nI 1)), (18, .int (nI k9)), (17, .int (nI t9)), (0, .ref b), (1, .ref (a 0)), (2, .ref q1), (3, .ref q2), (4, .int (nI su)), (5, .int (nI cp)), (6, .int (nI he)), (8, .int (nI T)), (9, .int (nI t)), (11, .int (nI Y)), (13, .int (nI m9)), (14, .int (nI st)), (15, .int (nI n9)), (16, .int (nI p9))]) hx hb dL_law_457 hl (by decide) rfl (fun ls hl => ?_)
        refine lv_iload hx hb dL_law_459 (lv_at hl 1 rfl) ?_
        refine lv_if_ge (tgt := 469) hx hb dL_law_461 (by decide) (fun _ => ?_) (fun z => absurd ((nI_leI (a := 0) (b := k9) (by omega) (by omega)).mpr (by omega)) z)
        refine lv_iload hx hb dL_law_469 (lv_at hl 1 rfl) ?_
        refine lv_istore (lv' := [(5, .int (nI k9)), (7, .int (nI 1)), (18, .int (nI k9)), (17, .int (nI t9)), (0, .ref b), (1, .ref (a 0)), (2, .ref q1), (3, .ref q2), (4, .int (nI su)), (6, .int (nI he)), (8, .int (nI T)), (9, .int (nI t)), (11, .int (nI Y)), (13, .int (nI m9)), (14, .int (nI st)), (15, .int (nI n9)), (16, .int (nI p9))]) hx hb dL_law_471 hl (by decide) rfl (fun ls hl => ?_)
        refine lv_iload hx hb dL_law_473 (lv_at hl 1 rfl) ?_
        refine lv_if_eq (tgt := 512) hx hb dL_law_475 (by decide) (fun z => absurd ((nI_eq (a := 1) (b := 0) (by omega) (by omega)).mp z) (by omega)) (fun _ => ?_)
        refine lv_iload hx hb dL_law_478 (lv_at hl 0 rfl) ?_
        refine lv_if_lt (tgt := 512) hx hb dL_law_480 (by decide) (fun z => absurd ((nI_ltI (a := k9) (b := 0) (by omega) (by omega)).mp z) (by omega)) (fun _ => ?_)
        refine lv_iload hx hb dL_law_483 (lv_at hl 0 rfl) ?_
        refine lv_iconst (v := (nI 3)) hx hb dL_law_485 (by decide) ?_
        refine lv_icmp_gt (tgt := 512) hx hb dL_law_486 (by decide) (fun z => absurd ((nI_ltI (a := 3) (b := k9) (by omega) (by omega)).mp z) (by omega)) (fun _ => ?_)
        refine lv_iload hx hb dL_law_489 (lv_at hl 2 rfl) ?_
        refine lv_if_lt (tgt := 508) hx hb dL_law_491 (by decide) (fun z => absurd ((nI_ltI (a := k9) (b := 0) (by omega) (by omega)).mp z) (by omega)) (fun _ => ?_)
        refine lv_aload_n hx hb dL_law_494 rfl (lv_at hl 5 rfl) ?_
        refine lv_iload hx hb dL_law_495 (lv_at hl 3 rfl) ?_
        refine lv_iload hx hb dL_law_497 (lv_at hl 13 rfl) ?_
        refine lv_iconst (v := (nI 0)) hx hb dL_law_499 (by decide) ?_
        refine l_hg (As := [.ref (a 0), .int (nI t9), .int (nI m9), .int (nI 0)]) (rest := []) S (n_cpl l hl0 D a cI cL cO ht3 hm (Or.inl rfl) H.size) (vx_cwSW 4 hts gL_law_L_couples rfl rfl rfl (by decide +kernel) ⟨Nat.le_of_ble_eq_true rfl, Nat.le_of_ble_eq_true rfl⟩) hK hP1 hP2 (hD _ _ _ _) hES hEH hS hA rfl hl.1 rfl (Nat.le_of_ble_eq_true rfl) dL_law_500 ⟨by show _ ≤ 683036; omega, by show _ ≤ 7052515; omega⟩ (fun H locs hP1 hP2 hS => ?_)
        refine lv_asi (-3) (by rw [if_neg (fun q => hne q.symm), if_pos hlt]) ?_
        have hP1 := hP1.2 (Or.inr hlt)
        refine lv_bipush (v := (-3)) hx hb dL_law_503 (by decide) ?_
        refine lv_icmp_ne (tgt := 512) hx hb dL_law_505 (by decide) (fun z => absurd rfl z) (fun _ => ?_)
        refine lv_iconst (v := (nI 1)) hx hb dL_law_508 (by decide) ?_
        refine lv_goto (tgt := 513) hx hb dL_law_509 (by decide) ?_
        refine lv_istore (lv' := [(7, .int (nI 1)), (5, .int (nI k9)), (18, .int (nI k9)), (17, .int (nI t9)), (0, .ref b), (1, .ref (a 0)), (2, .ref q1), (3, .ref q2), (4, .int (nI su)), (6, .int (nI he)), (8, .int (nI T)), (9, .int (nI t)), (11, .int (nI Y)), (13, .int (nI m9)), (14, .int (nI st)), (15, .int (nI n9)), (16, .int (nI p9))]) hx hb dL_law_513 hl (by decide) rfl (fun ls hl => ?_)
        refine lv_goto (tgt := 1518) hx hb dL_law_515 (by decide) ?_
        refine W.widen (k := c9 + 200) (n := s9 + 1200) (by omega) (by omega) ?_
        exact K H _ ls I2 J h W9 Dn su k9 he ⟨hG2, hJ, hW2, hD2, hs2, hk9, hhe⟩ hP1 hP2 hS (lv_sub hl [0, 4, 5, 6, 7, 8, 1, 9, 10, 11] rfl)
      · refine lv_icmp_eq (tgt := 452) hx hb dL_law_440 (by decide) (fun z => absurd ((nI_eq (a := k9) (b := cp) (by omega) (by omega)).mp z) (by omega)) (fun _ => ?_)
        refine lv_iload hx hb dL_law_443 (lv_at hl 0 rfl) ?_
        refine lv_iload hx hb dL_law_445 (lv_at hl 7 rfl) ?_
        refine lv_iconst (v := (nI 1)) hx hb dL_law_447 (by decide) ?_
        refine lv_iadd hx hb dL_law_448 ?_
        refine lv_asi (nI (cp + 1)) (nI_add _ _) ?_
        refine lv_icmp_ne (tgt := 456) hx hb dL_law_449 (by decide) (fun z => absurd ((nI_eq (a := k9) (b := cp + 1) (by omega) (by omega)).mpr (by omega)) z) (fun _ => ?_)
        refine lv_iconst (v := (nI 1)) hx hb dL_law_452 (by decide) ?_
        refine lv_goto (tgt := 457) hx hb dL_law_453 (by decide) ?_
        refine lv_istore (lv' := [(7, .int (nI 1)), (18, .int (nI k9)), (17, .int (nI t9)), (0, .ref b), (1, .ref (a 0)), (2, .ref q1), (3, .ref q2), (4, .int (nI su)), (5, .int (nI cp)), (6, .int (nI he)), (8, .int (nI T)), (9, .int (nI t)), (11, .int (nI Y)), (13, .int (nI m9)), (14, .int (nI st)), (15, .int (nI n9)), (16, .int (nI p9))]) hx hb dL_law_457 hl (by decide) rfl (fun ls hl => ?_)
        refine lv_iload hx hb dL_law_459 (lv_at hl 1 rfl) ?_
        refine lv_if_ge (tgt := 469) hx hb dL_law_461 (by decide) (fun _ => ?_) (fun z => absurd ((nI_leI (a := 0) (b := k9) (by omega) (by omega)).mpr (by omega)) z)
        refine lv_iload hx hb dL_law_469 (lv_at hl 1 rfl) ?_
        refine lv_istore (lv' := [(5, .int (nI k9)), (7, .int (nI 1)), (18, .int (nI k9)), (17, .int (nI t9)), (0, .ref b), (1, .ref (a 0)), (2, .ref q1), (3, .ref q2), (4, .int (nI su)), (6, .int (nI he)), (8, .int (nI T)), (9, .int (nI t)), (11, .int (nI Y)), (13, .int (nI m9)), (14, .int (nI st)), (15, .int (nI n9)), (16, .int (nI p9))]) hx hb dL_law_471 hl (by decide) rfl (fun ls hl => ?_)
        refine lv_iload hx hb dL_law_473 (lv_at hl 1 rfl) ?_
        refine lv_if_eq (tgt := 512) hx hb dL_law_475 (by decide) (fun z => absurd ((nI_eq (a := 1) (b := 0) (by omega) (by omega)).mp z) (by omega)) (fun _ => ?_)
        refine lv_iload hx hb dL_law_478 (lv_at hl 0 rfl) ?_
        refine lv_if_lt (tgt := 512) hx hb dL_law_480 (by decide) (fun z => absurd ((nI_ltI (a := k9) (b := 0) (by omega) (by omega)).mp z) (by omega)) (fun _ => ?_)
        refine lv_iload hx hb dL_law_483 (lv_at hl 0 rfl) ?_
        refine lv_iconst (v := (nI 3)) hx hb dL_law_485 (by decide) ?_
        refine lv_icmp_gt (tgt := 512) hx hb dL_law_486 (by decide) (fun z => absurd ((nI_ltI (a := 3) (b := k9) (by omega) (by omega)).mp z) (by omega)) (fun _ => ?_)
        refine lv_iload hx hb dL_law_489 (lv_at hl 2 rfl) ?_
        refine lv_if_lt (tgt := 508) hx hb dL_law_491 (by decide) (fun z => absurd ((nI_ltI (a := k9) (b := 0) (by omega) (by omega)).mp z) (by omega)) (fun _ => ?_)
        refine lv_aload_n hx hb dL_law_494 rfl (lv_at hl 5 rfl) ?_
        refine lv_iload hx hb dL_law_495 (lv_at hl 3 rfl) ?_
        refine lv_iload hx hb dL_law_497 (lv_at hl 13 rfl) ?_
        refine lv_iconst (v := (nI 0)) hx hb dL_law_499 (by decide) ?_
        refine l_hg (As := [.ref (a 0), .int (nI t9), .int (nI m9), .int (nI 0)]) (rest := []) S (n_cpl l hl0 D a cI cL cO ht3 hm (Or.inl rfl) H.size) (vx_cwSW 4 hts gL_law_L_couples rfl rfl rfl (by decide +kernel) ⟨Nat.le_of_ble_eq_true rfl, Nat.le_of_ble_eq_true rfl⟩) hK hP1 hP2 (hD _ _ _ _) hES hEH hS hA rfl hl.1 rfl (Nat.le_of_ble_eq_true rfl) dL_law_500 ⟨by show _ ≤ 683036; omega, by show _ ≤ 7052515; omega⟩ (fun H locs hP1 hP2 hS => ?_)
        refine lv_asi (-3) (by rw [if_neg (fun q => hne q.symm), if_pos hlt]) ?_
        have hP1 := hP1.2 (Or.inr hlt)
        refine lv_bipush (v := (-3)) hx hb dL_law_503 (by decide) ?_
        refine lv_icmp_ne (tgt := 512) hx hb dL_law_505 (by decide) (fun z => absurd rfl z) (fun _ => ?_)
        refine lv_iconst (v := (nI 1)) hx hb dL_law_508 (by decide) ?_
        refine lv_goto (tgt := 513) hx hb dL_law_509 (by decide) ?_
        refine lv_istore (lv' := [(7, .int (nI 1)), (5, .int (nI k9)), (18, .int (nI k9)), (17, .int (nI t9)), (0, .ref b), (1, .ref (a 0)), (2, .ref q1), (3, .ref q2), (4, .int (nI su)), (6, .int (nI he)), (8, .int (nI T)), (9, .int (nI t)), (11, .int (nI Y)), (13, .int (nI m9)), (14, .int (nI st)), (15, .int (nI n9)), (16, .int (nI p9))]) hx hb dL_law_513 hl (by decide) rfl (fun ls hl => ?_)
        refine lv_goto (tgt := 1518) hx hb dL_law_515 (by decide) ?_
        refine W.widen (k := c9 + 200) (n := s9 + 1200) (by omega) (by omega) ?_
        exact K H _ ls I2 J h W9 Dn su k9 he ⟨hG2, hJ, hW2, hD2, hs2, hk9, hhe⟩ hP1 hP2 hS (lv_sub hl [0, 4, 5, 6, 7, 8, 1, 9, 10, 11] rfl)
