/-! ===== the law: one turn for each call ===== -/
set_option maxHeartbeats 4000000 in
set_option maxRecDepth 100000 in
theorem law_0 {p : Program} {l : Launch} {e : Env} {s : State} {m : MethodId} {below : List Frame} {meth : Method} {c : Code} {H : Heap} {locs : List Loc} {Q : State → Prop} {ls : Array Slot} {D : va_G} {a g : Nat → Nat} {q b L j : Nat} {cI cL cO : ClassId} {xs : Nat → Int32} {I M : Nat → Nat → Int32} {J N : Nat → Nat → Int64} {o : Nat → Int64} (C : LC p l s m c D a g q b cI cL cO L xs) (hj : 5 * j + 5 ≤ L) (hI : RI I M) (hJ : RJ J N) (hP1 : va_P D vwCl (cwL cI cL cO a q I J o) H) (hP2 : va_P D vwCl (rc g cI cL M N) H) (hS : va_S (fr s) s.heap H locs) (hl : lv_has ls 7 (lvL a g q b j)) (K : LK p l e s m below meth c Q D a g q b cI cL cO j) : W p l e room_1 s m #[Value.ref b] below meth c H locs (100 + 4 * j) (2500 + 24 * j) Q (F0 m 140 ls []) := by
  have C' := C
  obtain ⟨hl0, S, hK, hD0, hES, hEH, hX, hbl, hL⟩ := C'
  have hx := S.1
  have hb := S.2.1
  have hts := S.2.2.2.2
  have hj5 : j < 512 := by omega
  have hD : ∀ (I M : Nat → Nat → Int32) (J N : Nat → Nat → Int64) (o : Nat → Int64), va_D (fr s) (cwL cI cL cO a q I J o ++ rc g cI cL M N) := fun _ _ _ _ _ => wsD_addr hD0 rfl
  have hD1 : ∀ (I M : Nat → Nat → Int32) (J N : Nat → Nat → Int64) (o : Nat → Int64), va_D (fr s) (oc a cI cL cO I J ++ (lo1 cL q o ++ rc g cI cL M N)) := fun I M J N o => by
    rw [← List.append_assoc]
    exact hD I M J N o
  refine lv_aload_n hx hb dL_law_140 rfl (lv_at hl 1 rfl) ?_
  refine l_arg (k := 1) hx hb hX hbl hS (lv_at hl 0 rfl) (lv_at hl 4 rfl) (by decide) (by omega) hL dL_law_141 dL_law_142 dL_law_144 dL_law_145 dL_law_146 ?_
  refine l_arg (k := 2) hx hb hX hbl hS (lv_at hl 0 rfl) (lv_at hl 4 rfl) (by decide) (by omega) hL dL_law_147 dL_law_148 dL_law_150 dL_law_151 dL_law_152 ?_
  refine l_arg (k := 3) hx hb hX hbl hS (lv_at hl 0 rfl) (lv_at hl 4 rfl) (by decide) (by omega) hL dL_law_153 dL_law_154 dL_law_156 dL_law_157 dL_law_158 ?_
  refine l_arg (k := 4) hx hb hX hbl hS (lv_at hl 0 rfl) (lv_at hl 4 rfl) (by decide) (by omega) hL dL_law_159 dL_law_160 dL_law_162 dL_law_163 dL_law_164 ?_
  refine l_help (As := [.ref (a 0), .int (xs (5 * j + 1)), .int (xs (5 * j + 2)), .int (xs (5 * j + 3)), .int (xs (5 * j + 4))]) (rest := []) S (h_setRank l hl0 D a cI cL cO I J (xs (5 * j + 1)) (xs (5 * j + 2)) (xs (5 * j + 3)) (xs (5 * j + 4)) H.size) (vx_cwSW 5 hts gL_law_L_setRank rfl rfl rfl (by decide +kernel) ⟨Nat.le_of_ble_eq_true rfl, Nat.le_of_ble_eq_true rfl⟩) hK hP1.fst (hP1.snd.app hP2) (hD1 _ _ _ _ _) hES hEH hS (fun _ h => h) rfl hl.1 rfl (Nat.le_of_ble_eq_true rfl) dL_law_165 ⟨by show 100 + 4 * j + 4 ≤ 617672; omega, by show 2500 + 24 * j + 24 ≤ 7243089; omega⟩ (fun H locs h0 h1 hP3 hS => ?_)
  obtain ⟨I3, J3, o3, hP1, hU⟩ := LU.mk (o2 := o) (fun z => va_P.app (h0 z) hP3.fst) (fun z => va_P.app (h1 z) hP3.fst)
  have hP2 := hP3.snd
  refine lv_istore (lv' := (5, .int _) :: lvL a g q b j) hx hb dL_law_168 hl (by decide) rfl (fun ls hl => ?_)
  refine lv_aload_n hx hb dL_law_170 rfl (lv_at hl 3 rfl) ?_
  refine l_arg (k := 1) hx hb hX hbl hS (lv_at hl 1 rfl) (lv_at hl 5 rfl) (by decide) (by omega) hL dL_law_171 dL_law_172 dL_law_174 dL_law_175 dL_law_176 ?_
  refine l_arg (k := 2) hx hb hX hbl hS (lv_at hl 1 rfl) (lv_at hl 5 rfl) (by decide) (by omega) hL dL_law_177 dL_law_178 dL_law_180 dL_law_181 dL_law_182 ?_
  refine l_arg (k := 3) hx hb hX hbl hS (lv_at hl 1 rfl) (lv_at hl 5 rfl) (by decide) (by omega) hL dL_law_183 dL_law_184 dL_law_186 dL_law_187 dL_law_188 ?_
  refine l_arg (k := 4) hx hb hX hbl hS (lv_at hl 1 rfl) (lv_at hl 5 rfl) (by decide) (by omega) hL dL_law_189 dL_law_190 dL_law_192 dL_law_193 dL_law_194 ?_
  refine l_modv (As := [.int (xs (5 * j + 1)), .int (xs (5 * j + 2)), .int (xs (5 * j + 3)), .int (xs (5 * j + 4))]) (rest := []) S (r_setRank l D g cI cL M N (xs (5 * j + 1)) (xs (5 * j + 2)) (xs (5 * j + 3)) (xs (5 * j + 4))) (cwV 4 hts gL_law_X1_setRank rfl rfl rfl (by decide +kernel) ⟨Nat.le_of_ble_eq_true rfl, Nat.le_of_ble_eq_true rfl⟩) hK.oI hP1 hP2 (hD _ _ _ _ _) hS rfl rfl rc_at0 rfl hl.1 rfl (Nat.le_of_ble_eq_true rfl) dL_law_195 ⟨by show 100 + 4 * j + 4 ≤ 617672; omega, by show 2500 + 24 * j + 24 ≤ 7243089; omega⟩ (fun H locs hP1 hP2 hS => ?_)
  exact tl_v (t := 198) (A9 := 0) (E := 0) C (s_setRank hI hJ (xs (5 * j + 1)) (xs (5 * j + 2)) (xs (5 * j + 3)) (xs (5 * j + 4))) hP1 hU hP2 hS ⟨by omega, by omega⟩ hj5 hl dL_law_198 dL_law_199 dL_law_202 dL_law_204 dL_law_209 (by decide) K
set_option maxHeartbeats 4000000 in
set_option maxRecDepth 100000 in
theorem law_1 {p : Program} {l : Launch} {e : Env} {s : State} {m : MethodId} {below : List Frame} {meth : Method} {c : Code} {H : Heap} {locs : List Loc} {Q : State → Prop} {ls : Array Slot} {D : va_G} {a g : Nat → Nat} {q b L j : Nat} {cI cL cO : ClassId} {xs : Nat → Int32} {I M : Nat → Nat → Int32} {J N : Nat → Nat → Int64} {o : Nat → Int64} (C : LC p l s m c D a g q b cI cL cO L xs) (hj : 5 * j + 5 ≤ L) (hI : RI I M) (hJ : RJ J N) (hP1 : va_P D vwCl (cwL cI cL cO a q I J o) H) (hP2 : va_P D vwCl (rc g cI cL M N) H) (hS : va_S (fr s) s.heap H locs) (hl : lv_has ls 7 (lvL a g q b j)) (K : LK p l e s m below meth c Q D a g q b cI cL cO j) : W p l e room_1 s m #[Value.ref b] below meth c H locs (100 + 4 * j) (2500 + 24 * j) Q (F0 m 212 ls []) := by
  have C' := C
  obtain ⟨hl0, S, hK, hD0, hES, hEH, hX, hbl, hL⟩ := C'
  have hx := S.1
  have hb := S.2.1
  have hts := S.2.2.2.2
  have hj5 : j < 512 := by omega
  have hD : ∀ (I M : Nat → Nat → Int32) (J N : Nat → Nat → Int64) (o : Nat → Int64), va_D (fr s) (cwL cI cL cO a q I J o ++ rc g cI cL M N) := fun _ _ _ _ _ => wsD_addr hD0 rfl
  have hD1 : ∀ (I M : Nat → Nat → Int32) (J N : Nat → Nat → Int64) (o : Nat → Int64), va_D (fr s) (oc a cI cL cO I J ++ (lo1 cL q o ++ rc g cI cL M N)) := fun I M J N o => by
    rw [← List.append_assoc]
    exact hD I M J N o
  refine lv_aload_n hx hb dL_law_212 rfl (lv_at hl 1 rfl) ?_
  refine l_arg (k := 1) hx hb hX hbl hS (lv_at hl 0 rfl) (lv_at hl 4 rfl) (by decide) (by omega) hL dL_law_213 dL_law_214 dL_law_216 dL_law_217 dL_law_218 ?_
  refine l_arg (k := 2) hx hb hX hbl hS (lv_at hl 0 rfl) (lv_at hl 4 rfl) (by decide) (by omega) hL dL_law_219 dL_law_220 dL_law_222 dL_law_223 dL_law_224 ?_
  refine l_arg (k := 3) hx hb hX hbl hS (lv_at hl 0 rfl) (lv_at hl 4 rfl) (by decide) (by omega) hL dL_law_225 dL_law_226 dL_law_228 dL_law_229 dL_law_230 ?_
  refine l_help (As := [.ref (a 0), .int (xs (5 * j + 1)), .int (xs (5 * j + 2)), .int (xs (5 * j + 3))]) (rest := []) S (h_setStop l hl0 D a cI cL cO I J (xs (5 * j + 1)) (xs (5 * j + 2)) (xs (5 * j + 3)) H.size) (vx_cwSW 4 hts gL_law_L_setStop rfl rfl rfl (by decide +kernel) ⟨Nat.le_of_ble_eq_true rfl, Nat.le_of_ble_eq_true rfl⟩) hK hP1.fst (hP1.snd.app hP2) (hD1 _ _ _ _ _) hES hEH hS (fun _ h => h) rfl hl.1 rfl (Nat.le_of_ble_eq_true rfl) dL_law_231 ⟨by show 100 + 4 * j + 4 ≤ 617672; omega, by show 2500 + 24 * j + 24 ≤ 7243089; omega⟩ (fun H locs h0 h1 hP3 hS => ?_)
  obtain ⟨I3, J3, o3, hP1, hU⟩ := LU.mk (o2 := o) (fun z => va_P.app (h0 z) hP3.fst) (fun z => va_P.app (h1 z) hP3.fst)
  have hP2 := hP3.snd
  refine lv_istore (lv' := (5, .int _) :: lvL a g q b j) hx hb dL_law_234 hl (by decide) rfl (fun ls hl => ?_)
  refine lv_aload_n hx hb dL_law_236 rfl (lv_at hl 3 rfl) ?_
  refine l_arg (k := 1) hx hb hX hbl hS (lv_at hl 1 rfl) (lv_at hl 5 rfl) (by decide) (by omega) hL dL_law_237 dL_law_238 dL_law_240 dL_law_241 dL_law_242 ?_
  refine l_arg (k := 2) hx hb hX hbl hS (lv_at hl 1 rfl) (lv_at hl 5 rfl) (by decide) (by omega) hL dL_law_243 dL_law_244 dL_law_246 dL_law_247 dL_law_248 ?_
  refine l_arg (k := 3) hx hb hX hbl hS (lv_at hl 1 rfl) (lv_at hl 5 rfl) (by decide) (by omega) hL dL_law_249 dL_law_250 dL_law_252 dL_law_253 dL_law_254 ?_
  refine l_modv (As := [.int (xs (5 * j + 1)), .int (xs (5 * j + 2)), .int (xs (5 * j + 3))]) (rest := []) S (r_setStop l D g cI cL M N (xs (5 * j + 1)) (xs (5 * j + 2)) (xs (5 * j + 3))) (cwV 3 hts gL_law_X1_setStop rfl rfl rfl (by decide +kernel) ⟨Nat.le_of_ble_eq_true rfl, Nat.le_of_ble_eq_true rfl⟩) hK.oI hP1 hP2 (hD _ _ _ _ _) hS rfl rfl rc_at0 rfl hl.1 rfl (Nat.le_of_ble_eq_true rfl) dL_law_255 ⟨by show 100 + 4 * j + 4 ≤ 617672; omega, by show 2500 + 24 * j + 24 ≤ 7243089; omega⟩ (fun H locs hP1 hP2 hS => ?_)
  exact tl_v (t := 258) (A9 := 0) (E := 0) C (s_setStop hI hJ (xs (5 * j + 1)) (xs (5 * j + 2)) (xs (5 * j + 3))) hP1 hU hP2 hS ⟨by omega, by omega⟩ hj5 hl dL_law_258 dL_law_259 dL_law_262 dL_law_264 dL_law_269 (by decide) K
set_option maxHeartbeats 4000000 in
set_option maxRecDepth 100000 in
theorem law_2 {p : Program} {l : Launch} {e : Env} {s : State} {m : MethodId} {below : List Frame} {meth : Method} {c : Code} {H : Heap} {locs : List Loc} {Q : State → Prop} {ls : Array Slot} {D : va_G} {a g : Nat → Nat} {q b L j : Nat} {cI cL cO : ClassId} {xs : Nat → Int32} {I M : Nat → Nat → Int32} {J N : Nat → Nat → Int64} {o : Nat → Int64} (C : LC p l s m c D a g q b cI cL cO L xs) (hj : 5 * j + 5 ≤ L) (hI : RI I M) (hJ : RJ J N) (hP1 : va_P D vwCl (cwL cI cL cO a q I J o) H) (hP2 : va_P D vwCl (rc g cI cL M N) H) (hS : va_S (fr s) s.heap H locs) (hl : lv_has ls 7 (lvL a g q b j)) (K : LK p l e s m below meth c Q D a g q b cI cL cO j) : W p l e room_1 s m #[Value.ref b] below meth c H locs (100 + 4 * j) (2500 + 24 * j) Q (F0 m 272 ls []) := by
  have C' := C
  obtain ⟨hl0, S, hK, hD0, hES, hEH, hX, hbl, hL⟩ := C'
  have hx := S.1
  have hb := S.2.1
  have hts := S.2.2.2.2
  have hj5 : j < 512 := by omega
  have hD : ∀ (I M : Nat → Nat → Int32) (J N : Nat → Nat → Int64) (o : Nat → Int64), va_D (fr s) (cwL cI cL cO a q I J o ++ rc g cI cL M N) := fun _ _ _ _ _ => wsD_addr hD0 rfl
  have hD1 : ∀ (I M : Nat → Nat → Int32) (J N : Nat → Nat → Int64) (o : Nat → Int64), va_D (fr s) (oc a cI cL cO I J ++ (lo1 cL q o ++ rc g cI cL M N)) := fun I M J N o => by
    rw [← List.append_assoc]
    exact hD I M J N o
  refine lv_aload_n hx hb dL_law_272 rfl (lv_at hl 1 rfl) ?_
  refine l_arg (k := 1) hx hb hX hbl hS (lv_at hl 0 rfl) (lv_at hl 4 rfl) (by decide) (by omega) hL dL_law_273 dL_law_274 dL_law_276 dL_law_277 dL_law_278 ?_
  refine l_arg (k := 2) hx hb hX hbl hS (lv_at hl 0 rfl) (lv_at hl 4 rfl) (by decide) (by omega) hL dL_law_279 dL_law_280 dL_law_282 dL_law_283 dL_law_284 ?_
  refine l_arg (k := 3) hx hb hX hbl hS (lv_at hl 0 rfl) (lv_at hl 4 rfl) (by decide) (by omega) hL dL_law_285 dL_law_286 dL_law_288 dL_law_289 dL_law_290 ?_
  refine lv_aload_n hx hb dL_law_291 rfl (lv_at hl 3 rfl) ?_
  refine l_help (As := [.ref (a 0), .int (xs (5 * j + 1)), .int (xs (5 * j + 2)), .int (xs (5 * j + 3)), .ref q]) (rest := []) S (h_couple l hl0 D a cI cL cO I J q o (xs (5 * j + 1)) (xs (5 * j + 2)) (xs (5 * j + 3)) H.size) (vx_cwSW 5 hts gL_law_L_couple rfl rfl rfl (by decide +kernel) ⟨Nat.le_of_ble_eq_true rfl, Nat.le_of_ble_eq_true rfl⟩) hK hP1 hP2 (hD _ _ _ _ _) hES hEH hS (fun _ h => h) rfl hl.1 rfl (Nat.le_of_ble_eq_true rfl) dL_law_292 ⟨by show 100 + 4 * j + 3 ≤ 617672; omega, by show 2500 + 24 * j + 18 ≤ 7243089; omega⟩ (fun H locs h0 h1 hP2 hS => ?_)
  obtain ⟨I3, J3, o3, hP1, hU⟩ := LU.mk h0 h1
  refine lv_istore (lv' := (5, .int _) :: lvL a g q b j) hx hb dL_law_295 hl (by decide) rfl (fun ls hl => ?_)
  refine lv_aload_n hx hb dL_law_297 rfl (lv_at hl 3 rfl) ?_
  refine l_arg (k := 1) hx hb hX hbl hS (lv_at hl 1 rfl) (lv_at hl 5 rfl) (by decide) (by omega) hL dL_law_298 dL_law_299 dL_law_301 dL_law_302 dL_law_303 ?_
  refine l_arg (k := 2) hx hb hX hbl hS (lv_at hl 1 rfl) (lv_at hl 5 rfl) (by decide) (by omega) hL dL_law_304 dL_law_305 dL_law_307 dL_law_308 dL_law_309 ?_
  refine l_arg (k := 3) hx hb hX hbl hS (lv_at hl 1 rfl) (lv_at hl 5 rfl) (by decide) (by omega) hL dL_law_310 dL_law_311 dL_law_313 dL_law_314 dL_law_315 ?_
  refine l_modi (As := [.int (xs (5 * j + 1)), .int (xs (5 * j + 2)), .int (xs (5 * j + 3))]) (rest := []) S (r_couple l D g cI cL M N (xs (5 * j + 1)) (xs (5 * j + 2)) (xs (5 * j + 3))) (cwV 3 hts gL_law_X1_couple rfl rfl rfl (by decide +kernel) ⟨Nat.le_of_ble_eq_true rfl, Nat.le_of_ble_eq_true rfl⟩) hK.oI hP1 hP2 (hD _ _ _ _ _) hS rfl rfl rc_at0 rfl hl.1 rfl (Nat.le_of_ble_eq_true rfl) dL_law_316 ⟨by show 100 + 4 * j + 3 ≤ 617672; omega, by show 2500 + 24 * j + 18 ≤ 7243089; omega⟩ (fun H locs hP1 hP2 hS => ?_)
  refine lv_istore (lv' := (6, .int _) :: (5, .int _) :: lvL a g q b j) hx hb dL_law_319 hl (by decide) rfl (fun ls hl => ?_)
  exact tl_i (t := 321) C (s_couple hI hJ (xs (5 * j + 1)) (xs (5 * j + 2)) (xs (5 * j + 3))) hP1 hU hP2 hS ⟨by omega, by omega⟩ hj5 hl dL_law_321 dL_law_322 dL_law_325 dL_law_327 dL_law_332 dL_law_334 dL_law_337 dL_law_338 dL_law_339 dL_law_340 dL_law_342 dL_law_343 dL_law_344 dL_law_349 (by decide) K
set_option maxHeartbeats 4000000 in
set_option maxRecDepth 100000 in
theorem law_3 {p : Program} {l : Launch} {e : Env} {s : State} {m : MethodId} {below : List Frame} {meth : Method} {c : Code} {H : Heap} {locs : List Loc} {Q : State → Prop} {ls : Array Slot} {D : va_G} {a g : Nat → Nat} {q b L j : Nat} {cI cL cO : ClassId} {xs : Nat → Int32} {I M : Nat → Nat → Int32} {J N : Nat → Nat → Int64} {o : Nat → Int64} (C : LC p l s m c D a g q b cI cL cO L xs) (hj : 5 * j + 5 ≤ L) (hI : RI I M) (hJ : RJ J N) (hP1 : va_P D vwCl (cwL cI cL cO a q I J o) H) (hP2 : va_P D vwCl (rc g cI cL M N) H) (hS : va_S (fr s) s.heap H locs) (hl : lv_has ls 7 (lvL a g q b j)) (K : LK p l e s m below meth c Q D a g q b cI cL cO j) : W p l e room_1 s m #[Value.ref b] below meth c H locs (100 + 4 * j) (2500 + 24 * j) Q (F0 m 352 ls []) := by
  have C' := C
  obtain ⟨hl0, S, hK, hD0, hES, hEH, hX, hbl, hL⟩ := C'
  have hx := S.1
  have hb := S.2.1
  have hts := S.2.2.2.2
  have hj5 : j < 512 := by omega
  have hD : ∀ (I M : Nat → Nat → Int32) (J N : Nat → Nat → Int64) (o : Nat → Int64), va_D (fr s) (cwL cI cL cO a q I J o ++ rc g cI cL M N) := fun _ _ _ _ _ => wsD_addr hD0 rfl
  have hD1 : ∀ (I M : Nat → Nat → Int32) (J N : Nat → Nat → Int64) (o : Nat → Int64), va_D (fr s) (oc a cI cL cO I J ++ (lo1 cL q o ++ rc g cI cL M N)) := fun I M J N o => by
    rw [← List.append_assoc]
    exact hD I M J N o
  refine lv_aload_n hx hb dL_law_352 rfl (lv_at hl 1 rfl) ?_
  refine l_arg (k := 1) hx hb hX hbl hS (lv_at hl 0 rfl) (lv_at hl 4 rfl) (by decide) (by omega) hL dL_law_353 dL_law_354 dL_law_356 dL_law_357 dL_law_358 ?_
  refine l_arg (k := 2) hx hb hX hbl hS (lv_at hl 0 rfl) (lv_at hl 4 rfl) (by decide) (by omega) hL dL_law_359 dL_law_360 dL_law_362 dL_law_363 dL_law_364 ?_
  refine lv_aload_n hx hb dL_law_365 rfl (lv_at hl 3 rfl) ?_
  refine l_help (As := [.ref (a 0), .int (xs (5 * j + 1)), .int (xs (5 * j + 2)), .ref q]) (rest := []) S (h_uncouple l hl0 D a cI cL cO I J q o (xs (5 * j + 1)) (xs (5 * j + 2)) H.size) (vx_cwSW 4 hts gL_law_L_uncouple rfl rfl rfl (by decide +kernel) ⟨Nat.le_of_ble_eq_true rfl, Nat.le_of_ble_eq_true rfl⟩) hK hP1 hP2 (hD _ _ _ _ _) hES hEH hS (fun _ h => h) rfl hl.1 rfl (Nat.le_of_ble_eq_true rfl) dL_law_366 ⟨by show 100 + 4 * j + 2 ≤ 617672; omega, by show 2500 + 24 * j + 12 ≤ 7243089; omega⟩ (fun H locs h0 h1 hP2 hS => ?_)
  obtain ⟨I3, J3, o3, hP1, hU⟩ := LU.mk h0 h1
  refine lv_istore (lv' := (5, .int _) :: lvL a g q b j) hx hb dL_law_369 hl (by decide) rfl (fun ls hl => ?_)
  refine lv_aload_n hx hb dL_law_371 rfl (lv_at hl 3 rfl) ?_
  refine l_arg (k := 1) hx hb hX hbl hS (lv_at hl 1 rfl) (lv_at hl 5 rfl) (by decide) (by omega) hL dL_law_372 dL_law_373 dL_law_375 dL_law_376 dL_law_377 ?_
  refine l_arg (k := 2) hx hb hX hbl hS (lv_at hl 1 rfl) (lv_at hl 5 rfl) (by decide) (by omega) hL dL_law_378 dL_law_379 dL_law_381 dL_law_382 dL_law_383 ?_
  refine l_modi (As := [.int (xs (5 * j + 1)), .int (xs (5 * j + 2))]) (rest := []) S (r_uncouple l D g cI cL M N (xs (5 * j + 1)) (xs (5 * j + 2))) (cwV 2 hts gL_law_X1_uncouple rfl rfl rfl (by decide +kernel) ⟨Nat.le_of_ble_eq_true rfl, Nat.le_of_ble_eq_true rfl⟩) hK.oI hP1 hP2 (hD _ _ _ _ _) hS rfl rfl rc_at0 rfl hl.1 rfl (Nat.le_of_ble_eq_true rfl) dL_law_384 ⟨by show 100 + 4 * j + 2 ≤ 617672; omega, by show 2500 + 24 * j + 12 ≤ 7243089; omega⟩ (fun H locs hP1 hP2 hS => ?_)
  refine lv_istore (lv' := (6, .int _) :: (5, .int _) :: lvL a g q b j) hx hb dL_law_387 hl (by decide) rfl (fun ls hl => ?_)
  exact tl_b (t := 389) C (s_uncouple hI hJ (xs (5 * j + 1)) (xs (5 * j + 2))) hP1 hU hP2 hS ⟨by omega, by omega⟩ hj5 hl dL_law_389 dL_law_390 dL_law_393 dL_law_395 dL_law_400 dL_law_402 dL_law_405 dL_law_406 dL_law_407 dL_law_408 dL_law_410 dL_law_413 dL_law_414 dL_law_417 dL_law_418 dL_law_419 dL_law_424 (by decide) K
set_option maxHeartbeats 4000000 in
set_option maxRecDepth 100000 in
theorem law_4 {p : Program} {l : Launch} {e : Env} {s : State} {m : MethodId} {below : List Frame} {meth : Method} {c : Code} {H : Heap} {locs : List Loc} {Q : State → Prop} {ls : Array Slot} {D : va_G} {a g : Nat → Nat} {q b L j : Nat} {cI cL cO : ClassId} {xs : Nat → Int32} {I M : Nat → Nat → Int32} {J N : Nat → Nat → Int64} {o : Nat → Int64} (C : LC p l s m c D a g q b cI cL cO L xs) (hj : 5 * j + 5 ≤ L) (hI : RI I M) (hJ : RJ J N) (hP1 : va_P D vwCl (cwL cI cL cO a q I J o) H) (hP2 : va_P D vwCl (rc g cI cL M N) H) (hS : va_S (fr s) s.heap H locs) (hl : lv_has ls 7 (lvL a g q b j)) (K : LK p l e s m below meth c Q D a g q b cI cL cO j) : W p l e room_1 s m #[Value.ref b] below meth c H locs (100 + 4 * j) (2500 + 24 * j) Q (F0 m 427 ls []) := by
  have C' := C
  obtain ⟨hl0, S, hK, hD0, hES, hEH, hX, hbl, hL⟩ := C'
  have hx := S.1
  have hb := S.2.1
  have hts := S.2.2.2.2
  have hj5 : j < 512 := by omega
  have hD : ∀ (I M : Nat → Nat → Int32) (J N : Nat → Nat → Int64) (o : Nat → Int64), va_D (fr s) (cwL cI cL cO a q I J o ++ rc g cI cL M N) := fun _ _ _ _ _ => wsD_addr hD0 rfl
  have hD1 : ∀ (I M : Nat → Nat → Int32) (J N : Nat → Nat → Int64) (o : Nat → Int64), va_D (fr s) (oc a cI cL cO I J ++ (lo1 cL q o ++ rc g cI cL M N)) := fun I M J N o => by
    rw [← List.append_assoc]
    exact hD I M J N o
  refine lv_aload_n hx hb dL_law_427 rfl (lv_at hl 1 rfl) ?_
  refine l_arg (k := 1) hx hb hX hbl hS (lv_at hl 0 rfl) (lv_at hl 4 rfl) (by decide) (by omega) hL dL_law_428 dL_law_429 dL_law_431 dL_law_432 dL_law_433 ?_
  refine lv_aload_n hx hb dL_law_434 rfl (lv_at hl 3 rfl) ?_
  refine l_help (As := [.ref (a 0), .int (xs (5 * j + 1)), .ref q]) (rest := []) S (h_setSupply l hl0 D a cI cL cO I J q o (xs (5 * j + 1)) H.size) (vx_cwSW 3 hts gL_law_L_setSupply rfl rfl rfl (by decide +kernel) ⟨Nat.le_of_ble_eq_true rfl, Nat.le_of_ble_eq_true rfl⟩) hK hP1 hP2 (hD _ _ _ _ _) hES hEH hS (fun _ h => h) rfl hl.1 rfl (Nat.le_of_ble_eq_true rfl) dL_law_435 ⟨by show 100 + 4 * j + 1 ≤ 617672; omega, by show 2500 + 24 * j + 6 ≤ 7243089; omega⟩ (fun H locs h0 h1 hP2 hS => ?_)
  obtain ⟨I3, J3, o3, hP1, hU⟩ := LU.mk h0 h1
  refine lv_istore (lv' := (5, .int _) :: lvL a g q b j) hx hb dL_law_438 hl (by decide) rfl (fun ls hl => ?_)
  refine lv_aload_n hx hb dL_law_440 rfl (lv_at hl 3 rfl) ?_
  refine l_arg (k := 1) hx hb hX hbl hS (lv_at hl 1 rfl) (lv_at hl 5 rfl) (by decide) (by omega) hL dL_law_441 dL_law_442 dL_law_444 dL_law_445 dL_law_446 ?_
  refine l_modi (As := [.int (xs (5 * j + 1))]) (rest := []) S (r_setSupply l D g cI cL M N (xs (5 * j + 1))) (cwV 1 hts gL_law_X1_setSupply rfl rfl rfl (by decide +kernel) ⟨Nat.le_of_ble_eq_true rfl, Nat.le_of_ble_eq_true rfl⟩) hK.oI hP1 hP2 (hD _ _ _ _ _) hS rfl rfl rc_at0 rfl hl.1 rfl (Nat.le_of_ble_eq_true rfl) dL_law_447 ⟨by show 100 + 4 * j + 1 ≤ 617672; omega, by show 2500 + 24 * j + 6 ≤ 7243089; omega⟩ (fun H locs hP1 hP2 hS => ?_)
  refine lv_istore (lv' := (6, .int _) :: (5, .int _) :: lvL a g q b j) hx hb dL_law_450 hl (by decide) rfl (fun ls hl => ?_)
  exact tl_i (t := 452) C (s_setSupply hI hJ (xs (5 * j + 1))) hP1 hU hP2 hS ⟨by omega, by omega⟩ hj5 hl dL_law_452 dL_law_453 dL_law_456 dL_law_458 dL_law_463 dL_law_465 dL_law_468 dL_law_469 dL_law_470 dL_law_471 dL_law_473 dL_law_474 dL_law_475 dL_law_480 (by decide) K
set_option maxHeartbeats 4000000 in
set_option maxRecDepth 100000 in
theorem law_5 {p : Program} {l : Launch} {e : Env} {s : State} {m : MethodId} {below : List Frame} {meth : Method} {c : Code} {H : Heap} {locs : List Loc} {Q : State → Prop} {ls : Array Slot} {D : va_G} {a g : Nat → Nat} {q b L j : Nat} {cI cL cO : ClassId} {xs : Nat → Int32} {I M : Nat → Nat → Int32} {J N : Nat → Nat → Int64} {o : Nat → Int64} (C : LC p l s m c D a g q b cI cL cO L xs) (hj : 5 * j + 5 ≤ L) (hI : RI I M) (hJ : RJ J N) (hP1 : va_P D vwCl (cwL cI cL cO a q I J o) H) (hP2 : va_P D vwCl (rc g cI cL M N) H) (hS : va_S (fr s) s.heap H locs) (hl : lv_has ls 7 (lvL a g q b j)) (K : LK p l e s m below meth c Q D a g q b cI cL cO j) : W p l e room_1 s m #[Value.ref b] below meth c H locs (100 + 4 * j) (2500 + 24 * j) Q (F0 m 483 ls []) := by
  have C' := C
  obtain ⟨hl0, S, hK, hD0, hES, hEH, hX, hbl, hL⟩ := C'
  have hx := S.1
  have hb := S.2.1
  have hts := S.2.2.2.2
  have hj5 : j < 512 := by omega
  have hD : ∀ (I M : Nat → Nat → Int32) (J N : Nat → Nat → Int64) (o : Nat → Int64), va_D (fr s) (cwL cI cL cO a q I J o ++ rc g cI cL M N) := fun _ _ _ _ _ => wsD_addr hD0 rfl
  have hD1 : ∀ (I M : Nat → Nat → Int32) (J N : Nat → Nat → Int64) (o : Nat → Int64), va_D (fr s) (oc a cI cL cO I J ++ (lo1 cL q o ++ rc g cI cL M N)) := fun I M J N o => by
    rw [← List.append_assoc]
    exact hD I M J N o
  refine lv_aload_n hx hb dL_law_483 rfl (lv_at hl 1 rfl) ?_
  refine l_arg (k := 1) hx hb hX hbl hS (lv_at hl 0 rfl) (lv_at hl 4 rfl) (by decide) (by omega) hL dL_law_484 dL_law_485 dL_law_487 dL_law_488 dL_law_489 ?_
  refine l_arg (k := 2) hx hb hX hbl hS (lv_at hl 0 rfl) (lv_at hl 4 rfl) (by decide) (by omega) hL dL_law_490 dL_law_491 dL_law_493 dL_law_494 dL_law_495 ?_
  refine lv_aload_n hx hb dL_law_496 rfl (lv_at hl 3 rfl) ?_
  refine l_help (As := [.ref (a 0), .int (xs (5 * j + 1)), .int (xs (5 * j + 2)), .ref q]) (rest := []) S (h_setSag l hl0 D a cI cL cO I J q o (xs (5 * j + 1)) (xs (5 * j + 2)) H.size) (vx_cwSW 4 hts gL_law_L_setSag rfl rfl rfl (by decide +kernel) ⟨Nat.le_of_ble_eq_true rfl, Nat.le_of_ble_eq_true rfl⟩) hK hP1 hP2 (hD _ _ _ _ _) hES hEH hS (fun _ h => h) rfl hl.1 rfl (Nat.le_of_ble_eq_true rfl) dL_law_497 ⟨by show 100 + 4 * j + 2 ≤ 617672; omega, by show 2500 + 24 * j + 12 ≤ 7243089; omega⟩ (fun H locs h0 h1 hP2 hS => ?_)
  obtain ⟨I3, J3, o3, hP1, hU⟩ := LU.mk h0 h1
  refine lv_istore (lv' := (5, .int _) :: lvL a g q b j) hx hb dL_law_500 hl (by decide) rfl (fun ls hl => ?_)
  refine lv_aload_n hx hb dL_law_502 rfl (lv_at hl 3 rfl) ?_
  refine l_arg (k := 1) hx hb hX hbl hS (lv_at hl 1 rfl) (lv_at hl 5 rfl) (by decide) (by omega) hL dL_law_503 dL_law_504 dL_law_506 dL_law_507 dL_law_508 ?_
  refine l_arg (k := 2) hx hb hX hbl hS (lv_at hl 1 rfl) (lv_at hl 5 rfl) (by decide) (by omega) hL dL_law_509 dL_law_510 dL_law_512 dL_law_513 dL_law_514 ?_
  refine l_modi (As := [.int (xs (5 * j + 1)), .int (xs (5 * j + 2))]) (rest := []) S (r_setSag l D g cI cL M N (xs (5 * j + 1)) (xs (5 * j + 2))) (cwV 2 hts gL_law_X1_setSag rfl rfl rfl (by decide +kernel) ⟨Nat.le_of_ble_eq_true rfl, Nat.le_of_ble_eq_true rfl⟩) hK.oI hP1 hP2 (hD _ _ _ _ _) hS rfl rfl rc_at0 rfl hl.1 rfl (Nat.le_of_ble_eq_true rfl) dL_law_515 ⟨by show 100 + 4 * j + 2 ≤ 617672; omega, by show 2500 + 24 * j + 12 ≤ 7243089; omega⟩ (fun H locs hP1 hP2 hS => ?_)
  refine lv_istore (lv' := (6, .int _) :: (5, .int _) :: lvL a g q b j) hx hb dL_law_518 hl (by decide) rfl (fun ls hl => ?_)
  exact tl_i (t := 520) C (s_setSag hI hJ (xs (5 * j + 1)) (xs (5 * j + 2))) hP1 hU hP2 hS ⟨by omega, by omega⟩ hj5 hl dL_law_520 dL_law_521 dL_law_524 dL_law_526 dL_law_531 dL_law_533 dL_law_536 dL_law_537 dL_law_538 dL_law_539 dL_law_541 dL_law_542 dL_law_543 dL_law_548 (by decide) K
set_option maxHeartbeats 4000000 in
set_option maxRecDepth 100000 in
theorem law_6 {p : Program} {l : Launch} {e : Env} {s : State} {m : MethodId} {below : List Frame} {meth : Method} {c : Code} {H : Heap} {locs : List Loc} {Q : State → Prop} {ls : Array Slot} {D : va_G} {a g : Nat → Nat} {q b L j : Nat} {cI cL cO : ClassId} {xs : Nat → Int32} {I M : Nat → Nat → Int32} {J N : Nat → Nat → Int64} {o : Nat → Int64} (C : LC p l s m c D a g q b cI cL cO L xs) (hj : 5 * j + 5 ≤ L) (hI : RI I M) (hJ : RJ J N) (hP1 : va_P D vwCl (cwL cI cL cO a q I J o) H) (hP2 : va_P D vwCl (rc g cI cL M N) H) (hS : va_S (fr s) s.heap H locs) (hl : lv_has ls 7 (lvL a g q b j)) (K : LK p l e s m below meth c Q D a g q b cI cL cO j) : W p l e room_1 s m #[Value.ref b] below meth c H locs (100 + 4 * j) (2500 + 24 * j) Q (F0 m 551 ls []) := by
  have C' := C
  obtain ⟨hl0, S, hK, hD0, hES, hEH, hX, hbl, hL⟩ := C'
  have hx := S.1
  have hb := S.2.1
  have hts := S.2.2.2.2
  have hj5 : j < 512 := by omega
  have hD : ∀ (I M : Nat → Nat → Int32) (J N : Nat → Nat → Int64) (o : Nat → Int64), va_D (fr s) (cwL cI cL cO a q I J o ++ rc g cI cL M N) := fun _ _ _ _ _ => wsD_addr hD0 rfl
  have hD1 : ∀ (I M : Nat → Nat → Int32) (J N : Nat → Nat → Int64) (o : Nat → Int64), va_D (fr s) (oc a cI cL cO I J ++ (lo1 cL q o ++ rc g cI cL M N)) := fun I M J N o => by
    rw [← List.append_assoc]
    exact hD I M J N o
  refine lv_aload_n hx hb dL_law_551 rfl (lv_at hl 1 rfl) ?_
  refine l_arg (k := 1) hx hb hX hbl hS (lv_at hl 0 rfl) (lv_at hl 4 rfl) (by decide) (by omega) hL dL_law_552 dL_law_553 dL_law_555 dL_law_556 dL_law_557 ?_
  refine l_arg (k := 2) hx hb hX hbl hS (lv_at hl 0 rfl) (lv_at hl 4 rfl) (by decide) (by omega) hL dL_law_558 dL_law_559 dL_law_561 dL_law_562 dL_law_563 ?_
  refine lv_aload_n hx hb dL_law_564 rfl (lv_at hl 3 rfl) ?_
  refine l_help (As := [.ref (a 0), .int (xs (5 * j + 1)), .int (xs (5 * j + 2)), .ref q]) (rest := []) S (h_tune l hl0 D a cI cL cO I J q o (xs (5 * j + 1)) (xs (5 * j + 2)) H.size) (vx_cwSW 4 hts gL_law_L_tune rfl rfl rfl (by decide +kernel) ⟨Nat.le_of_ble_eq_true rfl, Nat.le_of_ble_eq_true rfl⟩) hK hP1 hP2 (hD _ _ _ _ _) hES hEH hS (fun _ h => h) rfl hl.1 rfl (Nat.le_of_ble_eq_true rfl) dL_law_565 ⟨by show 100 + 4 * j + 2 ≤ 617672; omega, by show 2500 + 24 * j + 12 ≤ 7243089; omega⟩ (fun H locs h0 h1 hP2 hS => ?_)
  obtain ⟨I3, J3, o3, hP1, hU⟩ := LU.mk h0 h1
  refine lv_istore (lv' := (5, .int _) :: lvL a g q b j) hx hb dL_law_568 hl (by decide) rfl (fun ls hl => ?_)
  refine lv_aload_n hx hb dL_law_570 rfl (lv_at hl 3 rfl) ?_
  refine l_arg (k := 1) hx hb hX hbl hS (lv_at hl 1 rfl) (lv_at hl 5 rfl) (by decide) (by omega) hL dL_law_571 dL_law_572 dL_law_574 dL_law_575 dL_law_576 ?_
  refine l_arg (k := 2) hx hb hX hbl hS (lv_at hl 1 rfl) (lv_at hl 5 rfl) (by decide) (by omega) hL dL_law_577 dL_law_578 dL_law_580 dL_law_581 dL_law_582 ?_
  refine l_modi (As := [.int (xs (5 * j + 1)), .int (xs (5 * j + 2))]) (rest := []) S (r_tune l D g cI cL M N (xs (5 * j + 1)) (xs (5 * j + 2))) (cwV 2 hts gL_law_X1_tune rfl rfl rfl (by decide +kernel) ⟨Nat.le_of_ble_eq_true rfl, Nat.le_of_ble_eq_true rfl⟩) hK.oI hP1 hP2 (hD _ _ _ _ _) hS rfl rfl rc_at0 rfl hl.1 rfl (Nat.le_of_ble_eq_true rfl) dL_law_583 ⟨by show 100 + 4 * j + 2 ≤ 617672; omega, by show 2500 + 24 * j + 12 ≤ 7243089; omega⟩ (fun H locs hP1 hP2 hS => ?_)
  refine lv_istore (lv' := (6, .int _) :: (5, .int _) :: lvL a g q b j) hx hb dL_law_586 hl (by decide) rfl (fun ls hl => ?_)
  exact tl_i (t := 588) C (s_tune hI hJ (xs (5 * j + 1)) (xs (5 * j + 2))) hP1 hU hP2 hS ⟨by omega, by omega⟩ hj5 hl dL_law_588 dL_law_589 dL_law_592 dL_law_594 dL_law_599 dL_law_601 dL_law_604 dL_law_605 dL_law_606 dL_law_607 dL_law_609 dL_law_610 dL_law_611 dL_law_616 (by decide) K
set_option maxHeartbeats 4000000 in
set_option maxRecDepth 100000 in
theorem law_7 {p : Program} {l : Launch} {e : Env} {s : State} {m : MethodId} {below : List Frame} {meth : Method} {c : Code} {H : Heap} {locs : List Loc} {Q : State → Prop} {ls : Array Slot} {D : va_G} {a g : Nat → Nat} {q b L j : Nat} {cI cL cO : ClassId} {xs : Nat → Int32} {I M : Nat → Nat → Int32} {J N : Nat → Nat → Int64} {o : Nat → Int64} (C : LC p l s m c D a g q b cI cL cO L xs) (hj : 5 * j + 5 ≤ L) (hI : RI I M) (hJ : RJ J N) (hP1 : va_P D vwCl (cwL cI cL cO a q I J o) H) (hP2 : va_P D vwCl (rc g cI cL M N) H) (hS : va_S (fr s) s.heap H locs) (hl : lv_has ls 7 (lvL a g q b j)) (K : LK p l e s m below meth c Q D a g q b cI cL cO j) : W p l e room_1 s m #[Value.ref b] below meth c H locs (100 + 4 * j) (2500 + 24 * j) Q (F0 m 619 ls []) := by
  have C' := C
  obtain ⟨hl0, S, hK, hD0, hES, hEH, hX, hbl, hL⟩ := C'
  have hx := S.1
  have hb := S.2.1
  have hts := S.2.2.2.2
  have hj5 : j < 512 := by omega
  have hD : ∀ (I M : Nat → Nat → Int32) (J N : Nat → Nat → Int64) (o : Nat → Int64), va_D (fr s) (cwL cI cL cO a q I J o ++ rc g cI cL M N) := fun _ _ _ _ _ => wsD_addr hD0 rfl
  have hD1 : ∀ (I M : Nat → Nat → Int32) (J N : Nat → Nat → Int64) (o : Nat → Int64), va_D (fr s) (oc a cI cL cO I J ++ (lo1 cL q o ++ rc g cI cL M N)) := fun I M J N o => by
    rw [← List.append_assoc]
    exact hD I M J N o
  refine lv_aload_n hx hb dL_law_619 rfl (lv_at hl 1 rfl) ?_
  refine l_arg (k := 1) hx hb hX hbl hS (lv_at hl 0 rfl) (lv_at hl 4 rfl) (by decide) (by omega) hL dL_law_620 dL_law_621 dL_law_623 dL_law_624 dL_law_625 ?_
  refine l_argb (k := 2) hx hb hX hbl hS (lv_at hl 0 rfl) (lv_at hl 4 rfl) (by decide) (by omega) hL dL_law_626 dL_law_627 dL_law_629 dL_law_630 dL_law_631 dL_law_632 dL_law_635 dL_law_636 dL_law_639 ?_
  refine lv_aload_n hx hb dL_law_640 rfl (lv_at hl 3 rfl) ?_
  refine l_help (As := [.ref (a 0), .int (xs (5 * j + 1)), .int (bI (!decide (xs (5 * j + 2) = 0))), .ref q]) (rest := []) S (h_draw l hl0 D a cI cL cO I J q o (xs (5 * j + 1)) (bI (!decide (xs (5 * j + 2) = 0))) H.size) (vx_cwSW 4 hts gL_law_L_draw rfl rfl rfl (by decide +kernel) ⟨Nat.le_of_ble_eq_true rfl, Nat.le_of_ble_eq_true rfl⟩) hK hP1 hP2 (hD _ _ _ _ _) hES hEH hS (fun _ h => h) rfl hl.1 rfl (Nat.le_of_ble_eq_true rfl) dL_law_641 ⟨by show 100 + 4 * j + 1 ≤ 617672; omega, by show 2500 + 24 * j + 6 ≤ 7243089; omega⟩ (fun H locs h0 h1 hP2 hS => ?_)
  obtain ⟨I3, J3, o3, hP1, hU⟩ := LU.mk h0 h1
  refine lv_istore (lv' := (5, .int _) :: lvL a g q b j) hx hb dL_law_644 hl (by decide) rfl (fun ls hl => ?_)
  refine lv_aload_n hx hb dL_law_646 rfl (lv_at hl 3 rfl) ?_
  refine l_arg (k := 1) hx hb hX hbl hS (lv_at hl 1 rfl) (lv_at hl 5 rfl) (by decide) (by omega) hL dL_law_647 dL_law_648 dL_law_650 dL_law_651 dL_law_652 ?_
  refine l_argb (k := 2) hx hb hX hbl hS (lv_at hl 1 rfl) (lv_at hl 5 rfl) (by decide) (by omega) hL dL_law_653 dL_law_654 dL_law_656 dL_law_657 dL_law_658 dL_law_659 dL_law_662 dL_law_663 dL_law_666 ?_
  refine l_modi (As := [.int (xs (5 * j + 1)), .int (bI (!decide (xs (5 * j + 2) = 0)))]) (rest := []) S (r_draw l D g cI cL M N (xs (5 * j + 1)) (bI (!decide (xs (5 * j + 2) = 0)))) (cwV 2 hts gL_law_X1_draw rfl rfl rfl (by decide +kernel) ⟨Nat.le_of_ble_eq_true rfl, Nat.le_of_ble_eq_true rfl⟩) hK.oI hP1 hP2 (hD _ _ _ _ _) hS rfl rfl rc_at0 rfl hl.1 rfl (Nat.le_of_ble_eq_true rfl) dL_law_667 ⟨by show 100 + 4 * j + 1 ≤ 617672; omega, by show 2500 + 24 * j + 6 ≤ 7243089; omega⟩ (fun H locs hP1 hP2 hS => ?_)
  refine lv_istore (lv' := (6, .int _) :: (5, .int _) :: lvL a g q b j) hx hb dL_law_670 hl (by decide) rfl (fun ls hl => ?_)
  exact tl_b (t := 672) C (s_draw hI hJ (xs (5 * j + 1)) (!decide (xs (5 * j + 2) = 0))) hP1 hU hP2 hS ⟨by omega, by omega⟩ hj5 hl dL_law_672 dL_law_673 dL_law_676 dL_law_678 dL_law_683 dL_law_685 dL_law_688 dL_law_689 dL_law_690 dL_law_691 dL_law_693 dL_law_696 dL_law_697 dL_law_700 dL_law_701 dL_law_702 dL_law_707 (by decide) K
set_option maxHeartbeats 4000000 in
set_option maxRecDepth 100000 in
theorem law_8 {p : Program} {l : Launch} {e : Env} {s : State} {m : MethodId} {below : List Frame} {meth : Method} {c : Code} {H : Heap} {locs : List Loc} {Q : State → Prop} {ls : Array Slot} {D : va_G} {a g : Nat → Nat} {q b L j : Nat} {cI cL cO : ClassId} {xs : Nat → Int32} {I M : Nat → Nat → Int32} {J N : Nat → Nat → Int64} {o : Nat → Int64} (C : LC p l s m c D a g q b cI cL cO L xs) (hj : 5 * j + 5 ≤ L) (hI : RI I M) (hJ : RJ J N) (hP1 : va_P D vwCl (cwL cI cL cO a q I J o) H) (hP2 : va_P D vwCl (rc g cI cL M N) H) (hS : va_S (fr s) s.heap H locs) (hl : lv_has ls 7 (lvL a g q b j)) (K : LK p l e s m below meth c Q D a g q b cI cL cO j) : W p l e room_1 s m #[Value.ref b] below meth c H locs (100 + 4 * j) (2500 + 24 * j) Q (F0 m 710 ls []) := by
  have C' := C
  obtain ⟨hl0, S, hK, hD0, hES, hEH, hX, hbl, hL⟩ := C'
  have hx := S.1
  have hb := S.2.1
  have hts := S.2.2.2.2
  have hj5 : j < 512 := by omega
  have hD : ∀ (I M : Nat → Nat → Int32) (J N : Nat → Nat → Int64) (o : Nat → Int64), va_D (fr s) (cwL cI cL cO a q I J o ++ rc g cI cL M N) := fun _ _ _ _ _ => wsD_addr hD0 rfl
  have hD1 : ∀ (I M : Nat → Nat → Int32) (J N : Nat → Nat → Int64) (o : Nat → Int64), va_D (fr s) (oc a cI cL cO I J ++ (lo1 cL q o ++ rc g cI cL M N)) := fun I M J N o => by
    rw [← List.append_assoc]
    exact hD I M J N o
  refine lv_aload_n hx hb dL_law_710 rfl (lv_at hl 1 rfl) ?_
  refine l_arg (k := 1) hx hb hX hbl hS (lv_at hl 0 rfl) (lv_at hl 4 rfl) (by decide) (by omega) hL dL_law_711 dL_law_712 dL_law_714 dL_law_715 dL_law_716 ?_
  refine lv_aload_n hx hb dL_law_717 rfl (lv_at hl 3 rfl) ?_
  refine l_help (As := [.ref (a 0), .int (xs (5 * j + 1)), .ref q]) (rest := []) S (h_keep l hl0 D a cI cL cO I J q o (xs (5 * j + 1)) H.size) (vx_cwSW 3 hts gL_law_L_keep rfl rfl rfl (by decide +kernel) ⟨Nat.le_of_ble_eq_true rfl, Nat.le_of_ble_eq_true rfl⟩) hK hP1 hP2 (hD _ _ _ _ _) hES hEH hS (fun _ h => h) rfl hl.1 rfl (Nat.le_of_ble_eq_true rfl) dL_law_718 ⟨by show 100 + 4 * j + 1 ≤ 617672; omega, by show 2500 + 24 * j + 6 ≤ 7243089; omega⟩ (fun H locs h0 h1 hP2 hS => ?_)
  obtain ⟨I3, J3, o3, hP1, hU⟩ := LU.mk h0 h1
  refine lv_istore (lv' := (5, .int _) :: lvL a g q b j) hx hb dL_law_721 hl (by decide) rfl (fun ls hl => ?_)
  refine lv_aload_n hx hb dL_law_723 rfl (lv_at hl 3 rfl) ?_
  refine l_arg (k := 1) hx hb hX hbl hS (lv_at hl 1 rfl) (lv_at hl 5 rfl) (by decide) (by omega) hL dL_law_724 dL_law_725 dL_law_727 dL_law_728 dL_law_729 ?_
  refine l_modi (As := [.int (xs (5 * j + 1))]) (rest := []) S (r_keep l D g cI cL M N (xs (5 * j + 1))) (cwV 1 hts gL_law_X1_keep rfl rfl rfl (by decide +kernel) ⟨Nat.le_of_ble_eq_true rfl, Nat.le_of_ble_eq_true rfl⟩) hK.oI hP1 hP2 (hD _ _ _ _ _) hS rfl rfl rc_at0 rfl hl.1 rfl (Nat.le_of_ble_eq_true rfl) dL_law_730 ⟨by show 100 + 4 * j + 1 ≤ 617672; omega, by show 2500 + 24 * j + 6 ≤ 7243089; omega⟩ (fun H locs hP1 hP2 hS => ?_)
  refine lv_istore (lv' := (6, .int _) :: (5, .int _) :: lvL a g q b j) hx hb dL_law_733 hl (by decide) rfl (fun ls hl => ?_)
  exact tl_i (t := 735) C (s_keep hI hJ (xs (5 * j + 1))) hP1 hU hP2 hS ⟨by omega, by omega⟩ hj5 hl dL_law_735 dL_law_736 dL_law_739 dL_law_741 dL_law_746 dL_law_748 dL_law_751 dL_law_752 dL_law_753 dL_law_754 dL_law_756 dL_law_757 dL_law_758 dL_law_763 (by decide) K
set_option maxHeartbeats 4000000 in
set_option maxRecDepth 100000 in
theorem law_9 {p : Program} {l : Launch} {e : Env} {s : State} {m : MethodId} {below : List Frame} {meth : Method} {c : Code} {H : Heap} {locs : List Loc} {Q : State → Prop} {ls : Array Slot} {D : va_G} {a g : Nat → Nat} {q b L j : Nat} {cI cL cO : ClassId} {xs : Nat → Int32} {I M : Nat → Nat → Int32} {J N : Nat → Nat → Int64} {o : Nat → Int64} (C : LC p l s m c D a g q b cI cL cO L xs) (hj : 5 * j + 5 ≤ L) (hI : RI I M) (hJ : RJ J N) (hP1 : va_P D vwCl (cwL cI cL cO a q I J o) H) (hP2 : va_P D vwCl (rc g cI cL M N) H) (hS : va_S (fr s) s.heap H locs) (hl : lv_has ls 7 (lvL a g q b j)) (K : LK p l e s m below meth c Q D a g q b cI cL cO j) : W p l e room_1 s m #[Value.ref b] below meth c H locs (100 + 4 * j) (2500 + 24 * j) Q (F0 m 766 ls []) := by
  have C' := C
  obtain ⟨hl0, S, hK, hD0, hES, hEH, hX, hbl, hL⟩ := C'
  have hx := S.1
  have hb := S.2.1
  have hts := S.2.2.2.2
  have hj5 : j < 512 := by omega
  have hD : ∀ (I M : Nat → Nat → Int32) (J N : Nat → Nat → Int64) (o : Nat → Int64), va_D (fr s) (cwL cI cL cO a q I J o ++ rc g cI cL M N) := fun _ _ _ _ _ => wsD_addr hD0 rfl
  have hD1 : ∀ (I M : Nat → Nat → Int32) (J N : Nat → Nat → Int64) (o : Nat → Int64), va_D (fr s) (oc a cI cL cO I J ++ (lo1 cL q o ++ rc g cI cL M N)) := fun I M J N o => by
    rw [← List.append_assoc]
    exact hD I M J N o
  refine lv_aload_n hx hb dL_law_766 rfl (lv_at hl 1 rfl) ?_
  refine l_arg (k := 1) hx hb hX hbl hS (lv_at hl 0 rfl) (lv_at hl 4 rfl) (by decide) (by omega) hL dL_law_767 dL_law_768 dL_law_770 dL_law_771 dL_law_772 ?_
  refine lv_aload_n hx hb dL_law_773 rfl (lv_at hl 3 rfl) ?_
  refine l_help (As := [.ref (a 0), .int (xs (5 * j + 1)), .ref q]) (rest := []) S (h_recall l hl0 D a cI cL cO I J q o (xs (5 * j + 1)) H.size) (vx_cwSW 3 hts gL_law_L_recall rfl rfl rfl (by decide +kernel) ⟨Nat.le_of_ble_eq_true rfl, Nat.le_of_ble_eq_true rfl⟩) hK hP1 hP2 (hD _ _ _ _ _) hES hEH hS (fun _ h => h) rfl hl.1 rfl (Nat.le_of_ble_eq_true rfl) dL_law_774 ⟨by show 100 + 4 * j + 1 ≤ 617672; omega, by show 2500 + 24 * j + 6 ≤ 7243089; omega⟩ (fun H locs h0 h1 hP2 hS => ?_)
  obtain ⟨I3, J3, o3, hP1, hU⟩ := LU.mk h0 h1
  refine lv_istore (lv' := (5, .int _) :: lvL a g q b j) hx hb dL_law_777 hl (by decide) rfl (fun ls hl => ?_)
  refine lv_aload_n hx hb dL_law_779 rfl (lv_at hl 3 rfl) ?_
  refine l_arg (k := 1) hx hb hX hbl hS (lv_at hl 1 rfl) (lv_at hl 5 rfl) (by decide) (by omega) hL dL_law_780 dL_law_781 dL_law_783 dL_law_784 dL_law_785 ?_
  refine l_modi (As := [.int (xs (5 * j + 1))]) (rest := []) S (r_recall l D g cI cL M N (xs (5 * j + 1))) (cwV 1 hts gL_law_X1_recall rfl rfl rfl (by decide +kernel) ⟨Nat.le_of_ble_eq_true rfl, Nat.le_of_ble_eq_true rfl⟩) hK.oI hP1 hP2 (hD _ _ _ _ _) hS rfl rfl rc_at0 rfl hl.1 rfl (Nat.le_of_ble_eq_true rfl) dL_law_786 ⟨by show 100 + 4 * j + 1 ≤ 617672; omega, by show 2500 + 24 * j + 6 ≤ 7243089; omega⟩ (fun H locs hP1 hP2 hS => ?_)
  refine lv_istore (lv' := (6, .int _) :: (5, .int _) :: lvL a g q b j) hx hb dL_law_789 hl (by decide) rfl (fun ls hl => ?_)
  exact tl_i (t := 791) C (s_recall hI hJ (xs (5 * j + 1))) hP1 hU hP2 hS ⟨by omega, by omega⟩ hj5 hl dL_law_791 dL_law_792 dL_law_795 dL_law_797 dL_law_802 dL_law_804 dL_law_807 dL_law_808 dL_law_809 dL_law_810 dL_law_812 dL_law_813 dL_law_814 dL_law_819 (by decide) K
set_option maxHeartbeats 4000000 in
set_option maxRecDepth 100000 in
theorem law_10 {p : Program} {l : Launch} {e : Env} {s : State} {m : MethodId} {below : List Frame} {meth : Method} {c : Code} {H : Heap} {locs : List Loc} {Q : State → Prop} {ls : Array Slot} {D : va_G} {a g : Nat → Nat} {q b L j : Nat} {cI cL cO : ClassId} {xs : Nat → Int32} {I M : Nat → Nat → Int32} {J N : Nat → Nat → Int64} {o : Nat → Int64} (C : LC p l s m c D a g q b cI cL cO L xs) (hj : 5 * j + 5 ≤ L) (hI : RI I M) (hJ : RJ J N) (hP1 : va_P D vwCl (cwL cI cL cO a q I J o) H) (hP2 : va_P D vwCl (rc g cI cL M N) H) (hS : va_S (fr s) s.heap H locs) (hl : lv_has ls 7 (lvL a g q b j)) (K : LK p l e s m below meth c Q D a g q b cI cL cO j) : W p l e room_1 s m #[Value.ref b] below meth c H locs (100 + 4 * j) (2500 + 24 * j) Q (F0 m 822 ls []) := by
  have C' := C
  obtain ⟨hl0, S, hK, hD0, hES, hEH, hX, hbl, hL⟩ := C'
  have hx := S.1
  have hb := S.2.1
  have hts := S.2.2.2.2
  have hj5 : j < 512 := by omega
  have hD : ∀ (I M : Nat → Nat → Int32) (J N : Nat → Nat → Int64) (o : Nat → Int64), va_D (fr s) (cwL cI cL cO a q I J o ++ rc g cI cL M N) := fun _ _ _ _ _ => wsD_addr hD0 rfl
  have hD1 : ∀ (I M : Nat → Nat → Int32) (J N : Nat → Nat → Int64) (o : Nat → Int64), va_D (fr s) (oc a cI cL cO I J ++ (lo1 cL q o ++ rc g cI cL M N)) := fun I M J N o => by
    rw [← List.append_assoc]
    exact hD I M J N o
  refine lv_aload_n hx hb dL_law_822 rfl (lv_at hl 1 rfl) ?_
  refine l_arg (k := 1) hx hb hX hbl hS (lv_at hl 0 rfl) (lv_at hl 4 rfl) (by decide) (by omega) hL dL_law_823 dL_law_824 dL_law_826 dL_law_827 dL_law_828 ?_
  refine l_arg (k := 2) hx hb hX hbl hS (lv_at hl 0 rfl) (lv_at hl 4 rfl) (by decide) (by omega) hL dL_law_829 dL_law_830 dL_law_832 dL_law_833 dL_law_834 ?_
  refine l_argb (k := 3) hx hb hX hbl hS (lv_at hl 0 rfl) (lv_at hl 4 rfl) (by decide) (by omega) hL dL_law_835 dL_law_836 dL_law_838 dL_law_839 dL_law_840 dL_law_841 dL_law_844 dL_law_845 dL_law_848 ?_
  refine lv_aload_n hx hb dL_law_849 rfl (lv_at hl 3 rfl) ?_
  refine l_help (As := [.ref (a 0), .int (xs (5 * j + 1)), .int (xs (5 * j + 2)), .int (bI (!decide (xs (5 * j + 3) = 0))), .ref q]) (rest := []) S (h_hold l hl0 D a cI cL cO I J q o (xs (5 * j + 1)) (xs (5 * j + 2)) (bI (!decide (xs (5 * j + 3) = 0))) H.size) (vx_cwSW 5 hts gL_law_L_hold rfl rfl rfl (by decide +kernel) ⟨Nat.le_of_ble_eq_true rfl, Nat.le_of_ble_eq_true rfl⟩) hK hP1 hP2 (hD _ _ _ _ _) hES hEH hS (fun _ h => h) rfl hl.1 rfl (Nat.le_of_ble_eq_true rfl) dL_law_850 ⟨by show 100 + 4 * j + 2 ≤ 617672; omega, by show 2500 + 24 * j + 12 ≤ 7243089; omega⟩ (fun H locs h0 h1 hP2 hS => ?_)
  obtain ⟨I3, J3, o3, hP1, hU⟩ := LU.mk h0 h1
  refine lv_istore (lv' := (5, .int _) :: lvL a g q b j) hx hb dL_law_853 hl (by decide) rfl (fun ls hl => ?_)
  refine lv_aload_n hx hb dL_law_855 rfl (lv_at hl 3 rfl) ?_
  refine l_arg (k := 1) hx hb hX hbl hS (lv_at hl 1 rfl) (lv_at hl 5 rfl) (by decide) (by omega) hL dL_law_856 dL_law_857 dL_law_859 dL_law_860 dL_law_861 ?_
  refine l_arg (k := 2) hx hb hX hbl hS (lv_at hl 1 rfl) (lv_at hl 5 rfl) (by decide) (by omega) hL dL_law_862 dL_law_863 dL_law_865 dL_law_866 dL_law_867 ?_
  refine l_argb (k := 3) hx hb hX hbl hS (lv_at hl 1 rfl) (lv_at hl 5 rfl) (by decide) (by omega) hL dL_law_868 dL_law_869 dL_law_871 dL_law_872 dL_law_873 dL_law_874 dL_law_877 dL_law_878 dL_law_881 ?_
  refine l_modi (As := [.int (xs (5 * j + 1)), .int (xs (5 * j + 2)), .int (bI (!decide (xs (5 * j + 3) = 0)))]) (rest := []) S (r_hold l D g cI cL M N (xs (5 * j + 1)) (xs (5 * j + 2)) (bI (!decide (xs (5 * j + 3) = 0)))) (cwV 3 hts gL_law_X1_hold rfl rfl rfl (by decide +kernel) ⟨Nat.le_of_ble_eq_true rfl, Nat.le_of_ble_eq_true rfl⟩) hK.oI hP1 hP2 (hD _ _ _ _ _) hS rfl rfl rc_at0 rfl hl.1 rfl (Nat.le_of_ble_eq_true rfl) dL_law_882 ⟨by show 100 + 4 * j + 2 ≤ 617672; omega, by show 2500 + 24 * j + 12 ≤ 7243089; omega⟩ (fun H locs hP1 hP2 hS => ?_)
  refine lv_istore (lv' := (6, .int _) :: (5, .int _) :: lvL a g q b j) hx hb dL_law_885 hl (by decide) rfl (fun ls hl => ?_)
  exact tl_b (t := 887) C (s_hold hI hJ (xs (5 * j + 1)) (xs (5 * j + 2)) (!decide (xs (5 * j + 3) = 0))) hP1 hU hP2 hS ⟨by omega, by omega⟩ hj5 hl dL_law_887 dL_law_888 dL_law_891 dL_law_893 dL_law_898 dL_law_900 dL_law_903 dL_law_904 dL_law_905 dL_law_906 dL_law_908 dL_law_911 dL_law_912 dL_law_915 dL_law_916 dL_law_917 dL_law_922 (by decide) K
set_option maxHeartbeats 4000000 in
set_option maxRecDepth 100000 in
theorem law_11 {p : Program} {l : Launch} {e : Env} {s : State} {m : MethodId} {below : List Frame} {meth : Method} {c : Code} {H : Heap} {locs : List Loc} {Q : State → Prop} {ls : Array Slot} {D : va_G} {a g : Nat → Nat} {q b L j : Nat} {cI cL cO : ClassId} {xs : Nat → Int32} {I M : Nat → Nat → Int32} {J N : Nat → Nat → Int64} {o : Nat → Int64} (C : LC p l s m c D a g q b cI cL cO L xs) (hj : 5 * j + 5 ≤ L) (hI : RI I M) (hJ : RJ J N) (hP1 : va_P D vwCl (cwL cI cL cO a q I J o) H) (hP2 : va_P D vwCl (rc g cI cL M N) H) (hS : va_S (fr s) s.heap H locs) (hl : lv_has ls 7 (lvL a g q b j)) (K : LK p l e s m below meth c Q D a g q b cI cL cO j) : W p l e room_1 s m #[Value.ref b] below meth c H locs (100 + 4 * j) (2500 + 24 * j) Q (F0 m 925 ls []) := by
  have C' := C
  obtain ⟨hl0, S, hK, hD0, hES, hEH, hX, hbl, hL⟩ := C'
  have hx := S.1
  have hb := S.2.1
  have hts := S.2.2.2.2
  have hj5 : j < 512 := by omega
  have hD : ∀ (I M : Nat → Nat → Int32) (J N : Nat → Nat → Int64) (o : Nat → Int64), va_D (fr s) (cwL cI cL cO a q I J o ++ rc g cI cL M N) := fun _ _ _ _ _ => wsD_addr hD0 rfl
  have hD1 : ∀ (I M : Nat → Nat → Int32) (J N : Nat → Nat → Int64) (o : Nat → Int64), va_D (fr s) (oc a cI cL cO I J ++ (lo1 cL q o ++ rc g cI cL M N)) := fun I M J N o => by
    rw [← List.append_assoc]
    exact hD I M J N o
  refine lv_aload_n hx hb dL_law_925 rfl (lv_at hl 1 rfl) ?_
  refine l_cls (As := []) (rest := []) S (c_letGo l D a cI cL cO I J) (cwV 0 hts gL_law_X0_letGo rfl rfl rfl (by decide +kernel) ⟨Nat.le_of_ble_eq_true rfl, Nat.le_of_ble_eq_true rfl⟩) hK hP1.fst (hP1.snd.app hP2) (hD1 _ _ _ _ _) hS rfl rfl oc_at0 rfl hl.1 rfl (Nat.le_of_ble_eq_true rfl) dL_law_926 ⟨by show 100 + 4 * j ≤ 617672; omega, by show 2500 + 24 * j ≤ 7243089; omega⟩ (fun H locs hP1 hP3 hS => ?_)
  have hP1 := va_P.app hP1 hP3.fst
  refine lv_aload_n hx hb dL_law_929 rfl (lv_at hl 2 rfl) ?_
  refine l_modi (As := []) S (r_letGo l D g cI cL M N) (cwV 0 hts gL_law_X1_letGo rfl rfl rfl (by decide +kernel) ⟨Nat.le_of_ble_eq_true rfl, Nat.le_of_ble_eq_true rfl⟩) hK.oI hP1 hP3.snd (hD _ _ _ _ _) hS rfl rfl rc_at0 rfl hl.1 rfl (Nat.le_of_ble_eq_true rfl) dL_law_930 ⟨by show 100 + 4 * j ≤ 617672; omega, by show 2500 + 24 * j ≤ 7243089; omega⟩ (fun H locs hP1 hP2 hS => ?_)
  refine lv_icmp_eq (tgt := 1381) hx hb dL_law_933 (by decide) (fun _ => ?_) (fun z => absurd (lg_eq hJ 3 (Nat.le_refl _)) z)
  exact W.widen (by omega) (by omega) (K H locs ls _ _ _ _ _ hI.t (lg_RJ J N) hP1 hP2 hS hl)
set_option maxHeartbeats 4000000 in
set_option maxRecDepth 100000 in
theorem law_12 {p : Program} {l : Launch} {e : Env} {s : State} {m : MethodId} {below : List Frame} {meth : Method} {c : Code} {H : Heap} {locs : List Loc} {Q : State → Prop} {ls : Array Slot} {D : va_G} {a g : Nat → Nat} {q b L j : Nat} {cI cL cO : ClassId} {xs : Nat → Int32} {I M : Nat → Nat → Int32} {J N : Nat → Nat → Int64} {o : Nat → Int64} (C : LC p l s m c D a g q b cI cL cO L xs) (hj : 5 * j + 5 ≤ L) (hI : RI I M) (hJ : RJ J N) (hP1 : va_P D vwCl (cwL cI cL cO a q I J o) H) (hP2 : va_P D vwCl (rc g cI cL M N) H) (hS : va_S (fr s) s.heap H locs) (hl : lv_has ls 7 (lvL a g q b j)) (K : LK p l e s m below meth c Q D a g q b cI cL cO j) : W p l e room_1 s m #[Value.ref b] below meth c H locs (100 + 4 * j) (2500 + 24 * j) Q (F0 m 938 ls []) := by
  have C' := C
  obtain ⟨hl0, S, hK, hD0, hES, hEH, hX, hbl, hL⟩ := C'
  have hx := S.1
  have hb := S.2.1
  have hts := S.2.2.2.2
  have hj5 : j < 512 := by omega
  have hD : ∀ (I M : Nat → Nat → Int32) (J N : Nat → Nat → Int64) (o : Nat → Int64), va_D (fr s) (cwL cI cL cO a q I J o ++ rc g cI cL M N) := fun _ _ _ _ _ => wsD_addr hD0 rfl
  have hD1 : ∀ (I M : Nat → Nat → Int32) (J N : Nat → Nat → Int64) (o : Nat → Int64), va_D (fr s) (oc a cI cL cO I J ++ (lo1 cL q o ++ rc g cI cL M N)) := fun I M J N o => by
    rw [← List.append_assoc]
    exact hD I M J N o
  refine lv_aload_n hx hb dL_law_938 rfl (lv_at hl 1 rfl) ?_
  refine l_arg (k := 1) hx hb hX hbl hS (lv_at hl 0 rfl) (lv_at hl 4 rfl) (by decide) (by omega) hL dL_law_939 dL_law_940 dL_law_942 dL_law_943 dL_law_944 ?_
  refine lv_aload_n hx hb dL_law_945 rfl (lv_at hl 3 rfl) ?_
  refine l_help (As := [.ref (a 0), .int (xs (5 * j + 1)), .ref q]) (rest := []) S (h_sound l hl0 D a cI cL cO I J q o (xs (5 * j + 1)) H.size) (vx_cwSW 3 hts gL_law_L_sound rfl rfl rfl (by decide +kernel) ⟨Nat.le_of_ble_eq_true rfl, Nat.le_of_ble_eq_true rfl⟩) hK hP1 hP2 (hD _ _ _ _ _) hES hEH hS (fun _ h => h) rfl hl.1 rfl (Nat.le_of_ble_eq_true rfl) dL_law_946 ⟨by show 100 + 4 * j + 1 ≤ 617672; omega, by show 2500 + 24 * j + 6 ≤ 7243089; omega⟩ (fun H locs h0 h1 hP2 hS => ?_)
  obtain ⟨I3, J3, o3, hP1, hU⟩ := LU.mk h0 h1
  refine lv_istore (lv' := (5, .int _) :: lvL a g q b j) hx hb dL_law_949 hl (by decide) rfl (fun ls hl => ?_)
  refine lv_aload_n hx hb dL_law_951 rfl (lv_at hl 3 rfl) ?_
  refine l_arg (k := 1) hx hb hX hbl hS (lv_at hl 1 rfl) (lv_at hl 5 rfl) (by decide) (by omega) hL dL_law_952 dL_law_953 dL_law_955 dL_law_956 dL_law_957 ?_
  refine l_modi (As := [.int (xs (5 * j + 1))]) (rest := []) S (r_sound l D g cI cL M N (xs (5 * j + 1)) hI.ok) (cwV 1 hts gL_law_X1_sound rfl rfl rfl (by decide +kernel) ⟨Nat.le_of_ble_eq_true rfl, Nat.le_of_ble_eq_true rfl⟩) hK.oI hP1 hP2 (hD _ _ _ _ _) hS rfl rfl rc_at0 rfl hl.1 rfl (Nat.le_of_ble_eq_true rfl) dL_law_958 ⟨by show 100 + 4 * j + 1 ≤ 617672; omega, by show 2500 + 24 * j + 6 ≤ 7243089; omega⟩ (fun H locs hP1 hP2 hS => ?_)
  refine lv_istore (lv' := (6, .int _) :: (5, .int _) :: lvL a g q b j) hx hb dL_law_961 hl (by decide) rfl (fun ls hl => ?_)
  exact tl_i (t := 963) C (s_sound hI hJ (xs (5 * j + 1))) hP1 hU hP2 hS ⟨by omega, by omega⟩ hj5 hl dL_law_963 dL_law_964 dL_law_967 dL_law_969 dL_law_974 dL_law_976 dL_law_979 dL_law_980 dL_law_981 dL_law_982 dL_law_984 dL_law_985 dL_law_986 dL_law_991 (by decide) K
set_option maxHeartbeats 4000000 in
set_option maxRecDepth 100000 in
theorem law_13 {p : Program} {l : Launch} {e : Env} {s : State} {m : MethodId} {below : List Frame} {meth : Method} {c : Code} {H : Heap} {locs : List Loc} {Q : State → Prop} {ls : Array Slot} {D : va_G} {a g : Nat → Nat} {q b L j : Nat} {cI cL cO : ClassId} {xs : Nat → Int32} {I M : Nat → Nat → Int32} {J N : Nat → Nat → Int64} {o : Nat → Int64} (C : LC p l s m c D a g q b cI cL cO L xs) (hj : 5 * j + 5 ≤ L) (hI : RI I M) (hJ : RJ J N) (hP1 : va_P D vwCl (cwL cI cL cO a q I J o) H) (hP2 : va_P D vwCl (rc g cI cL M N) H) (hS : va_S (fr s) s.heap H locs) (hl : lv_has ls 7 (lvL a g q b j)) (K : LK p l e s m below meth c Q D a g q b cI cL cO j) : W p l e room_1 s m #[Value.ref b] below meth c H locs (100 + 4 * j) (2500 + 24 * j) Q (F0 m 994 ls []) := by
  have C' := C
  obtain ⟨hl0, S, hK, hD0, hES, hEH, hX, hbl, hL⟩ := C'
  have hx := S.1
  have hb := S.2.1
  have hts := S.2.2.2.2
  have hj5 : j < 512 := by omega
  have hD : ∀ (I M : Nat → Nat → Int32) (J N : Nat → Nat → Int64) (o : Nat → Int64), va_D (fr s) (cwL cI cL cO a q I J o ++ rc g cI cL M N) := fun _ _ _ _ _ => wsD_addr hD0 rfl
  have hD1 : ∀ (I M : Nat → Nat → Int32) (J N : Nat → Nat → Int64) (o : Nat → Int64), va_D (fr s) (oc a cI cL cO I J ++ (lo1 cL q o ++ rc g cI cL M N)) := fun I M J N o => by
    rw [← List.append_assoc]
    exact hD I M J N o
  refine lv_aload_n hx hb dL_law_994 rfl (lv_at hl 1 rfl) ?_
  refine l_arg (k := 1) hx hb hX hbl hS (lv_at hl 0 rfl) (lv_at hl 4 rfl) (by decide) (by omega) hL dL_law_995 dL_law_996 dL_law_998 dL_law_999 dL_law_1000 ?_
  refine lv_aload_n hx hb dL_law_1001 rfl (lv_at hl 3 rfl) ?_
  refine l_help (As := [.ref (a 0), .int (xs (5 * j + 1)), .ref q]) (rest := []) S (h_repair l hl0 D a cI cL cO I J q o (xs (5 * j + 1)) H.size) (vx_cwSW 3 hts gL_law_L_repair rfl rfl rfl (by decide +kernel) ⟨Nat.le_of_ble_eq_true rfl, Nat.le_of_ble_eq_true rfl⟩) hK hP1 hP2 (hD _ _ _ _ _) hES hEH hS (fun _ h => h) rfl hl.1 rfl (Nat.le_of_ble_eq_true rfl) dL_law_1002 ⟨by show 100 + 4 * j + 1 ≤ 617672; omega, by show 2500 + 24 * j + 6 ≤ 7243089; omega⟩ (fun H locs h0 h1 hP2 hS => ?_)
  obtain ⟨I3, J3, o3, hP1, hU⟩ := LU.mk h0 h1
  refine lv_istore (lv' := (5, .int _) :: lvL a g q b j) hx hb dL_law_1005 hl (by decide) rfl (fun ls hl => ?_)
  refine lv_aload_n hx hb dL_law_1007 rfl (lv_at hl 3 rfl) ?_
  refine l_arg (k := 1) hx hb hX hbl hS (lv_at hl 1 rfl) (lv_at hl 5 rfl) (by decide) (by omega) hL dL_law_1008 dL_law_1009 dL_law_1011 dL_law_1012 dL_law_1013 ?_
  refine l_modi (As := [.int (xs (5 * j + 1))]) (rest := []) S (r_repair l D g cI cL M N (xs (5 * j + 1))) (cwV 1 hts gL_law_X1_repair rfl rfl rfl (by decide +kernel) ⟨Nat.le_of_ble_eq_true rfl, Nat.le_of_ble_eq_true rfl⟩) hK.oI hP1 hP2 (hD _ _ _ _ _) hS rfl rfl rc_at0 rfl hl.1 rfl (Nat.le_of_ble_eq_true rfl) dL_law_1014 ⟨by show 100 + 4 * j + 1 ≤ 617672; omega, by show 2500 + 24 * j + 6 ≤ 7243089; omega⟩ (fun H locs hP1 hP2 hS => ?_)
  refine lv_istore (lv' := (6, .int _) :: (5, .int _) :: lvL a g q b j) hx hb dL_law_1017 hl (by decide) rfl (fun ls hl => ?_)
  exact tl_i (t := 1019) C (s_repair hI hJ (xs (5 * j + 1))) hP1 hU hP2 hS ⟨by omega, by omega⟩ hj5 hl dL_law_1019 dL_law_1020 dL_law_1023 dL_law_1025 dL_law_1030 dL_law_1032 dL_law_1035 dL_law_1036 dL_law_1037 dL_law_1038 dL_law_1040 dL_law_1041 dL_law_1042 dL_law_1047 (by decide) K
set_option maxHeartbeats 4000000 in
set_option maxRecDepth 100000 in
theorem law_14 {p : Program} {l : Launch} {e : Env} {s : State} {m : MethodId} {below : List Frame} {meth : Method} {c : Code} {H : Heap} {locs : List Loc} {Q : State → Prop} {ls : Array Slot} {D : va_G} {a g : Nat → Nat} {q b L j : Nat} {cI cL cO : ClassId} {xs : Nat → Int32} {I M : Nat → Nat → Int32} {J N : Nat → Nat → Int64} {o : Nat → Int64} (C : LC p l s m c D a g q b cI cL cO L xs) (hj : 5 * j + 5 ≤ L) (hI : RI I M) (hJ : RJ J N) (hP1 : va_P D vwCl (cwL cI cL cO a q I J o) H) (hP2 : va_P D vwCl (rc g cI cL M N) H) (hS : va_S (fr s) s.heap H locs) (hl : lv_has ls 7 (lvL a g q b j)) (K : LK p l e s m below meth c Q D a g q b cI cL cO j) : W p l e room_1 s m #[Value.ref b] below meth c H locs (100 + 4 * j) (2500 + 24 * j) Q (F0 m 1050 ls []) := by
  have C' := C
  obtain ⟨hl0, S, hK, hD0, hES, hEH, hX, hbl, hL⟩ := C'
  have hx := S.1
  have hb := S.2.1
  have hts := S.2.2.2.2
  have hj5 : j < 512 := by omega
  have hD : ∀ (I M : Nat → Nat → Int32) (J N : Nat → Nat → Int64) (o : Nat → Int64), va_D (fr s) (cwL cI cL cO a q I J o ++ rc g cI cL M N) := fun _ _ _ _ _ => wsD_addr hD0 rfl
  have hD1 : ∀ (I M : Nat → Nat → Int32) (J N : Nat → Nat → Int64) (o : Nat → Int64), va_D (fr s) (oc a cI cL cO I J ++ (lo1 cL q o ++ rc g cI cL M N)) := fun I M J N o => by
    rw [← List.append_assoc]
    exact hD I M J N o
  refine lv_aload_n hx hb dL_law_1050 rfl (lv_at hl 1 rfl) ?_
  have S9 := snd_now (M := tI M 0) hI.t hJ
  refine l_cls (As := []) (rest := []) S (c_pipes l D a cI cL cO I J) (cwV 0 hts gL_law_X0_pipes rfl rfl rfl (by decide +kernel) ⟨Nat.le_of_ble_eq_true rfl, Nat.le_of_ble_eq_true rfl⟩) hK hP1.fst (hP1.snd.app hP2) (hD1 _ _ _ _ _) hS rfl rfl oc_at0 rfl hl.1 rfl (Nat.le_of_ble_eq_true rfl) dL_law_1051 ⟨by show 100 + 4 * j ≤ 617672; omega, by show 2500 + 24 * j ≤ 7243089; omega⟩ (fun H locs hP1 hP3 hS => ?_)
  have hP1 := va_P.app hP1 hP3.fst
  refine lv_aload_n hx hb dL_law_1054 rfl (lv_at hl 2 rfl) ?_
  refine l_modi (As := []) S (r_pipes l D g cI cL M N hI.ok) (cwV 0 hts gL_law_X1_pipes rfl rfl rfl (by decide +kernel) ⟨Nat.le_of_ble_eq_true rfl, Nat.le_of_ble_eq_true rfl⟩) hK.oI hP1 hP3.snd (hD _ _ _ _ _) hS rfl rfl rc_at0 rfl hl.1 rfl (Nat.le_of_ble_eq_true rfl) dL_law_1055 ⟨by show 100 + 4 * j ≤ 617672; omega, by show 2500 + 24 * j ≤ 7243089; omega⟩ (fun H locs hP1 hP2 hS => ?_)
  refine lv_icmp_eq (tgt := 1381) hx hb dL_law_1058 (by decide) (fun _ => ?_) (fun z => absurd (cs_eq 6 S9.1) z)
  exact W.widen (by omega) (by omega) (K H locs ls _ _ _ _ _ hI.t (hJ.of S9.2.2.1 S9.2.2.2) hP1 hP2 hS hl)
set_option maxHeartbeats 4000000 in
set_option maxRecDepth 100000 in
theorem law_15 {p : Program} {l : Launch} {e : Env} {s : State} {m : MethodId} {below : List Frame} {meth : Method} {c : Code} {H : Heap} {locs : List Loc} {Q : State → Prop} {ls : Array Slot} {D : va_G} {a g : Nat → Nat} {q b L j : Nat} {cI cL cO : ClassId} {xs : Nat → Int32} {I M : Nat → Nat → Int32} {J N : Nat → Nat → Int64} {o : Nat → Int64} (C : LC p l s m c D a g q b cI cL cO L xs) (hj : 5 * j + 5 ≤ L) (hI : RI I M) (hJ : RJ J N) (hP1 : va_P D vwCl (cwL cI cL cO a q I J o) H) (hP2 : va_P D vwCl (rc g cI cL M N) H) (hS : va_S (fr s) s.heap H locs) (hl : lv_has ls 7 (lvL a g q b j)) (K : LK p l e s m below meth c Q D a g q b cI cL cO j) : W p l e room_1 s m #[Value.ref b] below meth c H locs (100 + 4 * j) (2500 + 24 * j) Q (F0 m 1063 ls []) := by
  have C' := C
  obtain ⟨hl0, S, hK, hD0, hES, hEH, hX, hbl, hL⟩ := C'
  have hx := S.1
  have hb := S.2.1
  have hts := S.2.2.2.2
  have hj5 : j < 512 := by omega
  have hD : ∀ (I M : Nat → Nat → Int32) (J N : Nat → Nat → Int64) (o : Nat → Int64), va_D (fr s) (cwL cI cL cO a q I J o ++ rc g cI cL M N) := fun _ _ _ _ _ => wsD_addr hD0 rfl
  have hD1 : ∀ (I M : Nat → Nat → Int32) (J N : Nat → Nat → Int64) (o : Nat → Int64), va_D (fr s) (oc a cI cL cO I J ++ (lo1 cL q o ++ rc g cI cL M N)) := fun I M J N o => by
    rw [← List.append_assoc]
    exact hD I M J N o
  refine lv_aload_n hx hb dL_law_1063 rfl (lv_at hl 1 rfl) ?_
  refine l_arg (k := 1) hx hb hX hbl hS (lv_at hl 0 rfl) (lv_at hl 4 rfl) (by decide) (by omega) hL dL_law_1064 dL_law_1065 dL_law_1067 dL_law_1068 dL_law_1069 ?_
  refine l_arg (k := 2) hx hb hX hbl hS (lv_at hl 0 rfl) (lv_at hl 4 rfl) (by decide) (by omega) hL dL_law_1070 dL_law_1071 dL_law_1073 dL_law_1074 dL_law_1075 ?_
  refine lv_aload_n hx hb dL_law_1076 rfl (lv_at hl 3 rfl) ?_
  refine l_help (As := [.ref (a 0), .int (xs (5 * j + 1)), .int (xs (5 * j + 2)), .ref q]) (rest := []) S (h_sounds l hl0 D a cI cL cO I J q o (xs (5 * j + 1)) (xs (5 * j + 2)) H.size) (vx_cwSW 4 hts gL_law_L_sounds rfl rfl rfl (by decide +kernel) ⟨Nat.le_of_ble_eq_true rfl, Nat.le_of_ble_eq_true rfl⟩) hK hP1 hP2 (hD _ _ _ _ _) hES hEH hS (fun _ h => h) rfl hl.1 rfl (Nat.le_of_ble_eq_true rfl) dL_law_1077 ⟨by show 100 + 4 * j + 2 ≤ 617672; omega, by show 2500 + 24 * j + 12 ≤ 7243089; omega⟩ (fun H locs h0 h1 hP2 hS => ?_)
  obtain ⟨I3, J3, o3, hP1, hU⟩ := LU.mk h0 h1
  refine lv_istore (lv' := (5, .int _) :: lvL a g q b j) hx hb dL_law_1080 hl (by decide) rfl (fun ls hl => ?_)
  refine lv_aload_n hx hb dL_law_1082 rfl (lv_at hl 3 rfl) ?_
  refine l_arg (k := 1) hx hb hX hbl hS (lv_at hl 1 rfl) (lv_at hl 5 rfl) (by decide) (by omega) hL dL_law_1083 dL_law_1084 dL_law_1086 dL_law_1087 dL_law_1088 ?_
  refine l_arg (k := 2) hx hb hX hbl hS (lv_at hl 1 rfl) (lv_at hl 5 rfl) (by decide) (by omega) hL dL_law_1089 dL_law_1090 dL_law_1092 dL_law_1093 dL_law_1094 ?_
  refine l_modi (As := [.int (xs (5 * j + 1)), .int (xs (5 * j + 2))]) (rest := []) S (r_sounds l D g cI cL M N (xs (5 * j + 1)) (xs (5 * j + 2)) hI.ok) (cwV 2 hts gL_law_X1_sounds rfl rfl rfl (by decide +kernel) ⟨Nat.le_of_ble_eq_true rfl, Nat.le_of_ble_eq_true rfl⟩) hK.oI hP1 hP2 (hD _ _ _ _ _) hS rfl rfl rc_at0 rfl hl.1 rfl (Nat.le_of_ble_eq_true rfl) dL_law_1095 ⟨by show 100 + 4 * j + 2 ≤ 617672; omega, by show 2500 + 24 * j + 12 ≤ 7243089; omega⟩ (fun H locs hP1 hP2 hS => ?_)
  refine lv_istore (lv' := (6, .int _) :: (5, .int _) :: lvL a g q b j) hx hb dL_law_1098 hl (by decide) rfl (fun ls hl => ?_)
  exact tl_b (t := 1100) C (s_sounds hI hJ (xs (5 * j + 1)) (xs (5 * j + 2))) hP1 hU hP2 hS ⟨by omega, by omega⟩ hj5 hl dL_law_1100 dL_law_1101 dL_law_1104 dL_law_1106 dL_law_1111 dL_law_1113 dL_law_1116 dL_law_1117 dL_law_1118 dL_law_1119 dL_law_1121 dL_law_1124 dL_law_1125 dL_law_1128 dL_law_1129 dL_law_1130 dL_law_1135 (by decide) K
set_option maxHeartbeats 4000000 in
set_option maxRecDepth 100000 in
theorem law_16 {p : Program} {l : Launch} {e : Env} {s : State} {m : MethodId} {below : List Frame} {meth : Method} {c : Code} {H : Heap} {locs : List Loc} {Q : State → Prop} {ls : Array Slot} {D : va_G} {a g : Nat → Nat} {q b L j : Nat} {cI cL cO : ClassId} {xs : Nat → Int32} {I M : Nat → Nat → Int32} {J N : Nat → Nat → Int64} {o : Nat → Int64} (C : LC p l s m c D a g q b cI cL cO L xs) (hj : 5 * j + 5 ≤ L) (hI : RI I M) (hJ : RJ J N) (hP1 : va_P D vwCl (cwL cI cL cO a q I J o) H) (hP2 : va_P D vwCl (rc g cI cL M N) H) (hS : va_S (fr s) s.heap H locs) (hl : lv_has ls 7 (lvL a g q b j)) (K : LK p l e s m below meth c Q D a g q b cI cL cO j) : W p l e room_1 s m #[Value.ref b] below meth c H locs (100 + 4 * j) (2500 + 24 * j) Q (F0 m 1138 ls []) := by
  have C' := C
  obtain ⟨hl0, S, hK, hD0, hES, hEH, hX, hbl, hL⟩ := C'
  have hx := S.1
  have hb := S.2.1
  have hts := S.2.2.2.2
  have hj5 : j < 512 := by omega
  have hD : ∀ (I M : Nat → Nat → Int32) (J N : Nat → Nat → Int64) (o : Nat → Int64), va_D (fr s) (cwL cI cL cO a q I J o ++ rc g cI cL M N) := fun _ _ _ _ _ => wsD_addr hD0 rfl
  have hD1 : ∀ (I M : Nat → Nat → Int32) (J N : Nat → Nat → Int64) (o : Nat → Int64), va_D (fr s) (oc a cI cL cO I J ++ (lo1 cL q o ++ rc g cI cL M N)) := fun I M J N o => by
    rw [← List.append_assoc]
    exact hD I M J N o
  refine lv_aload_n hx hb dL_law_1138 rfl (lv_at hl 1 rfl) ?_
  have S9 := snd_now (M := tI M 0) hI.t hJ
  refine l_cls (As := []) (rest := []) S (c_need l D a cI cL cO I J) (cwV 0 hts gL_law_X0_need rfl rfl rfl (by decide +kernel) ⟨Nat.le_of_ble_eq_true rfl, Nat.le_of_ble_eq_true rfl⟩) hK hP1.fst (hP1.snd.app hP2) (hD1 _ _ _ _ _) hS rfl rfl oc_at0 rfl hl.1 rfl (Nat.le_of_ble_eq_true rfl) dL_law_1139 ⟨by show 100 + 4 * j ≤ 617672; omega, by show 2500 + 24 * j ≤ 7243089; omega⟩ (fun H locs hP1 hP3 hS => ?_)
  have hP1 := va_P.app hP1 hP3.fst
  refine lv_aload_n hx hb dL_law_1142 rfl (lv_at hl 2 rfl) ?_
  refine l_modi (As := []) S (r_need l D g cI cL M N hI.ok) (cwV 0 hts gL_law_X1_need rfl rfl rfl (by decide +kernel) ⟨Nat.le_of_ble_eq_true rfl, Nat.le_of_ble_eq_true rfl⟩) hK.oI hP1 hP3.snd (hD _ _ _ _ _) hS rfl rfl rc_at0 rfl hl.1 rfl (Nat.le_of_ble_eq_true rfl) dL_law_1143 ⟨by show 100 + 4 * j ≤ 617672; omega, by show 2500 + 24 * j ≤ 7243089; omega⟩ (fun H locs hP1 hP2 hS => ?_)
  refine lv_icmp_eq (tgt := 1381) hx hb dL_law_1146 (by decide) (fun _ => ?_) (fun z => absurd (S9.2.1) z)
  exact W.widen (by omega) (by omega) (K H locs ls _ _ _ _ _ hI.t (hJ.of S9.2.2.1 S9.2.2.2) hP1 hP2 hS hl)
set_option maxHeartbeats 4000000 in
set_option maxRecDepth 100000 in
theorem law_17 {p : Program} {l : Launch} {e : Env} {s : State} {m : MethodId} {below : List Frame} {meth : Method} {c : Code} {H : Heap} {locs : List Loc} {Q : State → Prop} {ls : Array Slot} {D : va_G} {a g : Nat → Nat} {q b L j : Nat} {cI cL cO : ClassId} {xs : Nat → Int32} {I M : Nat → Nat → Int32} {J N : Nat → Nat → Int64} {o : Nat → Int64} (C : LC p l s m c D a g q b cI cL cO L xs) (hj : 5 * j + 5 ≤ L) (hI : RI I M) (hJ : RJ J N) (hP1 : va_P D vwCl (cwL cI cL cO a q I J o) H) (hP2 : va_P D vwCl (rc g cI cL M N) H) (hS : va_S (fr s) s.heap H locs) (hl : lv_has ls 7 (lvL a g q b j)) (K : LK p l e s m below meth c Q D a g q b cI cL cO j) : W p l e room_1 s m #[Value.ref b] below meth c H locs (100 + 4 * j) (2500 + 24 * j) Q (F0 m 1151 ls []) := by
  have C' := C
  obtain ⟨hl0, S, hK, hD0, hES, hEH, hX, hbl, hL⟩ := C'
  have hx := S.1
  have hb := S.2.1
  have hts := S.2.2.2.2
  have hj5 : j < 512 := by omega
  have hD : ∀ (I M : Nat → Nat → Int32) (J N : Nat → Nat → Int64) (o : Nat → Int64), va_D (fr s) (cwL cI cL cO a q I J o ++ rc g cI cL M N) := fun _ _ _ _ _ => wsD_addr hD0 rfl
  have hD1 : ∀ (I M : Nat → Nat → Int32) (J N : Nat → Nat → Int64) (o : Nat → Int64), va_D (fr s) (oc a cI cL cO I J ++ (lo1 cL q o ++ rc g cI cL M N)) := fun I M J N o => by
    rw [← List.append_assoc]
    exact hD I M J N o
  refine lv_aload_n hx hb dL_law_1151 rfl (lv_at hl 1 rfl) ?_
  have S9 := snd_now (M := tI M 0) hI.t hJ
  obtain ⟨st, hst, g1, g2, f, hf, f1, f2⟩ := sag_eq (M := tI M 0) hI.t S9
  refine l_cls (As := []) (rest := []) S (c_sagStep l D a cI cL cO I J) (cwV 0 hts gL_law_X0_sagStep rfl rfl rfl (by decide +kernel) ⟨Nat.le_of_ble_eq_true rfl, Nat.le_of_ble_eq_true rfl⟩) hK hP1.fst (hP1.snd.app hP2) (hD1 _ _ _ _ _) hS rfl rfl oc_at0 rfl hl.1 rfl (Nat.le_of_ble_eq_true rfl) dL_law_1152 ⟨by show 100 + 4 * j ≤ 617672; omega, by show 2500 + 24 * j ≤ 7243089; omega⟩ (fun H locs hP1 hP3 hS => ?_)
  have hP1 := va_P.app hP1 hP3.fst
  refine lv_aload_n hx hb dL_law_1155 rfl (lv_at hl 2 rfl) ?_
  refine l_modi (As := []) S (r_sagStep l D g cI cL M N hI.ok hI.sp) (cwV 0 hts gL_law_X1_sagStep rfl rfl rfl (by decide +kernel) ⟨Nat.le_of_ble_eq_true rfl, Nat.le_of_ble_eq_true rfl⟩) hK.oI hP1 hP3.snd (hD _ _ _ _ _) hS rfl rfl rc_at0 rfl hl.1 rfl (Nat.le_of_ble_eq_true rfl) dL_law_1156 ⟨by show 100 + 4 * j ≤ 617672; omega, by show 2500 + 24 * j ≤ 7243089; omega⟩ (fun H locs hP1 hP2 hS => ?_)
  refine lv_icmp_eq (tgt := 1381) hx hb dL_law_1159 (by decide) (fun _ => ?_) (fun z => absurd ((by rw [S9.2.1, g2]; exact g1.symm)) z)
  exact W.widen (by omega) (by omega) (K H locs ls _ _ _ _ _ hI.t (hJ.of S9.2.2.1 S9.2.2.2) hP1 hP2 hS hl)
set_option maxHeartbeats 4000000 in
set_option maxRecDepth 100000 in
theorem law_18 {p : Program} {l : Launch} {e : Env} {s : State} {m : MethodId} {below : List Frame} {meth : Method} {c : Code} {H : Heap} {locs : List Loc} {Q : State → Prop} {ls : Array Slot} {D : va_G} {a g : Nat → Nat} {q b L j : Nat} {cI cL cO : ClassId} {xs : Nat → Int32} {I M : Nat → Nat → Int32} {J N : Nat → Nat → Int64} {o : Nat → Int64} (C : LC p l s m c D a g q b cI cL cO L xs) (hj : 5 * j + 5 ≤ L) (hI : RI I M) (hJ : RJ J N) (hP1 : va_P D vwCl (cwL cI cL cO a q I J o) H) (hP2 : va_P D vwCl (rc g cI cL M N) H) (hS : va_S (fr s) s.heap H locs) (hl : lv_has ls 7 (lvL a g q b j)) (K : LK p l e s m below meth c Q D a g q b cI cL cO j) : W p l e room_1 s m #[Value.ref b] below meth c H locs (100 + 4 * j) (2500 + 24 * j) Q (F0 m 1164 ls []) := by
  have C' := C
  obtain ⟨hl0, S, hK, hD0, hES, hEH, hX, hbl, hL⟩ := C'
  have hx := S.1
  have hb := S.2.1
  have hts := S.2.2.2.2
  have hj5 : j < 512 := by omega
  have hD : ∀ (I M : Nat → Nat → Int32) (J N : Nat → Nat → Int64) (o : Nat → Int64), va_D (fr s) (cwL cI cL cO a q I J o ++ rc g cI cL M N) := fun _ _ _ _ _ => wsD_addr hD0 rfl
  have hD1 : ∀ (I M : Nat → Nat → Int32) (J N : Nat → Nat → Int64) (o : Nat → Int64), va_D (fr s) (oc a cI cL cO I J ++ (lo1 cL q o ++ rc g cI cL M N)) := fun I M J N o => by
    rw [← List.append_assoc]
    exact hD I M J N o
  refine lv_aload_n hx hb dL_law_1164 rfl (lv_at hl 1 rfl) ?_
  refine l_arg (k := 1) hx hb hX hbl hS (lv_at hl 0 rfl) (lv_at hl 4 rfl) (by decide) (by omega) hL dL_law_1165 dL_law_1166 dL_law_1168 dL_law_1169 dL_law_1170 ?_
  refine l_arg (k := 2) hx hb hX hbl hS (lv_at hl 0 rfl) (lv_at hl 4 rfl) (by decide) (by omega) hL dL_law_1171 dL_law_1172 dL_law_1174 dL_law_1175 dL_law_1176 ?_
  refine lv_aload_n hx hb dL_law_1177 rfl (lv_at hl 3 rfl) ?_
  refine l_help (As := [.ref (a 0), .int (xs (5 * j + 1)), .int (xs (5 * j + 2)), .ref q]) (rest := []) S (h_pitch l hl0 D a cI cL cO I J q o (xs (5 * j + 1)) (xs (5 * j + 2)) H.size) (vx_cwSW 4 hts gL_law_L_pitch rfl rfl rfl (by decide +kernel) ⟨Nat.le_of_ble_eq_true rfl, Nat.le_of_ble_eq_true rfl⟩) hK hP1 hP2 (hD _ _ _ _ _) hES hEH hS (fun _ h => h) rfl hl.1 rfl (Nat.le_of_ble_eq_true rfl) dL_law_1178 ⟨by show 100 + 4 * j + 3 ≤ 617672; omega, by show 2500 + 24 * j + 18 ≤ 7243089; omega⟩ (fun H locs h0 h1 hP2 hS => ?_)
  obtain ⟨I3, J3, o3, hP1, hU⟩ := LU.mk h0 h1
  refine lv_istore (lv' := (5, .int _) :: lvL a g q b j) hx hb dL_law_1181 hl (by decide) rfl (fun ls hl => ?_)
  refine lv_aload_n hx hb dL_law_1183 rfl (lv_at hl 3 rfl) ?_
  refine l_arg (k := 1) hx hb hX hbl hS (lv_at hl 1 rfl) (lv_at hl 5 rfl) (by decide) (by omega) hL dL_law_1184 dL_law_1185 dL_law_1187 dL_law_1188 dL_law_1189 ?_
  refine l_arg (k := 2) hx hb hX hbl hS (lv_at hl 1 rfl) (lv_at hl 5 rfl) (by decide) (by omega) hL dL_law_1190 dL_law_1191 dL_law_1193 dL_law_1194 dL_law_1195 ?_
  obtain ⟨st, hst, est, -⟩ := sag_eq hI (snd_now hI hJ)
  refine l_modi (As := [.int (xs (5 * j + 1)), .int (xs (5 * j + 2))]) (rest := []) S (r_pitch l D g cI cL M N (xs (5 * j + 1)) (xs (5 * j + 2)) hI.ok hI.sp st hst est) (cwV 2 hts gL_law_X1_pitch rfl rfl rfl (by decide +kernel) ⟨Nat.le_of_ble_eq_true rfl, Nat.le_of_ble_eq_true rfl⟩) hK.oI hP1 hP2 (hD _ _ _ _ _) hS rfl rfl rc_at0 rfl hl.1 rfl (Nat.le_of_ble_eq_true rfl) dL_law_1196 ⟨by show 100 + 4 * j + 3 ≤ 617672; omega, by show 2500 + 24 * j + 18 ≤ 7243089; omega⟩ (fun H locs hP1 hP2 hS => ?_)
  refine lv_istore (lv' := (6, .int _) :: (5, .int _) :: lvL a g q b j) hx hb dL_law_1199 hl (by decide) rfl (fun ls hl => ?_)
  exact tl_i (t := 1201) C (s_pitch hI hJ (xs (5 * j + 1)) (xs (5 * j + 2))) hP1 hU hP2 hS ⟨by omega, by omega⟩ hj5 hl dL_law_1201 dL_law_1202 dL_law_1205 dL_law_1207 dL_law_1212 dL_law_1214 dL_law_1217 dL_law_1218 dL_law_1219 dL_law_1220 dL_law_1222 dL_law_1223 dL_law_1224 dL_law_1229 (by decide) K
set_option maxHeartbeats 4000000 in
set_option maxRecDepth 100000 in
theorem law_19 {p : Program} {l : Launch} {e : Env} {s : State} {m : MethodId} {below : List Frame} {meth : Method} {c : Code} {H : Heap} {locs : List Loc} {Q : State → Prop} {ls : Array Slot} {D : va_G} {a g : Nat → Nat} {q b L j : Nat} {cI cL cO : ClassId} {xs : Nat → Int32} {I M : Nat → Nat → Int32} {J N : Nat → Nat → Int64} {o : Nat → Int64} (C : LC p l s m c D a g q b cI cL cO L xs) (hj : 5 * j + 5 ≤ L) (hI : RI I M) (hJ : RJ J N) (hP1 : va_P D vwCl (cwL cI cL cO a q I J o) H) (hP2 : va_P D vwCl (rc g cI cL M N) H) (hS : va_S (fr s) s.heap H locs) (hl : lv_has ls 7 (lvL a g q b j)) (K : LK p l e s m below meth c Q D a g q b cI cL cO j) : W p l e room_1 s m #[Value.ref b] below meth c H locs (100 + 4 * j) (2500 + 24 * j) Q (F0 m 1232 ls []) := by
  have C' := C
  obtain ⟨hl0, S, hK, hD0, hES, hEH, hX, hbl, hL⟩ := C'
  have hx := S.1
  have hb := S.2.1
  have hts := S.2.2.2.2
  have hj5 : j < 512 := by omega
  have hD : ∀ (I M : Nat → Nat → Int32) (J N : Nat → Nat → Int64) (o : Nat → Int64), va_D (fr s) (cwL cI cL cO a q I J o ++ rc g cI cL M N) := fun _ _ _ _ _ => wsD_addr hD0 rfl
  have hD1 : ∀ (I M : Nat → Nat → Int32) (J N : Nat → Nat → Int64) (o : Nat → Int64), va_D (fr s) (oc a cI cL cO I J ++ (lo1 cL q o ++ rc g cI cL M N)) := fun I M J N o => by
    rw [← List.append_assoc]
    exact hD I M J N o
  refine lv_aload_n hx hb dL_law_1232 rfl (lv_at hl 1 rfl) ?_
  have S9 := snd_now (M := tI M 0) hI.t hJ
  obtain ⟨st, hst, g1, g2, f, hf, f1, f2⟩ := sag_eq (M := tI M 0) hI.t S9
  refine l_cls (As := []) (rest := []) S (c_lowest l D a cI cL cO I J) (cwV 0 hts gL_law_X0_lowest rfl rfl rfl (by decide +kernel) ⟨Nat.le_of_ble_eq_true rfl, Nat.le_of_ble_eq_true rfl⟩) hK hP1.fst (hP1.snd.app hP2) (hD1 _ _ _ _ _) hS rfl rfl oc_at0 rfl hl.1 rfl (Nat.le_of_ble_eq_true rfl) dL_law_1233 ⟨by show 100 + 4 * j ≤ 617672; omega, by show 2500 + 24 * j ≤ 7243089; omega⟩ (fun H locs hP1 hP3 hS => ?_)
  have hP1 := va_P.app hP1 hP3.fst
  refine lv_aload_n hx hb dL_law_1236 rfl (lv_at hl 2 rfl) ?_
  refine l_modi (As := []) S (r_lowest l D g cI cL M N hI.ok hI.sp st hst g1) (cwV 0 hts gL_law_X1_lowest rfl rfl rfl (by decide +kernel) ⟨Nat.le_of_ble_eq_true rfl, Nat.le_of_ble_eq_true rfl⟩) hK.oI hP1 hP3.snd (hD _ _ _ _ _) hS rfl rfl rc_at0 rfl hl.1 rfl (Nat.le_of_ble_eq_true rfl) dL_law_1237 ⟨by show 100 + 4 * j ≤ 617672; omega, by show 2500 + 24 * j ≤ 7243089; omega⟩ (fun H locs hP1 hP2 hS => ?_)
  refine lv_icmp_eq (tgt := 1381) hx hb dL_law_1240 (by decide) (fun _ => ?_) (fun z => absurd (lw_eq hI.t S9.1 hf f1 f2) z)
  exact W.widen (by omega) (by omega) (K H locs ls _ _ _ _ _ hI.t (hJ.of S9.2.2.1 S9.2.2.2) hP1 hP2 hS hl)
set_option maxHeartbeats 4000000 in
set_option maxRecDepth 100000 in
theorem law_20 {p : Program} {l : Launch} {e : Env} {s : State} {m : MethodId} {below : List Frame} {meth : Method} {c : Code} {H : Heap} {locs : List Loc} {Q : State → Prop} {ls : Array Slot} {D : va_G} {a g : Nat → Nat} {q b L j : Nat} {cI cL cO : ClassId} {xs : Nat → Int32} {I M : Nat → Nat → Int32} {J N : Nat → Nat → Int64} {o : Nat → Int64} (C : LC p l s m c D a g q b cI cL cO L xs) (hj : 5 * j + 5 ≤ L) (hI : RI I M) (hJ : RJ J N) (hP1 : va_P D vwCl (cwL cI cL cO a q I J o) H) (hP2 : va_P D vwCl (rc g cI cL M N) H) (hS : va_S (fr s) s.heap H locs) (hl : lv_has ls 7 (lvL a g q b j)) (K : LK p l e s m below meth c Q D a g q b cI cL cO j) : W p l e room_1 s m #[Value.ref b] below meth c H locs (100 + 4 * j) (2500 + 24 * j) Q (F0 m 1245 ls []) := by
  have C' := C
  obtain ⟨hl0, S, hK, hD0, hES, hEH, hX, hbl, hL⟩ := C'
  have hx := S.1
  have hb := S.2.1
  have hts := S.2.2.2.2
  have hj5 : j < 512 := by omega
  have hD : ∀ (I M : Nat → Nat → Int32) (J N : Nat → Nat → Int64) (o : Nat → Int64), va_D (fr s) (cwL cI cL cO a q I J o ++ rc g cI cL M N) := fun _ _ _ _ _ => wsD_addr hD0 rfl
  have hD1 : ∀ (I M : Nat → Nat → Int32) (J N : Nat → Nat → Int64) (o : Nat → Int64), va_D (fr s) (oc a cI cL cO I J ++ (lo1 cL q o ++ rc g cI cL M N)) := fun I M J N o => by
    rw [← List.append_assoc]
    exact hD I M J N o
  refine lv_aload_n hx hb dL_law_1245 rfl (lv_at hl 1 rfl) ?_
  refine l_arg (k := 1) hx hb hX hbl hS (lv_at hl 0 rfl) (lv_at hl 4 rfl) (by decide) (by omega) hL dL_law_1246 dL_law_1247 dL_law_1249 dL_law_1250 dL_law_1251 ?_
  refine l_arg (k := 2) hx hb hX hbl hS (lv_at hl 0 rfl) (lv_at hl 4 rfl) (by decide) (by omega) hL dL_law_1252 dL_law_1253 dL_law_1255 dL_law_1256 dL_law_1257 ?_
  refine lv_aload_n hx hb dL_law_1258 rfl (lv_at hl 3 rfl) ?_
  refine l_help (As := [.ref (a 0), .int (xs (5 * j + 1)), .int (xs (5 * j + 2)), .ref q]) (rest := []) S (h_wear l hl0 D a cI cL cO I J q o (xs (5 * j + 1)) (xs (5 * j + 2)) H.size) (vx_cwSW 4 hts gL_law_L_wear rfl rfl rfl (by decide +kernel) ⟨Nat.le_of_ble_eq_true rfl, Nat.le_of_ble_eq_true rfl⟩) hK hP1 hP2 (hD _ _ _ _ _) hES hEH hS (fun _ h => h) rfl hl.1 rfl (Nat.le_of_ble_eq_true rfl) dL_law_1259 ⟨by show 100 + 4 * j + 2 ≤ 617672; omega, by show 2500 + 24 * j + 12 ≤ 7243089; omega⟩ (fun H locs h0 h1 hP2 hS => ?_)
  obtain ⟨I3, J3, o3, hP1, hU⟩ := LU.mk h0 h1
  refine lv_istore (lv' := (5, .int _) :: lvL a g q b j) hx hb dL_law_1262 hl (by decide) rfl (fun ls hl => ?_)
  refine lv_aload_n hx hb dL_law_1264 rfl (lv_at hl 3 rfl) ?_
  refine l_arg (k := 1) hx hb hX hbl hS (lv_at hl 1 rfl) (lv_at hl 5 rfl) (by decide) (by omega) hL dL_law_1265 dL_law_1266 dL_law_1268 dL_law_1269 dL_law_1270 ?_
  refine l_arg (k := 2) hx hb hX hbl hS (lv_at hl 1 rfl) (lv_at hl 5 rfl) (by decide) (by omega) hL dL_law_1271 dL_law_1272 dL_law_1274 dL_law_1275 dL_law_1276 ?_
  refine l_modi (As := [.int (xs (5 * j + 1)), .int (xs (5 * j + 2))]) (rest := []) S (r_wear l D g cI cL M N (xs (5 * j + 1)) (xs (5 * j + 2))) (cwV 2 hts gL_law_X1_wear rfl rfl rfl (by decide +kernel) ⟨Nat.le_of_ble_eq_true rfl, Nat.le_of_ble_eq_true rfl⟩) hK.oI hP1 hP2 (hD _ _ _ _ _) hS rfl rfl rc_at0 rfl hl.1 rfl (Nat.le_of_ble_eq_true rfl) dL_law_1277 ⟨by show 100 + 4 * j + 2 ≤ 617672; omega, by show 2500 + 24 * j + 12 ≤ 7243089; omega⟩ (fun H locs hP1 hP2 hS => ?_)
  refine lv_istore (lv' := (6, .int _) :: (5, .int _) :: lvL a g q b j) hx hb dL_law_1280 hl (by decide) rfl (fun ls hl => ?_)
  exact tl_i (t := 1282) C (s_wear hI hJ (xs (5 * j + 1)) (xs (5 * j + 2))) hP1 hU hP2 hS ⟨by omega, by omega⟩ hj5 hl dL_law_1282 dL_law_1283 dL_law_1286 dL_law_1288 dL_law_1293 dL_law_1295 dL_law_1298 dL_law_1299 dL_law_1300 dL_law_1301 dL_law_1303 dL_law_1304 dL_law_1305 dL_law_1310 (by decide) K
set_option maxHeartbeats 4000000 in
set_option maxRecDepth 100000 in
theorem law_21 {p : Program} {l : Launch} {e : Env} {s : State} {m : MethodId} {below : List Frame} {meth : Method} {c : Code} {H : Heap} {locs : List Loc} {Q : State → Prop} {ls : Array Slot} {D : va_G} {a g : Nat → Nat} {q b L j : Nat} {cI cL cO : ClassId} {xs : Nat → Int32} {I M : Nat → Nat → Int32} {J N : Nat → Nat → Int64} {o : Nat → Int64} (C : LC p l s m c D a g q b cI cL cO L xs) (hj : 5 * j + 5 ≤ L) (hI : RI I M) (hJ : RJ J N) (hP1 : va_P D vwCl (cwL cI cL cO a q I J o) H) (hP2 : va_P D vwCl (rc g cI cL M N) H) (hS : va_S (fr s) s.heap H locs) (hl : lv_has ls 7 (lvL a g q b j)) (K : LK p l e s m below meth c Q D a g q b cI cL cO j) : W p l e room_1 s m #[Value.ref b] below meth c H locs (100 + 4 * j) (2500 + 24 * j) Q (F0 m 1313 ls []) := by
  have C' := C
  obtain ⟨hl0, S, hK, hD0, hES, hEH, hX, hbl, hL⟩ := C'
  have hx := S.1
  have hb := S.2.1
  have hts := S.2.2.2.2
  have hj5 : j < 512 := by omega
  have hD : ∀ (I M : Nat → Nat → Int32) (J N : Nat → Nat → Int64) (o : Nat → Int64), va_D (fr s) (cwL cI cL cO a q I J o ++ rc g cI cL M N) := fun _ _ _ _ _ => wsD_addr hD0 rfl
  have hD1 : ∀ (I M : Nat → Nat → Int32) (J N : Nat → Nat → Int64) (o : Nat → Int64), va_D (fr s) (oc a cI cL cO I J ++ (lo1 cL q o ++ rc g cI cL M N)) := fun I M J N o => by
    rw [← List.append_assoc]
    exact hD I M J N o
  refine lv_aload_n hx hb dL_law_1313 rfl (lv_at hl 1 rfl) ?_
  refine l_arg (k := 1) hx hb hX hbl hS (lv_at hl 0 rfl) (lv_at hl 4 rfl) (by decide) (by omega) hL dL_law_1314 dL_law_1315 dL_law_1317 dL_law_1318 dL_law_1319 ?_
  refine l_arg (k := 2) hx hb hX hbl hS (lv_at hl 0 rfl) (lv_at hl 4 rfl) (by decide) (by omega) hL dL_law_1320 dL_law_1321 dL_law_1323 dL_law_1324 dL_law_1325 ?_
  refine lv_aload_n hx hb dL_law_1326 rfl (lv_at hl 3 rfl) ?_
  refine l_help (As := [.ref (a 0), .int (xs (5 * j + 1)), .int (xs (5 * j + 2)), .ref q]) (rest := []) S (h_more l hl0 D a cI cL cO I J q o (xs (5 * j + 1)) (xs (5 * j + 2)) H.size) (vx_cwSW 4 hts gL_law_L_more rfl rfl rfl (by decide +kernel) ⟨Nat.le_of_ble_eq_true rfl, Nat.le_of_ble_eq_true rfl⟩) hK hP1 hP2 (hD _ _ _ _ _) hES hEH hS (fun _ h => h) rfl hl.1 rfl (Nat.le_of_ble_eq_true rfl) dL_law_1327 ⟨by show 100 + 4 * j + 2 ≤ 617672; omega, by show 2500 + 24 * j + 12 ≤ 7243089; omega⟩ (fun H locs h0 h1 hP2 hS => ?_)
  obtain ⟨I3, J3, o3, hP1, hU⟩ := LU.mk h0 h1
  refine lv_istore (lv' := (5, .int _) :: lvL a g q b j) hx hb dL_law_1330 hl (by decide) rfl (fun ls hl => ?_)
  refine lv_aload_n hx hb dL_law_1332 rfl (lv_at hl 3 rfl) ?_
  refine l_arg (k := 1) hx hb hX hbl hS (lv_at hl 1 rfl) (lv_at hl 5 rfl) (by decide) (by omega) hL dL_law_1333 dL_law_1334 dL_law_1336 dL_law_1337 dL_law_1338 ?_
  refine l_arg (k := 2) hx hb hX hbl hS (lv_at hl 1 rfl) (lv_at hl 5 rfl) (by decide) (by omega) hL dL_law_1339 dL_law_1340 dL_law_1342 dL_law_1343 dL_law_1344 ?_
  refine l_modi (As := [.int (xs (5 * j + 1)), .int (xs (5 * j + 2))]) (rest := []) S (r_more l D g cI cL M N (xs (5 * j + 1)) (xs (5 * j + 2)) hI.ok) (cwV 2 hts gL_law_X1_more rfl rfl rfl (by decide +kernel) ⟨Nat.le_of_ble_eq_true rfl, Nat.le_of_ble_eq_true rfl⟩) hK.oI hP1 hP2 (hD _ _ _ _ _) hS rfl rfl rc_at0 rfl hl.1 rfl (Nat.le_of_ble_eq_true rfl) dL_law_1345 ⟨by show 100 + 4 * j + 2 ≤ 617672; omega, by show 2500 + 24 * j + 12 ≤ 7243089; omega⟩ (fun H locs hP1 hP2 hS => ?_)
  refine lv_istore (lv' := (6, .int _) :: (5, .int _) :: lvL a g q b j) hx hb dL_law_1348 hl (by decide) rfl (fun ls hl => ?_)
  exact tl_i (t := 1350) C (s_more hI hJ (xs (5 * j + 1)) (xs (5 * j + 2))) hP1 hU hP2 hS ⟨by omega, by omega⟩ hj5 hl dL_law_1350 dL_law_1351 dL_law_1354 dL_law_1356 dL_law_1361 dL_law_1363 dL_law_1366 dL_law_1367 dL_law_1368 dL_law_1369 dL_law_1371 dL_law_1372 dL_law_1373 dL_law_1378 (by decide) K
