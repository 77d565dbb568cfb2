/-! ===== the law's loop: rules, tails ===== -/
def fr (s : State) : Nat → Prop := fun q => s.heap.size ≤ q
abbrev cwL (cI cL cO : ClassId) (a : Nat → Nat) (q : Nat) (I : Nat → Nat → Int32) (J : Nat → Nat → Int64) (o : Nat → Int64) : va_W := oc a cI cL cO I J ++ lo1 cL q o
abbrev lvL (a g : Nat → Nat) (q b j : Nat) : List (Nat × Value) := [(0, .ref b), (1, .ref (a 0)), (2, .ref (g 0)), (3, .ref q), (4, .int (nI (5 * j)))]
def LC (p : Program) (l : Launch) (s : State) (m : MethodId) (c : Code) (D : va_G) (a g : Nat → Nat) (q b : Nat) (cI cL cO : ClassId) (L : Nat) (xs : Nat → Int32) : Prop := l.stackTraces = false ∧ CallFix p m c cL_law 7 s #[Value.ref b] wsL_law RL ∧ va_K D vwCl (oty cI cL cO) s ∧ va_D (fr s) (cwL cI cL cO a q zI zJ (fun _ => 0) ++ rc g cI cL zI zJ) ∧ eS s ∧ eH (fr s) s s.heap ∧ va_X b L xs s s.heap ∧ b < s.heap.size ∧ L ≤ 2560
theorem RI.ok {I M : Nat → Nat → Int32} (h : RI I M) : okM M := fun sp hsp => by
  obtain ⟨j, hj, e, -⟩ := h.2.1 sp hsp
  exact ⟨j, hj, e⟩
theorem RI.sp {I M : Nat → Nat → Int32} (h : RI I M) : ¬ M 20 2 = 0 := by
  obtain ⟨s, h1, h2, e, -⟩ := h.2.2.2.2.1
  rw [e]
  exact nI_ne0 (by omega) (by omega)
section LW
variable {p : Program} {l : Launch} {e : Env} {R : Room} {s : State} {m : MethodId} {args : Array Value} {below : List Frame} {meth : Method} {c : Code} {H : Heap} {locs : List Loc} {cells slots : Nat} {Q : State → Prop}
variable {cc : ByteArray} {pc : Nat} {ls : Array Slot} {rest : List Value} {D : va_G} {A : Nat → Prop} {w1 w2 W0 W1 : va_W} {ty : List (ClassId × FieldType)} {mc ms : Nat}
theorem l_help {own : String} {y : MethodName} {bytes : ByteArray} {maxL nL n index : Nat} {ret : Option FieldType} {hh : List (Nat × Nat × Nat × Nat)} {wk : List Cond} {rm : Room} {Ts : List Cond} {As st0 : List Value} {k : Int32} (S : CallFix p m c cc nL s args Ts own) (hM : Met l y wk rm (va_Pc As (tB D ty w1 H.size)) (hQ D w1 H.size k W0 W1) mc ms (tA w1 H.size)) (cw : vx_CSW R s args own index y bytes maxL ret hh wk rm mc ms n) (hK : va_K D vwCl ty s) (hP1 : va_P D vwCl w1 H) (hP2 : va_P D vwCl w2 H) (hD : va_D A (w1 ++ w2)) (hES : eS s) (hEH : eH A s s.heap) (hS : va_S A s.heap H locs) (hA : ∀ q, s.heap.size ≤ q → A q) (hn : As.length = n) (hsize : ls.size = nL) (hst : st0 = As.reverse ++ rest) (hW : (rest.map fun v => v.category).sum ≤ 8) (hdg : decode cc pc = .ok (.invokestatic index, 3)) (hf : cells + mc ≤ R.cells ∧ slots + ms ≤ R.slots) (kk : ∀ (H1 : Heap) (locs1 : List Loc), (k = 0 → va_P D vwCl W0 H1) → (¬ k = 0 → va_P D vwCl W1 H1) → va_P D vwCl w2 H1 → va_S A s.heap H1 locs1 → W p l e R s m args below meth c H1 locs1 (cells + mc) (slots + ms) Q (F0 m (pc + 3) ls (.int k :: rest))) : W p l e R s m args below meth c H locs cells slots Q (F0 m pc ls st0) := by
  have hDw := hD.fst
  have hAA : ∀ q, tA w1 H.size q → A q := fun q h => h.elim (wA_in hDw q) (fun z => hA q (Nat.le_trans hS.1 z))
  refine va_calli (vx_runSW (As := As) (rest := rest) S hM cw ⟨tB_blind, fun U hU hWm => ⟨rfl, by rw [hU], by rw [hU]; exact hP1, va_K.moved hWm.alike hK, hDw.weaken (fun _ _ _ _ => trivial), hES.warm hWm, by rw [hU]; exact hEH.at hWm.alike hS.2.1 hAA⟩⟩ rfl hn hsize hst (lv_room hW) hdg hf) hS (fun q _ h => hAA q h) hAA ?_
  intro r u t H1 locs1 ht _ hr hB _ hk hS1
  rw [hr]
  exact kk H1 locs1 (by rw [← ht]; exact hB.1) (by rw [← ht]; exact hB.2) (va_P.beside hD hP2 (fun q h1 h2 => hk q h1 (fun z => z.elim h2 (fun z => Nat.not_lt.mpr z h1)))) hS1
theorem l_modi {C own : String} {y : MethodName} {bytes : ByteArray} {maxL nL n index ci b : Nat} {ret : Option FieldType} {wk : List Cond} {rm : Room} {w' : va_W} {Ts : List Cond} {As st0 : List Value} {E : Int32} {fs : List Value} {qc : vw_C} (S : CallFix p m c cc nL s args Ts own) (hM : Met l y wk rm (va_Pc (.ref b :: As) (mB D ty w2)) (mQi D w2 w' E) 0 0 (wA w2)) (cw : CallW R s args own C index y bytes maxL ret wk rm 0 0 n) (hK : va_K D vwCl ty s) (hP1 : va_P D vwCl w1 H) (hP : va_P D vwCl w2 H) (hD : va_D A (w1 ++ w2)) (hS : va_S A s.heap H locs) (hc : vwCl[ci]? = some qc) (hC : qc.1 = C) (he : w2[0]? = some (b, .inr (ci, fs))) (hn : As.length = n) (hsize : ls.size = nL) (hst : st0 = As.reverse ++ .ref b :: rest) (hW : (rest.map fun v => v.category).sum ≤ 8) (hdg : decode cc pc = .ok (.invokevirtual index, 3)) (hf : cells ≤ R.cells ∧ slots ≤ R.slots) (kk : ∀ (H1 : Heap) (locs1 : List Loc), va_P D vwCl w1 H1 → va_P D vwCl w' H1 → va_S A s.heap H1 locs1 → W p l e R s m args below meth c H1 locs1 cells slots Q (F0 m (pc + 3) ls (.int E :: rest))) : W p l e R s m args below meth c H locs cells slots Q (F0 m pc ls st0) :=
  va_calli (va_runV (As := As) (rest := rest) (b := b) S hM cw ⟨mB_blind, hC ▸ va_recv hK hP hc he, fun U hU hWm => ⟨rfl, by rw [hU]; exact hP, va_K.moved hWm.alike hK, hD.snd.weaken (fun _ _ _ _ => trivial)⟩⟩ rfl hn hsize hst (lv_room hW) hdg hf) hS (fun q _ h => wA_in hD.snd q h) (wA_in hD.snd) (fun r _ t H1 locs1 ht _ hr hB _ hk hS1 => by rw [hr]; exact kk H1 locs1 (va_P.beside2 hD hP1 hk) (by rw [← ht]; exact hB) hS1)
theorem l_modv {C own : String} {y : MethodName} {bytes : ByteArray} {maxL nL n index ci b : Nat} {ret : Option FieldType} {wk : List Cond} {rm : Room} {w' : va_W} {Ts : List Cond} {As st0 : List Value} {fs : List Value} {qc : vw_C} (S : CallFix p m c cc nL s args Ts own) (hM : Met l y wk rm (va_Pc (.ref b :: As) (mB D ty w2)) (mQv D w2 w') 0 0 (wA w2)) (cw : CallW R s args own C index y bytes maxL ret wk rm 0 0 n) (hK : va_K D vwCl ty s) (hP1 : va_P D vwCl w1 H) (hP : va_P D vwCl w2 H) (hD : va_D A (w1 ++ w2)) (hS : va_S A s.heap H locs) (hc : vwCl[ci]? = some qc) (hC : qc.1 = C) (he : w2[0]? = some (b, .inr (ci, fs))) (hn : As.length = n) (hsize : ls.size = nL) (hst : st0 = As.reverse ++ .ref b :: rest) (hW : (rest.map fun v => v.category).sum ≤ 8) (hdg : decode cc pc = .ok (.invokevirtual index, 3)) (hf : cells ≤ R.cells ∧ slots ≤ R.slots) (kk : ∀ (H1 : Heap) (locs1 : List Loc), va_P D vwCl w1 H1 → va_P D vwCl w' H1 → va_S A s.heap H1 locs1 → W p l e R s m args below meth c H1 locs1 cells slots Q (F0 m (pc + 3) ls rest)) : W p l e R s m args below meth c H locs cells slots Q (F0 m pc ls st0) :=
  va_callv (va_runV (As := As) (rest := rest) (b := b) S hM cw ⟨mB_blind, hC ▸ va_recv hK hP hc he, fun U hU hWm => ⟨rfl, by rw [hU]; exact hP, va_K.moved hWm.alike hK, hD.snd.weaken (fun _ _ _ _ => trivial)⟩⟩ rfl hn hsize hst (lv_room hW) hdg hf) hS (fun q _ h => wA_in hD.snd q h) (wA_in hD.snd) (fun _ t H1 locs1 ht _ _ hB _ hk hS1 => kk H1 locs1 (va_P.beside2 hD hP1 hk) (by rw [← ht]; exact hB) hS1)
theorem l_cls {C own : String} {y : MethodName} {bytes : ByteArray} {maxL nL n index ci b : Nat} {ret : Option FieldType} {wk : List Cond} {rm : Room} {w' : va_W} {Ts : List Cond} {As st0 : List Value} {E : Int32} {fs : List Value} {qc : vw_C} (S : CallFix p m c cc nL s args Ts own) (hM : Met l y wk rm (va_Pc (.ref b :: As) (mB D ty w1)) (mQi D w1 w' E) 0 0 (wA w1)) (cw : CallW R s args own C index y bytes maxL ret wk rm 0 0 n) (hK : va_K D vwCl ty s) (hP : va_P D vwCl w1 H) (hP2 : va_P D vwCl w2 H) (hD : va_D A (w1 ++ w2)) (hS : va_S A s.heap H locs) (hc : vwCl[ci]? = some qc) (hC : qc.1 = C) (he : w1[0]? = some (b, .inr (ci, fs))) (hn : As.length = n) (hsize : ls.size = nL) (hst : st0 = As.reverse ++ .ref b :: rest) (hW : (rest.map fun v => v.category).sum ≤ 8) (hdg : decode cc pc = .ok (.invokevirtual index, 3)) (hf : cells ≤ R.cells ∧ slots ≤ R.slots) (kk : ∀ (H1 : Heap) (locs1 : List Loc), va_P D vwCl w' H1 → va_P D vwCl w2 H1 → va_S A s.heap H1 locs1 → W p l e R s m args below meth c H1 locs1 cells slots Q (F0 m (pc + 3) ls (.int E :: rest))) : W p l e R s m args below meth c H locs cells slots Q (F0 m pc ls st0) :=
  va_calli (va_runV (As := As) (rest := rest) (b := b) S hM cw ⟨mB_blind, hC ▸ va_recv hK hP hc he, fun U hU hWm => ⟨rfl, by rw [hU]; exact hP, va_K.moved hWm.alike hK, hD.fst.weaken (fun _ _ _ _ => trivial)⟩⟩ rfl hn hsize hst (lv_room hW) hdg hf) hS (fun q _ h => wA_in hD.fst q h) (wA_in hD.fst) (fun r _ t H1 locs1 ht _ hr hB _ hk hS1 => by rw [hr]; exact kk H1 locs1 (by rw [← ht]; exact hB) (va_P.beside hD hP2 hk) hS1)
theorem l_arg {b L j k : Nat} {xs : Nat → Int32} {kk9 : Int} (hx : p.tables.exec = Jvm.exec) (hb : c.code = cc) (hX : va_X b L xs s s.heap) (hbl : b < s.heap.size) (hS : va_S (fr s) s.heap H locs) (h0 : ls[0]? = some (.val (.ref b))) (h4 : ls[4]? = some (.val (.int (nI (5 * j))))) (hv : Int32.ofInt kk9 = nI k) (hk : 5 * j + k < L) (hL : L ≤ 2560) (d0 : decode cc pc = .ok (.aload_n 0, 1)) (d1 : decode cc (pc + 1) = .ok (.iload 4, 2)) (d2 : decode cc (pc + 3) = .ok (.iconst kk9, 1)) (d3 : decode cc (pc + 4) = .ok (.iadd, 1)) (d4 : decode cc (pc + 5) = .ok (.iaload, 1)) (kk : W p l e R s m args below meth c H locs cells slots Q (F0 m (pc + 6) ls (.int (xs (5 * j + k)) :: rest))) : W p l e R s m args below meth c H locs cells slots Q (F0 m pc ls rest) := by
  refine lv_aload_n hx hb d0 rfl h0 ?_
  refine lv_iload hx hb d1 h4 ?_
  refine lv_iconst (v := nI k) hx hb d2 hv ?_
  refine lv_iadd hx hb d3 ?_
  refine lv_asi (nI (5 * j + k)) (nI_add _ _) ?_
  refine va_sld hx hb hX hbl (fun z => Nat.not_lt.mpr z hbl) hS (nI_in hk (by omega)) d4 ?_
  rw [nI_clamp (by omega)]
  exact kk
theorem l_argb {b L j k : Nat} {xs : Nat → Int32} {kk9 : Int} (hx : p.tables.exec = Jvm.exec) (hb : c.code = cc) (hX : va_X b L xs s s.heap) (hbl : b < s.heap.size) (hS : va_S (fr s) s.heap H locs) (h0 : ls[0]? = some (.val (.ref b))) (h4 : ls[4]? = some (.val (.int (nI (5 * j))))) (hv : Int32.ofInt kk9 = nI k) (hk : 5 * j + k < L) (hL : L ≤ 2560) (d0 : decode cc pc = .ok (.aload_n 0, 1)) (d1 : decode cc (pc + 1) = .ok (.iload 4, 2)) (d2 : decode cc (pc + 3) = .ok (.iconst kk9, 1)) (d3 : decode cc (pc + 4) = .ok (.iadd, 1)) (d4 : decode cc (pc + 5) = .ok (.iaload, 1)) (d5 : decode cc (pc + 6) = .ok (.ifCond .eq 7, 3)) (d6 : decode cc (pc + 9) = .ok (.iconst 1, 1)) (d7 : decode cc (pc + 10) = .ok (.goto 4, 3)) (d8 : decode cc (pc + 13) = .ok (.iconst 0, 1)) (kk : W p l e R s m args below meth c H locs cells slots Q (F0 m (pc + 14) ls (.int (bI (!decide (xs (5 * j + k) = 0))) :: rest))) : W p l e R s m args below meth c H locs cells slots Q (F0 m pc ls rest) := by
  refine l_arg hx hb hX hbl hS h0 h4 hv hk hL d0 d1 d2 d3 d4 ?_
  refine lv_if_eq (tgt := pc + 13) hx hb d5 (by omega) (fun z => ?_) (fun z => ?_)
  · refine lv_iconst (v := 0) hx hb d8 (by decide) ?_
    have e9 : bI (!decide (xs (5 * j + k) = 0)) = 0 := by simp [z, bI]
    rw [e9] at kk
    exact kk
  · refine lv_iconst (v := 1) hx hb d6 (by decide) ?_
    refine lv_goto (tgt := pc + 14) hx hb d7 (by omega) ?_
    have e9 : bI (!decide (xs (5 * j + k) = 0)) = 1 := by simp [z, bI]
    rw [e9] at kk
    exact kk
variable {a g : Nat → Nat} {q b L j : Nat} {cI cL cO : ClassId} {xs : Nat → Int32} {I I2 M M2 : Nat → Nat → Int32} {J J2 JX N N2 : Nat → Nat → Int64} {o : Nat → Int64}
/-- the world of the class after a helper -/
def LU (D : va_G) (a : Nat → Nat) (q : Nat) (cI cL cO : ClassId) (I : Nat → Nat → Int32) (o : Nat → Int64) (k : Int32) (I2 : Nat → Nat → Int32) (J2 JX : Nat → Nat → Int64) (o2 : Nat → Int64) (H : Heap) : Prop := ∃ (I3 : Nat → Nat → Int32) (J3 : Nat → Nat → Int64) (o3 : Nat → Int64), va_P D vwCl (cwL cI cL cO a q I3 J3 o3) H ∧ ((k = 0 ∧ I3 = I2 ∧ J3 = J2 ∧ o3 = o2) ∨ (¬ k = 0 ∧ I3 = I ∧ J3 = JX ∧ o3 = o))
theorem LU.mk {k : Int32} {o2 : Nat → Int64} (h0 : k = 0 → va_P D vwCl (cwL cI cL cO a q I2 J2 o2) H) (h1 : ¬ k = 0 → va_P D vwCl (cwL cI cL cO a q I JX o) H) : LU D a q cI cL cO I o k I2 J2 JX o2 H := by
  by_cases hk : k = 0
  · exact ⟨_, _, _, h0 hk, Or.inl ⟨hk, rfl, rfl, rfl⟩⟩
  · exact ⟨_, _, _, h1 hk, Or.inr ⟨hk, rfl, rfl, rfl⟩⟩
/-- what goes on at the end of a turn -/
def LK (p : Program) (l : Launch) (e : Env) (s : State) (m : MethodId) (below : List Frame) (meth : Method) (c : Code) (Q : State → Prop) (D : va_G) (a g : Nat → Nat) (q b : Nat) (cI cL cO : ClassId) (j : Nat) : Prop := ∀ (H : Heap) (locs : List Loc) (ls : Array Slot) (I M : Nat → Nat → Int32) (J N : Nat → Nat → Int64) (o : Nat → Int64), RI I M → RJ J N → va_P D vwCl (cwL cI cL cO a q I J o) H → va_P D vwCl (rc g cI cL M N) H → va_S (fr s) s.heap H locs → lv_has ls 7 (lvL a g q b j) → W p l e room_1 s m #[Value.ref b] below meth c H locs (100 + 4 * (j + 1)) (2500 + 24 * (j + 1)) Q (F0 m 1381 ls [])
theorem l_thr {t : Nat} {k : Int32} (C : LC p l s m c D a g q b cI cL cO L xs) (hP2 : va_P D vwCl (rc g cI cL M2 N2) H) (ek : M2 20 0 = k) (hc : cells ≤ 4000 ∧ slots ≤ 20000) (hsz : ls.size = 7) (h2 : ls[2]? = some (.val (.ref (g 0)))) (h5 : ls[5]? = some (.val (.int k))) (d0 : decode cL_law t = .ok (.aload_n 2, 1)) (d1 : decode cL_law (t + 1) = .ok (.invokevirtual 82, 3)) (d2 : decode cL_law (t + 4) = .ok (.iload 5, 2)) (d3 : decode cL_law (t + 6) = .ok (.if_icmp .eq 5, 3)) (kk : W p l e room_1 s m #[Value.ref b] below meth c H locs cells slots Q (F0 m (t + 11) ls [])) : W p l e room_1 s m #[Value.ref b] below meth c H locs cells slots Q (F0 m t ls []) := by
  obtain ⟨hl0, S, hK, hD0, hES, hEH, hX, hbl, hL⟩ := C
  have hx := S.1
  have hb := S.2.1
  refine lv_aload_n hx hb d0 rfl h2 ?_
  refine w_pV (As := []) (rest := []) S (r_thrown l D g cI cL M2 N2) (cwV 0 S.2.2.2.2 gL_law_X1_thrown rfl rfl rfl (by decide +kernel) ⟨Nat.le_of_ble_eq_true rfl, Nat.le_of_ble_eq_true rfl⟩) hK.oI hP2 rfl rfl rc_at0 rfl hsz rfl (Nat.le_of_ble_eq_true rfl) d1 ⟨Nat.le_trans hc.1 (Nat.le_of_ble_eq_true rfl), Nat.le_trans hc.2 (Nat.le_of_ble_eq_true rfl)⟩ ?_
  refine lv_asi k ek ?_
  refine lv_iload hx hb d2 h5 ?_
  exact lv_icmp_eq (tgt := t + 11) hx hb d3 (by omega) (fun _ => kk) (fun z => absurd rfl z)
theorem tl_v {t : Nat} {X : Int} {k E A9 : Int32} (C : LC p l s m c D a g q b cI cL cO L xs) (hStq : Stq I k I2 J2 JX M2 N2 E A9) {I3 : Nat → Nat → Int32} {J3 : Nat → Nat → Int64} {o3 o2 : Nat → Int64} (hP1 : va_P D vwCl (cwL cI cL cO a q I3 J3 o3) H) (hU : (k = 0 ∧ I3 = I2 ∧ J3 = J2 ∧ o3 = o2) ∨ (¬ k = 0 ∧ I3 = I ∧ J3 = JX ∧ o3 = o)) (hP2 : va_P D vwCl (rc g cI cL M2 N2) H) (hS : va_S (fr s) s.heap H locs) (hc : cells ≤ 100 + 4 * (j + 1) ∧ slots ≤ 2500 + 24 * (j + 1)) (hj : j < 512) (hl : lv_has ls 7 ((5, .int k) :: lvL a g q b j)) (d0 : decode cL_law t = .ok (.aload_n 2, 1)) (d1 : decode cL_law (t + 1) = .ok (.invokevirtual 82, 3)) (d2 : decode cL_law (t + 4) = .ok (.iload 5, 2)) (d3 : decode cL_law (t + 6) = .ok (.if_icmp .eq 5, 3)) (d4 : decode cL_law (t + 11) = .ok (.goto X, 3)) (hXX : ((t + 11 : Nat) : Int) + X = ((1381 : Nat) : Int)) (K : LK p l e s m below meth c Q D a g q b cI cL cO j) : W p l e room_1 s m #[Value.ref b] below meth c H locs cells slots Q (F0 m t ls []) := by
  refine l_thr C hP2 hStq.1 (by omega) hl.1 (lv_at hl 3 rfl) (lv_at hl 0 rfl) d0 d1 d2 d3 ?_
  refine lv_goto (tgt := 1381) C.2.1.1 C.2.1.2.1 d4 hXX ?_
  refine W.widen hc.1 hc.2 ?_
  rcases hU with ⟨hk, rfl, rfl, rfl⟩ | ⟨hk, rfl, rfl, rfl⟩
  · exact K H locs ls _ _ _ _ _ (hStq.2.1 hk).2.1 (hStq.2.1 hk).2.2 hP1 hP2 hS (lv_sub hl [1, 2, 3, 4, 5] rfl)
  · exact K H locs ls _ _ _ _ _ (hStq.2.2 hk).1 (hStq.2.2 hk).2 hP1 hP2 hS (lv_sub hl [1, 2, 3, 4, 5] rfl)
theorem tl_i {t : Nat} {X : Int} {k E A9 : Int32} (C : LC p l s m c D a g q b cI cL cO L xs) (hStq : Stq I k I2 J2 JX M2 N2 E A9) {I3 : Nat → Nat → Int32} {J3 : Nat → Nat → Int64} {o3 : Nat → Int64} (hP1 : va_P D vwCl (cwL cI cL cO a q I3 J3 o3) H) (hU : (k = 0 ∧ I3 = I2 ∧ J3 = J2 ∧ o3 = vp_updL o 0 E.toInt64) ∨ (¬ k = 0 ∧ I3 = I ∧ J3 = JX ∧ o3 = o)) (hP2 : va_P D vwCl (rc g cI cL M2 N2) H) (hS : va_S (fr s) s.heap H locs) (hc : cells ≤ 100 + 4 * (j + 1) ∧ slots ≤ 2500 + 24 * (j + 1)) (hj : j < 512) (hl : lv_has ls 7 ((6, .int A9) :: (5, .int k) :: lvL a g q b j)) (d0 : decode cL_law t = .ok (.aload_n 2, 1)) (d1 : decode cL_law (t + 1) = .ok (.invokevirtual 82, 3)) (d2 : decode cL_law (t + 4) = .ok (.iload 5, 2)) (d3 : decode cL_law (t + 6) = .ok (.if_icmp .eq 5, 3)) (d4 : decode cL_law (t + 11) = .ok (.iload 5, 2)) (d5 : decode cL_law (t + 13) = .ok (.ifCond .ne 15, 3)) (d6 : decode cL_law (t + 16) = .ok (.aload_n 3, 1)) (d7 : decode cL_law (t + 17) = .ok (.iconst 0, 1)) (d8 : decode cL_law (t + 18) = .ok (.laload, 1)) (d9 : decode cL_law (t + 19) = .ok (.iload 6, 2)) (d10 : decode cL_law (t + 21) = .ok (.i2l, 1)) (d11 : decode cL_law (t + 22) = .ok (.lcmp, 1)) (d12 : decode cL_law (t + 23) = .ok (.ifCond .eq 5, 3)) (d13 : decode cL_law (t + 28) = .ok (.goto X, 3)) (hXX : ((t + 28 : Nat) : Int) + X = ((1381 : Nat) : Int)) (K : LK p l e s m below meth c Q D a g q b cI cL cO j) : W p l e room_1 s m #[Value.ref b] below meth c H locs cells slots Q (F0 m t ls []) := by
  have hx := C.2.1.1
  have hb := C.2.1.2.1
  refine l_thr C hP2 hStq.1 (by omega) hl.1 (lv_at hl 4 rfl) (lv_at hl 1 rfl) d0 d1 d2 d3 ?_
  refine lv_iload hx hb d4 (lv_at hl 1 rfl) ?_
  have hl2 := lv_sub hl [2, 3, 4, 5, 6] rfl
  refine lv_if_ne (tgt := t + 28) hx hb d5 (by omega) (fun hk => ?_) (fun hk => ?_)
  · refine lv_goto (tgt := 1381) hx hb d13 hXX ?_
    refine W.widen hc.1 hc.2 ?_
    rcases hU with ⟨hk0, -⟩ | ⟨-, rfl, rfl, rfl⟩
    · exact absurd hk0 hk
    · exact K H locs ls _ _ _ _ _ (hStq.2.2 hk).1 (hStq.2.2 hk).2 hP1 hP2 hS hl2
  · rcases hU with ⟨-, rfl, rfl, rfl⟩ | ⟨hk1, -⟩
    · obtain ⟨eE, hI2, hJ2⟩ := hStq.2.1 hk
      refine lv_aload_n hx hb d6 rfl (lv_at hl 5 rfl) ?_
      refine lv_iconst (v := nI 0) hx hb d7 (by decide) ?_
      refine w_lld hx hb C.2.2.1 hP1 rfl (q0 := 23) rfl (show 0 < 1 by decide) (by decide) d8 ?_
      refine lv_iload hx hb d9 (lv_at hl 0 rfl) ?_
      refine lv_i2l hx hb d10 rfl ?_
      refine W.lcmp hx hb d11 ?_
      refine lv_if_eq (tgt := t + 28) hx hb d12 (by omega) (fun _ => ?_) (fun z => absurd ((lg_cmp_eq _ _).mpr (by rw [updL_at, eE])) z)
      refine lv_goto (tgt := 1381) hx hb d13 hXX ?_
      exact W.widen hc.1 hc.2 (K H locs ls _ _ _ _ _ hI2 hJ2 hP1 hP2 hS hl2)
    · exact absurd hk hk1
theorem tl_b {t : Nat} {X : Int} {k A9 : Int32} {B : Bool} (C : LC p l s m c D a g q b cI cL cO L xs) (hStq : Stq I k I2 J2 JX M2 N2 (bI B) A9) {I3 : Nat → Nat → Int32} {J3 : Nat → Nat → Int64} {o3 : Nat → Int64} (hP1 : va_P D vwCl (cwL cI cL cO a q I3 J3 o3) H) (hU : (k = 0 ∧ I3 = I2 ∧ J3 = J2 ∧ o3 = vp_updL o 0 (bL B)) ∨ (¬ k = 0 ∧ I3 = I ∧ J3 = JX ∧ o3 = o)) (hP2 : va_P D vwCl (rc g cI cL M2 N2) H) (hS : va_S (fr s) s.heap H locs) (hc : cells ≤ 100 + 4 * (j + 1) ∧ slots ≤ 2500 + 24 * (j + 1)) (hj : j < 512) (hl : lv_has ls 7 ((6, .int A9) :: (5, .int k) :: lvL a g q b j)) (d0 : decode cL_law t = .ok (.aload_n 2, 1)) (d1 : decode cL_law (t + 1) = .ok (.invokevirtual 82, 3)) (d2 : decode cL_law (t + 4) = .ok (.iload 5, 2)) (d3 : decode cL_law (t + 6) = .ok (.if_icmp .eq 5, 3)) (d4 : decode cL_law (t + 11) = .ok (.iload 5, 2)) (d5 : decode cL_law (t + 13) = .ok (.ifCond .ne 22, 3)) (d6 : decode cL_law (t + 16) = .ok (.aload_n 3, 1)) (d7 : decode cL_law (t + 17) = .ok (.iconst 0, 1)) (d8 : decode cL_law (t + 18) = .ok (.laload, 1)) (d9 : decode cL_law (t + 19) = .ok (.iload 6, 2)) (d10 : decode cL_law (t + 21) = .ok (.ifCond .eq 7, 3)) (e1 : decode cL_law (t + 24) = .ok (.lconst 1, 1)) (e2 : decode cL_law (t + 25) = .ok (.goto 4, 3)) (e3 : decode cL_law (t + 28) = .ok (.lconst 0, 1)) (d11 : decode cL_law (t + 29) = .ok (.lcmp, 1)) (d12 : decode cL_law (t + 30) = .ok (.ifCond .eq 5, 3)) (d13 : decode cL_law (t + 35) = .ok (.goto X, 3)) (hXX : ((t + 35 : Nat) : Int) + X = ((1381 : Nat) : Int)) (K : LK p l e s m below meth c Q D a g q b cI cL cO j) : W p l e room_1 s m #[Value.ref b] below meth c H locs cells slots Q (F0 m t ls []) := by
  have hx := C.2.1.1
  have hb := C.2.1.2.1
  refine l_thr C hP2 hStq.1 (by omega) hl.1 (lv_at hl 4 rfl) (lv_at hl 1 rfl) d0 d1 d2 d3 ?_
  refine lv_iload hx hb d4 (lv_at hl 1 rfl) ?_
  have hl2 := lv_sub hl [2, 3, 4, 5, 6] rfl
  refine lv_if_ne (tgt := t + 35) hx hb d5 (by omega) (fun hk => ?_) (fun hk => ?_)
  · refine lv_goto (tgt := 1381) hx hb d13 hXX ?_
    refine W.widen hc.1 hc.2 ?_
    rcases hU with ⟨hk0, -⟩ | ⟨-, rfl, rfl, rfl⟩
    · exact absurd hk0 hk
    · exact K H locs ls _ _ _ _ _ (hStq.2.2 hk).1 (hStq.2.2 hk).2 hP1 hP2 hS hl2
  · rcases hU with ⟨-, rfl, rfl, rfl⟩ | ⟨hk1, -⟩
    · obtain ⟨eE, hI2, hJ2⟩ := hStq.2.1 hk
      refine lv_aload_n hx hb d6 rfl (lv_at hl 5 rfl) ?_
      refine lv_iconst (v := nI 0) hx hb d7 (by decide) ?_
      refine w_lld hx hb C.2.2.1 hP1 rfl (q0 := 23) rfl (show 0 < 1 by decide) (by decide) d8 ?_
      refine lv_iload hx hb d9 (lv_at hl 0 rfl) ?_
      refine lv_if_eq (tgt := t + 28) hx hb d10 (by omega) (fun hA => ?_) (fun hA => ?_)
      · refine lv_lconst (v := 0) hx hb e3 rfl ?_
        refine W.lcmp hx hb d11 ?_
        have eB : B = false := bI_eq0 (eE.trans hA)
        refine lv_if_eq (tgt := t + 35) hx hb d12 (by omega) (fun _ => ?_) (fun z => absurd ((lg_cmp_eq _ _).mpr (by rw [updL_at, eB]; rfl)) z)
        refine lv_goto (tgt := 1381) hx hb d13 hXX ?_
        exact W.widen hc.1 hc.2 (K H locs ls _ _ _ _ _ hI2 hJ2 hP1 hP2 hS hl2)
      · refine lv_lconst (v := 1) hx hb e1 rfl ?_
        refine lv_goto (tgt := t + 29) hx hb e2 (by omega) ?_
        refine W.lcmp hx hb d11 ?_
        have eB : B = true := bI_ne0 (fun z => hA (eE.symm.trans z))
        refine lv_if_eq (tgt := t + 35) hx hb d12 (by omega) (fun _ => ?_) (fun z => absurd ((lg_cmp_eq _ _).mpr (by rw [updL_at, eB]; rfl)) z)
        refine lv_goto (tgt := 1381) hx hb d13 hXX ?_
        exact W.widen hc.1 hc.2 (K H locs ls _ _ _ _ _ hI2 hJ2 hP1 hP2 hS hl2)
    · exact absurd hk hk1
end LW
