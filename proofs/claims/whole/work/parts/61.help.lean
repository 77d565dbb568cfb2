/-! ===== the law's helpers: a call of the class, its exceptions caught ===== -/
def bL (b : Bool) : Int64 := if b then 1 else 0
theorem va_P.fst {D : va_G} {w1 w2 : va_W} {H : Heap} (h : va_P D vwCl (w1 ++ w2) H) : va_P D vwCl w1 H := fun k q hk => h k q (by rw [List.getElem?_append_left (List.getElem?_eq_some_iff.mp hk).1]; exact hk)
theorem va_P.snd {D : va_G} {w1 w2 : va_W} {H : Heap} (h : va_P D vwCl (w1 ++ w2) H) : va_P D vwCl w2 H := fun k q hk => h (w1.length + k) q (by rw [List.getElem?_append_right (Nat.le_add_right _ _), Nat.add_sub_cancel_left]; exact hk)
theorem va_D.fst {A : Nat → Prop} {w1 w2 : va_W} (h : va_D A (w1 ++ w2)) : va_D A w1 := by
  have e : ∀ (k : Nat) (q : Nat × va_E), w1[k]? = some q → (w1 ++ w2)[k]? = some q := fun k q hk => by rw [List.getElem?_append_left (List.getElem?_eq_some_iff.mp hk).1]; exact hk
  exact ⟨fun i j p q hi hj hpq => h.1 i j p q (e i p hi) (e j q hj) hpq, fun k q hk => h.2 k q (e k q hk)⟩
theorem va_D.snd {A : Nat → Prop} {w1 w2 : va_W} (h : va_D A (w1 ++ w2)) : va_D A w2 := by
  have e : ∀ (k : Nat) (q : Nat × va_E), w2[k]? = some q → (w1 ++ w2)[w1.length + k]? = some q := fun k q hk => by rw [List.getElem?_append_right (Nat.le_add_right _ _), Nat.add_sub_cancel_left]; exact hk
  exact ⟨fun i j p q hi hj hpq => by have := h.1 _ _ p q (e i p hi) (e j q hj) hpq; omega, fun k q hk => h.2 _ q (e k q hk)⟩
/-- what a call of the world w1 leaves of the world w2 beside it -/
theorem va_P.beside {A : Nat → Prop} {D : va_G} {w1 w2 : va_W} {H H1 : Heap} (hD : va_D A (w1 ++ w2)) (h : va_P D vwCl w2 H) (hq : ∀ q : Nat, q < H.size → ¬ wA w1 q → H1[q]? = H[q]?) : va_P D vwCl w2 H1 := h.kept (fun k q hk => hq q.1 (h k q hk).lt (fun ⟨x, hx, e⟩ => by
  obtain ⟨j, hj⟩ := List.getElem?_of_mem hx
  have h1 : (w1 ++ w2)[j]? = some x := by rw [List.getElem?_append_left (List.getElem?_eq_some_iff.mp hj).1]; exact hj
  have h2 : (w1 ++ w2)[w1.length + k]? = some q := by rw [List.getElem?_append_right (Nat.le_add_right _ _), Nat.add_sub_cancel_left]; exact hk
  have := hD.1 _ _ x q h1 h2 e
  have := (List.getElem?_eq_some_iff.mp hj).1
  omega))
theorem va_P.beside2 {A : Nat → Prop} {D : va_G} {w1 w2 : va_W} {H H1 : Heap} (hD : va_D A (w1 ++ w2)) (h : va_P D vwCl w1 H) (hq : ∀ q : Nat, q < H.size → ¬ wA w2 q → H1[q]? = H[q]?) : va_P D vwCl w1 H1 := h.kept (fun k q hk => hq q.1 (h k q hk).lt (fun ⟨x, hx, e⟩ => by
  obtain ⟨j, hj⟩ := List.getElem?_of_mem hx
  have h1 : (w1 ++ w2)[w1.length + j]? = some x := by rw [List.getElem?_append_right (Nat.le_add_right _ _), Nat.add_sub_cancel_left]; exact hj
  have h2 : (w1 ++ w2)[k]? = some q := by rw [List.getElem?_append_left (List.getElem?_eq_some_iff.mp hk).1]; exact hk
  have := hD.1 _ _ x q h1 h2 e
  have := (List.getElem?_eq_some_iff.mp hk).1
  omega))
theorem va_K.oI {D : va_G} {cI cL cO : ClassId} {U : State} (h : va_K D vwCl (oty cI cL cO) U) : va_K D vwCl (rty cI cL) U := h.sub [0, 1] rfl
abbrev lo1 (cL : ClassId) (q : Nat) (o : Nat → Int64) : va_W := [(q, .inl (cL, 1, .inr (.inl o)))]
section LR
variable {p : Program} {l : Launch} {e : Env} {R : Room} {s : State} {m : MethodId} {args : Array Value} {below : List Frame} {meth : Method} {c : Code} {H : Heap} {locs : List Loc} {cells slots : Nat} {Q : State → Prop}
variable {cc : ByteArray} {pc : Nat} {ls : Array Slot} {rest : List Value} {D : va_G} {A : Nat → Prop} {w w' w3 : va_W} {ty : List (ClassId × FieldType)} {mc ms : Nat}
theorem w_tVi {own C : String} {y : MethodName} {bytes : ByteArray} {maxL nL n index ci b : Nat} {ret : Option FieldType} {wk : List Cond} {rm : Room} {Ts : List Cond} {As st0 : List Value} {k E : Int32} {fs : List Value} {qc : vw_C} (S : CallFix p m c cc nL s args Ts own) (hM : vx_Met l y wk rm (va_Pc (.ref b :: As) (tB D ty w H.size)) (tQi D w w' H.size k E) (tX D w w3 H.size k) mc ms (tA w H.size)) (cw : CallW R s args own C index y bytes maxL ret wk rm mc ms n) (hK : va_K D vwCl ty s) (hP : va_P D vwCl w H) (hDw : va_D A w) (hES : eS s) (hEH : eH A s s.heap) (hS : va_S A s.heap H locs) (hA : ∀ q, s.heap.size ≤ q → A q) (hc : vwCl[ci]? = some qc) (hC : qc.1 = C) (he : w[0]? = some (b, .inr (ci, fs))) (hn : As.length = n) (hsize : ls.size = nL) (hst : st0 = As.reverse ++ .ref b :: rest) (hW : (rest.map fun v => v.category).sum ≤ 8) (hdg : decode cc pc = .ok (.invokevirtual index, 3)) (hf : cells + mc ≤ R.cells ∧ slots + ms ≤ R.slots)
    (kx : ∀ (E : String) (ce : Cell) (q9 : Addr) (H1 : Heap) (locs1 : List Loc), xk E k → va_P D vwCl w3 H1 → (∀ q : Nat, q < H.size → ¬ wA w q → H1[q]? = H[q]?) → va_S A s.heap H1 locs1 → H1[q9]? = some ce → ce.vm = .none → s.vm.findClass E = some ce.cls → vx_W p l e R s m args below meth c H1 locs1 (cells + mc) (slots + ms) Q (F0 m pc ls rest) q9)
    (kk : k = 0 → ∀ (H1 : Heap) (locs1 : List Loc), va_P D vwCl w' H1 → (∀ q : Nat, q < H.size → ¬ wA w q → H1[q]? = H[q]?) → va_S A s.heap H1 locs1 → W p l e R s m args below meth c H1 locs1 (cells + mc) (slots + ms) Q (F0 m (pc + 3) ls (.int E :: rest))) : W p l e R s m args below meth c H locs cells slots Q (F0 m pc ls st0) := by
  have hAA : ∀ q, tA w H.size q → A q := fun q h => h.elim (wA_in hDw q) (fun z => hA q (Nat.le_trans hS.1 z))
  refine vx_calli (vx_runV (As := As) (rest := rest) (b := b) S hM cw ⟨tB_blind, hC ▸ va_recv hK hP hc he, fun U hU hWm => ⟨rfl, by rw [hU], by rw [hU]; exact hP, va_K.moved hWm.alike hK, hDw.weaken (fun _ _ _ _ => trivial), hES.warm hWm, by rw [hU]; exact hEH.at hWm.alike hS.2.1 hAA⟩⟩ rfl hn hsize hst (lv_room hW) hdg hf) hS (fun q _ h => hAA q h) hAA (fun q _ h => hAA q h) ?_ ?_
  · intro E9 ce q9 u t H1 locs1 ht _ _ hB hz hk hS1 g1 g2 g3
    exact kx E9 ce q9 H1 locs1 hB.1 (by rw [← ht]; exact hB.2) (fun q h1 h2 => hk q h1 (fun z => z.elim h2 (fun z => Nat.not_lt.mpr z h1))) hS1 g1 g2 g3
  · intro r u t H1 locs1 ht _ hr hB hz hk hS1
    rw [hr.2]
    exact kk hr.1 H1 locs1 (by rw [← ht]; exact hB) (fun q h1 h2 => hk q h1 (fun z => z.elim h2 (fun z => Nat.not_lt.mpr z h1))) hS1
theorem w_tVv {own C : String} {y : MethodName} {bytes : ByteArray} {maxL nL n index ci b : Nat} {ret : Option FieldType} {wk : List Cond} {rm : Room} {Ts : List Cond} {As st0 : List Value} {k : Int32} {fs : List Value} {qc : vw_C} (S : CallFix p m c cc nL s args Ts own) (hM : vx_Met l y wk rm (va_Pc (.ref b :: As) (tB D ty w H.size)) (tQv D w w' H.size k) (tX D w w3 H.size k) mc ms (tA w H.size)) (cw : CallW R s args own C index y bytes maxL ret wk rm mc ms n) (hK : va_K D vwCl ty s) (hP : va_P D vwCl w H) (hDw : va_D A w) (hES : eS s) (hEH : eH A s s.heap) (hS : va_S A s.heap H locs) (hA : ∀ q, s.heap.size ≤ q → A q) (hc : vwCl[ci]? = some qc) (hC : qc.1 = C) (he : w[0]? = some (b, .inr (ci, fs))) (hn : As.length = n) (hsize : ls.size = nL) (hst : st0 = As.reverse ++ .ref b :: rest) (hW : (rest.map fun v => v.category).sum ≤ 8) (hdg : decode cc pc = .ok (.invokevirtual index, 3)) (hf : cells + mc ≤ R.cells ∧ slots + ms ≤ R.slots)
    (kx : ∀ (E : String) (ce : Cell) (q9 : Addr) (H1 : Heap) (locs1 : List Loc), xk E k → va_P D vwCl w3 H1 → (∀ q : Nat, q < H.size → ¬ wA w q → H1[q]? = H[q]?) → va_S A s.heap H1 locs1 → H1[q9]? = some ce → ce.vm = .none → s.vm.findClass E = some ce.cls → vx_W p l e R s m args below meth c H1 locs1 (cells + mc) (slots + ms) Q (F0 m pc ls rest) q9)
    (kk : k = 0 → ∀ (H1 : Heap) (locs1 : List Loc), va_P D vwCl w' H1 → (∀ q : Nat, q < H.size → ¬ wA w q → H1[q]? = H[q]?) → va_S A s.heap H1 locs1 → W p l e R s m args below meth c H1 locs1 (cells + mc) (slots + ms) Q (F0 m (pc + 3) ls rest)) : W p l e R s m args below meth c H locs cells slots Q (F0 m pc ls st0) := by
  have hAA : ∀ q, tA w H.size q → A q := fun q h => h.elim (wA_in hDw q) (fun z => hA q (Nat.le_trans hS.1 z))
  refine vx_callv (vx_runV (As := As) (rest := rest) (b := b) S hM cw ⟨tB_blind, hC ▸ va_recv hK hP hc he, fun U hU hWm => ⟨rfl, by rw [hU], by rw [hU]; exact hP, va_K.moved hWm.alike hK, hDw.weaken (fun _ _ _ _ => trivial), hES.warm hWm, by rw [hU]; exact hEH.at hWm.alike hS.2.1 hAA⟩⟩ rfl hn hsize hst (lv_room hW) hdg hf) hS (fun q _ h => hAA q h) hAA (fun q _ h => hAA q h) ?_ ?_
  · intro E9 ce q9 u t H1 locs1 ht _ _ hB hz hk hS1 g1 g2 g3
    exact kx E9 ce q9 H1 locs1 hB.1 (by rw [← ht]; exact hB.2) (fun q h1 h2 => hk q h1 (fun z => z.elim h2 (fun z => Nat.not_lt.mpr z h1))) hS1 g1 g2 g3
  · intro u t H1 locs1 ht _ hr hB hz hk hS1
    exact kk hr H1 locs1 (by rw [← ht]; exact hB) (fun q h1 h2 => hk q h1 (fun z => z.elim h2 (fun z => Nat.not_lt.mpr z h1))) hS1
/-- a helper's end -/
abbrev hQ (D : va_G) (wS : va_W) (sz : Nat) (k : Int32) (w0 w1 : va_W) : Array Value → State → Outcome → State → Prop := va_Qi (fun (r : Int32) (_ : Unit) => r = k) (fun _ t => (k = 0 → va_P D vwCl w0 t.heap) ∧ (¬ k = 0 → va_P D vwCl w1 t.heap)) (tA wS sz)
theorem e_h0 {wS w0 w1 : va_W} {sz : Nat} {k : Int32} (hx : p.tables.exec = Jvm.exec) (hb : c.code = cc) (hr : meth.sig.returnType = some .int) (hlocks : meth.locks = false) (hP : va_P D vwCl w0 H) (hS : va_S (tA wS sz) s.heap H locs) (hk : k = 0) (hc : cells ≤ mc) (hs : slots ≤ ms) (hdg : decode cc pc = .ok (.ireturn, 1)) : W p l e R s m args below meth c H locs cells slots (MQ below (hQ D wS sz k w0 w1) args s mc ms (tA wS sz)) (F0 m pc ls [.int 0]) :=
  W.widen hc hs (W.iret hx hb hr (fun t ht _ => ⟨⟨0, (), rfl, hk.symm, fun _ => by rw [ht]; exact hP, fun h => absurd hk h⟩, hS.F ht⟩) hS.2.2 hdg hlocks)
theorem e_hx {wS w0 w1 : va_W} {sz : Nat} {k v : Int32} (hx : p.tables.exec = Jvm.exec) (hb : c.code = cc) (hr : meth.sig.returnType = some .int) (hlocks : meth.locks = false) (hP : va_P D vwCl w1 H) (hS : va_S (tA wS sz) s.heap H locs) (hk : k = v) (h0 : ¬ v = 0) (hc : cells ≤ mc) (hs : slots ≤ ms) (hdg : decode cc pc = .ok (.ireturn, 1)) : W p l e R s m args below meth c H locs cells slots (MQ below (hQ D wS sz k w0 w1) args s mc ms (tA wS sz)) (F0 m pc ls [.int v]) :=
  W.widen hc hs (W.iret hx hb hr (fun t ht _ => ⟨⟨v, (), rfl, hk.symm, fun h => absurd (hk.symm.trans h) h0, fun _ => by rw [ht]; exact hP⟩, hS.F ht⟩) hS.2.2 hdg hlocks)
end LR
theorem k_ne2 {c : Bool} : ¬ (if c = true then (0 : Int32) else 1) = 2 := by cases c <;> decide
set_option maxHeartbeats 4000000 in
set_option maxRecDepth 100000 in
theorem h_setRank (l : Launch) (hl0 : l.stackTraces = false) (D : va_G) (a : Nat → Nat) (cI cL cO : ClassId) (I : Nat → Nat → Int32) (J : Nat → Nat → Int64) (p1 p2 p3 p4 : Int32) (sz : Nat) : Met l yL_setRank wsL_setRank ({ frames := 9, cells := 4, slots := 24, locals := 148 } : Room) (va_Pc [.ref (a 0), .int p1, .int p2, .int p3, .int p4] (tB D (oty cI cL cO) (oc a cI cL cO I J) sz)) (hQ D (oc a cI cL cO I J) sz (kRank p1 p2 p3 p4) (oc a cI cL cO (u2 (u2 (u2 I 0 p1.toNatClampNeg (htv p2.toNatClampNeg)) 1 p1.toNatClampNeg p3) 2 p1.toNatClampNeg p4) J) (oc a cI cL cO I J)) 4 24 (tA (oc a cI cL cO I J) sz) := by
  refine va_MetW (cc := cL_setRank) (maxL := 6) (ret := some .int) (hh := [(0, 9, 12, 13)]) (by decide) rfl ?_
  intro p e s m args below meth c s₁ B hml hv
  obtain ⟨rfl, hsz, hP, hK, hD0, hES, hEH⟩ := hv
  subst hsz
  have hx := B.exec
  have hb := B.bytes
  have hr := B.returns
  have hts := atoms_spec (ws := wsL_setRank) B.pre
  have hown : s.vm.findClass RL = some m.cls := findClass_of_methodNamed B.named
  have hlocks := B.notSynchronized
  have htab := vx_table (x := yL_setRank) B (hts _ List.mem_cons_self)
  have hDA := tA_D (sz := s.heap.size) hD0
  have hA : ∀ z9 : Nat, s.heap.size ≤ z9 → tA (oc a cI cL cO I J) s.heap.size z9 := fun _ h => Or.inr h
  have hS : va_S (tA (oc a cI cL cO I J) s.heap.size) s.heap s.heap [] := va_S.rf
  have hDO := hDA
  have hl := lv_entry ([.ref (a 0), .int p1, .int p2, .int p3, .int p4]) (n := 6) (Nat.le_of_ble_eq_true rfl)
  rw [lg_entry_eq]
  generalize (lg_sl ([.ref (a 0), .int p1, .int p2, .int p3, .int p4]) ++ List.replicate (6 - (lg_sl ([.ref (a 0), .int p1, .int p2, .int p3, .int p4])).length) Slot.unset).toArray = ls at hl ⊢
  have hl : lv_has ls 6 [(0, .ref (a 0)), (1, .int p1), (2, .int p2), (3, .int p3), (4, .int p4)] := hl
  refine lv_aload_n hx hb dL_setRank_0 rfl (lv_at hl 0 rfl) ?_
  refine lv_iload_n hx hb dL_setRank_1 rfl (lv_at hl 1 rfl) ?_
  refine lv_iload_n hx hb dL_setRank_2 rfl (lv_at hl 2 rfl) ?_
  refine lv_iload_n hx hb dL_setRank_3 rfl (lv_at hl 3 rfl) ?_
  refine lv_iload hx hb dL_setRank_4 (lv_at hl 4 rfl) ?_
  have hPO := hP
  refine w_tVv (As := [.int p1, .int p2, .int p3, .int p4]) (rest := []) ⟨hx, hb, hml, hown, hts⟩ (t_setRank l hl0 D a cI cL cO I J p1 p2 p3 p4 s.heap.size) (cwV 4 hts gL_setRank_X0_setRank rfl rfl rfl (by decide +kernel) ⟨Nat.le_of_ble_eq_true rfl, Nat.le_of_ble_eq_true rfl⟩) hK hPO hDO hES hEH hS hA rfl rfl oc_at0 rfl hl.1 rfl (Nat.le_of_ble_eq_true rfl) dL_setRank_6 ⟨Nat.le_of_ble_eq_true rfl, Nat.le_of_ble_eq_true rfl⟩ (fun E ce q9 H1 locs1 hxk hP3 hfr hS1 g1 g2 g3 => ?_) (fun hk0 H1 locs hP3 hfr hS => ?_)
  · have hP4 := hP3
    rcases hxk with ⟨rfl, hk9⟩ | ⟨rfl, hk9⟩
    · skip
      refine vx_catch (name := nIAE) hown [] (⟨0, 9, 12, 13⟩ : ExceptionTableEntry) [] htab (fun z hz => by cases hz) (by decide) (by decide) (hts (.classLink RL 13 nIAE) (by decide +kernel)) (hES.2.1.use rfl) g1 g2 g3 ?_
      refine lv_astore (lv' := [(5, .ref q9), (0, .ref (a 0)), (1, .int p1), (2, .int p2), (3, .int p3), (4, .int p4)]) hx hb dL_setRank_12 hl (by decide) rfl (fun ls hl => ?_)
      refine lv_iconst (v := 1) hx hb dL_setRank_14 (by decide) ?_
      exact e_hx hx hb hr hlocks hP4 hS1 hk9 (by decide) (Nat.le_of_ble_eq_true rfl) (Nat.le_of_ble_eq_true rfl) dL_setRank_15
    · exact absurd hk9 (by unfold kRank; exact k_ne2)
  · have hP := hP3
    refine lv_goto (tgt := 16) hx hb dL_setRank_9 (by decide) ?_
    refine lv_iconst (v := 0) hx hb dL_setRank_16 (by decide) ?_
    exact e_h0 hx hb hr hlocks hP hS hk0 (Nat.le_of_ble_eq_true rfl) (Nat.le_of_ble_eq_true rfl) dL_setRank_17
set_option maxHeartbeats 4000000 in
set_option maxRecDepth 100000 in
theorem h_setStop (l : Launch) (hl0 : l.stackTraces = false) (D : va_G) (a : Nat → Nat) (cI cL cO : ClassId) (I : Nat → Nat → Int32) (J : Nat → Nat → Int64) (p1 p2 p3 : Int32) (sz : Nat) : Met l yL_setStop wsL_setStop ({ frames := 9, cells := 4, slots := 24, locals := 147 } : Room) (va_Pc [.ref (a 0), .int p1, .int p2, .int p3] (tB D (oty cI cL cO) (oc a cI cL cO I J) sz)) (hQ D (oc a cI cL cO I J) sz (kStop I p1 p2 p3) (oc a cI cL cO (u2 (u2 I 3 p1.toNatClampNeg p2) 4 p1.toNatClampNeg p3) J) (oc a cI cL cO I J)) 4 24 (tA (oc a cI cL cO I J) sz) := by
  refine va_MetW (cc := cL_setStop) (maxL := 5) (ret := some .int) (hh := [(0, 7, 10, 13), (0, 7, 14, 19)]) (by decide) rfl ?_
  intro p e s m args below meth c s₁ B hml hv
  obtain ⟨rfl, hsz, hP, hK, hD0, hES, hEH⟩ := hv
  subst hsz
  have hx := B.exec
  have hb := B.bytes
  have hr := B.returns
  have hts := atoms_spec (ws := wsL_setStop) B.pre
  have hown : s.vm.findClass RL = some m.cls := findClass_of_methodNamed B.named
  have hlocks := B.notSynchronized
  have htab := vx_table (x := yL_setStop) B (hts _ List.mem_cons_self)
  have hDA := tA_D (sz := s.heap.size) hD0
  have hA : ∀ z9 : Nat, s.heap.size ≤ z9 → tA (oc a cI cL cO I J) s.heap.size z9 := fun _ h => Or.inr h
  have hS : va_S (tA (oc a cI cL cO I J) s.heap.size) s.heap s.heap [] := va_S.rf
  have hDO := hDA
  have hl := lv_entry ([.ref (a 0), .int p1, .int p2, .int p3]) (n := 5) (Nat.le_of_ble_eq_true rfl)
  rw [lg_entry_eq]
  generalize (lg_sl ([.ref (a 0), .int p1, .int p2, .int p3]) ++ List.replicate (5 - (lg_sl ([.ref (a 0), .int p1, .int p2, .int p3])).length) Slot.unset).toArray = ls at hl ⊢
  have hl : lv_has ls 5 [(0, .ref (a 0)), (1, .int p1), (2, .int p2), (3, .int p3)] := hl
  refine lv_aload_n hx hb dL_setStop_0 rfl (lv_at hl 0 rfl) ?_
  refine lv_iload_n hx hb dL_setStop_1 rfl (lv_at hl 1 rfl) ?_
  refine lv_iload_n hx hb dL_setStop_2 rfl (lv_at hl 2 rfl) ?_
  refine lv_iload_n hx hb dL_setStop_3 rfl (lv_at hl 3 rfl) ?_
  have hPO := hP
  refine w_tVv (As := [.int p1, .int p2, .int p3]) (rest := []) ⟨hx, hb, hml, hown, hts⟩ (t_setStop l hl0 D a cI cL cO I J p1 p2 p3 s.heap.size) (cwV 3 hts gL_setStop_X0_setStop rfl rfl rfl (by decide +kernel) ⟨Nat.le_of_ble_eq_true rfl, Nat.le_of_ble_eq_true rfl⟩) hK hPO hDO hES hEH hS hA rfl rfl oc_at0 rfl hl.1 rfl (Nat.le_of_ble_eq_true rfl) dL_setStop_4 ⟨Nat.le_of_ble_eq_true rfl, Nat.le_of_ble_eq_true rfl⟩ (fun E ce q9 H1 locs1 hxk hP3 hfr hS1 g1 g2 g3 => ?_) (fun hk0 H1 locs hP3 hfr hS => ?_)
  · have hP4 := hP3
    rcases hxk with ⟨rfl, hk9⟩ | ⟨rfl, hk9⟩
    · skip
      refine vx_catch (name := nIAE) hown [] (⟨0, 7, 10, 13⟩ : ExceptionTableEntry) [(⟨0, 7, 14, 19⟩ : ExceptionTableEntry)] htab (fun z hz => by cases hz) (by decide) (by decide) (hts (.classLink RL 13 nIAE) (by decide +kernel)) (hES.2.1.use rfl) g1 g2 g3 ?_
      refine lv_astore (lv' := [(4, .ref q9), (0, .ref (a 0)), (1, .int p1), (2, .int p2), (3, .int p3)]) hx hb dL_setStop_10 hl (by decide) rfl (fun ls hl => ?_)
      refine lv_iconst (v := 1) hx hb dL_setStop_12 (by decide) ?_
      exact e_hx hx hb hr hlocks hP4 hS1 hk9 (by decide) (Nat.le_of_ble_eq_true rfl) (Nat.le_of_ble_eq_true rfl) dL_setStop_13
    · skip
      refine vx_catch (name := nISE) hown [(⟨0, 7, 10, 13⟩ : ExceptionTableEntry)] (⟨0, 7, 14, 19⟩ : ExceptionTableEntry) [] htab (fun z hz => by rw [List.mem_singleton] at hz; subst hz; exact Or.inr ⟨by decide, nIAE, hts (.classLink RL 13 nIAE) (by decide +kernel), hES.2.2.2.1⟩) (by decide) (by decide) (hts (.classLink RL 19 nISE) (by decide +kernel)) (hES.2.2.1.use rfl) g1 g2 g3 ?_
      refine lv_astore (lv' := [(4, .ref q9), (0, .ref (a 0)), (1, .int p1), (2, .int p2), (3, .int p3)]) hx hb dL_setStop_14 hl (by decide) rfl (fun ls hl => ?_)
      refine lv_iconst (v := 2) hx hb dL_setStop_16 (by decide) ?_
      exact e_hx hx hb hr hlocks hP4 hS1 hk9 (by decide) (Nat.le_of_ble_eq_true rfl) (Nat.le_of_ble_eq_true rfl) dL_setStop_17
  · have hP := hP3
    refine lv_goto (tgt := 18) hx hb dL_setStop_7 (by decide) ?_
    refine lv_iconst (v := 0) hx hb dL_setStop_18 (by decide) ?_
    exact e_h0 hx hb hr hlocks hP hS hk0 (Nat.le_of_ble_eq_true rfl) (Nat.le_of_ble_eq_true rfl) dL_setStop_19
set_option maxHeartbeats 4000000 in
set_option maxRecDepth 100000 in
theorem h_couple (l : Launch) (hl0 : l.stackTraces = false) (D : va_G) (a : Nat → Nat) (cI cL cO : ClassId) (I : Nat → Nat → Int32) (J : Nat → Nat → Int64) (q : Nat) (o : Nat → Int64) (p1 p2 p3 : Int32) (sz : Nat) : Met l yL_couple wsL_couple ({ frames := 9, cells := 3, slots := 18, locals := 147 } : Room) (va_Pc [.ref (a 0), .int p1, .int p2, .int p3, .ref q] (tB D (oty cI cL cO) (oc a cI cL cO I J ++ lo1 cL q o) sz)) (hQ D (oc a cI cL cO I J ++ lo1 cL q o) sz (kCpl I p1 p2 p3) (oc a cI cL cO (u2 I (20 + p1.toNatClampNeg) p2.toNatClampNeg p3) J ++ lo1 cL q (vp_updL o 0 ((ccO (u2 I (20 + p1.toNatClampNeg) p2.toNatClampNeg p3) 3).toInt64))) (oc a cI cL cO I J ++ lo1 cL q o)) 3 18 (tA (oc a cI cL cO I J ++ lo1 cL q o) sz) := by
  refine va_MetW (cc := cL_couple) (maxL := 6) (ret := some .int) (hh := [(0, 12, 15, 13), (0, 12, 19, 19)]) (by decide) rfl ?_
  intro p e s m args below meth c s₁ B hml hv
  obtain ⟨rfl, hsz, hP, hK, hD0, hES, hEH⟩ := hv
  subst hsz
  have hx := B.exec
  have hb := B.bytes
  have hr := B.returns
  have hts := atoms_spec (ws := wsL_couple) B.pre
  have hown : s.vm.findClass RL = some m.cls := findClass_of_methodNamed B.named
  have hlocks := B.notSynchronized
  have htab := vx_table (x := yL_couple) B (hts _ List.mem_cons_self)
  have hDA := tA_D (sz := s.heap.size) hD0
  have hA : ∀ z9 : Nat, s.heap.size ≤ z9 → tA (oc a cI cL cO I J ++ lo1 cL q o) s.heap.size z9 := fun _ h => Or.inr h
  have hS : va_S (tA (oc a cI cL cO I J ++ lo1 cL q o) s.heap.size) s.heap s.heap [] := va_S.rf
  have hDO := hDA.fst
  have hD : ∀ (I : Nat → Nat → Int32) (J : Nat → Nat → Int64) (o : Nat → Int64), va_D _ (oc a cI cL cO I J ++ lo1 cL q o) := fun _ _ _ => wsD_addr hDA rfl
  have hl := lv_entry ([.ref (a 0), .int p1, .int p2, .int p3, .ref q]) (n := 6) (Nat.le_of_ble_eq_true rfl)
  rw [lg_entry_eq]
  generalize (lg_sl ([.ref (a 0), .int p1, .int p2, .int p3, .ref q]) ++ List.replicate (6 - (lg_sl ([.ref (a 0), .int p1, .int p2, .int p3, .ref q])).length) Slot.unset).toArray = ls at hl ⊢
  have hl : lv_has ls 6 [(0, .ref (a 0)), (1, .int p1), (2, .int p2), (3, .int p3), (4, .ref q)] := hl
  refine lv_aload hx hb dL_couple_0 (lv_at hl 4 rfl) ?_
  refine lv_iconst (v := nI 0) hx hb dL_couple_2 (by decide) ?_
  refine lv_aload_n hx hb dL_couple_3 rfl (lv_at hl 0 rfl) ?_
  refine lv_iload_n hx hb dL_couple_4 rfl (lv_at hl 1 rfl) ?_
  refine lv_iload_n hx hb dL_couple_5 rfl (lv_at hl 2 rfl) ?_
  refine lv_iload_n hx hb dL_couple_6 rfl (lv_at hl 3 rfl) ?_
  have hPO := hP.fst
  refine w_tVi (As := [.int p1, .int p2, .int p3]) (rest := [.int (nI 0), .ref q]) ⟨hx, hb, hml, hown, hts⟩ (t_couple l hl0 D a cI cL cO I J p1 p2 p3 s.heap.size) (cwV 3 hts gL_couple_X0_couple rfl rfl rfl (by decide +kernel) ⟨Nat.le_of_ble_eq_true rfl, Nat.le_of_ble_eq_true rfl⟩) hK hPO hDO hES hEH hS hA rfl rfl oc_at0 rfl hl.1 rfl (Nat.le_of_ble_eq_true rfl) dL_couple_7 ⟨Nat.le_of_ble_eq_true rfl, Nat.le_of_ble_eq_true rfl⟩ (fun E ce q9 H1 locs1 hxk hP3 hfr hS1 g1 g2 g3 => ?_) (fun hk0 H1 locs hP3 hfr hS => ?_)
  · have hP4 := va_P.app hP3 (va_P.beside (hD I J o) hP.snd hfr)
    rcases hxk with ⟨rfl, hk9⟩ | ⟨rfl, hk9⟩
    · skip
      refine vx_catch (name := nIAE) hown [] (⟨0, 12, 15, 13⟩ : ExceptionTableEntry) [(⟨0, 12, 19, 19⟩ : ExceptionTableEntry)] htab (fun z hz => by cases hz) (by decide) (by decide) (hts (.classLink RL 13 nIAE) (by decide +kernel)) (hES.2.1.use rfl) g1 g2 g3 ?_
      refine lv_astore (lv' := [(5, .ref q9), (0, .ref (a 0)), (1, .int p1), (2, .int p2), (3, .int p3), (4, .ref q)]) hx hb dL_couple_15 hl (by decide) rfl (fun ls hl => ?_)
      refine lv_iconst (v := 1) hx hb dL_couple_17 (by decide) ?_
      exact e_hx hx hb hr hlocks hP4 hS1 hk9 (by decide) (Nat.le_of_ble_eq_true rfl) (Nat.le_of_ble_eq_true rfl) dL_couple_18
    · skip
      refine vx_catch (name := nISE) hown [(⟨0, 12, 15, 13⟩ : ExceptionTableEntry)] (⟨0, 12, 19, 19⟩ : ExceptionTableEntry) [] htab (fun z hz => by rw [List.mem_singleton] at hz; subst hz; exact Or.inr ⟨by decide, nIAE, hts (.classLink RL 13 nIAE) (by decide +kernel), hES.2.2.2.1⟩) (by decide) (by decide) (hts (.classLink RL 19 nISE) (by decide +kernel)) (hES.2.2.1.use rfl) g1 g2 g3 ?_
      refine lv_astore (lv' := [(5, .ref q9), (0, .ref (a 0)), (1, .int p1), (2, .int p2), (3, .int p3), (4, .ref q)]) hx hb dL_couple_19 hl (by decide) rfl (fun ls hl => ?_)
      refine lv_iconst (v := 2) hx hb dL_couple_21 (by decide) ?_
      exact e_hx hx hb hr hlocks hP4 hS1 hk9 (by decide) (Nat.le_of_ble_eq_true rfl) (Nat.le_of_ble_eq_true rfl) dL_couple_22
  · have hP := va_P.app hP3 (va_P.beside (hD I J o) hP.snd hfr)
    refine lv_i2l hx hb dL_couple_10 rfl ?_
    refine w_lst (w' := oc a cI cL cO (u2 I (20 + p1.toNatClampNeg) p2.toNatClampNeg p3) J ++ lo1 cL q (vp_updL o 0 ((ccO (u2 I (20 + p1.toNatClampNeg) p2.toNatClampNeg p3) 3).toInt64))) hx hb hK hP (hD _ _ _) hS rfl (q0 := 23) rfl rfl (show 0 < 1 by decide) (by decide) dL_couple_11 (fun H locs hP hS => ?_)
    refine lv_goto (tgt := 23) hx hb dL_couple_12 (by decide) ?_
    refine lv_iconst (v := 0) hx hb dL_couple_23 (by decide) ?_
    exact e_h0 hx hb hr hlocks hP hS hk0 (Nat.le_of_ble_eq_true rfl) (Nat.le_of_ble_eq_true rfl) dL_couple_24
set_option maxHeartbeats 4000000 in
set_option maxRecDepth 100000 in
theorem h_uncouple (l : Launch) (hl0 : l.stackTraces = false) (D : va_G) (a : Nat → Nat) (cI cL cO : ClassId) (I : Nat → Nat → Int32) (J : Nat → Nat → Int64) (q : Nat) (o : Nat → Int64) (p1 p2 : Int32) (sz : Nat) : Met l yL_uncouple wsL_uncouple ({ frames := 9, cells := 2, slots := 12, locals := 147 } : Room) (va_Pc [.ref (a 0), .int p1, .int p2, .ref q] (tB D (oty cI cL cO) (oc a cI cL cO I J ++ lo1 cL q o) sz)) (hQ D (oc a cI cL cO I J ++ lo1 cL q o) sz (kUnc p1 p2) (oc a cI cL cO (u2 I (20 + p1.toNatClampNeg) p2.toNatClampNeg 1) J ++ lo1 cL q (vp_updL o 0 (bL (cpd I p1.toNatClampNeg p2.toNatClampNeg)))) (oc a cI cL cO I J ++ lo1 cL q o)) 2 12 (tA (oc a cI cL cO I J ++ lo1 cL q o) sz) := by
  refine va_MetW (cc := cL_uncouple) (maxL := 5) (ret := some .int) (hh := [(0, 17, 20, 13)]) (by decide) rfl ?_
  intro p e s m args below meth c s₁ B hml hv
  obtain ⟨rfl, hsz, hP, hK, hD0, hES, hEH⟩ := hv
  subst hsz
  have hx := B.exec
  have hb := B.bytes
  have hr := B.returns
  have hts := atoms_spec (ws := wsL_uncouple) B.pre
  have hown : s.vm.findClass RL = some m.cls := findClass_of_methodNamed B.named
  have hlocks := B.notSynchronized
  have htab := vx_table (x := yL_uncouple) B (hts _ List.mem_cons_self)
  have hDA := tA_D (sz := s.heap.size) hD0
  have hA : ∀ z9 : Nat, s.heap.size ≤ z9 → tA (oc a cI cL cO I J ++ lo1 cL q o) s.heap.size z9 := fun _ h => Or.inr h
  have hS : va_S (tA (oc a cI cL cO I J ++ lo1 cL q o) s.heap.size) s.heap s.heap [] := va_S.rf
  have hDO := hDA.fst
  have hD : ∀ (I : Nat → Nat → Int32) (J : Nat → Nat → Int64) (o : Nat → Int64), va_D _ (oc a cI cL cO I J ++ lo1 cL q o) := fun _ _ _ => wsD_addr hDA rfl
  have hl := lv_entry ([.ref (a 0), .int p1, .int p2, .ref q]) (n := 5) (Nat.le_of_ble_eq_true rfl)
  rw [lg_entry_eq]
  generalize (lg_sl ([.ref (a 0), .int p1, .int p2, .ref q]) ++ List.replicate (5 - (lg_sl ([.ref (a 0), .int p1, .int p2, .ref q])).length) Slot.unset).toArray = ls at hl ⊢
  have hl : lv_has ls 5 [(0, .ref (a 0)), (1, .int p1), (2, .int p2), (3, .ref q)] := hl
  refine lv_aload_n hx hb dL_uncouple_0 rfl (lv_at hl 3 rfl) ?_
  refine lv_iconst (v := nI 0) hx hb dL_uncouple_1 (by decide) ?_
  refine lv_aload_n hx hb dL_uncouple_2 rfl (lv_at hl 0 rfl) ?_
  refine lv_iload_n hx hb dL_uncouple_3 rfl (lv_at hl 1 rfl) ?_
  refine lv_iload_n hx hb dL_uncouple_4 rfl (lv_at hl 2 rfl) ?_
  have hPO := hP.fst
  refine w_tVi (As := [.int p1, .int p2]) (rest := [.int (nI 0), .ref q]) ⟨hx, hb, hml, hown, hts⟩ (t_uncouple l hl0 D a cI cL cO I J p1 p2 s.heap.size) (cwV 2 hts gL_uncouple_X0_uncouple rfl rfl rfl (by decide +kernel) ⟨Nat.le_of_ble_eq_true rfl, Nat.le_of_ble_eq_true rfl⟩) hK hPO hDO hES hEH hS hA rfl rfl oc_at0 rfl hl.1 rfl (Nat.le_of_ble_eq_true rfl) dL_uncouple_5 ⟨Nat.le_of_ble_eq_true rfl, Nat.le_of_ble_eq_true rfl⟩ (fun E ce q9 H1 locs1 hxk hP3 hfr hS1 g1 g2 g3 => ?_) (fun hk0 H1 locs hP3 hfr hS => ?_)
  · have hP4 := va_P.app hP3 (va_P.beside (hD I J o) hP.snd hfr)
    rcases hxk with ⟨rfl, hk9⟩ | ⟨rfl, hk9⟩
    · skip
      refine vx_catch (name := nIAE) hown [] (⟨0, 17, 20, 13⟩ : ExceptionTableEntry) [] htab (fun z hz => by cases hz) (by decide) (by decide) (hts (.classLink RL 13 nIAE) (by decide +kernel)) (hES.2.1.use rfl) g1 g2 g3 ?_
      refine lv_astore (lv' := [(4, .ref q9), (0, .ref (a 0)), (1, .int p1), (2, .int p2), (3, .ref q)]) hx hb dL_uncouple_20 hl (by decide) rfl (fun ls hl => ?_)
      refine lv_iconst (v := 1) hx hb dL_uncouple_22 (by decide) ?_
      exact e_hx hx hb hr hlocks hP4 hS1 hk9 (by decide) (Nat.le_of_ble_eq_true rfl) (Nat.le_of_ble_eq_true rfl) dL_uncouple_23
    · exact absurd hk9 (by unfold kUnc; exact k_ne2)
  · have hP := va_P.app hP3 (va_P.beside (hD I J o) hP.snd hfr)
    refine lv_if_eq (tgt := 15) hx hb dL_uncouple_8 (by decide) (fun c_1 => ?_) (fun c_1 => ?_)
    · have d_1 := bI_eq0 c_1
      refine lv_lconst (v := 0) hx hb dL_uncouple_15 (by decide) ?_
      refine lv_asl (bL (cpd I p1.toNatClampNeg p2.toNatClampNeg)) (by rw [d_1]; rfl) ?_
      refine w_lst (w' := oc a cI cL cO (u2 I (20 + p1.toNatClampNeg) p2.toNatClampNeg 1) J ++ lo1 cL q (vp_updL o 0 (bL (cpd I p1.toNatClampNeg p2.toNatClampNeg)))) hx hb hK hP (hD _ _ _) hS rfl (q0 := 23) rfl rfl (show 0 < 1 by decide) (by decide) dL_uncouple_16 (fun H locs hP hS => ?_)
      refine lv_goto (tgt := 24) hx hb dL_uncouple_17 (by decide) ?_
      refine lv_iconst (v := 0) hx hb dL_uncouple_24 (by decide) ?_
      exact e_h0 hx hb hr hlocks hP hS hk0 (Nat.le_of_ble_eq_true rfl) (Nat.le_of_ble_eq_true rfl) dL_uncouple_25
    · have d_1 := bI_ne0 c_1
      refine lv_lconst (v := 1) hx hb dL_uncouple_11 (by decide) ?_
      refine lv_asl (bL (cpd I p1.toNatClampNeg p2.toNatClampNeg)) (by rw [d_1]; rfl) ?_
      refine lv_goto (tgt := 16) hx hb dL_uncouple_12 (by decide) ?_
      refine w_lst (w' := oc a cI cL cO (u2 I (20 + p1.toNatClampNeg) p2.toNatClampNeg 1) J ++ lo1 cL q (vp_updL o 0 (bL (cpd I p1.toNatClampNeg p2.toNatClampNeg)))) hx hb hK hP (hD _ _ _) hS rfl (q0 := 23) rfl rfl (show 0 < 1 by decide) (by decide) dL_uncouple_16 (fun H locs hP hS => ?_)
      refine lv_goto (tgt := 24) hx hb dL_uncouple_17 (by decide) ?_
      refine lv_iconst (v := 0) hx hb dL_uncouple_24 (by decide) ?_
      exact e_h0 hx hb hr hlocks hP hS hk0 (Nat.le_of_ble_eq_true rfl) (Nat.le_of_ble_eq_true rfl) dL_uncouple_25
set_option maxHeartbeats 4000000 in
set_option maxRecDepth 100000 in
theorem h_setSupply (l : Launch) (hl0 : l.stackTraces = false) (D : va_G) (a : Nat → Nat) (cI cL cO : ClassId) (I : Nat → Nat → Int32) (J : Nat → Nat → Int64) (q : Nat) (o : Nat → Int64) (p1 : Int32) (sz : Nat) : Met l yL_setSupply wsL_setSupply ({ frames := 8, cells := 1, slots := 6, locals := 126 } : Room) (va_Pc [.ref (a 0), .int p1, .ref q] (tB D (oty cI cL cO) (oc a cI cL cO I J ++ lo1 cL q o) sz)) (hQ D (oc a cI cL cO I J ++ lo1 cL q o) sz (kSup p1) (oc a cI cL cO (u2 I 8 1 p1) J ++ lo1 cL q (vp_updL o 0 ((I 8 1).toInt64))) (oc a cI cL cO I J ++ lo1 cL q o)) 1 6 (tA (oc a cI cL cO I J ++ lo1 cL q o) sz) := by
  refine va_MetW (cc := cL_setSupply) (maxL := 4) (ret := some .int) (hh := [(0, 9, 12, 13)]) (by decide) rfl ?_
  intro p e s m args below meth c s₁ B hml hv
  obtain ⟨rfl, hsz, hP, hK, hD0, hES, hEH⟩ := hv
  subst hsz
  have hx := B.exec
  have hb := B.bytes
  have hr := B.returns
  have hts := atoms_spec (ws := wsL_setSupply) B.pre
  have hown : s.vm.findClass RL = some m.cls := findClass_of_methodNamed B.named
  have hlocks := B.notSynchronized
  have htab := vx_table (x := yL_setSupply) B (hts _ List.mem_cons_self)
  have hDA := tA_D (sz := s.heap.size) hD0
  have hA : ∀ z9 : Nat, s.heap.size ≤ z9 → tA (oc a cI cL cO I J ++ lo1 cL q o) s.heap.size z9 := fun _ h => Or.inr h
  have hS : va_S (tA (oc a cI cL cO I J ++ lo1 cL q o) s.heap.size) s.heap s.heap [] := va_S.rf
  have hDO := hDA.fst
  have hD : ∀ (I : Nat → Nat → Int32) (J : Nat → Nat → Int64) (o : Nat → Int64), va_D _ (oc a cI cL cO I J ++ lo1 cL q o) := fun _ _ _ => wsD_addr hDA rfl
  have hl := lv_entry ([.ref (a 0), .int p1, .ref q]) (n := 4) (Nat.le_of_ble_eq_true rfl)
  rw [lg_entry_eq]
  generalize (lg_sl ([.ref (a 0), .int p1, .ref q]) ++ List.replicate (4 - (lg_sl ([.ref (a 0), .int p1, .ref q])).length) Slot.unset).toArray = ls at hl ⊢
  have hl : lv_has ls 4 [(0, .ref (a 0)), (1, .int p1), (2, .ref q)] := hl
  refine lv_aload_n hx hb dL_setSupply_0 rfl (lv_at hl 2 rfl) ?_
  refine lv_iconst (v := nI 0) hx hb dL_setSupply_1 (by decide) ?_
  refine lv_aload_n hx hb dL_setSupply_2 rfl (lv_at hl 0 rfl) ?_
  refine lv_iload_n hx hb dL_setSupply_3 rfl (lv_at hl 1 rfl) ?_
  have hPO := hP.fst
  refine w_tVi (As := [.int p1]) (rest := [.int (nI 0), .ref q]) ⟨hx, hb, hml, hown, hts⟩ (t_setSupply l hl0 D a cI cL cO I J p1 s.heap.size) (cwV 1 hts gL_setSupply_X0_setSupply rfl rfl rfl (by decide +kernel) ⟨Nat.le_of_ble_eq_true rfl, Nat.le_of_ble_eq_true rfl⟩) hK hPO hDO hES hEH hS hA rfl rfl oc_at0 rfl hl.1 rfl (Nat.le_of_ble_eq_true rfl) dL_setSupply_4 ⟨Nat.le_of_ble_eq_true rfl, Nat.le_of_ble_eq_true rfl⟩ (fun E ce q9 H1 locs1 hxk hP3 hfr hS1 g1 g2 g3 => ?_) (fun hk0 H1 locs hP3 hfr hS => ?_)
  · have hP4 := va_P.app hP3 (va_P.beside (hD I J o) hP.snd hfr)
    rcases hxk with ⟨rfl, hk9⟩ | ⟨rfl, hk9⟩
    · skip
      refine vx_catch (name := nIAE) hown [] (⟨0, 9, 12, 13⟩ : ExceptionTableEntry) [] htab (fun z hz => by cases hz) (by decide) (by decide) (hts (.classLink RL 13 nIAE) (by decide +kernel)) (hES.2.1.use rfl) g1 g2 g3 ?_
      refine lv_astore_n (lv' := [(3, .ref q9), (0, .ref (a 0)), (1, .int p1), (2, .ref q)]) hx hb dL_setSupply_12 rfl hl (by decide) rfl (fun ls hl => ?_)
      refine lv_iconst (v := 1) hx hb dL_setSupply_13 (by decide) ?_
      exact e_hx hx hb hr hlocks hP4 hS1 hk9 (by decide) (Nat.le_of_ble_eq_true rfl) (Nat.le_of_ble_eq_true rfl) dL_setSupply_14
    · exact absurd hk9 (by unfold kSup; exact k_ne2)
  · have hP := va_P.app hP3 (va_P.beside (hD I J o) hP.snd hfr)
    refine lv_i2l hx hb dL_setSupply_7 rfl ?_
    refine w_lst (w' := oc a cI cL cO (u2 I 8 1 p1) J ++ lo1 cL q (vp_updL o 0 ((I 8 1).toInt64))) hx hb hK hP (hD _ _ _) hS rfl (q0 := 23) rfl rfl (show 0 < 1 by decide) (by decide) dL_setSupply_8 (fun H locs hP hS => ?_)
    refine lv_goto (tgt := 15) hx hb dL_setSupply_9 (by decide) ?_
    refine lv_iconst (v := 0) hx hb dL_setSupply_15 (by decide) ?_
    exact e_h0 hx hb hr hlocks hP hS hk0 (Nat.le_of_ble_eq_true rfl) (Nat.le_of_ble_eq_true rfl) dL_setSupply_16
set_option maxHeartbeats 4000000 in
set_option maxRecDepth 100000 in
theorem h_setSag (l : Launch) (hl0 : l.stackTraces = false) (D : va_G) (a : Nat → Nat) (cI cL cO : ClassId) (I : Nat → Nat → Int32) (J : Nat → Nat → Int64) (q : Nat) (o : Nat → Int64) (p1 p2 : Int32) (sz : Nat) : Met l yL_setSag wsL_setSag ({ frames := 8, cells := 2, slots := 12, locals := 127 } : Room) (va_Pc [.ref (a 0), .int p1, .int p2, .ref q] (tB D (oty cI cL cO) (oc a cI cL cO I J ++ lo1 cL q o) sz)) (hQ D (oc a cI cL cO I J ++ lo1 cL q o) sz (kSag p1 p2) (oc a cI cL cO (u2 I 6 p1.toNatClampNeg p2) J ++ lo1 cL q (vp_updL o 0 ((I 6 p1.toNatClampNeg).toInt64))) (oc a cI cL cO I J ++ lo1 cL q o)) 2 12 (tA (oc a cI cL cO I J ++ lo1 cL q o) sz) := by
  refine va_MetW (cc := cL_setSag) (maxL := 5) (ret := some .int) (hh := [(0, 10, 13, 13)]) (by decide) rfl ?_
  intro p e s m args below meth c s₁ B hml hv
  obtain ⟨rfl, hsz, hP, hK, hD0, hES, hEH⟩ := hv
  subst hsz
  have hx := B.exec
  have hb := B.bytes
  have hr := B.returns
  have hts := atoms_spec (ws := wsL_setSag) B.pre
  have hown : s.vm.findClass RL = some m.cls := findClass_of_methodNamed B.named
  have hlocks := B.notSynchronized
  have htab := vx_table (x := yL_setSag) B (hts _ List.mem_cons_self)
  have hDA := tA_D (sz := s.heap.size) hD0
  have hA : ∀ z9 : Nat, s.heap.size ≤ z9 → tA (oc a cI cL cO I J ++ lo1 cL q o) s.heap.size z9 := fun _ h => Or.inr h
  have hS : va_S (tA (oc a cI cL cO I J ++ lo1 cL q o) s.heap.size) s.heap s.heap [] := va_S.rf
  have hDO := hDA.fst
  have hD : ∀ (I : Nat → Nat → Int32) (J : Nat → Nat → Int64) (o : Nat → Int64), va_D _ (oc a cI cL cO I J ++ lo1 cL q o) := fun _ _ _ => wsD_addr hDA rfl
  have hl := lv_entry ([.ref (a 0), .int p1, .int p2, .ref q]) (n := 5) (Nat.le_of_ble_eq_true rfl)
  rw [lg_entry_eq]
  generalize (lg_sl ([.ref (a 0), .int p1, .int p2, .ref q]) ++ List.replicate (5 - (lg_sl ([.ref (a 0), .int p1, .int p2, .ref q])).length) Slot.unset).toArray = ls at hl ⊢
  have hl : lv_has ls 5 [(0, .ref (a 0)), (1, .int p1), (2, .int p2), (3, .ref q)] := hl
  refine lv_aload_n hx hb dL_setSag_0 rfl (lv_at hl 3 rfl) ?_
  refine lv_iconst (v := nI 0) hx hb dL_setSag_1 (by decide) ?_
  refine lv_aload_n hx hb dL_setSag_2 rfl (lv_at hl 0 rfl) ?_
  refine lv_iload_n hx hb dL_setSag_3 rfl (lv_at hl 1 rfl) ?_
  refine lv_iload_n hx hb dL_setSag_4 rfl (lv_at hl 2 rfl) ?_
  have hPO := hP.fst
  refine w_tVi (As := [.int p1, .int p2]) (rest := [.int (nI 0), .ref q]) ⟨hx, hb, hml, hown, hts⟩ (t_setSag l hl0 D a cI cL cO I J p1 p2 s.heap.size) (cwV 2 hts gL_setSag_X0_setSag rfl rfl rfl (by decide +kernel) ⟨Nat.le_of_ble_eq_true rfl, Nat.le_of_ble_eq_true rfl⟩) hK hPO hDO hES hEH hS hA rfl rfl oc_at0 rfl hl.1 rfl (Nat.le_of_ble_eq_true rfl) dL_setSag_5 ⟨Nat.le_of_ble_eq_true rfl, Nat.le_of_ble_eq_true rfl⟩ (fun E ce q9 H1 locs1 hxk hP3 hfr hS1 g1 g2 g3 => ?_) (fun hk0 H1 locs hP3 hfr hS => ?_)
  · have hP4 := va_P.app hP3 (va_P.beside (hD I J o) hP.snd hfr)
    rcases hxk with ⟨rfl, hk9⟩ | ⟨rfl, hk9⟩
    · skip
      refine vx_catch (name := nIAE) hown [] (⟨0, 10, 13, 13⟩ : ExceptionTableEntry) [] htab (fun z hz => by cases hz) (by decide) (by decide) (hts (.classLink RL 13 nIAE) (by decide +kernel)) (hES.2.1.use rfl) g1 g2 g3 ?_
      refine lv_astore (lv' := [(4, .ref q9), (0, .ref (a 0)), (1, .int p1), (2, .int p2), (3, .ref q)]) hx hb dL_setSag_13 hl (by decide) rfl (fun ls hl => ?_)
      refine lv_iconst (v := 1) hx hb dL_setSag_15 (by decide) ?_
      exact e_hx hx hb hr hlocks hP4 hS1 hk9 (by decide) (Nat.le_of_ble_eq_true rfl) (Nat.le_of_ble_eq_true rfl) dL_setSag_16
    · exact absurd hk9 (by unfold kSag; exact k_ne2)
  · have hP := va_P.app hP3 (va_P.beside (hD I J o) hP.snd hfr)
    refine lv_i2l hx hb dL_setSag_8 rfl ?_
    refine w_lst (w' := oc a cI cL cO (u2 I 6 p1.toNatClampNeg p2) J ++ lo1 cL q (vp_updL o 0 ((I 6 p1.toNatClampNeg).toInt64))) hx hb hK hP (hD _ _ _) hS rfl (q0 := 23) rfl rfl (show 0 < 1 by decide) (by decide) dL_setSag_9 (fun H locs hP hS => ?_)
    refine lv_goto (tgt := 17) hx hb dL_setSag_10 (by decide) ?_
    refine lv_iconst (v := 0) hx hb dL_setSag_17 (by decide) ?_
    exact e_h0 hx hb hr hlocks hP hS hk0 (Nat.le_of_ble_eq_true rfl) (Nat.le_of_ble_eq_true rfl) dL_setSag_18
set_option maxHeartbeats 4000000 in
set_option maxRecDepth 100000 in
theorem h_tune (l : Launch) (hl0 : l.stackTraces = false) (D : va_G) (a : Nat → Nat) (cI cL cO : ClassId) (I : Nat → Nat → Int32) (J : Nat → Nat → Int64) (q : Nat) (o : Nat → Int64) (p1 p2 : Int32) (sz : Nat) : Met l yL_tune wsL_tune ({ frames := 8, cells := 2, slots := 12, locals := 127 } : Room) (va_Pc [.ref (a 0), .int p1, .int p2, .ref q] (tB D (oty cI cL cO) (oc a cI cL cO I J ++ lo1 cL q o) sz)) (hQ D (oc a cI cL cO I J ++ lo1 cL q o) sz (kTune p1 p2) (oc a cI cL cO (u2 I 7 p1.toNatClampNeg p2) J ++ lo1 cL q (vp_updL o 0 ((I 7 p1.toNatClampNeg).toInt64))) (oc a cI cL cO I J ++ lo1 cL q o)) 2 12 (tA (oc a cI cL cO I J ++ lo1 cL q o) sz) := by
  refine va_MetW (cc := cL_tune) (maxL := 5) (ret := some .int) (hh := [(0, 10, 13, 13)]) (by decide) rfl ?_
  intro p e s m args below meth c s₁ B hml hv
  obtain ⟨rfl, hsz, hP, hK, hD0, hES, hEH⟩ := hv
  subst hsz
  have hx := B.exec
  have hb := B.bytes
  have hr := B.returns
  have hts := atoms_spec (ws := wsL_tune) B.pre
  have hown : s.vm.findClass RL = some m.cls := findClass_of_methodNamed B.named
  have hlocks := B.notSynchronized
  have htab := vx_table (x := yL_tune) B (hts _ List.mem_cons_self)
  have hDA := tA_D (sz := s.heap.size) hD0
  have hA : ∀ z9 : Nat, s.heap.size ≤ z9 → tA (oc a cI cL cO I J ++ lo1 cL q o) s.heap.size z9 := fun _ h => Or.inr h
  have hS : va_S (tA (oc a cI cL cO I J ++ lo1 cL q o) s.heap.size) s.heap s.heap [] := va_S.rf
  have hDO := hDA.fst
  have hD : ∀ (I : Nat → Nat → Int32) (J : Nat → Nat → Int64) (o : Nat → Int64), va_D _ (oc a cI cL cO I J ++ lo1 cL q o) := fun _ _ _ => wsD_addr hDA rfl
  have hl := lv_entry ([.ref (a 0), .int p1, .int p2, .ref q]) (n := 5) (Nat.le_of_ble_eq_true rfl)
  rw [lg_entry_eq]
  generalize (lg_sl ([.ref (a 0), .int p1, .int p2, .ref q]) ++ List.replicate (5 - (lg_sl ([.ref (a 0), .int p1, .int p2, .ref q])).length) Slot.unset).toArray = ls at hl ⊢
  have hl : lv_has ls 5 [(0, .ref (a 0)), (1, .int p1), (2, .int p2), (3, .ref q)] := hl
  refine lv_aload_n hx hb dL_tune_0 rfl (lv_at hl 3 rfl) ?_
  refine lv_iconst (v := nI 0) hx hb dL_tune_1 (by decide) ?_
  refine lv_aload_n hx hb dL_tune_2 rfl (lv_at hl 0 rfl) ?_
  refine lv_iload_n hx hb dL_tune_3 rfl (lv_at hl 1 rfl) ?_
  refine lv_iload_n hx hb dL_tune_4 rfl (lv_at hl 2 rfl) ?_
  have hPO := hP.fst
  refine w_tVi (As := [.int p1, .int p2]) (rest := [.int (nI 0), .ref q]) ⟨hx, hb, hml, hown, hts⟩ (t_tune l hl0 D a cI cL cO I J p1 p2 s.heap.size) (cwV 2 hts gL_tune_X0_tune rfl rfl rfl (by decide +kernel) ⟨Nat.le_of_ble_eq_true rfl, Nat.le_of_ble_eq_true rfl⟩) hK hPO hDO hES hEH hS hA rfl rfl oc_at0 rfl hl.1 rfl (Nat.le_of_ble_eq_true rfl) dL_tune_5 ⟨Nat.le_of_ble_eq_true rfl, Nat.le_of_ble_eq_true rfl⟩ (fun E ce q9 H1 locs1 hxk hP3 hfr hS1 g1 g2 g3 => ?_) (fun hk0 H1 locs hP3 hfr hS => ?_)
  · have hP4 := va_P.app hP3 (va_P.beside (hD I J o) hP.snd hfr)
    rcases hxk with ⟨rfl, hk9⟩ | ⟨rfl, hk9⟩
    · skip
      refine vx_catch (name := nIAE) hown [] (⟨0, 10, 13, 13⟩ : ExceptionTableEntry) [] htab (fun z hz => by cases hz) (by decide) (by decide) (hts (.classLink RL 13 nIAE) (by decide +kernel)) (hES.2.1.use rfl) g1 g2 g3 ?_
      refine lv_astore (lv' := [(4, .ref q9), (0, .ref (a 0)), (1, .int p1), (2, .int p2), (3, .ref q)]) hx hb dL_tune_13 hl (by decide) rfl (fun ls hl => ?_)
      refine lv_iconst (v := 1) hx hb dL_tune_15 (by decide) ?_
      exact e_hx hx hb hr hlocks hP4 hS1 hk9 (by decide) (Nat.le_of_ble_eq_true rfl) (Nat.le_of_ble_eq_true rfl) dL_tune_16
    · exact absurd hk9 (by unfold kTune; exact k_ne2)
  · have hP := va_P.app hP3 (va_P.beside (hD I J o) hP.snd hfr)
    refine lv_i2l hx hb dL_tune_8 rfl ?_
    refine w_lst (w' := oc a cI cL cO (u2 I 7 p1.toNatClampNeg p2) J ++ lo1 cL q (vp_updL o 0 ((I 7 p1.toNatClampNeg).toInt64))) hx hb hK hP (hD _ _ _) hS rfl (q0 := 23) rfl rfl (show 0 < 1 by decide) (by decide) dL_tune_9 (fun H locs hP hS => ?_)
    refine lv_goto (tgt := 17) hx hb dL_tune_10 (by decide) ?_
    refine lv_iconst (v := 0) hx hb dL_tune_17 (by decide) ?_
    exact e_h0 hx hb hr hlocks hP hS hk0 (Nat.le_of_ble_eq_true rfl) (Nat.le_of_ble_eq_true rfl) dL_tune_18
set_option maxHeartbeats 4000000 in
set_option maxRecDepth 100000 in
theorem h_draw (l : Launch) (hl0 : l.stackTraces = false) (D : va_G) (a : Nat → Nat) (cI cL cO : ClassId) (I : Nat → Nat → Int32) (J : Nat → Nat → Int64) (q : Nat) (o : Nat → Int64) (p1 p2 : Int32) (sz : Nat) : Met l yL_draw wsL_draw ({ frames := 9, cells := 1, slots := 6, locals := 147 } : Room) (va_Pc [.ref (a 0), .int p1, .int p2, .ref q] (tB D (oty cI cL cO) (oc a cI cL cO I J ++ lo1 cL q o) sz)) (hQ D (oc a cI cL cO I J ++ lo1 cL q o) sz (kDraw p1) (oc a cI cL cO (drI I p1 p2) J ++ lo1 cL q (vp_updL o 0 (bL (dr (I 8 0) p1)))) (oc a cI cL cO I J ++ lo1 cL q o)) 1 6 (tA (oc a cI cL cO I J ++ lo1 cL q o) sz) := by
  refine va_MetW (cc := cL_draw) (maxL := 5) (ret := some .int) (hh := [(0, 17, 20, 13)]) (by decide) rfl ?_
  intro p e s m args below meth c s₁ B hml hv
  obtain ⟨rfl, hsz, hP, hK, hD0, hES, hEH⟩ := hv
  subst hsz
  have hx := B.exec
  have hb := B.bytes
  have hr := B.returns
  have hts := atoms_spec (ws := wsL_draw) B.pre
  have hown : s.vm.findClass RL = some m.cls := findClass_of_methodNamed B.named
  have hlocks := B.notSynchronized
  have htab := vx_table (x := yL_draw) B (hts _ List.mem_cons_self)
  have hDA := tA_D (sz := s.heap.size) hD0
  have hA : ∀ z9 : Nat, s.heap.size ≤ z9 → tA (oc a cI cL cO I J ++ lo1 cL q o) s.heap.size z9 := fun _ h => Or.inr h
  have hS : va_S (tA (oc a cI cL cO I J ++ lo1 cL q o) s.heap.size) s.heap s.heap [] := va_S.rf
  have hDO := hDA.fst
  have hD : ∀ (I : Nat → Nat → Int32) (J : Nat → Nat → Int64) (o : Nat → Int64), va_D _ (oc a cI cL cO I J ++ lo1 cL q o) := fun _ _ _ => wsD_addr hDA rfl
  have hl := lv_entry ([.ref (a 0), .int p1, .int p2, .ref q]) (n := 5) (Nat.le_of_ble_eq_true rfl)
  rw [lg_entry_eq]
  generalize (lg_sl ([.ref (a 0), .int p1, .int p2, .ref q]) ++ List.replicate (5 - (lg_sl ([.ref (a 0), .int p1, .int p2, .ref q])).length) Slot.unset).toArray = ls at hl ⊢
  have hl : lv_has ls 5 [(0, .ref (a 0)), (1, .int p1), (2, .int p2), (3, .ref q)] := hl
  refine lv_aload_n hx hb dL_draw_0 rfl (lv_at hl 3 rfl) ?_
  refine lv_iconst (v := nI 0) hx hb dL_draw_1 (by decide) ?_
  refine lv_aload_n hx hb dL_draw_2 rfl (lv_at hl 0 rfl) ?_
  refine lv_iload_n hx hb dL_draw_3 rfl (lv_at hl 1 rfl) ?_
  refine lv_iload_n hx hb dL_draw_4 rfl (lv_at hl 2 rfl) ?_
  have hPO := hP.fst
  refine w_tVi (As := [.int p1, .int p2]) (rest := [.int (nI 0), .ref q]) ⟨hx, hb, hml, hown, hts⟩ (t_draw l hl0 D a cI cL cO I J p1 p2 s.heap.size) (cwV 2 hts gL_draw_X0_draw rfl rfl rfl (by decide +kernel) ⟨Nat.le_of_ble_eq_true rfl, Nat.le_of_ble_eq_true rfl⟩) hK hPO hDO hES hEH hS hA rfl rfl oc_at0 rfl hl.1 rfl (Nat.le_of_ble_eq_true rfl) dL_draw_5 ⟨Nat.le_of_ble_eq_true rfl, Nat.le_of_ble_eq_true rfl⟩ (fun E ce q9 H1 locs1 hxk hP3 hfr hS1 g1 g2 g3 => ?_) (fun hk0 H1 locs hP3 hfr hS => ?_)
  · have hP4 := va_P.app hP3 (va_P.beside (hD I J o) hP.snd hfr)
    rcases hxk with ⟨rfl, hk9⟩ | ⟨rfl, hk9⟩
    · skip
      refine vx_catch (name := nIAE) hown [] (⟨0, 17, 20, 13⟩ : ExceptionTableEntry) [] htab (fun z hz => by cases hz) (by decide) (by decide) (hts (.classLink RL 13 nIAE) (by decide +kernel)) (hES.2.1.use rfl) g1 g2 g3 ?_
      refine lv_astore (lv' := [(4, .ref q9), (0, .ref (a 0)), (1, .int p1), (2, .int p2), (3, .ref q)]) hx hb dL_draw_20 hl (by decide) rfl (fun ls hl => ?_)
      refine lv_iconst (v := 1) hx hb dL_draw_22 (by decide) ?_
      exact e_hx hx hb hr hlocks hP4 hS1 hk9 (by decide) (Nat.le_of_ble_eq_true rfl) (Nat.le_of_ble_eq_true rfl) dL_draw_23
    · exact absurd hk9 (by unfold kDraw; exact k_ne2)
  · have hP := va_P.app hP3 (va_P.beside (hD I J o) hP.snd hfr)
    refine lv_if_eq (tgt := 15) hx hb dL_draw_8 (by decide) (fun c_1 => ?_) (fun c_1 => ?_)
    · have d_1 := bI_eq0 c_1
      refine lv_lconst (v := 0) hx hb dL_draw_15 (by decide) ?_
      refine lv_asl (bL (dr (I 8 0) p1)) (by rw [d_1]; rfl) ?_
      refine w_lst (w' := oc a cI cL cO (drI I p1 p2) J ++ lo1 cL q (vp_updL o 0 (bL (dr (I 8 0) p1)))) hx hb hK hP (hD _ _ _) hS rfl (q0 := 23) rfl rfl (show 0 < 1 by decide) (by decide) dL_draw_16 (fun H locs hP hS => ?_)
      refine lv_goto (tgt := 24) hx hb dL_draw_17 (by decide) ?_
      refine lv_iconst (v := 0) hx hb dL_draw_24 (by decide) ?_
      exact e_h0 hx hb hr hlocks hP hS hk0 (Nat.le_of_ble_eq_true rfl) (Nat.le_of_ble_eq_true rfl) dL_draw_25
    · have d_1 := bI_ne0 c_1
      refine lv_lconst (v := 1) hx hb dL_draw_11 (by decide) ?_
      refine lv_asl (bL (dr (I 8 0) p1)) (by rw [d_1]; rfl) ?_
      refine lv_goto (tgt := 16) hx hb dL_draw_12 (by decide) ?_
      refine w_lst (w' := oc a cI cL cO (drI I p1 p2) J ++ lo1 cL q (vp_updL o 0 (bL (dr (I 8 0) p1)))) hx hb hK hP (hD _ _ _) hS rfl (q0 := 23) rfl rfl (show 0 < 1 by decide) (by decide) dL_draw_16 (fun H locs hP hS => ?_)
      refine lv_goto (tgt := 24) hx hb dL_draw_17 (by decide) ?_
      refine lv_iconst (v := 0) hx hb dL_draw_24 (by decide) ?_
      exact e_h0 hx hb hr hlocks hP hS hk0 (Nat.le_of_ble_eq_true rfl) (Nat.le_of_ble_eq_true rfl) dL_draw_25
set_option maxHeartbeats 4000000 in
set_option maxRecDepth 100000 in
theorem h_keep (l : Launch) (hl0 : l.stackTraces = false) (D : va_G) (a : Nat → Nat) (cI cL cO : ClassId) (I : Nat → Nat → Int32) (J : Nat → Nat → Int64) (q : Nat) (o : Nat → Int64) (p1 : Int32) (sz : Nat) : Met l yL_keep wsL_keep ({ frames := 8, cells := 1, slots := 6, locals := 125 } : Room) (va_Pc [.ref (a 0), .int p1, .ref q] (tB D (oty cI cL cO) (oc a cI cL cO I J ++ lo1 cL q o) sz)) (hQ D (oc a cI cL cO I J ++ lo1 cL q o) sz (kReg p1) (oc a cI cL cO (u2 I 5 p1.toNatClampNeg (I 8 0)) J ++ lo1 cL q (vp_updL o 0 ((bcI (I 8 0)).toInt64))) (oc a cI cL cO I J ++ lo1 cL q o)) 1 6 (tA (oc a cI cL cO I J ++ lo1 cL q o) sz) := by
  refine va_MetW (cc := cL_keep) (maxL := 4) (ret := some .int) (hh := [(0, 9, 12, 13)]) (by decide) rfl ?_
  intro p e s m args below meth c s₁ B hml hv
  obtain ⟨rfl, hsz, hP, hK, hD0, hES, hEH⟩ := hv
  subst hsz
  have hx := B.exec
  have hb := B.bytes
  have hr := B.returns
  have hts := atoms_spec (ws := wsL_keep) B.pre
  have hown : s.vm.findClass RL = some m.cls := findClass_of_methodNamed B.named
  have hlocks := B.notSynchronized
  have htab := vx_table (x := yL_keep) B (hts _ List.mem_cons_self)
  have hDA := tA_D (sz := s.heap.size) hD0
  have hA : ∀ z9 : Nat, s.heap.size ≤ z9 → tA (oc a cI cL cO I J ++ lo1 cL q o) s.heap.size z9 := fun _ h => Or.inr h
  have hS : va_S (tA (oc a cI cL cO I J ++ lo1 cL q o) s.heap.size) s.heap s.heap [] := va_S.rf
  have hDO := hDA.fst
  have hD : ∀ (I : Nat → Nat → Int32) (J : Nat → Nat → Int64) (o : Nat → Int64), va_D _ (oc a cI cL cO I J ++ lo1 cL q o) := fun _ _ _ => wsD_addr hDA rfl
  have hl := lv_entry ([.ref (a 0), .int p1, .ref q]) (n := 4) (Nat.le_of_ble_eq_true rfl)
  rw [lg_entry_eq]
  generalize (lg_sl ([.ref (a 0), .int p1, .ref q]) ++ List.replicate (4 - (lg_sl ([.ref (a 0), .int p1, .ref q])).length) Slot.unset).toArray = ls at hl ⊢
  have hl : lv_has ls 4 [(0, .ref (a 0)), (1, .int p1), (2, .ref q)] := hl
  refine lv_aload_n hx hb dL_keep_0 rfl (lv_at hl 2 rfl) ?_
  refine lv_iconst (v := nI 0) hx hb dL_keep_1 (by decide) ?_
  refine lv_aload_n hx hb dL_keep_2 rfl (lv_at hl 0 rfl) ?_
  refine lv_iload_n hx hb dL_keep_3 rfl (lv_at hl 1 rfl) ?_
  have hPO := hP.fst
  refine w_tVi (As := [.int p1]) (rest := [.int (nI 0), .ref q]) ⟨hx, hb, hml, hown, hts⟩ (t_keep l hl0 D a cI cL cO I J p1 s.heap.size) (cwV 1 hts gL_keep_X0_keep rfl rfl rfl (by decide +kernel) ⟨Nat.le_of_ble_eq_true rfl, Nat.le_of_ble_eq_true rfl⟩) hK hPO hDO hES hEH hS hA rfl rfl oc_at0 rfl hl.1 rfl (Nat.le_of_ble_eq_true rfl) dL_keep_4 ⟨Nat.le_of_ble_eq_true rfl, Nat.le_of_ble_eq_true rfl⟩ (fun E ce q9 H1 locs1 hxk hP3 hfr hS1 g1 g2 g3 => ?_) (fun hk0 H1 locs hP3 hfr hS => ?_)
  · have hP4 := va_P.app hP3 (va_P.beside (hD I J o) hP.snd hfr)
    rcases hxk with ⟨rfl, hk9⟩ | ⟨rfl, hk9⟩
    · skip
      refine vx_catch (name := nIAE) hown [] (⟨0, 9, 12, 13⟩ : ExceptionTableEntry) [] htab (fun z hz => by cases hz) (by decide) (by decide) (hts (.classLink RL 13 nIAE) (by decide +kernel)) (hES.2.1.use rfl) g1 g2 g3 ?_
      refine lv_astore_n (lv' := [(3, .ref q9), (0, .ref (a 0)), (1, .int p1), (2, .ref q)]) hx hb dL_keep_12 rfl hl (by decide) rfl (fun ls hl => ?_)
      refine lv_iconst (v := 1) hx hb dL_keep_13 (by decide) ?_
      exact e_hx hx hb hr hlocks hP4 hS1 hk9 (by decide) (Nat.le_of_ble_eq_true rfl) (Nat.le_of_ble_eq_true rfl) dL_keep_14
    · exact absurd hk9 (by unfold kReg; exact k_ne2)
  · have hP := va_P.app hP3 (va_P.beside (hD I J o) hP.snd hfr)
    refine lv_i2l hx hb dL_keep_7 rfl ?_
    refine w_lst (w' := oc a cI cL cO (u2 I 5 p1.toNatClampNeg (I 8 0)) J ++ lo1 cL q (vp_updL o 0 ((bcI (I 8 0)).toInt64))) hx hb hK hP (hD _ _ _) hS rfl (q0 := 23) rfl rfl (show 0 < 1 by decide) (by decide) dL_keep_8 (fun H locs hP hS => ?_)
    refine lv_goto (tgt := 15) hx hb dL_keep_9 (by decide) ?_
    refine lv_iconst (v := 0) hx hb dL_keep_15 (by decide) ?_
    exact e_h0 hx hb hr hlocks hP hS hk0 (Nat.le_of_ble_eq_true rfl) (Nat.le_of_ble_eq_true rfl) dL_keep_16
set_option maxHeartbeats 4000000 in
set_option maxRecDepth 100000 in
theorem h_recall (l : Launch) (hl0 : l.stackTraces = false) (D : va_G) (a : Nat → Nat) (cI cL cO : ClassId) (I : Nat → Nat → Int32) (J : Nat → Nat → Int64) (q : Nat) (o : Nat → Int64) (p1 : Int32) (sz : Nat) : Met l yL_recall wsL_recall ({ frames := 8, cells := 1, slots := 6, locals := 126 } : Room) (va_Pc [.ref (a 0), .int p1, .ref q] (tB D (oty cI cL cO) (oc a cI cL cO I J ++ lo1 cL q o) sz)) (hQ D (oc a cI cL cO I J ++ lo1 cL q o) sz (kReg p1) (oc a cI cL cO (u2 I 8 0 (I 5 p1.toNatClampNeg)) J ++ lo1 cL q (vp_updL o 0 ((bcI (I 8 0 ^^^ I 5 p1.toNatClampNeg)).toInt64))) (oc a cI cL cO I J ++ lo1 cL q o)) 1 6 (tA (oc a cI cL cO I J ++ lo1 cL q o) sz) := by
  refine va_MetW (cc := cL_recall) (maxL := 4) (ret := some .int) (hh := [(0, 9, 12, 13)]) (by decide) rfl ?_
  intro p e s m args below meth c s₁ B hml hv
  obtain ⟨rfl, hsz, hP, hK, hD0, hES, hEH⟩ := hv
  subst hsz
  have hx := B.exec
  have hb := B.bytes
  have hr := B.returns
  have hts := atoms_spec (ws := wsL_recall) B.pre
  have hown : s.vm.findClass RL = some m.cls := findClass_of_methodNamed B.named
  have hlocks := B.notSynchronized
  have htab := vx_table (x := yL_recall) B (hts _ List.mem_cons_self)
  have hDA := tA_D (sz := s.heap.size) hD0
  have hA : ∀ z9 : Nat, s.heap.size ≤ z9 → tA (oc a cI cL cO I J ++ lo1 cL q o) s.heap.size z9 := fun _ h => Or.inr h
  have hS : va_S (tA (oc a cI cL cO I J ++ lo1 cL q o) s.heap.size) s.heap s.heap [] := va_S.rf
  have hDO := hDA.fst
  have hD : ∀ (I : Nat → Nat → Int32) (J : Nat → Nat → Int64) (o : Nat → Int64), va_D _ (oc a cI cL cO I J ++ lo1 cL q o) := fun _ _ _ => wsD_addr hDA rfl
  have hl := lv_entry ([.ref (a 0), .int p1, .ref q]) (n := 4) (Nat.le_of_ble_eq_true rfl)
  rw [lg_entry_eq]
  generalize (lg_sl ([.ref (a 0), .int p1, .ref q]) ++ List.replicate (4 - (lg_sl ([.ref (a 0), .int p1, .ref q])).length) Slot.unset).toArray = ls at hl ⊢
  have hl : lv_has ls 4 [(0, .ref (a 0)), (1, .int p1), (2, .ref q)] := hl
  refine lv_aload_n hx hb dL_recall_0 rfl (lv_at hl 2 rfl) ?_
  refine lv_iconst (v := nI 0) hx hb dL_recall_1 (by decide) ?_
  refine lv_aload_n hx hb dL_recall_2 rfl (lv_at hl 0 rfl) ?_
  refine lv_iload_n hx hb dL_recall_3 rfl (lv_at hl 1 rfl) ?_
  have hPO := hP.fst
  refine w_tVi (As := [.int p1]) (rest := [.int (nI 0), .ref q]) ⟨hx, hb, hml, hown, hts⟩ (t_recall l hl0 D a cI cL cO I J p1 s.heap.size) (cwV 1 hts gL_recall_X0_recall rfl rfl rfl (by decide +kernel) ⟨Nat.le_of_ble_eq_true rfl, Nat.le_of_ble_eq_true rfl⟩) hK hPO hDO hES hEH hS hA rfl rfl oc_at0 rfl hl.1 rfl (Nat.le_of_ble_eq_true rfl) dL_recall_4 ⟨Nat.le_of_ble_eq_true rfl, Nat.le_of_ble_eq_true rfl⟩ (fun E ce q9 H1 locs1 hxk hP3 hfr hS1 g1 g2 g3 => ?_) (fun hk0 H1 locs hP3 hfr hS => ?_)
  · have hP4 := va_P.app hP3 (va_P.beside (hD I J o) hP.snd hfr)
    rcases hxk with ⟨rfl, hk9⟩ | ⟨rfl, hk9⟩
    · skip
      refine vx_catch (name := nIAE) hown [] (⟨0, 9, 12, 13⟩ : ExceptionTableEntry) [] htab (fun z hz => by cases hz) (by decide) (by decide) (hts (.classLink RL 13 nIAE) (by decide +kernel)) (hES.2.1.use rfl) g1 g2 g3 ?_
      refine lv_astore_n (lv' := [(3, .ref q9), (0, .ref (a 0)), (1, .int p1), (2, .ref q)]) hx hb dL_recall_12 rfl hl (by decide) rfl (fun ls hl => ?_)
      refine lv_iconst (v := 1) hx hb dL_recall_13 (by decide) ?_
      exact e_hx hx hb hr hlocks hP4 hS1 hk9 (by decide) (Nat.le_of_ble_eq_true rfl) (Nat.le_of_ble_eq_true rfl) dL_recall_14
    · exact absurd hk9 (by unfold kReg; exact k_ne2)
  · have hP := va_P.app hP3 (va_P.beside (hD I J o) hP.snd hfr)
    refine lv_i2l hx hb dL_recall_7 rfl ?_
    refine w_lst (w' := oc a cI cL cO (u2 I 8 0 (I 5 p1.toNatClampNeg)) J ++ lo1 cL q (vp_updL o 0 ((bcI (I 8 0 ^^^ I 5 p1.toNatClampNeg)).toInt64))) hx hb hK hP (hD _ _ _) hS rfl (q0 := 23) rfl rfl (show 0 < 1 by decide) (by decide) dL_recall_8 (fun H locs hP hS => ?_)
    refine lv_goto (tgt := 15) hx hb dL_recall_9 (by decide) ?_
    refine lv_iconst (v := 0) hx hb dL_recall_15 (by decide) ?_
    exact e_h0 hx hb hr hlocks hP hS hk0 (Nat.le_of_ble_eq_true rfl) (Nat.le_of_ble_eq_true rfl) dL_recall_16
set_option maxHeartbeats 4000000 in
set_option maxRecDepth 100000 in
theorem h_hold (l : Launch) (hl0 : l.stackTraces = false) (D : va_G) (a : Nat → Nat) (cI cL cO : ClassId) (I : Nat → Nat → Int32) (J : Nat → Nat → Int64) (q : Nat) (o : Nat → Int64) (p1 p2 p3 : Int32) (sz : Nat) : Met l yL_hold wsL_hold ({ frames := 9, cells := 2, slots := 12, locals := 148 } : Room) (va_Pc [.ref (a 0), .int p1, .int p2, .int p3, .ref q] (tB D (oty cI cL cO) (oc a cI cL cO I J ++ lo1 cL q o) sz)) (hQ D (oc a cI cL cO I J ++ lo1 cL q o) sz (kMK p1 p2) (oc a cI cL cO I (hoJ J p1 p2 p3) ++ lo1 cL q (vp_updL o 0 (bL (hk (J 0 p1.toNatClampNeg) p2)))) (oc a cI cL cO I J ++ lo1 cL q o)) 2 12 (tA (oc a cI cL cO I J ++ lo1 cL q o) sz) := by
  refine va_MetW (cc := cL_hold) (maxL := 6) (ret := some .int) (hh := [(0, 19, 22, 13)]) (by decide) rfl ?_
  intro p e s m args below meth c s₁ B hml hv
  obtain ⟨rfl, hsz, hP, hK, hD0, hES, hEH⟩ := hv
  subst hsz
  have hx := B.exec
  have hb := B.bytes
  have hr := B.returns
  have hts := atoms_spec (ws := wsL_hold) B.pre
  have hown : s.vm.findClass RL = some m.cls := findClass_of_methodNamed B.named
  have hlocks := B.notSynchronized
  have htab := vx_table (x := yL_hold) B (hts _ List.mem_cons_self)
  have hDA := tA_D (sz := s.heap.size) hD0
  have hA : ∀ z9 : Nat, s.heap.size ≤ z9 → tA (oc a cI cL cO I J ++ lo1 cL q o) s.heap.size z9 := fun _ h => Or.inr h
  have hS : va_S (tA (oc a cI cL cO I J ++ lo1 cL q o) s.heap.size) s.heap s.heap [] := va_S.rf
  have hDO := hDA.fst
  have hD : ∀ (I : Nat → Nat → Int32) (J : Nat → Nat → Int64) (o : Nat → Int64), va_D _ (oc a cI cL cO I J ++ lo1 cL q o) := fun _ _ _ => wsD_addr hDA rfl
  have hl := lv_entry ([.ref (a 0), .int p1, .int p2, .int p3, .ref q]) (n := 6) (Nat.le_of_ble_eq_true rfl)
  rw [lg_entry_eq]
  generalize (lg_sl ([.ref (a 0), .int p1, .int p2, .int p3, .ref q]) ++ List.replicate (6 - (lg_sl ([.ref (a 0), .int p1, .int p2, .int p3, .ref q])).length) Slot.unset).toArray = ls at hl ⊢
  have hl : lv_has ls 6 [(0, .ref (a 0)), (1, .int p1), (2, .int p2), (3, .int p3), (4, .ref q)] := hl
  refine lv_aload hx hb dL_hold_0 (lv_at hl 4 rfl) ?_
  refine lv_iconst (v := nI 0) hx hb dL_hold_2 (by decide) ?_
  refine lv_aload_n hx hb dL_hold_3 rfl (lv_at hl 0 rfl) ?_
  refine lv_iload_n hx hb dL_hold_4 rfl (lv_at hl 1 rfl) ?_
  refine lv_iload_n hx hb dL_hold_5 rfl (lv_at hl 2 rfl) ?_
  refine lv_iload_n hx hb dL_hold_6 rfl (lv_at hl 3 rfl) ?_
  have hPO := hP.fst
  refine w_tVi (As := [.int p1, .int p2, .int p3]) (rest := [.int (nI 0), .ref q]) ⟨hx, hb, hml, hown, hts⟩ (t_hold l hl0 D a cI cL cO I J p1 p2 p3 s.heap.size) (cwV 3 hts gL_hold_X0_hold rfl rfl rfl (by decide +kernel) ⟨Nat.le_of_ble_eq_true rfl, Nat.le_of_ble_eq_true rfl⟩) hK hPO hDO hES hEH hS hA rfl rfl oc_at0 rfl hl.1 rfl (Nat.le_of_ble_eq_true rfl) dL_hold_7 ⟨Nat.le_of_ble_eq_true rfl, Nat.le_of_ble_eq_true rfl⟩ (fun E ce q9 H1 locs1 hxk hP3 hfr hS1 g1 g2 g3 => ?_) (fun hk0 H1 locs hP3 hfr hS => ?_)
  · have hP4 := va_P.app hP3 (va_P.beside (hD I J o) hP.snd hfr)
    rcases hxk with ⟨rfl, hk9⟩ | ⟨rfl, hk9⟩
    · skip
      refine vx_catch (name := nIAE) hown [] (⟨0, 19, 22, 13⟩ : ExceptionTableEntry) [] htab (fun z hz => by cases hz) (by decide) (by decide) (hts (.classLink RL 13 nIAE) (by decide +kernel)) (hES.2.1.use rfl) g1 g2 g3 ?_
      refine lv_astore (lv' := [(5, .ref q9), (0, .ref (a 0)), (1, .int p1), (2, .int p2), (3, .int p3), (4, .ref q)]) hx hb dL_hold_22 hl (by decide) rfl (fun ls hl => ?_)
      refine lv_iconst (v := 1) hx hb dL_hold_24 (by decide) ?_
      exact e_hx hx hb hr hlocks hP4 hS1 hk9 (by decide) (Nat.le_of_ble_eq_true rfl) (Nat.le_of_ble_eq_true rfl) dL_hold_25
    · exact absurd hk9 (by unfold kMK; exact k_ne2)
  · have hP := va_P.app hP3 (va_P.beside (hD I J o) hP.snd hfr)
    refine lv_if_eq (tgt := 17) hx hb dL_hold_10 (by decide) (fun c_1 => ?_) (fun c_1 => ?_)
    · have d_1 := bI_eq0 c_1
      refine lv_lconst (v := 0) hx hb dL_hold_17 (by decide) ?_
      refine lv_asl (bL (hk (J 0 p1.toNatClampNeg) p2)) (by rw [d_1]; rfl) ?_
      refine w_lst (w' := oc a cI cL cO I (hoJ J p1 p2 p3) ++ lo1 cL q (vp_updL o 0 (bL (hk (J 0 p1.toNatClampNeg) p2)))) hx hb hK hP (hD _ _ _) hS rfl (q0 := 23) rfl rfl (show 0 < 1 by decide) (by decide) dL_hold_18 (fun H locs hP hS => ?_)
      refine lv_goto (tgt := 26) hx hb dL_hold_19 (by decide) ?_
      refine lv_iconst (v := 0) hx hb dL_hold_26 (by decide) ?_
      exact e_h0 hx hb hr hlocks hP hS hk0 (Nat.le_of_ble_eq_true rfl) (Nat.le_of_ble_eq_true rfl) dL_hold_27
    · have d_1 := bI_ne0 c_1
      refine lv_lconst (v := 1) hx hb dL_hold_13 (by decide) ?_
      refine lv_asl (bL (hk (J 0 p1.toNatClampNeg) p2)) (by rw [d_1]; rfl) ?_
      refine lv_goto (tgt := 18) hx hb dL_hold_14 (by decide) ?_
      refine w_lst (w' := oc a cI cL cO I (hoJ J p1 p2 p3) ++ lo1 cL q (vp_updL o 0 (bL (hk (J 0 p1.toNatClampNeg) p2)))) hx hb hK hP (hD _ _ _) hS rfl (q0 := 23) rfl rfl (show 0 < 1 by decide) (by decide) dL_hold_18 (fun H locs hP hS => ?_)
      refine lv_goto (tgt := 26) hx hb dL_hold_19 (by decide) ?_
      refine lv_iconst (v := 0) hx hb dL_hold_26 (by decide) ?_
      exact e_h0 hx hb hr hlocks hP hS hk0 (Nat.le_of_ble_eq_true rfl) (Nat.le_of_ble_eq_true rfl) dL_hold_27
set_option maxHeartbeats 4000000 in
set_option maxRecDepth 100000 in
theorem h_sound (l : Launch) (hl0 : l.stackTraces = false) (D : va_G) (a : Nat → Nat) (cI cL cO : ClassId) (I : Nat → Nat → Int32) (J : Nat → Nat → Int64) (q : Nat) (o : Nat → Int64) (p1 : Int32) (sz : Nat) : Met l yL_sound wsL_sound ({ frames := 8, cells := 1, slots := 6, locals := 134 } : Room) (va_Pc [.ref (a 0), .int p1, .ref q] (tB D (oty cI cL cO) (oc a cI cL cO I J ++ lo1 cL q o) sz)) (hQ D (oc a cI cL cO I J ++ lo1 cL q o) sz (kSnd p1) (oc a cI cL cO (woR (fsW I J 0 0) p1 I 6) (fsW I J 0 0) ++ lo1 cL q (vp_updL o 0 ((csF (fsW I J 0 0) 6).toInt64))) (oc a cI cL cO I J ++ lo1 cL q o)) 1 6 (tA (oc a cI cL cO I J ++ lo1 cL q o) sz) := by
  refine va_MetW (cc := cL_sound) (maxL := 4) (ret := some .int) (hh := [(0, 9, 12, 13)]) (by decide) rfl ?_
  intro p e s m args below meth c s₁ B hml hv
  obtain ⟨rfl, hsz, hP, hK, hD0, hES, hEH⟩ := hv
  subst hsz
  have hx := B.exec
  have hb := B.bytes
  have hr := B.returns
  have hts := atoms_spec (ws := wsL_sound) B.pre
  have hown : s.vm.findClass RL = some m.cls := findClass_of_methodNamed B.named
  have hlocks := B.notSynchronized
  have htab := vx_table (x := yL_sound) B (hts _ List.mem_cons_self)
  have hDA := tA_D (sz := s.heap.size) hD0
  have hA : ∀ z9 : Nat, s.heap.size ≤ z9 → tA (oc a cI cL cO I J ++ lo1 cL q o) s.heap.size z9 := fun _ h => Or.inr h
  have hS : va_S (tA (oc a cI cL cO I J ++ lo1 cL q o) s.heap.size) s.heap s.heap [] := va_S.rf
  have hDO := hDA.fst
  have hD : ∀ (I : Nat → Nat → Int32) (J : Nat → Nat → Int64) (o : Nat → Int64), va_D _ (oc a cI cL cO I J ++ lo1 cL q o) := fun _ _ _ => wsD_addr hDA rfl
  have hl := lv_entry ([.ref (a 0), .int p1, .ref q]) (n := 4) (Nat.le_of_ble_eq_true rfl)
  rw [lg_entry_eq]
  generalize (lg_sl ([.ref (a 0), .int p1, .ref q]) ++ List.replicate (4 - (lg_sl ([.ref (a 0), .int p1, .ref q])).length) Slot.unset).toArray = ls at hl ⊢
  have hl : lv_has ls 4 [(0, .ref (a 0)), (1, .int p1), (2, .ref q)] := hl
  refine lv_aload_n hx hb dL_sound_0 rfl (lv_at hl 2 rfl) ?_
  refine lv_iconst (v := nI 0) hx hb dL_sound_1 (by decide) ?_
  refine lv_aload_n hx hb dL_sound_2 rfl (lv_at hl 0 rfl) ?_
  refine lv_iload_n hx hb dL_sound_3 rfl (lv_at hl 1 rfl) ?_
  have hPO := hP.fst
  refine w_tVi (As := [.int p1]) (rest := [.int (nI 0), .ref q]) ⟨hx, hb, hml, hown, hts⟩ (t_sound l hl0 D a cI cL cO I J p1 s.heap.size) (cwV 1 hts gL_sound_X0_sound rfl rfl rfl (by decide +kernel) ⟨Nat.le_of_ble_eq_true rfl, Nat.le_of_ble_eq_true rfl⟩) hK hPO hDO hES hEH hS hA rfl rfl oc_at0 rfl hl.1 rfl (Nat.le_of_ble_eq_true rfl) dL_sound_4 ⟨Nat.le_of_ble_eq_true rfl, Nat.le_of_ble_eq_true rfl⟩ (fun E ce q9 H1 locs1 hxk hP3 hfr hS1 g1 g2 g3 => ?_) (fun hk0 H1 locs hP3 hfr hS => ?_)
  · have hP4 := va_P.app hP3 (va_P.beside (hD I J o) hP.snd hfr)
    rcases hxk with ⟨rfl, hk9⟩ | ⟨rfl, hk9⟩
    · skip
      refine vx_catch (name := nIAE) hown [] (⟨0, 9, 12, 13⟩ : ExceptionTableEntry) [] htab (fun z hz => by cases hz) (by decide) (by decide) (hts (.classLink RL 13 nIAE) (by decide +kernel)) (hES.2.1.use rfl) g1 g2 g3 ?_
      refine lv_astore_n (lv' := [(3, .ref q9), (0, .ref (a 0)), (1, .int p1), (2, .ref q)]) hx hb dL_sound_12 rfl hl (by decide) rfl (fun ls hl => ?_)
      refine lv_iconst (v := 1) hx hb dL_sound_13 (by decide) ?_
      exact e_hx hx hb hr hlocks hP4 hS1 hk9 (by decide) (Nat.le_of_ble_eq_true rfl) (Nat.le_of_ble_eq_true rfl) dL_sound_14
    · exact absurd hk9 (by unfold kSnd; exact k_ne2)
  · have hP := va_P.app hP3 (va_P.beside (hD I J o) hP.snd hfr)
    refine lv_i2l hx hb dL_sound_7 rfl ?_
    refine w_lst (w' := oc a cI cL cO (woR (fsW I J 0 0) p1 I 6) (fsW I J 0 0) ++ lo1 cL q (vp_updL o 0 ((csF (fsW I J 0 0) 6).toInt64))) hx hb hK hP (hD _ _ _) hS rfl (q0 := 23) rfl rfl (show 0 < 1 by decide) (by decide) dL_sound_8 (fun H locs hP hS => ?_)
    refine lv_goto (tgt := 15) hx hb dL_sound_9 (by decide) ?_
    refine lv_iconst (v := 0) hx hb dL_sound_15 (by decide) ?_
    exact e_h0 hx hb hr hlocks hP hS hk0 (Nat.le_of_ble_eq_true rfl) (Nat.le_of_ble_eq_true rfl) dL_sound_16
set_option maxHeartbeats 4000000 in
set_option maxRecDepth 100000 in
theorem h_repair (l : Launch) (hl0 : l.stackTraces = false) (D : va_G) (a : Nat → Nat) (cI cL cO : ClassId) (I : Nat → Nat → Int32) (J : Nat → Nat → Int64) (q : Nat) (o : Nat → Int64) (p1 : Int32) (sz : Nat) : Met l yL_repair wsL_repair ({ frames := 9, cells := 1, slots := 6, locals := 147 } : Room) (va_Pc [.ref (a 0), .int p1, .ref q] (tB D (oty cI cL cO) (oc a cI cL cO I J ++ lo1 cL q o) sz)) (hQ D (oc a cI cL cO I J ++ lo1 cL q o) sz (kRk p1) (oc a cI cL cO (rpI I p1.toNatClampNeg 61) J ++ lo1 cL q (vp_updL o 0 ((bcL (muF (I (10 + p1.toNatClampNeg)) 61)).toInt64))) (oc a cI cL cO I J ++ lo1 cL q o)) 1 6 (tA (oc a cI cL cO I J ++ lo1 cL q o) sz) := by
  refine va_MetW (cc := cL_repair) (maxL := 4) (ret := some .int) (hh := [(0, 9, 12, 13)]) (by decide) rfl ?_
  intro p e s m args below meth c s₁ B hml hv
  obtain ⟨rfl, hsz, hP, hK, hD0, hES, hEH⟩ := hv
  subst hsz
  have hx := B.exec
  have hb := B.bytes
  have hr := B.returns
  have hts := atoms_spec (ws := wsL_repair) B.pre
  have hown : s.vm.findClass RL = some m.cls := findClass_of_methodNamed B.named
  have hlocks := B.notSynchronized
  have htab := vx_table (x := yL_repair) B (hts _ List.mem_cons_self)
  have hDA := tA_D (sz := s.heap.size) hD0
  have hA : ∀ z9 : Nat, s.heap.size ≤ z9 → tA (oc a cI cL cO I J ++ lo1 cL q o) s.heap.size z9 := fun _ h => Or.inr h
  have hS : va_S (tA (oc a cI cL cO I J ++ lo1 cL q o) s.heap.size) s.heap s.heap [] := va_S.rf
  have hDO := hDA.fst
  have hD : ∀ (I : Nat → Nat → Int32) (J : Nat → Nat → Int64) (o : Nat → Int64), va_D _ (oc a cI cL cO I J ++ lo1 cL q o) := fun _ _ _ => wsD_addr hDA rfl
  have hl := lv_entry ([.ref (a 0), .int p1, .ref q]) (n := 4) (Nat.le_of_ble_eq_true rfl)
  rw [lg_entry_eq]
  generalize (lg_sl ([.ref (a 0), .int p1, .ref q]) ++ List.replicate (4 - (lg_sl ([.ref (a 0), .int p1, .ref q])).length) Slot.unset).toArray = ls at hl ⊢
  have hl : lv_has ls 4 [(0, .ref (a 0)), (1, .int p1), (2, .ref q)] := hl
  refine lv_aload_n hx hb dL_repair_0 rfl (lv_at hl 2 rfl) ?_
  refine lv_iconst (v := nI 0) hx hb dL_repair_1 (by decide) ?_
  refine lv_aload_n hx hb dL_repair_2 rfl (lv_at hl 0 rfl) ?_
  refine lv_iload_n hx hb dL_repair_3 rfl (lv_at hl 1 rfl) ?_
  have hPO := hP.fst
  refine w_tVi (As := [.int p1]) (rest := [.int (nI 0), .ref q]) ⟨hx, hb, hml, hown, hts⟩ (t_repair l hl0 D a cI cL cO I J p1 s.heap.size) (cwV 1 hts gL_repair_X0_repair rfl rfl rfl (by decide +kernel) ⟨Nat.le_of_ble_eq_true rfl, Nat.le_of_ble_eq_true rfl⟩) hK hPO hDO hES hEH hS hA rfl rfl oc_at0 rfl hl.1 rfl (Nat.le_of_ble_eq_true rfl) dL_repair_4 ⟨Nat.le_of_ble_eq_true rfl, Nat.le_of_ble_eq_true rfl⟩ (fun E ce q9 H1 locs1 hxk hP3 hfr hS1 g1 g2 g3 => ?_) (fun hk0 H1 locs hP3 hfr hS => ?_)
  · have hP4 := va_P.app hP3 (va_P.beside (hD I J o) hP.snd hfr)
    rcases hxk with ⟨rfl, hk9⟩ | ⟨rfl, hk9⟩
    · skip
      refine vx_catch (name := nIAE) hown [] (⟨0, 9, 12, 13⟩ : ExceptionTableEntry) [] htab (fun z hz => by cases hz) (by decide) (by decide) (hts (.classLink RL 13 nIAE) (by decide +kernel)) (hES.2.1.use rfl) g1 g2 g3 ?_
      refine lv_astore_n (lv' := [(3, .ref q9), (0, .ref (a 0)), (1, .int p1), (2, .ref q)]) hx hb dL_repair_12 rfl hl (by decide) rfl (fun ls hl => ?_)
      refine lv_iconst (v := 1) hx hb dL_repair_13 (by decide) ?_
      exact e_hx hx hb hr hlocks hP4 hS1 hk9 (by decide) (Nat.le_of_ble_eq_true rfl) (Nat.le_of_ble_eq_true rfl) dL_repair_14
    · exact absurd hk9 (by unfold kRk; exact k_ne2)
  · have hP := va_P.app hP3 (va_P.beside (hD I J o) hP.snd hfr)
    refine lv_i2l hx hb dL_repair_7 rfl ?_
    refine w_lst (w' := oc a cI cL cO (rpI I p1.toNatClampNeg 61) J ++ lo1 cL q (vp_updL o 0 ((bcL (muF (I (10 + p1.toNatClampNeg)) 61)).toInt64))) hx hb hK hP (hD _ _ _) hS rfl (q0 := 23) rfl rfl (show 0 < 1 by decide) (by decide) dL_repair_8 (fun H locs hP hS => ?_)
    refine lv_goto (tgt := 15) hx hb dL_repair_9 (by decide) ?_
    refine lv_iconst (v := 0) hx hb dL_repair_15 (by decide) ?_
    exact e_h0 hx hb hr hlocks hP hS hk0 (Nat.le_of_ble_eq_true rfl) (Nat.le_of_ble_eq_true rfl) dL_repair_16
set_option maxHeartbeats 4000000 in
set_option maxRecDepth 100000 in
theorem h_sounds (l : Launch) (hl0 : l.stackTraces = false) (D : va_G) (a : Nat → Nat) (cI cL cO : ClassId) (I : Nat → Nat → Int32) (J : Nat → Nat → Int64) (q : Nat) (o : Nat → Int64) (p1 p2 : Int32) (sz : Nat) : Met l yL_sounds wsL_sounds ({ frames := 9, cells := 2, slots := 12, locals := 146 } : Room) (va_Pc [.ref (a 0), .int p1, .int p2, .ref q] (tB D (oty cI cL cO) (oc a cI cL cO I J ++ lo1 cL q o) sz)) (hQ D (oc a cI cL cO I J ++ lo1 cL q o) sz (kRK p1 p2) (oc a cI cL cO I (fsW I J 0 0) ++ lo1 cL q (vp_updL o 0 (bL (hk (fsW I J 0 0 2 p1.toNatClampNeg) p2)))) (oc a cI cL cO I J ++ lo1 cL q o)) 2 12 (tA (oc a cI cL cO I J ++ lo1 cL q o) sz) := by
  refine va_MetW (cc := cL_sounds) (maxL := 5) (ret := some .int) (hh := [(0, 17, 20, 13)]) (by decide) rfl ?_
  intro p e s m args below meth c s₁ B hml hv
  obtain ⟨rfl, hsz, hP, hK, hD0, hES, hEH⟩ := hv
  subst hsz
  have hx := B.exec
  have hb := B.bytes
  have hr := B.returns
  have hts := atoms_spec (ws := wsL_sounds) B.pre
  have hown : s.vm.findClass RL = some m.cls := findClass_of_methodNamed B.named
  have hlocks := B.notSynchronized
  have htab := vx_table (x := yL_sounds) B (hts _ List.mem_cons_self)
  have hDA := tA_D (sz := s.heap.size) hD0
  have hA : ∀ z9 : Nat, s.heap.size ≤ z9 → tA (oc a cI cL cO I J ++ lo1 cL q o) s.heap.size z9 := fun _ h => Or.inr h
  have hS : va_S (tA (oc a cI cL cO I J ++ lo1 cL q o) s.heap.size) s.heap s.heap [] := va_S.rf
  have hDO := hDA.fst
  have hD : ∀ (I : Nat → Nat → Int32) (J : Nat → Nat → Int64) (o : Nat → Int64), va_D _ (oc a cI cL cO I J ++ lo1 cL q o) := fun _ _ _ => wsD_addr hDA rfl
  have hl := lv_entry ([.ref (a 0), .int p1, .int p2, .ref q]) (n := 5) (Nat.le_of_ble_eq_true rfl)
  rw [lg_entry_eq]
  generalize (lg_sl ([.ref (a 0), .int p1, .int p2, .ref q]) ++ List.replicate (5 - (lg_sl ([.ref (a 0), .int p1, .int p2, .ref q])).length) Slot.unset).toArray = ls at hl ⊢
  have hl : lv_has ls 5 [(0, .ref (a 0)), (1, .int p1), (2, .int p2), (3, .ref q)] := hl
  refine lv_aload_n hx hb dL_sounds_0 rfl (lv_at hl 3 rfl) ?_
  refine lv_iconst (v := nI 0) hx hb dL_sounds_1 (by decide) ?_
  refine lv_aload_n hx hb dL_sounds_2 rfl (lv_at hl 0 rfl) ?_
  refine lv_iload_n hx hb dL_sounds_3 rfl (lv_at hl 1 rfl) ?_
  refine lv_iload_n hx hb dL_sounds_4 rfl (lv_at hl 2 rfl) ?_
  have hPO := hP.fst
  refine w_tVi (As := [.int p1, .int p2]) (rest := [.int (nI 0), .ref q]) ⟨hx, hb, hml, hown, hts⟩ (t_sounds l hl0 D a cI cL cO I J p1 p2 s.heap.size) (cwV 2 hts gL_sounds_X0_sounds rfl rfl rfl (by decide +kernel) ⟨Nat.le_of_ble_eq_true rfl, Nat.le_of_ble_eq_true rfl⟩) hK hPO hDO hES hEH hS hA rfl rfl oc_at0 rfl hl.1 rfl (Nat.le_of_ble_eq_true rfl) dL_sounds_5 ⟨Nat.le_of_ble_eq_true rfl, Nat.le_of_ble_eq_true rfl⟩ (fun E ce q9 H1 locs1 hxk hP3 hfr hS1 g1 g2 g3 => ?_) (fun hk0 H1 locs hP3 hfr hS => ?_)
  · have hP4 := va_P.app hP3 (va_P.beside (hD I J o) hP.snd hfr)
    rcases hxk with ⟨rfl, hk9⟩ | ⟨rfl, hk9⟩
    · skip
      refine vx_catch (name := nIAE) hown [] (⟨0, 17, 20, 13⟩ : ExceptionTableEntry) [] htab (fun z hz => by cases hz) (by decide) (by decide) (hts (.classLink RL 13 nIAE) (by decide +kernel)) (hES.2.1.use rfl) g1 g2 g3 ?_
      refine lv_astore (lv' := [(4, .ref q9), (0, .ref (a 0)), (1, .int p1), (2, .int p2), (3, .ref q)]) hx hb dL_sounds_20 hl (by decide) rfl (fun ls hl => ?_)
      refine lv_iconst (v := 1) hx hb dL_sounds_22 (by decide) ?_
      exact e_hx hx hb hr hlocks hP4 hS1 hk9 (by decide) (Nat.le_of_ble_eq_true rfl) (Nat.le_of_ble_eq_true rfl) dL_sounds_23
    · exact absurd hk9 (by unfold kRK; exact k_ne2)
  · have hP := va_P.app hP3 (va_P.beside (hD I J o) hP.snd hfr)
    refine lv_if_eq (tgt := 15) hx hb dL_sounds_8 (by decide) (fun c_1 => ?_) (fun c_1 => ?_)
    · have d_1 := bI_eq0 c_1
      refine lv_lconst (v := 0) hx hb dL_sounds_15 (by decide) ?_
      refine lv_asl (bL (hk (fsW I J 0 0 2 p1.toNatClampNeg) p2)) (by rw [d_1]; rfl) ?_
      refine w_lst (w' := oc a cI cL cO I (fsW I J 0 0) ++ lo1 cL q (vp_updL o 0 (bL (hk (fsW I J 0 0 2 p1.toNatClampNeg) p2)))) hx hb hK hP (hD _ _ _) hS rfl (q0 := 23) rfl rfl (show 0 < 1 by decide) (by decide) dL_sounds_16 (fun H locs hP hS => ?_)
      refine lv_goto (tgt := 24) hx hb dL_sounds_17 (by decide) ?_
      refine lv_iconst (v := 0) hx hb dL_sounds_24 (by decide) ?_
      exact e_h0 hx hb hr hlocks hP hS hk0 (Nat.le_of_ble_eq_true rfl) (Nat.le_of_ble_eq_true rfl) dL_sounds_25
    · have d_1 := bI_ne0 c_1
      refine lv_lconst (v := 1) hx hb dL_sounds_11 (by decide) ?_
      refine lv_asl (bL (hk (fsW I J 0 0 2 p1.toNatClampNeg) p2)) (by rw [d_1]; rfl) ?_
      refine lv_goto (tgt := 16) hx hb dL_sounds_12 (by decide) ?_
      refine w_lst (w' := oc a cI cL cO I (fsW I J 0 0) ++ lo1 cL q (vp_updL o 0 (bL (hk (fsW I J 0 0 2 p1.toNatClampNeg) p2)))) hx hb hK hP (hD _ _ _) hS rfl (q0 := 23) rfl rfl (show 0 < 1 by decide) (by decide) dL_sounds_16 (fun H locs hP hS => ?_)
      refine lv_goto (tgt := 24) hx hb dL_sounds_17 (by decide) ?_
      refine lv_iconst (v := 0) hx hb dL_sounds_24 (by decide) ?_
      exact e_h0 hx hb hr hlocks hP hS hk0 (Nat.le_of_ble_eq_true rfl) (Nat.le_of_ble_eq_true rfl) dL_sounds_25
set_option maxHeartbeats 4000000 in
set_option maxRecDepth 100000 in
theorem h_pitch (l : Launch) (hl0 : l.stackTraces = false) (D : va_G) (a : Nat → Nat) (cI cL cO : ClassId) (I : Nat → Nat → Int32) (J : Nat → Nat → Int64) (q : Nat) (o : Nat → Int64) (p1 p2 : Int32) (sz : Nat) : Met l yL_pitch wsL_pitch ({ frames := 9, cells := 3, slots := 18, locals := 146 } : Room) (va_Pc [.ref (a 0), .int p1, .int p2, .ref q] (tB D (oty cI cL cO) (oc a cI cL cO I J ++ lo1 cL q o) sz)) (hQ D (oc a cI cL cO I J ++ lo1 cL q o) sz (kPit I J p1 p2) (oc a cI cL cO I (fsW I J 0 0) ++ lo1 cL q (vp_updL o 0 ((pws I p1.toNatClampNeg p2.toNatClampNeg - fls I (fsW I J 0 0)).toInt64))) (oc a cI cL cO I (if kRK p1 p2 = 1 then J else fsW I J 0 0) ++ lo1 cL q o)) 3 18 (tA (oc a cI cL cO I J ++ lo1 cL q o) sz) := by
  refine va_MetW (cc := cL_pitch) (maxL := 5) (ret := some .int) (hh := [(0, 10, 13, 13), (0, 10, 17, 19)]) (by decide) rfl ?_
  intro p e s m args below meth c s₁ B hml hv
  obtain ⟨rfl, hsz, hP, hK, hD0, hES, hEH⟩ := hv
  subst hsz
  have hx := B.exec
  have hb := B.bytes
  have hr := B.returns
  have hts := atoms_spec (ws := wsL_pitch) B.pre
  have hown : s.vm.findClass RL = some m.cls := findClass_of_methodNamed B.named
  have hlocks := B.notSynchronized
  have htab := vx_table (x := yL_pitch) B (hts _ List.mem_cons_self)
  have hDA := tA_D (sz := s.heap.size) hD0
  have hA : ∀ z9 : Nat, s.heap.size ≤ z9 → tA (oc a cI cL cO I J ++ lo1 cL q o) s.heap.size z9 := fun _ h => Or.inr h
  have hS : va_S (tA (oc a cI cL cO I J ++ lo1 cL q o) s.heap.size) s.heap s.heap [] := va_S.rf
  have hDO := hDA.fst
  have hD : ∀ (I : Nat → Nat → Int32) (J : Nat → Nat → Int64) (o : Nat → Int64), va_D _ (oc a cI cL cO I J ++ lo1 cL q o) := fun _ _ _ => wsD_addr hDA rfl
  have hl := lv_entry ([.ref (a 0), .int p1, .int p2, .ref q]) (n := 5) (Nat.le_of_ble_eq_true rfl)
  rw [lg_entry_eq]
  generalize (lg_sl ([.ref (a 0), .int p1, .int p2, .ref q]) ++ List.replicate (5 - (lg_sl ([.ref (a 0), .int p1, .int p2, .ref q])).length) Slot.unset).toArray = ls at hl ⊢
  have hl : lv_has ls 5 [(0, .ref (a 0)), (1, .int p1), (2, .int p2), (3, .ref q)] := hl
  refine lv_aload_n hx hb dL_pitch_0 rfl (lv_at hl 3 rfl) ?_
  refine lv_iconst (v := nI 0) hx hb dL_pitch_1 (by decide) ?_
  refine lv_aload_n hx hb dL_pitch_2 rfl (lv_at hl 0 rfl) ?_
  refine lv_iload_n hx hb dL_pitch_3 rfl (lv_at hl 1 rfl) ?_
  refine lv_iload_n hx hb dL_pitch_4 rfl (lv_at hl 2 rfl) ?_
  have hPO := hP.fst
  refine w_tVi (As := [.int p1, .int p2]) (rest := [.int (nI 0), .ref q]) ⟨hx, hb, hml, hown, hts⟩ (t_pitch l hl0 D a cI cL cO I J p1 p2 s.heap.size) (cwV 2 hts gL_pitch_X0_pitch rfl rfl rfl (by decide +kernel) ⟨Nat.le_of_ble_eq_true rfl, Nat.le_of_ble_eq_true rfl⟩) hK hPO hDO hES hEH hS hA rfl rfl oc_at0 rfl hl.1 rfl (Nat.le_of_ble_eq_true rfl) dL_pitch_5 ⟨Nat.le_of_ble_eq_true rfl, Nat.le_of_ble_eq_true rfl⟩ (fun E ce q9 H1 locs1 hxk hP3 hfr hS1 g1 g2 g3 => ?_) (fun hk0 H1 locs hP3 hfr hS => ?_)
  · have hP4 := va_P.app hP3 (va_P.beside (hD I J o) hP.snd hfr)
    rcases hxk with ⟨rfl, hk9⟩ | ⟨rfl, hk9⟩
    · skip
      refine vx_catch (name := nIAE) hown [] (⟨0, 10, 13, 13⟩ : ExceptionTableEntry) [(⟨0, 10, 17, 19⟩ : ExceptionTableEntry)] htab (fun z hz => by cases hz) (by decide) (by decide) (hts (.classLink RL 13 nIAE) (by decide +kernel)) (hES.2.1.use rfl) g1 g2 g3 ?_
      refine lv_astore (lv' := [(4, .ref q9), (0, .ref (a 0)), (1, .int p1), (2, .int p2), (3, .ref q)]) hx hb dL_pitch_13 hl (by decide) rfl (fun ls hl => ?_)
      refine lv_iconst (v := 1) hx hb dL_pitch_15 (by decide) ?_
      exact e_hx hx hb hr hlocks hP4 hS1 hk9 (by decide) (Nat.le_of_ble_eq_true rfl) (Nat.le_of_ble_eq_true rfl) dL_pitch_16
    · skip
      refine vx_catch (name := nISE) hown [(⟨0, 10, 13, 13⟩ : ExceptionTableEntry)] (⟨0, 10, 17, 19⟩ : ExceptionTableEntry) [] htab (fun z hz => by rw [List.mem_singleton] at hz; subst hz; exact Or.inr ⟨by decide, nIAE, hts (.classLink RL 13 nIAE) (by decide +kernel), hES.2.2.2.1⟩) (by decide) (by decide) (hts (.classLink RL 19 nISE) (by decide +kernel)) (hES.2.2.1.use rfl) g1 g2 g3 ?_
      refine lv_astore (lv' := [(4, .ref q9), (0, .ref (a 0)), (1, .int p1), (2, .int p2), (3, .ref q)]) hx hb dL_pitch_17 hl (by decide) rfl (fun ls hl => ?_)
      refine lv_iconst (v := 2) hx hb dL_pitch_19 (by decide) ?_
      exact e_hx hx hb hr hlocks hP4 hS1 hk9 (by decide) (Nat.le_of_ble_eq_true rfl) (Nat.le_of_ble_eq_true rfl) dL_pitch_20
  · have hP := va_P.app hP3 (va_P.beside (hD I J o) hP.snd hfr)
    refine lv_i2l hx hb dL_pitch_8 rfl ?_
    refine w_lst (w' := oc a cI cL cO I (fsW I J 0 0) ++ lo1 cL q (vp_updL o 0 ((pws I p1.toNatClampNeg p2.toNatClampNeg - fls I (fsW I J 0 0)).toInt64))) hx hb hK hP (hD _ _ _) hS rfl (q0 := 23) rfl rfl (show 0 < 1 by decide) (by decide) dL_pitch_9 (fun H locs hP hS => ?_)
    refine lv_goto (tgt := 21) hx hb dL_pitch_10 (by decide) ?_
    refine lv_iconst (v := 0) hx hb dL_pitch_21 (by decide) ?_
    exact e_h0 hx hb hr hlocks hP hS hk0 (Nat.le_of_ble_eq_true rfl) (Nat.le_of_ble_eq_true rfl) dL_pitch_22
set_option maxHeartbeats 4000000 in
set_option maxRecDepth 100000 in
theorem h_wear (l : Launch) (hl0 : l.stackTraces = false) (D : va_G) (a : Nat → Nat) (cI cL cO : ClassId) (I : Nat → Nat → Int32) (J : Nat → Nat → Int64) (q : Nat) (o : Nat → Int64) (p1 p2 : Int32) (sz : Nat) : Met l yL_wear wsL_wear ({ frames := 9, cells := 2, slots := 12, locals := 146 } : Room) (va_Pc [.ref (a 0), .int p1, .int p2, .ref q] (tB D (oty cI cL cO) (oc a cI cL cO I J ++ lo1 cL q o) sz)) (hQ D (oc a cI cL cO I J ++ lo1 cL q o) sz (kRK p1 p2) (oc a cI cL cO I J ++ lo1 cL q (vp_updL o 0 ((I (10 + p1.toNatClampNeg) p2.toNatClampNeg).toInt64))) (oc a cI cL cO I J ++ lo1 cL q o)) 2 12 (tA (oc a cI cL cO I J ++ lo1 cL q o) sz) := by
  refine va_MetW (cc := cL_wear) (maxL := 5) (ret := some .int) (hh := [(0, 10, 13, 13)]) (by decide) rfl ?_
  intro p e s m args below meth c s₁ B hml hv
  obtain ⟨rfl, hsz, hP, hK, hD0, hES, hEH⟩ := hv
  subst hsz
  have hx := B.exec
  have hb := B.bytes
  have hr := B.returns
  have hts := atoms_spec (ws := wsL_wear) B.pre
  have hown : s.vm.findClass RL = some m.cls := findClass_of_methodNamed B.named
  have hlocks := B.notSynchronized
  have htab := vx_table (x := yL_wear) B (hts _ List.mem_cons_self)
  have hDA := tA_D (sz := s.heap.size) hD0
  have hA : ∀ z9 : Nat, s.heap.size ≤ z9 → tA (oc a cI cL cO I J ++ lo1 cL q o) s.heap.size z9 := fun _ h => Or.inr h
  have hS : va_S (tA (oc a cI cL cO I J ++ lo1 cL q o) s.heap.size) s.heap s.heap [] := va_S.rf
  have hDO := hDA.fst
  have hD : ∀ (I : Nat → Nat → Int32) (J : Nat → Nat → Int64) (o : Nat → Int64), va_D _ (oc a cI cL cO I J ++ lo1 cL q o) := fun _ _ _ => wsD_addr hDA rfl
  have hl := lv_entry ([.ref (a 0), .int p1, .int p2, .ref q]) (n := 5) (Nat.le_of_ble_eq_true rfl)
  rw [lg_entry_eq]
  generalize (lg_sl ([.ref (a 0), .int p1, .int p2, .ref q]) ++ List.replicate (5 - (lg_sl ([.ref (a 0), .int p1, .int p2, .ref q])).length) Slot.unset).toArray = ls at hl ⊢
  have hl : lv_has ls 5 [(0, .ref (a 0)), (1, .int p1), (2, .int p2), (3, .ref q)] := hl
  refine lv_aload_n hx hb dL_wear_0 rfl (lv_at hl 3 rfl) ?_
  refine lv_iconst (v := nI 0) hx hb dL_wear_1 (by decide) ?_
  refine lv_aload_n hx hb dL_wear_2 rfl (lv_at hl 0 rfl) ?_
  refine lv_iload_n hx hb dL_wear_3 rfl (lv_at hl 1 rfl) ?_
  refine lv_iload_n hx hb dL_wear_4 rfl (lv_at hl 2 rfl) ?_
  have hPO := hP.fst
  refine w_tVi (As := [.int p1, .int p2]) (rest := [.int (nI 0), .ref q]) ⟨hx, hb, hml, hown, hts⟩ (t_wear l hl0 D a cI cL cO I J p1 p2 s.heap.size) (cwV 2 hts gL_wear_X0_wear rfl rfl rfl (by decide +kernel) ⟨Nat.le_of_ble_eq_true rfl, Nat.le_of_ble_eq_true rfl⟩) hK hPO hDO hES hEH hS hA rfl rfl oc_at0 rfl hl.1 rfl (Nat.le_of_ble_eq_true rfl) dL_wear_5 ⟨Nat.le_of_ble_eq_true rfl, Nat.le_of_ble_eq_true rfl⟩ (fun E ce q9 H1 locs1 hxk hP3 hfr hS1 g1 g2 g3 => ?_) (fun hk0 H1 locs hP3 hfr hS => ?_)
  · have hP4 := va_P.app hP3 (va_P.beside (hD I J o) hP.snd hfr)
    rcases hxk with ⟨rfl, hk9⟩ | ⟨rfl, hk9⟩
    · skip
      refine vx_catch (name := nIAE) hown [] (⟨0, 10, 13, 13⟩ : ExceptionTableEntry) [] htab (fun z hz => by cases hz) (by decide) (by decide) (hts (.classLink RL 13 nIAE) (by decide +kernel)) (hES.2.1.use rfl) g1 g2 g3 ?_
      refine lv_astore (lv' := [(4, .ref q9), (0, .ref (a 0)), (1, .int p1), (2, .int p2), (3, .ref q)]) hx hb dL_wear_13 hl (by decide) rfl (fun ls hl => ?_)
      refine lv_iconst (v := 1) hx hb dL_wear_15 (by decide) ?_
      exact e_hx hx hb hr hlocks hP4 hS1 hk9 (by decide) (Nat.le_of_ble_eq_true rfl) (Nat.le_of_ble_eq_true rfl) dL_wear_16
    · exact absurd hk9 (by unfold kRK; exact k_ne2)
  · have hP := va_P.app hP3 (va_P.beside (hD I J o) hP.snd hfr)
    refine lv_i2l hx hb dL_wear_8 rfl ?_
    refine w_lst (w' := oc a cI cL cO I J ++ lo1 cL q (vp_updL o 0 ((I (10 + p1.toNatClampNeg) p2.toNatClampNeg).toInt64))) hx hb hK hP (hD _ _ _) hS rfl (q0 := 23) rfl rfl (show 0 < 1 by decide) (by decide) dL_wear_9 (fun H locs hP hS => ?_)
    refine lv_goto (tgt := 17) hx hb dL_wear_10 (by decide) ?_
    refine lv_iconst (v := 0) hx hb dL_wear_17 (by decide) ?_
    exact e_h0 hx hb hr hlocks hP hS hk0 (Nat.le_of_ble_eq_true rfl) (Nat.le_of_ble_eq_true rfl) dL_wear_18
set_option maxHeartbeats 4000000 in
set_option maxRecDepth 100000 in
theorem h_more (l : Launch) (hl0 : l.stackTraces = false) (D : va_G) (a : Nat → Nat) (cI cL cO : ClassId) (I : Nat → Nat → Int32) (J : Nat → Nat → Int64) (q : Nat) (o : Nat → Int64) (p1 p2 : Int32) (sz : Nat) : Met l yL_more wsL_more ({ frames := 9, cells := 2, slots := 12, locals := 147 } : Room) (va_Pc [.ref (a 0), .int p1, .int p2, .ref q] (tB D (oty cI cL cO) (oc a cI cL cO I J ++ lo1 cL q o) sz)) (hQ D (oc a cI cL cO I J ++ lo1 cL q o) sz (kMK p1 p2) (oc a cI cL cO I (fsW I (fsW I J 0 0) p1.toNatClampNeg (kb p2)) ++ lo1 cL q (vp_updL o 0 ((wsO I (fsW I (fsW I J 0 0) p1.toNatClampNeg (kb p2)) 6 - wsO I (fsW I J 0 0) 6).toInt64))) (oc a cI cL cO I J ++ lo1 cL q o)) 2 12 (tA (oc a cI cL cO I J ++ lo1 cL q o) sz) := by
  refine va_MetW (cc := cL_more) (maxL := 5) (ret := some .int) (hh := [(0, 10, 13, 13)]) (by decide) rfl ?_
  intro p e s m args below meth c s₁ B hml hv
  obtain ⟨rfl, hsz, hP, hK, hD0, hES, hEH⟩ := hv
  subst hsz
  have hx := B.exec
  have hb := B.bytes
  have hr := B.returns
  have hts := atoms_spec (ws := wsL_more) B.pre
  have hown : s.vm.findClass RL = some m.cls := findClass_of_methodNamed B.named
  have hlocks := B.notSynchronized
  have htab := vx_table (x := yL_more) B (hts _ List.mem_cons_self)
  have hDA := tA_D (sz := s.heap.size) hD0
  have hA : ∀ z9 : Nat, s.heap.size ≤ z9 → tA (oc a cI cL cO I J ++ lo1 cL q o) s.heap.size z9 := fun _ h => Or.inr h
  have hS : va_S (tA (oc a cI cL cO I J ++ lo1 cL q o) s.heap.size) s.heap s.heap [] := va_S.rf
  have hDO := hDA.fst
  have hD : ∀ (I : Nat → Nat → Int32) (J : Nat → Nat → Int64) (o : Nat → Int64), va_D _ (oc a cI cL cO I J ++ lo1 cL q o) := fun _ _ _ => wsD_addr hDA rfl
  have hl := lv_entry ([.ref (a 0), .int p1, .int p2, .ref q]) (n := 5) (Nat.le_of_ble_eq_true rfl)
  rw [lg_entry_eq]
  generalize (lg_sl ([.ref (a 0), .int p1, .int p2, .ref q]) ++ List.replicate (5 - (lg_sl ([.ref (a 0), .int p1, .int p2, .ref q])).length) Slot.unset).toArray = ls at hl ⊢
  have hl : lv_has ls 5 [(0, .ref (a 0)), (1, .int p1), (2, .int p2), (3, .ref q)] := hl
  refine lv_aload_n hx hb dL_more_0 rfl (lv_at hl 3 rfl) ?_
  refine lv_iconst (v := nI 0) hx hb dL_more_1 (by decide) ?_
  refine lv_aload_n hx hb dL_more_2 rfl (lv_at hl 0 rfl) ?_
  refine lv_iload_n hx hb dL_more_3 rfl (lv_at hl 1 rfl) ?_
  refine lv_iload_n hx hb dL_more_4 rfl (lv_at hl 2 rfl) ?_
  have hPO := hP.fst
  refine w_tVi (As := [.int p1, .int p2]) (rest := [.int (nI 0), .ref q]) ⟨hx, hb, hml, hown, hts⟩ (t_more l hl0 D a cI cL cO I J p1 p2 s.heap.size) (cwV 2 hts gL_more_X0_more rfl rfl rfl (by decide +kernel) ⟨Nat.le_of_ble_eq_true rfl, Nat.le_of_ble_eq_true rfl⟩) hK hPO hDO hES hEH hS hA rfl rfl oc_at0 rfl hl.1 rfl (Nat.le_of_ble_eq_true rfl) dL_more_5 ⟨Nat.le_of_ble_eq_true rfl, Nat.le_of_ble_eq_true rfl⟩ (fun E ce q9 H1 locs1 hxk hP3 hfr hS1 g1 g2 g3 => ?_) (fun hk0 H1 locs hP3 hfr hS => ?_)
  · have hP4 := va_P.app hP3 (va_P.beside (hD I J o) hP.snd hfr)
    rcases hxk with ⟨rfl, hk9⟩ | ⟨rfl, hk9⟩
    · skip
      refine vx_catch (name := nIAE) hown [] (⟨0, 10, 13, 13⟩ : ExceptionTableEntry) [] htab (fun z hz => by cases hz) (by decide) (by decide) (hts (.classLink RL 13 nIAE) (by decide +kernel)) (hES.2.1.use rfl) g1 g2 g3 ?_
      refine lv_astore (lv' := [(4, .ref q9), (0, .ref (a 0)), (1, .int p1), (2, .int p2), (3, .ref q)]) hx hb dL_more_13 hl (by decide) rfl (fun ls hl => ?_)
      refine lv_iconst (v := 1) hx hb dL_more_15 (by decide) ?_
      exact e_hx hx hb hr hlocks hP4 hS1 hk9 (by decide) (Nat.le_of_ble_eq_true rfl) (Nat.le_of_ble_eq_true rfl) dL_more_16
    · exact absurd hk9 (by unfold kMK; exact k_ne2)
  · have hP := va_P.app hP3 (va_P.beside (hD I J o) hP.snd hfr)
    refine lv_i2l hx hb dL_more_8 rfl ?_
    refine w_lst (w' := oc a cI cL cO I (fsW I (fsW I J 0 0) p1.toNatClampNeg (kb p2)) ++ lo1 cL q (vp_updL o 0 ((wsO I (fsW I (fsW I J 0 0) p1.toNatClampNeg (kb p2)) 6 - wsO I (fsW I J 0 0) 6).toInt64))) hx hb hK hP (hD _ _ _) hS rfl (q0 := 23) rfl rfl (show 0 < 1 by decide) (by decide) dL_more_9 (fun H locs hP hS => ?_)
    refine lv_goto (tgt := 17) hx hb dL_more_10 (by decide) ?_
    refine lv_iconst (v := 0) hx hb dL_more_17 (by decide) ?_
    exact e_h0 hx hb hr hlocks hP hS hk0 (Nat.le_of_ble_eq_true rfl) (Nat.le_of_ble_eq_true rfl) dL_more_18
