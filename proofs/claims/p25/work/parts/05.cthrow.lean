/-! ===== what a throw needs of the world; checks; methods that return or throw ===== -/
abbrev nIAE : String := "java/lang/IllegalArgumentException"
abbrev nISE : String := "java/lang/IllegalStateException"
abbrev nSup : List String := ["java/lang/RuntimeException", "java/lang/Exception"]
def htv (j : Nat) : Int32 := if j = 0 then -12 else if j = 1 then 0 else if j = 2 then 12 else 19
def eS (U : State) : Prop := ((∃ q, vk_R RX0 79 "the stop is drawn" q U) ∧ (∃ q, vk_R RX0 86 "a coupler goes to another manual" q U) ∧ (∃ q, vk_R RX0 89 "a shift is -12, 0 or 12" q U) ∧ (∃ q, vk_R RX0 95 "the couplers would go round in a ring" q U) ∧ (∃ q, vk_R RX0 148 "the pipe does not sound" q U) ∧ ∃ q, vk_R RX0 166 "a parameter is out of range" q U) ∧ va_Nw (.castable nIAE nIAE) U ∧ va_Nw (.castable nISE nISE) U ∧ va_Nc nISE nIAE U ∧ va_Nc nIAE nISE U ∧ va_Nw (.declares (Bundle.initS "java/lang/RuntimeException")) U ∧ va_Nw (.declares (Bundle.initS "java/lang/Exception")) U ∧ va_Nw (.declares (Bundle.initS Bundle.tN)) U
def eH (A : Nat → Prop) (U : State) (H : Heap) : Prop := vx_Zq Bundle.tN "UNASSIGNED_STACK" Bundle.steD A U H ∧ vx_Zq Bundle.tN "SUPPRESSED_SENTINEL" Bundle.listD A U H ∧ ∃ t : Nat, va_Z "OrganBuilder" "HALF_TONES_OF_KINDS" "[I" (.ref t) A U H ∧ va_T .int t 4 (fun j => .int (htv j)) A U H
theorem eS.warm {s U : State} (hW : s.WarmedH U.vm) (h : eS s) : eS U := by
  obtain ⟨⟨⟨q1, h1⟩, ⟨q2, h2⟩, ⟨q3, h3⟩, ⟨q4, h4⟩, ⟨q5, h5⟩, ⟨q6, h6⟩⟩, h7, h8, h9, h10, h11, h12, h13⟩ := h
  exact ⟨⟨⟨q1, h1.warm hW⟩, ⟨q2, h2.warm hW⟩, ⟨q3, h3.warm hW⟩, ⟨q4, h4.warm hW⟩, ⟨q5, h5.warm hW⟩, ⟨q6, h6.warm hW⟩⟩, h7.warmC hW, h8.warmC hW, h9.moved hW.alike, h10.moved hW.alike, h11.warmD hW, h12.warmD hW, h13.warmD hW⟩
theorem eS.same {u U : State} (hv : U.vm = u.vm) (h : eS u) : eS U := by
  obtain ⟨⟨⟨q1, h1⟩, ⟨q2, h2⟩, ⟨q3, h3⟩, ⟨q4, h4⟩, ⟨q5, h5⟩, ⟨q6, h6⟩⟩, h7, h8, h9, h10, h11, h12, h13⟩ := h
  exact ⟨⟨⟨q1, h1.same hv⟩, ⟨q2, h2.same hv⟩, ⟨q3, h3.same hv⟩, ⟨q4, h4.same hv⟩, ⟨q5, h5.same hv⟩, ⟨q6, h6.same hv⟩⟩, h7.same rfl hv.symm, h8.same rfl hv.symm, h9.moved (by rw [hv]; exact Vm.Alike.refl _), h10.moved (by rw [hv]; exact Vm.Alike.refl _), h11.same rfl hv.symm, h12.same rfl hv.symm, h13.same rfl hv.symm⟩
theorem eH.at {A B : Nat → Prop} {s U : State} {H0 H : Heap} (ha : s.vm.Alike U.vm) (h : eH A s H0) (hq : ∀ a : Nat, a < H0.size → ¬ A a → H[a]? = H0[a]?) (hAB : ∀ q, B q → A q) : eH B U H := by
  obtain ⟨h1, h2, t, h3, h4⟩ := h
  exact ⟨((h1.kept hq).moved ha).narrow hAB, ((h2.kept hq).moved ha).narrow hAB, t, ((h3.kept hq).moved ha).narrow hAB, ((h4.kept hq).moved ha).narrow hAB⟩
def rg (v lo hi : Int32) : Bool := decide (lo ≤ v) && decide (v ≤ hi)
theorem rg_t {v lo hi : Int32} (h1 : ¬ v < lo) (h2 : v ≤ hi) : rg v lo hi = true := by simp [rg, fa_nlt h1, h2]
theorem rg_f1 {v lo hi : Int32} (h1 : v < lo) : ¬ rg v lo hi = true := by
  have : ¬ lo ≤ v := fun q => by rw [Int32.le_iff_toInt_le] at q; rw [Int32.lt_iff_toInt_lt] at h1; omega
  simp [rg, this]
theorem rg_f2 {v lo hi : Int32} (h2 : ¬ v ≤ hi) : ¬ rg v lo hi = true := by simp [rg, h2]
theorem rg_nat {v hi : Int32} {n : Nat} (h : rg v 0 hi = true) (hM : hi.toInt = n) : ∃ r : Nat, r < n + 1 ∧ v = nI r := by
  simp only [rg, Bool.and_eq_true, decide_eq_true_eq] at h
  obtain ⟨j, h1, h2⟩ := nI_of2 hM (fun q => by have := h.1; rw [Int32.le_iff_toInt_le] at this; rw [Int32.lt_iff_toInt_lt] at q; omega) h.2
  exact ⟨j, Nat.lt_succ_of_le h1, h2⟩
theorem rg_nat1 {v hi : Int32} {n : Nat} (h : rg v 1 hi = true) (hM : hi.toInt = n) : ∃ r : Nat, r < n + 1 ∧ v = nI r := by
  simp only [rg, Bool.and_eq_true, decide_eq_true_eq] at h
  have h1 := h.1
  rw [Int32.le_iff_toInt_le] at h1
  have e1 : (1 : Int32).toInt = 1 := by decide
  have e2 : (0 : Int32).toInt = 0 := by decide
  obtain ⟨j, h1, h2⟩ := nI_of2 hM (fun q => by
    rw [Int32.lt_iff_toInt_lt] at q
    omega) h.2
  exact ⟨j, Nat.lt_succ_of_le h1, h2⟩
abbrev cl (x : Int32) : Nat := x.toNatClampNeg
/-- which exception, as the law counts them -/
def xk (E : String) (k : Int32) : Prop := (E = nIAE ∧ k = 1) ∨ (E = nISE ∧ k = 2)
def kB (H0 : Heap) : State → Prop := fun U => U.heap = H0 ∧ eS U ∧ eH (fun q => H0.size ≤ q) U H0
abbrev kQ (H0 : Heap) (ok : Prop) : Array Value → State → Outcome → State → Prop := va_Qv (fun _ : Unit => ok) (fun _ t => t.heap = H0) (fun q => H0.size ≤ q)
abbrev kX (H0 : Heap) (ok : Prop) : String → State → State → Prop := vx_X (fun _ : Unit => ¬ ok) (fun E _ _ => E = nIAE) (fun q => H0.size ≤ q)
theorem kB_blind {H0 : Heap} {as : List Value} : FrameBlind (va_Pc as (kB H0)) := fun a U g mk q => ⟨q.1, q.2.1, q.2.2.1.same rfl, q.2.2.2.at (U := U.calling g mk a) (Vm.Alike.refl U.vm) (fun _ _ _ => rfl) (fun _ h => h)⟩
def tA (w : va_W) (sz : Nat) : Nat → Prop := fun q => wA w q ∨ sz ≤ q
def tB (D : va_G) (ty : List (ClassId × FieldType)) (w : va_W) (sz : Nat) : State → Prop := fun U => U.heap.size = sz ∧ va_P D vwCl w U.heap ∧ va_K D vwCl ty U ∧ va_D (fun _ => True) w ∧ eS U ∧ eH (tA w sz) U U.heap
abbrev tQi (D : va_G) (w w' : va_W) (sz : Nat) (k E : Int32) : Array Value → State → Outcome → State → Prop := va_Qi (fun (r : Int32) (_ : Unit) => k = 0 ∧ r = E) (fun _ t => va_P D vwCl w' t.heap) (tA w sz)
abbrev tQv (D : va_G) (w w' : va_W) (sz : Nat) (k : Int32) : Array Value → State → Outcome → State → Prop := va_Qv (fun (_ : Unit) => k = 0) (fun _ t => va_P D vwCl w' t.heap) (tA w sz)
abbrev tX (D : va_G) (w w2 : va_W) (sz : Nat) (k : Int32) : String → State → State → Prop := vx_X (fun _ : Unit => True) (fun E _ t => xk E k ∧ va_P D vwCl w2 t.heap) (tA w sz)
theorem tB_blind {D : va_G} {ty : List (ClassId × FieldType)} {w : va_W} {sz : Nat} {as : List Value} : FrameBlind (va_Pc as (tB D ty w sz)) := fun a U g mk q => ⟨q.1, q.2.1, q.2.2.1, va_K.moved (u := U) (U := U.calling g mk a) (Vm.Alike.refl U.vm) q.2.2.2.1, q.2.2.2.2.1, q.2.2.2.2.2.1.same rfl, q.2.2.2.2.2.2.at (U := U.calling g mk a) (Vm.Alike.refl U.vm) (fun _ _ _ => rfl) (fun _ h => h)⟩
theorem tA_D {B : Nat → Prop} {w : va_W} {sz : Nat} (h : va_D B w) : va_D (tA w sz) w := ⟨h.1, fun _ q hk => Or.inl ⟨q, List.mem_of_getElem? hk, rfl⟩⟩
theorem va_P.newer {D : va_G} {w : va_W} {H H1 : Heap} (h : va_P D vwCl w H) (hq : ∀ q : Nat, q < H.size → H1[q]? = H[q]?) : va_P D vwCl w H1 := h.kept (fun _ q hk => hq q.1 (h _ q hk).lt)
theorem atIAE_good : ∀ w ∈ Cond.classLink RX0 84 nIAE :: Cond.initialized nIAE :: vx_atS RX0 88 nIAE nSup, vx_ot w = true := by decide +kernel
theorem atISE_good : ∀ w ∈ Cond.classLink RX0 77 nISE :: Cond.initialized nISE :: vx_atS RX0 81 nISE nSup, vx_ot w = true := by decide +kernel
theorem atIAE_bad : ∀ w ∈ (vx_atS RX0 88 nIAE nSup).filter (fun w => !goodWord w), w ∈ [Cond.castable nIAE nIAE, .declares (Bundle.initS "java/lang/RuntimeException"), .declares (Bundle.initS "java/lang/Exception"), .declares (Bundle.initS Bundle.tN)] := by decide +kernel
theorem atISE_bad : ∀ w ∈ (vx_atS RX0 81 nISE nSup).filter (fun w => !goodWord w), w ∈ [Cond.castable nISE nISE, .declares (Bundle.initS "java/lang/RuntimeException"), .declares (Bundle.initS "java/lang/Exception"), .declares (Bundle.initS Bundle.tN)] := by decide +kernel
section TR
variable {p : Program} {l : Launch} {e : Env} {R : Room} {s : State} {m : MethodId} {args : Array Value} {below : List Frame} {meth : Method} {c : Code} {H : Heap} {locs : List Loc} {cells slots : Nat} {Q : State → Prop}
variable {cc : ByteArray} {pc : Nat} {ls : Array Slot} {rest : List Value} {D : va_G} {A : Nat → Prop} {w w' w2 w3 : va_W} {ty : List (ClassId × FieldType)} {mc ms sz : Nat}
/-- a call of a check -/
theorem w_chk {own : String} {y : MethodName} {bytes : ByteArray} {maxL nL n index : Nat} {ret : Option FieldType} {wk : List Cond} {rm : Room} {Ts : List Cond} {As st0 : List Value} {ok : Prop} (S : CallFix p m c cc nL s args Ts own) (hM : ∀ H0 : Heap, vx_Met l y wk rm (va_Pc As (kB H0)) (kQ H0 ok) (kX H0 ok) 1 6 (fun q => H0.size ≤ q)) (cw : CallB R s args own index y bytes maxL ret wk rm 1 6 n ∧ (Cond.static y).before args s = true) (hES : eS s) (hEH : eH A s s.heap) (hS : va_S A s.heap H locs) (hA : ∀ q, s.heap.size ≤ q → A q) (hn : As.length = n) (hsize : ls.size = nL) (hst : st0 = As.reverse ++ rest) (hW : (rest.map fun v => v.category).sum ≤ 8) (hdg : decode cc pc = .ok (.invokestatic index, 3)) (hf : cells + 1 ≤ R.cells ∧ slots + 6 ≤ R.slots)
    (kx : ∀ (ce : Cell) (q9 : Addr) (H1 : Heap) (locs1 : List Loc), ¬ ok → H.size ≤ H1.size → (∀ q : Nat, q < H.size → H1[q]? = H[q]?) → va_S A s.heap H1 locs1 → H1[q9]? = some ce → ce.vm = .none → s.vm.findClass nIAE = some ce.cls → vx_W p l e R s m args below meth c H1 locs1 (cells + 1) (slots + 6) Q (F0 m pc ls rest) q9)
    (kk : ok → ∀ locs1 : List Loc, va_S A s.heap H locs1 → W p l e R s m args below meth c H locs1 (cells + 1) (slots + 6) Q (F0 m (pc + 3) ls rest)) : W p l e R s m args below meth c H locs cells slots Q (F0 m pc ls st0) := by
  have hAA : ∀ q, H.size ≤ q → A q := fun q h => hA q (Nat.le_trans hS.1 h)
  refine vx_callv (vx_runS (As := As) (rest := rest) S (hM H) cw ⟨kB_blind, fun U hU hWm => ⟨rfl, hU, hES.warm hWm, hEH.at hWm.alike hS.2.1 hAA⟩⟩ rfl hn hsize hst (lv_room hW) hdg hf) hS (fun q _ h => hAA q h) hAA (fun q _ h => hAA q h) ?_ ?_
  · intro E ce q9 u t H1 locs1 ht _ hok hE hz hk hS1 g1 g2 g3
    subst hE
    exact kx ce q9 H1 locs1 hok hz (fun q h => hk q h (Nat.not_le.mpr h)) hS1 g1 g2 g3
  · intro u t H1 locs1 ht _ hok hB _ _ hS1
    have e1 : H1 = H := ht.symm.trans hB
    subst e1
    exact kk hok locs1 hS1
/-- a check's own throw goes on -/
theorem x_out1 {H1 : Heap} {locs1 : List Loc} {k : Int32} {q9 : Addr} {ce : Cell} {Qc : Array Value → State → Outcome → State → Prop} (hno : ∀ x ∈ c.exceptionTable.toList, False) (hlocks : meth.locks = false) (hP : va_P D vwCl w2 H) (hq : ∀ q : Nat, q < H.size → H1[q]? = H[q]?) (hS1 : va_S (tA w sz) s.heap H1 locs1) (g1 : H1[q9]? = some ce) (g2 : ce.vm = .none) (g3 : s.vm.findClass nIAE = some ce.cls) (hk : k = 1) (hw : w2 = w3) (hc : cells ≤ mc) (hs : slots ≤ ms) : vx_W p l e R s m args below meth c H1 locs1 cells slots (vx_MQ below Qc (tX D w w3 sz k) args s mc ms (tA w sz)) (F0 m pc ls rest) q9 :=
  vx_out (fun x h => (hno x h).elim) hlocks g1 g2 g3 (fun t ht _ => ⟨(), trivial, ⟨Or.inl ⟨rfl, hk⟩, by rw [ht, ← hw]; exact hP.newer hq⟩, hS1.F ht⟩) hS1.2.2 hc hs
theorem x_outk {H1 : Heap} {locs1 : List Loc} {ok : Prop} {q9 : Addr} {ce : Cell} {Qc : Array Value → State → Outcome → State → Prop} {H0 : Heap} (hno : ∀ x ∈ c.exceptionTable.toList, False) (hlocks : meth.locks = false) (hS1 : va_S (fun q => H0.size ≤ q) s.heap H1 locs1) (g1 : H1[q9]? = some ce) (g2 : ce.vm = .none) (g3 : s.vm.findClass nIAE = some ce.cls) (hk : ¬ ok) (hc : cells ≤ mc) (hs : slots ≤ ms) : vx_W p l e R s m args below meth c H1 locs1 cells slots (vx_MQ below Qc (kX H0 ok) args s mc ms (fun q => H0.size ≤ q)) (F0 m pc ls rest) q9 :=
  vx_out (fun x h => (hno x h).elim) hlocks g1 g2 g3 (fun t ht _ => ⟨(), hk, rfl, hS1.F ht⟩) hS1.2.2 hc hs
/-- throw new IllegalArgumentException(text), IllegalStateException(text) -/
theorem w_thrA {text : String} {is sa : Nat} {Qc : Array Value → State → Outcome → State → Prop} {XC : String → State → State → Prop} (hx : p.tables.exec = Jvm.exec) (hb : c.code = cc) (hl : l.stackTraces = false) (hown : s.vm.findClass RX0 = some m.cls) (hk : (Cond.classLink RX0 84 nIAE).before args s = true) (hini : (Cond.initialized nIAE).before args s = true) (hstr : vk_R RX0 is text sa s) (hat : ∀ w ∈ (vx_atS RX0 88 nIAE nSup).filter goodWord, w.before args s = true) (hES : eS s) (hEH : eH A s s.heap) (hS : va_S A s.heap H locs) (hsize : ls.size = c.maxLocals) (d0 : decode cc pc = .ok (.new 84, 3)) (d3 : decode cc (pc + 3) = .ok (.dup, 1)) (d4 : decode cc (pc + 4) = .ok (.ldc is, 2)) (d6 : decode cc (pc + 6) = .ok (.invokespecial 88, 3)) (d9 : decode cc (pc + 9) = .ok (.athrow, 1)) (hno : ∀ x ∈ c.exceptionTable.toList, False) (hRf : 5 < R.frames) (hRl : (rest.map fun v => v.category).sum + 82 ≤ R.locals) (hRc : cells + 1 ≤ R.cells) (hRs : slots + 6 ≤ R.slots) (hlocks : meth.locks = false) (hxx : ∀ t : State, s.vm.Alike t.vm → H.size ≤ t.heap.size → (∀ q : Nat, q < H.size → t.heap[q]? = H[q]?) → XC nIAE s t) (hc : cells + 1 ≤ mc) (hs : slots + 6 ≤ ms) : W p l e R s m args below meth c H locs cells slots (vx_MQ below Qc XC args s mc ms A) (F0 m pc ls rest) :=
  vx_throwS (names := nSup) hx hb hl hown rfl (by decide +kernel) hk hini hstr (vx_hat hat atIAE_bad (vx_c (hES.2.1.use rfl) (vx_c (hES.2.2.2.2.2.1.use rfl) (vx_c (hES.2.2.2.2.2.2.1.use rfl) (vx_c (hES.2.2.2.2.2.2.2.use rfl) vx_n))))) atIAE_good hEH.1 hEH.2.1 hS hsize d0 d3 d4 d6 d9 (fun x h => (hno x h).elim) hRf hRl hRc hRs hlocks hxx hS.2.2 hc hs
theorem w_thrS {text : String} {is sa : Nat} {Qc : Array Value → State → Outcome → State → Prop} {XC : String → State → State → Prop} (hx : p.tables.exec = Jvm.exec) (hb : c.code = cc) (hl : l.stackTraces = false) (hown : s.vm.findClass RX0 = some m.cls) (hk : (Cond.classLink RX0 77 nISE).before args s = true) (hini : (Cond.initialized nISE).before args s = true) (hstr : vk_R RX0 is text sa s) (hat : ∀ w ∈ (vx_atS RX0 81 nISE nSup).filter goodWord, w.before args s = true) (hES : eS s) (hEH : eH A s s.heap) (hS : va_S A s.heap H locs) (hsize : ls.size = c.maxLocals) (d0 : decode cc pc = .ok (.new 77, 3)) (d3 : decode cc (pc + 3) = .ok (.dup, 1)) (d4 : decode cc (pc + 4) = .ok (.ldc is, 2)) (d6 : decode cc (pc + 6) = .ok (.invokespecial 81, 3)) (d9 : decode cc (pc + 9) = .ok (.athrow, 1)) (hno : ∀ x ∈ c.exceptionTable.toList, False) (hRf : 5 < R.frames) (hRl : (rest.map fun v => v.category).sum + 82 ≤ R.locals) (hRc : cells + 1 ≤ R.cells) (hRs : slots + 6 ≤ R.slots) (hlocks : meth.locks = false) (hxx : ∀ t : State, s.vm.Alike t.vm → H.size ≤ t.heap.size → (∀ q : Nat, q < H.size → t.heap[q]? = H[q]?) → XC nISE s t) (hc : cells + 1 ≤ mc) (hs : slots + 6 ≤ ms) : W p l e R s m args below meth c H locs cells slots (vx_MQ below Qc XC args s mc ms A) (F0 m pc ls rest) :=
  vx_throwS (names := nSup) hx hb hl hown rfl (by decide +kernel) hk hini hstr (vx_hat hat atISE_bad (vx_c (hES.2.2.1.use rfl) (vx_c (hES.2.2.2.2.2.1.use rfl) (vx_c (hES.2.2.2.2.2.2.1.use rfl) (vx_c (hES.2.2.2.2.2.2.2.use rfl) vx_n))))) atISE_good hEH.1 hEH.2.1 hS hsize d0 d3 d4 d6 d9 (fun x h => (hno x h).elim) hRf hRl hRc hRs hlocks hxx hS.2.2 hc hs
/-- what the throw of a method of the world w leaves -/
theorem x_new {k : Int32} {E : String} (hP : va_P D vwCl w2 H) (hS : va_S (tA w sz) s.heap H locs) (hA : ∀ q, s.heap.size ≤ q → tA w sz q) (hk : xk E k) (hw : w2 = w3) : ∀ t : State, s.vm.Alike t.vm → H.size ≤ t.heap.size → (∀ q : Nat, q < H.size → t.heap[q]? = H[q]?) → tX D w w3 sz k E s t := fun t _ hz hq => ⟨(), trivial, ⟨hk, by rw [← hw]; exact hP.newer hq⟩, ⟨Nat.le_trans hS.1 hz, fun q h1 h2 => by rw [hq q (Nat.lt_of_lt_of_le h1 hS.1)]; exact hS.2.1 q h1 h2⟩⟩
/-- the ends -/
theorem e_ti {E v k : Int32} (hx : p.tables.exec = Jvm.exec) (hb : c.code = cc) {rt : FieldType} (hr : meth.sig.returnType = some rt) (hn : narrow rt (.int v) = .int v) (hlocks : meth.locks = false) (hP : va_P D vwCl w2 H) (hS : va_S (tA w sz) s.heap H locs) (hw : w2 = w') (hk : k = 0) (he : v = E) (hc : cells ≤ mc) (hs : slots ≤ ms) (hdg : decode cc pc = .ok (.ireturn, 1)) {XC : String → State → State → Prop} : W p l e R s m args below meth c H locs cells slots (vx_MQ below (tQi D w w' sz k E) XC args s mc ms (tA w sz)) (F0 m pc ls [.int v]) :=
  vx_ret (W.widen hc hs (W.zret hx hb hr hn (fun t ht _ => ⟨⟨v, (), rfl, ⟨hk, he⟩, by show va_P D vwCl w' t.heap; rw [ht, ← hw]; exact hP⟩, hS.F ht⟩) hS.2.2 hdg hlocks))
theorem e_tv {k : Int32} (hx : p.tables.exec = Jvm.exec) (hb : c.code = cc) (hr : meth.sig.returnType = none) (hlocks : meth.locks = false) (hP : va_P D vwCl w2 H) (hS : va_S (tA w sz) s.heap H locs) (hw : w2 = w') (hk : k = 0) (hc : cells ≤ mc) (hs : slots ≤ ms) (hdg : decode cc pc = .ok (.return_, 1)) {XC : String → State → State → Prop} : W p l e R s m args below meth c H locs cells slots (vx_MQ below (tQv D w w' sz k) XC args s mc ms (tA w sz)) (F0 m pc ls []) :=
  vx_ret (W.widen hc hs (W.vret hx hb hr (fun t ht _ => ⟨⟨(), rfl, hk, by show va_P D vwCl w' t.heap; rw [ht, ← hw]; exact hP⟩, hS.F ht⟩) hS.2.2 hdg hlocks))
theorem e_kv {ok : Prop} {H0 : Heap} (hx : p.tables.exec = Jvm.exec) (hb : c.code = cc) (hr : meth.sig.returnType = none) (hlocks : meth.locks = false) (hH : H = H0) (hS : va_S (fun q => H0.size ≤ q) s.heap H locs) (hk : ok) (hc : cells ≤ mc) (hs : slots ≤ ms) (hdg : decode cc pc = .ok (.return_, 1)) {XC : String → State → State → Prop} : W p l e R s m args below meth c H locs cells slots (vx_MQ below (kQ H0 ok) XC args s mc ms (fun q => H0.size ≤ q)) (F0 m pc ls []) :=
  vx_ret (W.widen hc hs (W.vret hx hb hr (fun t ht _ => ⟨⟨(), rfl, hk, ht.trans hH⟩, hS.F ht⟩) hS.2.2 hdg hlocks))
end TR
/-! ===== which exception a call throws: 0 none, 1 the argument, 2 the state ===== -/
def kRank (p1 p2 p3 p4 : Int32) : Int32 := if rg p1 0 5 && rg p2 0 3 && rg p3 1 9 && rg p4 (-50) 50 then 0 else 1
def kStop (I : Nat → Nat → Int32) (p1 p2 p3 : Int32) : Int32 := if rg p1 0 11 && rg p2 0 2 && rg p3 0 5 then (if dr (I 8 0) p1 then 2 else 0) else 1
def kCpl (I : Nat → Nat → Int32) (p1 p2 p3 : Int32) : Int32 := if rg p1 0 2 && rg p2 0 2 && !(decide (p1 = p2)) && (decide (p3 = 0) || decide (p3 = 12) || decide (p3 = -12)) then (if ldt I p2.toNatClampNeg p1.toNatClampNeg then 2 else 0) else 1
def kUnc (p1 p2 : Int32) : Int32 := if rg p1 0 2 && rg p2 0 2 then 0 else 1
def kSup (p1 : Int32) : Int32 := if rg p1 10 1000 then 0 else 1
def kSag (p1 p2 : Int32) : Int32 := if rg p1 1 10 && rg p2 0 100 then 0 else 1
def kTune (p1 p2 : Int32) : Int32 := if rg p1 0 11 && rg p2 (-50) 50 then 0 else 1
def kDraw (p1 : Int32) : Int32 := if rg p1 0 11 then 0 else 1
def kReg (p1 : Int32) : Int32 := if rg p1 0 7 then 0 else 1
def kMK (p1 p2 : Int32) : Int32 := if rg p1 0 2 && rg p2 0 60 then 0 else 1
def kRk (p1 : Int32) : Int32 := if rg p1 0 5 then 0 else 1
def kRK (p1 p2 : Int32) : Int32 := if rg p1 0 5 && rg p2 0 60 then 0 else 1
def kSnd (p1 : Int32) : Int32 := if rg p1 1 50 then 0 else 1
def kPit (I : Nat → Nat → Int32) (J : Nat → Nat → Int64) (p1 p2 : Int32) : Int32 := if rg p1 0 5 && rg p2 0 60 then (if hk (fsW I J 0 0 2 p1.toNatClampNeg) p2 then 0 else 2) else 1
def drI (I : Nat → Nat → Int32) (p1 p2 : Int32) : Nat → Nat → Int32 := if bI (dr (I 8 0) p1) = p2 then I else u2 I 8 0 (I 8 0 ^^^ ((1 : Int32) <<< (p1 &&& 31)))
def hoJ (J : Nat → Nat → Int64) (p1 p2 p3 : Int32) : Nat → Nat → Int64 := if bI (hk (J 0 p1.toNatClampNeg) p2) = p3 then J else u2L J 0 p1.toNatClampNeg (J 0 p1.toNatClampNeg ^^^ kb p2)
def woR (J : Nat → Nat → Int64) (tm : Int32) (I : Nat → Nat → Int32) : Nat → Nat → Nat → Int32
  | 0 => I
  | r + 1 => woF (J 2 r) r tm (woR J tm I r) 61
def rpI (I : Nat → Nat → Int32) (r : Nat) : Nat → Nat → Nat → Int32
  | 0 => I
  | k + 1 => u2 (rpI I r k) (10 + r) k 0
set_option maxHeartbeats 4000000 in
set_option maxRecDepth 100000 in
theorem k_checkRange (l : Launch) (hl0 : l.stackTraces = false) (v lo hi : Int32) : ∀ H0 : Heap, vx_Met l yX0_checkRange wsX0_checkRange ({ frames := 6, cells := 1, slots := 6, locals := 82 } : Room) (va_Pc [.int v, .int lo, .int hi] (kB H0)) (kQ H0 (rg v lo hi = true)) (kX H0 (rg v lo hi = true)) 1 6 (fun q => H0.size ≤ q) := by
  intro H0
  refine vx_ofW (cc := cX0_checkRange) (maxL := 3) (ret := none) (by decide) rfl ?_
  intro p e s m args below meth c s₁ B hml hno hv
  obtain ⟨rfl, hH, hES, hEH⟩ := hv
  subst hH
  have hx := B.exec
  have hb := B.bytes
  have hr := B.returns
  have hts := atoms_spec (ws := wsX0_checkRange) B.pre
  have hown : s.vm.findClass RX0 = some m.cls := findClass_of_methodNamed B.named
  have hlocks := B.notSynchronized
  have hA : ∀ q : Nat, s.heap.size ≤ q → (fun q : Nat => s.heap.size ≤ q) q := fun _ h => h
  have hS : va_S (fun q : Nat => s.heap.size ≤ q) s.heap s.heap [] := va_S.rf
  have hl := lv_entry ([.int v, .int lo, .int hi]) (n := 3) (Nat.le_of_ble_eq_true rfl)
  rw [lg_entry_eq]
  generalize (lg_sl ([.int v, .int lo, .int hi]) ++ List.replicate (3 - (lg_sl ([.int v, .int lo, .int hi])).length) Slot.unset).toArray = ls at hl ⊢
  have hl : lv_has ls 3 [(0, .int v), (1, .int lo), (2, .int hi)] := hl
  refine lv_iload_n hx hb dX0_checkRange_0 rfl (lv_at hl 0 rfl) ?_
  refine lv_iload_n hx hb dX0_checkRange_1 rfl (lv_at hl 1 rfl) ?_
  refine lv_icmp_lt (tgt := 10) hx hb dX0_checkRange_2 (by decide) (fun c_2 => ?_) (fun c_2 => ?_)
  · exact w_thrA (sa := hES.1.2.2.2.2.2.choose) hx hb hl0 hown (hts (.classLink RX0 84 nIAE) (by decide +kernel)) (hts (.initialized nIAE) (by decide +kernel)) hES.1.2.2.2.2.2.choose_spec (fun w h => hts w ((by decide +kernel : ∀ w ∈ (vx_atS RX0 88 nIAE nSup).filter goodWord, w ∈ wsX0_checkRange) w h)) hES hEH hS (hl.1.trans hml.symm) dX0_checkRange_10 dX0_checkRange_13 dX0_checkRange_14 dX0_checkRange_16 dX0_checkRange_19 hno (Nat.le_of_ble_eq_true rfl) (Nat.le_of_ble_eq_true rfl) (Nat.le_of_ble_eq_true rfl) (Nat.le_of_ble_eq_true rfl) hlocks (fun t _ hz hq => ⟨(), rg_f1 c_2, rfl, ⟨Nat.le_trans hS.1 hz, fun q h1 h2 => (hq q (Nat.lt_of_lt_of_le h1 hS.1)).trans (hS.2.1 q h1 h2)⟩⟩) (Nat.le_of_ble_eq_true rfl) (Nat.le_of_ble_eq_true rfl)
  · refine lv_iload_n hx hb dX0_checkRange_5 rfl (lv_at hl 0 rfl) ?_
    refine lv_iload_n hx hb dX0_checkRange_6 rfl (lv_at hl 2 rfl) ?_
    refine lv_icmp_le (tgt := 20) hx hb dX0_checkRange_7 (by decide) (fun c_7 => ?_) (fun c_7 => ?_)
    · exact e_kv hx hb hr hlocks rfl hS (rg_t c_2 c_7) (Nat.le_of_ble_eq_true rfl) (Nat.le_of_ble_eq_true rfl) dX0_checkRange_20
    · exact w_thrA (sa := hES.1.2.2.2.2.2.choose) hx hb hl0 hown (hts (.classLink RX0 84 nIAE) (by decide +kernel)) (hts (.initialized nIAE) (by decide +kernel)) hES.1.2.2.2.2.2.choose_spec (fun w h => hts w ((by decide +kernel : ∀ w ∈ (vx_atS RX0 88 nIAE nSup).filter goodWord, w ∈ wsX0_checkRange) w h)) hES hEH hS (hl.1.trans hml.symm) dX0_checkRange_10 dX0_checkRange_13 dX0_checkRange_14 dX0_checkRange_16 dX0_checkRange_19 hno (Nat.le_of_ble_eq_true rfl) (Nat.le_of_ble_eq_true rfl) (Nat.le_of_ble_eq_true rfl) (Nat.le_of_ble_eq_true rfl) hlocks (fun t _ hz hq => ⟨(), rg_f2 c_7, rfl, ⟨Nat.le_trans hS.1 hz, fun q h1 h2 => (hq q (Nat.lt_of_lt_of_le h1 hS.1)).trans (hS.2.1 q h1 h2)⟩⟩) (Nat.le_of_ble_eq_true rfl) (Nat.le_of_ble_eq_true rfl)
set_option maxHeartbeats 4000000 in
set_option maxRecDepth 100000 in
theorem k_checkManual (l : Launch) (hl0 : l.stackTraces = false) (v : Int32) : ∀ H0 : Heap, vx_Met l yX0_checkManual wsX0_checkManual ({ frames := 7, cells := 1, slots := 6, locals := 104 } : Room) (va_Pc [.int v] (kB H0)) (kQ H0 (rg v 0 2 = true)) (kX H0 (rg v 0 2 = true)) 1 6 (fun q => H0.size ≤ q) := by
  intro H0
  refine vx_ofW (cc := cX0_checkManual) (maxL := 1) (ret := none) (by decide) rfl ?_
  intro p e s m args below meth c s₁ B hml hno hv
  obtain ⟨rfl, hH, hES, hEH⟩ := hv
  subst hH
  have hx := B.exec
  have hb := B.bytes
  have hr := B.returns
  have hts := atoms_spec (ws := wsX0_checkManual) B.pre
  have hown : s.vm.findClass RX0 = some m.cls := findClass_of_methodNamed B.named
  have hlocks := B.notSynchronized
  have hA : ∀ q : Nat, s.heap.size ≤ q → (fun q : Nat => s.heap.size ≤ q) q := fun _ h => h
  have hS : va_S (fun q : Nat => s.heap.size ≤ q) s.heap s.heap [] := va_S.rf
  have hl := lv_entry ([.int v]) (n := 1) (Nat.le_of_ble_eq_true rfl)
  rw [lg_entry_eq]
  generalize (lg_sl ([.int v]) ++ List.replicate (1 - (lg_sl ([.int v])).length) Slot.unset).toArray = ls at hl ⊢
  have hl : lv_has ls 1 [(0, .int v)] := hl
  refine lv_iload_n hx hb dX0_checkManual_0 rfl (lv_at hl 0 rfl) ?_
  refine lv_iconst (v := 0) hx hb dX0_checkManual_1 (by decide) ?_
  refine lv_iconst (v := 2) hx hb dX0_checkManual_2 (by decide) ?_
  refine w_chk (As := [.int v, .int 0, .int 2]) (rest := []) ⟨hx, hb, hml, hown, hts⟩ (k_checkRange l hl0 v 0 2) (va_cwS 3 hts gX0_checkManual_X0_checkRange rfl rfl rfl (by decide +kernel) ⟨Nat.le_of_ble_eq_true rfl, Nat.le_of_ble_eq_true rfl⟩) hES hEH hS hA rfl hl.1 rfl (Nat.le_of_ble_eq_true rfl) dX0_checkManual_3 ⟨Nat.le_of_ble_eq_true rfl, Nat.le_of_ble_eq_true rfl⟩ (fun ce q9 H1 locs1 c_3 z1 k1 hS1 g1 g2 g3 => ?_) (fun c_3 locs hS => ?_)
  · exact x_outk hno hlocks hS1 g1 g2 g3 c_3 (Nat.le_of_ble_eq_true rfl) (Nat.le_of_ble_eq_true rfl)
  · exact e_kv hx hb hr hlocks rfl hS c_3 (Nat.le_of_ble_eq_true rfl) (Nat.le_of_ble_eq_true rfl) dX0_checkManual_6
set_option maxHeartbeats 4000000 in
set_option maxRecDepth 100000 in
theorem k_checkKey (l : Launch) (hl0 : l.stackTraces = false) (v : Int32) : ∀ H0 : Heap, vx_Met l yX0_checkKey wsX0_checkKey ({ frames := 7, cells := 1, slots := 6, locals := 104 } : Room) (va_Pc [.int v] (kB H0)) (kQ H0 (rg v 0 60 = true)) (kX H0 (rg v 0 60 = true)) 1 6 (fun q => H0.size ≤ q) := by
  intro H0
  refine vx_ofW (cc := cX0_checkKey) (maxL := 1) (ret := none) (by decide) rfl ?_
  intro p e s m args below meth c s₁ B hml hno hv
  obtain ⟨rfl, hH, hES, hEH⟩ := hv
  subst hH
  have hx := B.exec
  have hb := B.bytes
  have hr := B.returns
  have hts := atoms_spec (ws := wsX0_checkKey) B.pre
  have hown : s.vm.findClass RX0 = some m.cls := findClass_of_methodNamed B.named
  have hlocks := B.notSynchronized
  have hA : ∀ q : Nat, s.heap.size ≤ q → (fun q : Nat => s.heap.size ≤ q) q := fun _ h => h
  have hS : va_S (fun q : Nat => s.heap.size ≤ q) s.heap s.heap [] := va_S.rf
  have hl := lv_entry ([.int v]) (n := 1) (Nat.le_of_ble_eq_true rfl)
  rw [lg_entry_eq]
  generalize (lg_sl ([.int v]) ++ List.replicate (1 - (lg_sl ([.int v])).length) Slot.unset).toArray = ls at hl ⊢
  have hl : lv_has ls 1 [(0, .int v)] := hl
  refine lv_iload_n hx hb dX0_checkKey_0 rfl (lv_at hl 0 rfl) ?_
  refine lv_iconst (v := 0) hx hb dX0_checkKey_1 (by decide) ?_
  refine lv_bipush (v := 60) hx hb dX0_checkKey_2 (by decide) ?_
  refine w_chk (As := [.int v, .int 0, .int 60]) (rest := []) ⟨hx, hb, hml, hown, hts⟩ (k_checkRange l hl0 v 0 60) (va_cwS 3 hts gX0_checkKey_X0_checkRange rfl rfl rfl (by decide +kernel) ⟨Nat.le_of_ble_eq_true rfl, Nat.le_of_ble_eq_true rfl⟩) hES hEH hS hA rfl hl.1 rfl (Nat.le_of_ble_eq_true rfl) dX0_checkKey_4 ⟨Nat.le_of_ble_eq_true rfl, Nat.le_of_ble_eq_true rfl⟩ (fun ce q9 H1 locs1 c_4 z1 k1 hS1 g1 g2 g3 => ?_) (fun c_4 locs hS => ?_)
  · exact x_outk hno hlocks hS1 g1 g2 g3 c_4 (Nat.le_of_ble_eq_true rfl) (Nat.le_of_ble_eq_true rfl)
  · exact e_kv hx hb hr hlocks rfl hS c_4 (Nat.le_of_ble_eq_true rfl) (Nat.le_of_ble_eq_true rfl) dX0_checkKey_7
set_option maxHeartbeats 4000000 in
set_option maxRecDepth 100000 in
theorem k_checkRank (l : Launch) (hl0 : l.stackTraces = false) (v : Int32) : ∀ H0 : Heap, vx_Met l yX0_checkRank wsX0_checkRank ({ frames := 7, cells := 1, slots := 6, locals := 104 } : Room) (va_Pc [.int v] (kB H0)) (kQ H0 (rg v 0 5 = true)) (kX H0 (rg v 0 5 = true)) 1 6 (fun q => H0.size ≤ q) := by
  intro H0
  refine vx_ofW (cc := cX0_checkRank) (maxL := 1) (ret := none) (by decide) rfl ?_
  intro p e s m args below meth c s₁ B hml hno hv
  obtain ⟨rfl, hH, hES, hEH⟩ := hv
  subst hH
  have hx := B.exec
  have hb := B.bytes
  have hr := B.returns
  have hts := atoms_spec (ws := wsX0_checkRank) B.pre
  have hown : s.vm.findClass RX0 = some m.cls := findClass_of_methodNamed B.named
  have hlocks := B.notSynchronized
  have hA : ∀ q : Nat, s.heap.size ≤ q → (fun q : Nat => s.heap.size ≤ q) q := fun _ h => h
  have hS : va_S (fun q : Nat => s.heap.size ≤ q) s.heap s.heap [] := va_S.rf
  have hl := lv_entry ([.int v]) (n := 1) (Nat.le_of_ble_eq_true rfl)
  rw [lg_entry_eq]
  generalize (lg_sl ([.int v]) ++ List.replicate (1 - (lg_sl ([.int v])).length) Slot.unset).toArray = ls at hl ⊢
  have hl : lv_has ls 1 [(0, .int v)] := hl
  refine lv_iload_n hx hb dX0_checkRank_0 rfl (lv_at hl 0 rfl) ?_
  refine lv_iconst (v := 0) hx hb dX0_checkRank_1 (by decide) ?_
  refine lv_iconst (v := 5) hx hb dX0_checkRank_2 (by decide) ?_
  refine w_chk (As := [.int v, .int 0, .int 5]) (rest := []) ⟨hx, hb, hml, hown, hts⟩ (k_checkRange l hl0 v 0 5) (va_cwS 3 hts gX0_checkRank_X0_checkRange rfl rfl rfl (by decide +kernel) ⟨Nat.le_of_ble_eq_true rfl, Nat.le_of_ble_eq_true rfl⟩) hES hEH hS hA rfl hl.1 rfl (Nat.le_of_ble_eq_true rfl) dX0_checkRank_3 ⟨Nat.le_of_ble_eq_true rfl, Nat.le_of_ble_eq_true rfl⟩ (fun ce q9 H1 locs1 c_3 z1 k1 hS1 g1 g2 g3 => ?_) (fun c_3 locs hS => ?_)
  · exact x_outk hno hlocks hS1 g1 g2 g3 c_3 (Nat.le_of_ble_eq_true rfl) (Nat.le_of_ble_eq_true rfl)
  · exact e_kv hx hb hr hlocks rfl hS c_3 (Nat.le_of_ble_eq_true rfl) (Nat.le_of_ble_eq_true rfl) dX0_checkRank_6
set_option maxHeartbeats 4000000 in
set_option maxRecDepth 100000 in
theorem k_checkStop (l : Launch) (hl0 : l.stackTraces = false) (v : Int32) : ∀ H0 : Heap, vx_Met l yX0_checkStop wsX0_checkStop ({ frames := 7, cells := 1, slots := 6, locals := 104 } : Room) (va_Pc [.int v] (kB H0)) (kQ H0 (rg v 0 11 = true)) (kX H0 (rg v 0 11 = true)) 1 6 (fun q => H0.size ≤ q) := by
  intro H0
  refine vx_ofW (cc := cX0_checkStop) (maxL := 1) (ret := none) (by decide) rfl ?_
  intro p e s m args below meth c s₁ B hml hno hv
  obtain ⟨rfl, hH, hES, hEH⟩ := hv
  subst hH
  have hx := B.exec
  have hb := B.bytes
  have hr := B.returns
  have hts := atoms_spec (ws := wsX0_checkStop) B.pre
  have hown : s.vm.findClass RX0 = some m.cls := findClass_of_methodNamed B.named
  have hlocks := B.notSynchronized
  have hA : ∀ q : Nat, s.heap.size ≤ q → (fun q : Nat => s.heap.size ≤ q) q := fun _ h => h
  have hS : va_S (fun q : Nat => s.heap.size ≤ q) s.heap s.heap [] := va_S.rf
  have hl := lv_entry ([.int v]) (n := 1) (Nat.le_of_ble_eq_true rfl)
  rw [lg_entry_eq]
  generalize (lg_sl ([.int v]) ++ List.replicate (1 - (lg_sl ([.int v])).length) Slot.unset).toArray = ls at hl ⊢
  have hl : lv_has ls 1 [(0, .int v)] := hl
  refine lv_iload_n hx hb dX0_checkStop_0 rfl (lv_at hl 0 rfl) ?_
  refine lv_iconst (v := 0) hx hb dX0_checkStop_1 (by decide) ?_
  refine lv_bipush (v := 11) hx hb dX0_checkStop_2 (by decide) ?_
  refine w_chk (As := [.int v, .int 0, .int 11]) (rest := []) ⟨hx, hb, hml, hown, hts⟩ (k_checkRange l hl0 v 0 11) (va_cwS 3 hts gX0_checkStop_X0_checkRange rfl rfl rfl (by decide +kernel) ⟨Nat.le_of_ble_eq_true rfl, Nat.le_of_ble_eq_true rfl⟩) hES hEH hS hA rfl hl.1 rfl (Nat.le_of_ble_eq_true rfl) dX0_checkStop_4 ⟨Nat.le_of_ble_eq_true rfl, Nat.le_of_ble_eq_true rfl⟩ (fun ce q9 H1 locs1 c_4 z1 k1 hS1 g1 g2 g3 => ?_) (fun c_4 locs hS => ?_)
  · exact x_outk hno hlocks hS1 g1 g2 g3 c_4 (Nat.le_of_ble_eq_true rfl) (Nat.le_of_ble_eq_true rfl)
  · exact e_kv hx hb hr hlocks rfl hS c_4 (Nat.le_of_ble_eq_true rfl) (Nat.le_of_ble_eq_true rfl) dX0_checkStop_7
set_option maxHeartbeats 4000000 in
set_option maxRecDepth 100000 in
theorem t_setRank (l : Launch) (hl0 : l.stackTraces = false) (D : va_G) (a : Nat → Nat) (cI cL cO : ClassId) (I : Nat → Nat → Int32) (J : Nat → Nat → Int64) (p1 p2 p3 p4 : Int32) (sz : Nat) : vx_Met l yX0_setRank wsX0_setRank ({ frames := 8, cells := 4, slots := 24, locals := 124 } : Room) (va_Pc [.ref (a 0), .int p1, .int p2, .int p3, .int p4] (tB D (oty cI cL cO) (oc a cI cL cO I J) sz)) (tQv D (oc a cI cL cO I J) (oc a cI cL cO (u2 (u2 (u2 I 0 p1.toNatClampNeg (htv p2.toNatClampNeg)) 1 p1.toNatClampNeg p3) 2 p1.toNatClampNeg p4) J) sz (kRank p1 p2 p3 p4)) (tX D (oc a cI cL cO I J) (oc a cI cL cO I J) sz (kRank p1 p2 p3 p4)) 4 24 (tA (oc a cI cL cO I J) sz) := by
  refine vx_ofW (cc := cX0_setRank) (maxL := 5) (ret := none) (by decide) rfl ?_
  intro p e s m args below meth c s₁ B hml hno hv
  obtain ⟨rfl, hsz, hP, hK, hD0, hES, hEH⟩ := hv
  subst hsz
  have hx := B.exec
  have hb := B.bytes
  have hr := B.returns
  have hts := atoms_spec (ws := wsX0_setRank) B.pre
  have hown : s.vm.findClass RX0 = some m.cls := findClass_of_methodNamed B.named
  have hlocks := B.notSynchronized
  have hin0 : ∀ w ∈ u_ws RX0 TX0 15, w ∈ wsX0_setRank := by decide +kernel
  have hD := oc_D (tA_D (sz := s.heap.size) hD0)
  have hA : ∀ q : Nat, s.heap.size ≤ q → tA (oc a cI cL cO I J) s.heap.size q := fun _ h => Or.inr h
  have hS : va_S (tA (oc a cI cL cO I J) s.heap.size) s.heap s.heap [] := va_S.rf
  have hl := lv_entry ([.ref (a 0), .int p1, .int p2, .int p3, .int p4]) (n := 5) (Nat.le_of_ble_eq_true rfl)
  rw [lg_entry_eq]
  generalize (lg_sl ([.ref (a 0), .int p1, .int p2, .int p3, .int p4]) ++ List.replicate (5 - (lg_sl ([.ref (a 0), .int p1, .int p2, .int p3, .int p4])).length) Slot.unset).toArray = ls at hl ⊢
  have hl : lv_has ls 5 [(0, .ref (a 0)), (1, .int p1), (2, .int p2), (3, .int p3), (4, .int p4)] := hl
  obtain ⟨hU9, hN9, tt, hZ, hT⟩ := id hEH
  refine lv_iload_n hx hb dX0_setRank_0 rfl (lv_at hl 1 rfl) ?_
  refine w_chk (As := [.int p1]) (rest := []) ⟨hx, hb, hml, hown, hts⟩ (k_checkRank l hl0 p1) (va_cwS 1 hts gX0_setRank_X0_checkRank rfl rfl rfl (by decide +kernel) ⟨Nat.le_of_ble_eq_true rfl, Nat.le_of_ble_eq_true rfl⟩) hES hEH hS hA rfl hl.1 rfl (Nat.le_of_ble_eq_true rfl) dX0_setRank_1 ⟨Nat.le_of_ble_eq_true rfl, Nat.le_of_ble_eq_true rfl⟩ (fun ce q9 H1 locs1 c_1 z1 k1 hS1 g1 g2 g3 => ?_) (fun c_1 locs hS => ?_)
  · exact x_out1 hno hlocks hP k1 hS1 g1 g2 g3 (by simp [kRank, c_1]) (rfl) (Nat.le_of_ble_eq_true rfl) (Nat.le_of_ble_eq_true rfl)
  · refine lv_iload_n hx hb dX0_setRank_4 rfl (lv_at hl 2 rfl) ?_
    refine lv_iconst (v := 0) hx hb dX0_setRank_5 (by decide) ?_
    refine lv_iconst (v := 3) hx hb dX0_setRank_6 (by decide) ?_
    refine w_chk (As := [.int p2, .int 0, .int 3]) (rest := []) ⟨hx, hb, hml, hown, hts⟩ (k_checkRange l hl0 p2 0 3) (va_cwS 3 hts gX0_setRank_X0_checkRange rfl rfl rfl (by decide +kernel) ⟨Nat.le_of_ble_eq_true rfl, Nat.le_of_ble_eq_true rfl⟩) hES hEH hS hA rfl hl.1 rfl (Nat.le_of_ble_eq_true rfl) dX0_setRank_7 ⟨Nat.le_of_ble_eq_true rfl, Nat.le_of_ble_eq_true rfl⟩ (fun ce q9 H1 locs1 c_7 z1 k1 hS1 g1 g2 g3 => ?_) (fun c_7 locs hS => ?_)
    · exact x_out1 hno hlocks hP k1 hS1 g1 g2 g3 (by simp [kRank, c_1, c_7]) (rfl) (Nat.le_of_ble_eq_true rfl) (Nat.le_of_ble_eq_true rfl)
    · refine lv_iload_n hx hb dX0_setRank_10 rfl (lv_at hl 3 rfl) ?_
      refine lv_iconst (v := 1) hx hb dX0_setRank_11 (by decide) ?_
      refine lv_bipush (v := 9) hx hb dX0_setRank_12 (by decide) ?_
      refine w_chk (As := [.int p3, .int 1, .int 9]) (rest := []) ⟨hx, hb, hml, hown, hts⟩ (k_checkRange l hl0 p3 1 9) (va_cwS 3 hts gX0_setRank_X0_checkRange rfl rfl rfl (by decide +kernel) ⟨Nat.le_of_ble_eq_true rfl, Nat.le_of_ble_eq_true rfl⟩) hES hEH hS hA rfl hl.1 rfl (Nat.le_of_ble_eq_true rfl) dX0_setRank_14 ⟨Nat.le_of_ble_eq_true rfl, Nat.le_of_ble_eq_true rfl⟩ (fun ce q9 H1 locs1 c_14 z1 k1 hS1 g1 g2 g3 => ?_) (fun c_14 locs hS => ?_)
      · exact x_out1 hno hlocks hP k1 hS1 g1 g2 g3 (by simp [kRank, c_1, c_7, c_14]) (rfl) (Nat.le_of_ble_eq_true rfl) (Nat.le_of_ble_eq_true rfl)
      · refine lv_iload hx hb dX0_setRank_17 (lv_at hl 4 rfl) ?_
        refine lv_bipush (v := (-50)) hx hb dX0_setRank_19 (by decide) ?_
        refine lv_bipush (v := 50) hx hb dX0_setRank_21 (by decide) ?_
        refine w_chk (As := [.int p4, .int (-50), .int 50]) (rest := []) ⟨hx, hb, hml, hown, hts⟩ (k_checkRange l hl0 p4 (-50) 50) (va_cwS 3 hts gX0_setRank_X0_checkRange rfl rfl rfl (by decide +kernel) ⟨Nat.le_of_ble_eq_true rfl, Nat.le_of_ble_eq_true rfl⟩) hES hEH hS hA rfl hl.1 rfl (Nat.le_of_ble_eq_true rfl) dX0_setRank_23 ⟨Nat.le_of_ble_eq_true rfl, Nat.le_of_ble_eq_true rfl⟩ (fun ce q9 H1 locs1 c_23 z1 k1 hS1 g1 g2 g3 => ?_) (fun c_23 locs hS => ?_)
        · exact x_out1 hno hlocks hP k1 hS1 g1 g2 g3 (by simp [kRank, c_1, c_7, c_14, c_23]) (rfl) (Nat.le_of_ble_eq_true rfl) (Nat.le_of_ble_eq_true rfl)
        · obtain ⟨r, br, rfl⟩ := rg_nat (n := 5) c_1 (by decide)
          obtain ⟨q, bq, rfl⟩ := rg_nat (n := 3) c_7 (by decide)
          refine lv_aload_n hx hb dX0_setRank_26 rfl (lv_at hl 0 rfl) ?_
          refine o_get (v := .ref (a 1)) hx hb hts hin0 hown hK hP oc_at0 0 (by decide) (hts (.fieldLink RX0 9 "OrganBuilder" "halfTones" "[I") (by decide +kernel)) rfl dX0_setRank_27 ?_
          refine lv_iload_n hx hb dX0_setRank_30 rfl (lv_at hl 1 rfl) ?_
          refine va_gets hx hb hZ hS hown (hts (.fieldLink RX0 52 "OrganBuilder" "HALF_TONES_OF_KINDS" "[I") (by decide +kernel)) (fun _ h => h) dX0_setRank_31 ?_
          refine lv_iload_n hx hb dX0_setRank_34 rfl (lv_at hl 2 rfl) ?_
          refine va_ti hx hb hT hS (vp_in_nI (show q < 4 by omega) (by decide)) (v := .int (htv q)) (by rw [nI_clamp (by omega)]) dX0_setRank_35 ?_
          refine w_ist hx hb hK hP (hD _ _) hS rfl oc_at1 (oc_set1 r (htv q)) (by omega) (by decide) dX0_setRank_36 (fun H locs hP hS => ?_)
          refine lv_aload_n hx hb dX0_setRank_37 rfl (lv_at hl 0 rfl) ?_
          refine o_get (v := .ref (a 2)) hx hb hts hin0 hown hK hP oc_at0 1 (by decide) (hts (.fieldLink RX0 13 "OrganBuilder" "winds" "[I") (by decide +kernel)) rfl dX0_setRank_38 ?_
          refine lv_iload_n hx hb dX0_setRank_41 rfl (lv_at hl 1 rfl) ?_
          refine lv_iload_n hx hb dX0_setRank_42 rfl (lv_at hl 3 rfl) ?_
          refine w_ist hx hb hK hP (hD _ _) hS rfl oc_at2 (oc_set2 r p3) (by omega) (by decide) dX0_setRank_43 (fun H locs hP hS => ?_)
          refine lv_aload_n hx hb dX0_setRank_44 rfl (lv_at hl 0 rfl) ?_
          refine o_get (v := .ref (a 3)) hx hb hts hin0 hown hK hP oc_at0 2 (by decide) (hts (.fieldLink RX0 16 "OrganBuilder" "detunes" "[I") (by decide +kernel)) rfl dX0_setRank_45 ?_
          refine lv_iload_n hx hb dX0_setRank_48 rfl (lv_at hl 1 rfl) ?_
          refine lv_iload hx hb dX0_setRank_49 (lv_at hl 4 rfl) ?_
          refine w_ist hx hb hK hP (hD _ _) hS rfl oc_at3 (oc_set3 r p4) (by omega) (by decide) dX0_setRank_51 (fun H locs hP hS => ?_)
          exact e_tv hx hb hr hlocks hP hS (by rw [nI_clamp (show r < 2 ^ 31 by omega), nI_clamp (show q < 2 ^ 31 by omega)]) (by simp [kRank, c_1, c_7, c_14, c_23]) (Nat.le_of_ble_eq_true rfl) (Nat.le_of_ble_eq_true rfl) dX0_setRank_52
set_option maxHeartbeats 4000000 in
set_option maxRecDepth 100000 in
theorem t_setStop (l : Launch) (hl0 : l.stackTraces = false) (D : va_G) (a : Nat → Nat) (cI cL cO : ClassId) (I : Nat → Nat → Int32) (J : Nat → Nat → Int64) (p1 p2 p3 : Int32) (sz : Nat) : vx_Met l yX0_setStop wsX0_setStop ({ frames := 8, cells := 4, slots := 24, locals := 124 } : Room) (va_Pc [.ref (a 0), .int p1, .int p2, .int p3] (tB D (oty cI cL cO) (oc a cI cL cO I J) sz)) (tQv D (oc a cI cL cO I J) (oc a cI cL cO (u2 (u2 I 3 p1.toNatClampNeg p2) 4 p1.toNatClampNeg p3) J) sz (kStop I p1 p2 p3)) (tX D (oc a cI cL cO I J) (oc a cI cL cO I J) sz (kStop I p1 p2 p3)) 4 24 (tA (oc a cI cL cO I J) sz) := by
  refine vx_ofW (cc := cX0_setStop) (maxL := 4) (ret := none) (by decide) rfl ?_
  intro p e s m args below meth c s₁ B hml hno hv
  obtain ⟨rfl, hsz, hP, hK, hD0, hES, hEH⟩ := hv
  subst hsz
  have hx := B.exec
  have hb := B.bytes
  have hr := B.returns
  have hts := atoms_spec (ws := wsX0_setStop) B.pre
  have hown : s.vm.findClass RX0 = some m.cls := findClass_of_methodNamed B.named
  have hlocks := B.notSynchronized
  have hin0 : ∀ w ∈ u_ws RX0 TX0 15, w ∈ wsX0_setStop := by decide +kernel
  have hD := oc_D (tA_D (sz := s.heap.size) hD0)
  have hA : ∀ q : Nat, s.heap.size ≤ q → tA (oc a cI cL cO I J) s.heap.size q := fun _ h => Or.inr h
  have hS : va_S (tA (oc a cI cL cO I J) s.heap.size) s.heap s.heap [] := va_S.rf
  have hl := lv_entry ([.ref (a 0), .int p1, .int p2, .int p3]) (n := 4) (Nat.le_of_ble_eq_true rfl)
  rw [lg_entry_eq]
  generalize (lg_sl ([.ref (a 0), .int p1, .int p2, .int p3]) ++ List.replicate (4 - (lg_sl ([.ref (a 0), .int p1, .int p2, .int p3])).length) Slot.unset).toArray = ls at hl ⊢
  have hl : lv_has ls 4 [(0, .ref (a 0)), (1, .int p1), (2, .int p2), (3, .int p3)] := hl
  refine lv_iload_n hx hb dX0_setStop_0 rfl (lv_at hl 1 rfl) ?_
  refine w_chk (As := [.int p1]) (rest := []) ⟨hx, hb, hml, hown, hts⟩ (k_checkStop l hl0 p1) (va_cwS 1 hts gX0_setStop_X0_checkStop rfl rfl rfl (by decide +kernel) ⟨Nat.le_of_ble_eq_true rfl, Nat.le_of_ble_eq_true rfl⟩) hES hEH hS hA rfl hl.1 rfl (Nat.le_of_ble_eq_true rfl) dX0_setStop_1 ⟨Nat.le_of_ble_eq_true rfl, Nat.le_of_ble_eq_true rfl⟩ (fun ce q9 H1 locs1 c_1 z1 k1 hS1 g1 g2 g3 => ?_) (fun c_1 locs hS => ?_)
  · exact x_out1 hno hlocks hP k1 hS1 g1 g2 g3 (by simp [kStop, c_1]) (rfl) (Nat.le_of_ble_eq_true rfl) (Nat.le_of_ble_eq_true rfl)
  · refine lv_iload_n hx hb dX0_setStop_4 rfl (lv_at hl 2 rfl) ?_
    refine w_chk (As := [.int p2]) (rest := []) ⟨hx, hb, hml, hown, hts⟩ (k_checkManual l hl0 p2) (va_cwS 1 hts gX0_setStop_X0_checkManual rfl rfl rfl (by decide +kernel) ⟨Nat.le_of_ble_eq_true rfl, Nat.le_of_ble_eq_true rfl⟩) hES hEH hS hA rfl hl.1 rfl (Nat.le_of_ble_eq_true rfl) dX0_setStop_5 ⟨Nat.le_of_ble_eq_true rfl, Nat.le_of_ble_eq_true rfl⟩ (fun ce q9 H1 locs1 c_5 z1 k1 hS1 g1 g2 g3 => ?_) (fun c_5 locs hS => ?_)
    · exact x_out1 hno hlocks hP k1 hS1 g1 g2 g3 (by simp [kStop, c_1, c_5]) (rfl) (Nat.le_of_ble_eq_true rfl) (Nat.le_of_ble_eq_true rfl)
    · refine lv_iload_n hx hb dX0_setStop_8 rfl (lv_at hl 3 rfl) ?_
      refine w_chk (As := [.int p3]) (rest := []) ⟨hx, hb, hml, hown, hts⟩ (k_checkRank l hl0 p3) (va_cwS 1 hts gX0_setStop_X0_checkRank rfl rfl rfl (by decide +kernel) ⟨Nat.le_of_ble_eq_true rfl, Nat.le_of_ble_eq_true rfl⟩) hES hEH hS hA rfl hl.1 rfl (Nat.le_of_ble_eq_true rfl) dX0_setStop_9 ⟨Nat.le_of_ble_eq_true rfl, Nat.le_of_ble_eq_true rfl⟩ (fun ce q9 H1 locs1 c_9 z1 k1 hS1 g1 g2 g3 => ?_) (fun c_9 locs hS => ?_)
      · exact x_out1 hno hlocks hP k1 hS1 g1 g2 g3 (by simp [kStop, c_1, c_5, c_9]) (rfl) (Nat.le_of_ble_eq_true rfl) (Nat.le_of_ble_eq_true rfl)
      · obtain ⟨sp, bsp, rfl⟩ := rg_nat (n := 11) c_1 (by decide)
        refine lv_aload_n hx hb dX0_setStop_12 rfl (lv_at hl 0 rfl) ?_
        refine lv_iload_n hx hb dX0_setStop_13 rfl (lv_at hl 1 rfl) ?_
        refine w_pV (As := [.int (nI sp)]) (rest := []) ⟨hx, hb, hml, hown, hts⟩ (c_isDrawn l D a cI cL cO I J (nI sp)) (cwV 1 hts gX0_setStop_X0_isDrawn rfl rfl rfl (by decide +kernel) ⟨Nat.le_of_ble_eq_true rfl, Nat.le_of_ble_eq_true rfl⟩) hK hP rfl rfl oc_at0 rfl hl.1 rfl (Nat.le_of_ble_eq_true rfl) dX0_setStop_14 ⟨Nat.le_of_ble_eq_true rfl, Nat.le_of_ble_eq_true rfl⟩ ?_
        refine lv_if_eq (tgt := 30) hx hb dX0_setStop_17 (by decide) (fun c_17 => ?_) (fun c_17 => ?_)
        · have d_17 := bI_eq0 c_17
          refine lv_aload_n hx hb dX0_setStop_30 rfl (lv_at hl 0 rfl) ?_
          refine o_get (v := .ref (a 5)) hx hb hts hin0 hown hK hP oc_at0 4 (by decide) (hts (.fieldLink RX0 24 "OrganBuilder" "stopManuals" "[I") (by decide +kernel)) rfl dX0_setStop_31 ?_
          refine lv_iload_n hx hb dX0_setStop_34 rfl (lv_at hl 1 rfl) ?_
          refine lv_iload_n hx hb dX0_setStop_35 rfl (lv_at hl 2 rfl) ?_
          refine w_ist hx hb hK hP (hD _ _) hS rfl oc_at5 (oc_set5 sp p2) (by omega) (by decide) dX0_setStop_36 (fun H locs hP hS => ?_)
          refine lv_aload_n hx hb dX0_setStop_37 rfl (lv_at hl 0 rfl) ?_
          refine o_get (v := .ref (a 6)) hx hb hts hin0 hown hK hP oc_at0 5 (by decide) (hts (.fieldLink RX0 27 "OrganBuilder" "stopRanks" "[I") (by decide +kernel)) rfl dX0_setStop_38 ?_
          refine lv_iload_n hx hb dX0_setStop_41 rfl (lv_at hl 1 rfl) ?_
          refine lv_iload_n hx hb dX0_setStop_42 rfl (lv_at hl 3 rfl) ?_
          refine w_ist hx hb hK hP (hD _ _) hS rfl oc_at6 (oc_set6 sp p3) (by omega) (by decide) dX0_setStop_43 (fun H locs hP hS => ?_)
          exact e_tv hx hb hr hlocks hP hS (by rw [nI_clamp (show sp < 2 ^ 31 by omega)]) (by simp [kStop, c_1, c_5, c_9, d_17]) (Nat.le_of_ble_eq_true rfl) (Nat.le_of_ble_eq_true rfl) dX0_setStop_44
        · have d_17 := bI_ne0 c_17
          exact w_thrS (sa := hES.1.1.choose) hx hb hl0 hown (hts (.classLink RX0 77 nISE) (by decide +kernel)) (hts (.initialized nISE) (by decide +kernel)) hES.1.1.choose_spec (fun w h => hts w ((by decide +kernel : ∀ w ∈ (vx_atS RX0 81 nISE nSup).filter goodWord, w ∈ wsX0_setStop) w h)) hES hEH hS (hl.1.trans hml.symm) dX0_setStop_20 dX0_setStop_23 dX0_setStop_24 dX0_setStop_26 dX0_setStop_29 hno (Nat.le_of_ble_eq_true rfl) (Nat.le_of_ble_eq_true rfl) (Nat.le_of_ble_eq_true rfl) (Nat.le_of_ble_eq_true rfl) hlocks (x_new hP hS hA (Or.inr ⟨rfl, by simp [kStop, c_1, c_5, c_9, d_17]⟩) (rfl)) (Nat.le_of_ble_eq_true rfl) (Nat.le_of_ble_eq_true rfl)
set_option maxHeartbeats 4000000 in
set_option maxRecDepth 100000 in
theorem t_couple (l : Launch) (hl0 : l.stackTraces = false) (D : va_G) (a : Nat → Nat) (cI cL cO : ClassId) (I : Nat → Nat → Int32) (J : Nat → Nat → Int64) (p1 p2 p3 : Int32) (sz : Nat) : vx_Met l yX0_couple wsX0_couple ({ frames := 8, cells := 3, slots := 18, locals := 124 } : Room) (va_Pc [.ref (a 0), .int p1, .int p2, .int p3] (tB D (oty cI cL cO) (oc a cI cL cO I J) sz)) (tQi D (oc a cI cL cO I J) (oc a cI cL cO (u2 I (20 + p1.toNatClampNeg) p2.toNatClampNeg p3) J) sz (kCpl I p1 p2 p3) (ccO (u2 I (20 + p1.toNatClampNeg) p2.toNatClampNeg p3) 3)) (tX D (oc a cI cL cO I J) (oc a cI cL cO I J) sz (kCpl I p1 p2 p3)) 3 18 (tA (oc a cI cL cO I J) sz) := by
  refine vx_ofW (cc := cX0_couple) (maxL := 4) (ret := (some .int)) (by decide) rfl ?_
  intro p e s m args below meth c s₁ B hml hno hv
  obtain ⟨rfl, hsz, hP, hK, hD0, hES, hEH⟩ := hv
  subst hsz
  have hx := B.exec
  have hb := B.bytes
  have hr := B.returns
  have hts := atoms_spec (ws := wsX0_couple) B.pre
  have hown : s.vm.findClass RX0 = some m.cls := findClass_of_methodNamed B.named
  have hlocks := B.notSynchronized
  have hin0 : ∀ w ∈ u_ws RX0 TX0 15, w ∈ wsX0_couple := by decide +kernel
  have hD := oc_D (tA_D (sz := s.heap.size) hD0)
  have hA : ∀ q : Nat, s.heap.size ≤ q → tA (oc a cI cL cO I J) s.heap.size q := fun _ h => Or.inr h
  have hS : va_S (tA (oc a cI cL cO I J) s.heap.size) s.heap s.heap [] := va_S.rf
  have hl := lv_entry ([.ref (a 0), .int p1, .int p2, .int p3]) (n := 4) (Nat.le_of_ble_eq_true rfl)
  rw [lg_entry_eq]
  generalize (lg_sl ([.ref (a 0), .int p1, .int p2, .int p3]) ++ List.replicate (4 - (lg_sl ([.ref (a 0), .int p1, .int p2, .int p3])).length) Slot.unset).toArray = ls at hl ⊢
  have hl : lv_has ls 4 [(0, .ref (a 0)), (1, .int p1), (2, .int p2), (3, .int p3)] := hl
  refine lv_iload_n hx hb dX0_couple_0 rfl (lv_at hl 1 rfl) ?_
  refine w_chk (As := [.int p1]) (rest := []) ⟨hx, hb, hml, hown, hts⟩ (k_checkManual l hl0 p1) (va_cwS 1 hts gX0_couple_X0_checkManual rfl rfl rfl (by decide +kernel) ⟨Nat.le_of_ble_eq_true rfl, Nat.le_of_ble_eq_true rfl⟩) hES hEH hS hA rfl hl.1 rfl (Nat.le_of_ble_eq_true rfl) dX0_couple_1 ⟨Nat.le_of_ble_eq_true rfl, Nat.le_of_ble_eq_true rfl⟩ (fun ce q9 H1 locs1 c_1 z1 k1 hS1 g1 g2 g3 => ?_) (fun c_1 locs hS => ?_)
  · exact x_out1 hno hlocks hP k1 hS1 g1 g2 g3 (by simp [kCpl, c_1]) (rfl) (Nat.le_of_ble_eq_true rfl) (Nat.le_of_ble_eq_true rfl)
  · refine lv_iload_n hx hb dX0_couple_4 rfl (lv_at hl 2 rfl) ?_
    refine w_chk (As := [.int p2]) (rest := []) ⟨hx, hb, hml, hown, hts⟩ (k_checkManual l hl0 p2) (va_cwS 1 hts gX0_couple_X0_checkManual rfl rfl rfl (by decide +kernel) ⟨Nat.le_of_ble_eq_true rfl, Nat.le_of_ble_eq_true rfl⟩) hES hEH hS hA rfl hl.1 rfl (Nat.le_of_ble_eq_true rfl) dX0_couple_5 ⟨Nat.le_of_ble_eq_true rfl, Nat.le_of_ble_eq_true rfl⟩ (fun ce q9 H1 locs1 c_5 z1 k1 hS1 g1 g2 g3 => ?_) (fun c_5 locs hS => ?_)
    · exact x_out1 hno hlocks hP k1 hS1 g1 g2 g3 (by simp [kCpl, c_1, c_5]) (rfl) (Nat.le_of_ble_eq_true rfl) (Nat.le_of_ble_eq_true rfl)
    · refine lv_iload_n hx hb dX0_couple_8 rfl (lv_at hl 1 rfl) ?_
      refine lv_iload_n hx hb dX0_couple_9 rfl (lv_at hl 2 rfl) ?_
      refine lv_icmp_ne (tgt := 23) hx hb dX0_couple_10 (by decide) (fun c_10 => ?_) (fun c_10 => ?_)
      · refine lv_iload_n hx hb dX0_couple_23 rfl (lv_at hl 3 rfl) ?_
        refine lv_if_eq (tgt := 49) hx hb dX0_couple_24 (by decide) (fun c_24 => ?_) (fun c_24 => ?_)
        · obtain ⟨f, bf, rfl⟩ := rg_nat (n := 2) c_1 (by decide)
          obtain ⟨t, bt, rfl⟩ := rg_nat (n := 2) c_5 (by decide)
          refine lv_aload_n hx hb dX0_couple_49 rfl (lv_at hl 0 rfl) ?_
          refine lv_iload_n hx hb dX0_couple_50 rfl (lv_at hl 2 rfl) ?_
          refine lv_iload_n hx hb dX0_couple_51 rfl (lv_at hl 1 rfl) ?_
          refine w_pV (As := [.int (nI t), .int (nI f)]) (rest := []) ⟨hx, hb, hml, hown, hts⟩ (c_leadsTo l D a cI cL cO I J t f (by omega) (by omega)) (cwV 2 hts gX0_couple_X0_leadsTo rfl rfl rfl (by decide +kernel) ⟨Nat.le_of_ble_eq_true rfl, Nat.le_of_ble_eq_true rfl⟩) hK hP rfl rfl oc_at0 rfl hl.1 rfl (Nat.le_of_ble_eq_true rfl) dX0_couple_52 ⟨Nat.le_of_ble_eq_true rfl, Nat.le_of_ble_eq_true rfl⟩ ?_
          refine lv_if_eq (tgt := 68) hx hb dX0_couple_55 (by decide) (fun c_55 => ?_) (fun c_55 => ?_)
          · have d_55 := bI_eq0 c_55
            refine lv_aload_n hx hb dX0_couple_68 rfl (lv_at hl 0 rfl) ?_
            refine o_get (v := .ref (a 8)) hx hb hts hin0 hown hK hP oc_at0 8 (by decide) (hts (.fieldLink RX0 33 "OrganBuilder" "shifts" "[[I") (by decide +kernel)) rfl dX0_couple_69 ?_
            refine lv_iload_n hx hb dX0_couple_72 rfl (lv_at hl 1 rfl) ?_
            refine w_qld hx hb hK hP rfl oc_at8 (by omega) (by decide) dX0_couple_73 ?_
            refine lv_iload_n hx hb dX0_couple_74 rfl (lv_at hl 2 rfl) ?_
            refine lv_iload_n hx hb dX0_couple_75 rfl (lv_at hl 3 rfl) ?_
            refine w_ist hx hb hK hP (hD _ _) hS rfl (oc_ats (r := f) (by omega)) (oc_sets (r := f) (by omega) t p3) (by omega) (by decide) dX0_couple_76 (fun H locs hP hS => ?_)
            refine lv_aload_n hx hb dX0_couple_77 rfl (lv_at hl 0 rfl) ?_
            refine w_pV (As := []) (rest := []) ⟨hx, hb, hml, hown, hts⟩ (c_countCouplers l D a cI cL cO (u2 I (20 + f) t p3) J) (cwV 0 hts gX0_couple_X0_countCouplers rfl rfl rfl (by decide +kernel) ⟨Nat.le_of_ble_eq_true rfl, Nat.le_of_ble_eq_true rfl⟩) hK hP rfl rfl oc_at0 rfl hl.1 rfl (Nat.le_of_ble_eq_true rfl) dX0_couple_78 ⟨Nat.le_of_ble_eq_true rfl, Nat.le_of_ble_eq_true rfl⟩ ?_
            exact e_ti hx hb hr rfl hlocks hP hS (by rw [nI_clamp (show f < 2 ^ 31 by omega), nI_clamp (show t < 2 ^ 31 by omega)]) (by simp [kCpl, c_1, c_5, c_10, c_24, d_55, nI_clamp (show f < 2 ^ 31 by omega), nI_clamp (show t < 2 ^ 31 by omega)]) (by rw [nI_clamp (show f < 2 ^ 31 by omega), nI_clamp (show t < 2 ^ 31 by omega)]) (Nat.le_of_ble_eq_true rfl) (Nat.le_of_ble_eq_true rfl) dX0_couple_81
          · have d_55 := bI_ne0 c_55
            exact w_thrS (sa := hES.1.2.2.2.1.choose) hx hb hl0 hown (hts (.classLink RX0 77 nISE) (by decide +kernel)) (hts (.initialized nISE) (by decide +kernel)) hES.1.2.2.2.1.choose_spec (fun w h => hts w ((by decide +kernel : ∀ w ∈ (vx_atS RX0 81 nISE nSup).filter goodWord, w ∈ wsX0_couple) w h)) hES hEH hS (hl.1.trans hml.symm) dX0_couple_58 dX0_couple_61 dX0_couple_62 dX0_couple_64 dX0_couple_67 hno (Nat.le_of_ble_eq_true rfl) (Nat.le_of_ble_eq_true rfl) (Nat.le_of_ble_eq_true rfl) (Nat.le_of_ble_eq_true rfl) hlocks (x_new hP hS hA (Or.inr ⟨rfl, by simp [kCpl, c_1, c_5, c_10, c_24, d_55, nI_clamp (show f < 2 ^ 31 by omega), nI_clamp (show t < 2 ^ 31 by omega)]⟩) (rfl)) (Nat.le_of_ble_eq_true rfl) (Nat.le_of_ble_eq_true rfl)
        · refine lv_iload_n hx hb dX0_couple_27 rfl (lv_at hl 3 rfl) ?_
          refine lv_bipush (v := 12) hx hb dX0_couple_28 (by decide) ?_
          refine lv_icmp_eq (tgt := 49) hx hb dX0_couple_30 (by decide) (fun c_30 => ?_) (fun c_30 => ?_)
          · obtain ⟨f, bf, rfl⟩ := rg_nat (n := 2) c_1 (by decide)
            obtain ⟨t, bt, rfl⟩ := rg_nat (n := 2) c_5 (by decide)
            refine lv_aload_n hx hb dX0_couple_49 rfl (lv_at hl 0 rfl) ?_
            refine lv_iload_n hx hb dX0_couple_50 rfl (lv_at hl 2 rfl) ?_
            refine lv_iload_n hx hb dX0_couple_51 rfl (lv_at hl 1 rfl) ?_
            refine w_pV (As := [.int (nI t), .int (nI f)]) (rest := []) ⟨hx, hb, hml, hown, hts⟩ (c_leadsTo l D a cI cL cO I J t f (by omega) (by omega)) (cwV 2 hts gX0_couple_X0_leadsTo rfl rfl rfl (by decide +kernel) ⟨Nat.le_of_ble_eq_true rfl, Nat.le_of_ble_eq_true rfl⟩) hK hP rfl rfl oc_at0 rfl hl.1 rfl (Nat.le_of_ble_eq_true rfl) dX0_couple_52 ⟨Nat.le_of_ble_eq_true rfl, Nat.le_of_ble_eq_true rfl⟩ ?_
            refine lv_if_eq (tgt := 68) hx hb dX0_couple_55 (by decide) (fun c_55 => ?_) (fun c_55 => ?_)
            · have d_55 := bI_eq0 c_55
              refine lv_aload_n hx hb dX0_couple_68 rfl (lv_at hl 0 rfl) ?_
              refine o_get (v := .ref (a 8)) hx hb hts hin0 hown hK hP oc_at0 8 (by decide) (hts (.fieldLink RX0 33 "OrganBuilder" "shifts" "[[I") (by decide +kernel)) rfl dX0_couple_69 ?_
              refine lv_iload_n hx hb dX0_couple_72 rfl (lv_at hl 1 rfl) ?_
              refine w_qld hx hb hK hP rfl oc_at8 (by omega) (by decide) dX0_couple_73 ?_
              refine lv_iload_n hx hb dX0_couple_74 rfl (lv_at hl 2 rfl) ?_
              refine lv_iload_n hx hb dX0_couple_75 rfl (lv_at hl 3 rfl) ?_
              refine w_ist hx hb hK hP (hD _ _) hS rfl (oc_ats (r := f) (by omega)) (oc_sets (r := f) (by omega) t p3) (by omega) (by decide) dX0_couple_76 (fun H locs hP hS => ?_)
              refine lv_aload_n hx hb dX0_couple_77 rfl (lv_at hl 0 rfl) ?_
              refine w_pV (As := []) (rest := []) ⟨hx, hb, hml, hown, hts⟩ (c_countCouplers l D a cI cL cO (u2 I (20 + f) t p3) J) (cwV 0 hts gX0_couple_X0_countCouplers rfl rfl rfl (by decide +kernel) ⟨Nat.le_of_ble_eq_true rfl, Nat.le_of_ble_eq_true rfl⟩) hK hP rfl rfl oc_at0 rfl hl.1 rfl (Nat.le_of_ble_eq_true rfl) dX0_couple_78 ⟨Nat.le_of_ble_eq_true rfl, Nat.le_of_ble_eq_true rfl⟩ ?_
              exact e_ti hx hb hr rfl hlocks hP hS (by rw [nI_clamp (show f < 2 ^ 31 by omega), nI_clamp (show t < 2 ^ 31 by omega)]) (by simp [kCpl, c_1, c_5, c_10, c_30, d_55, nI_clamp (show f < 2 ^ 31 by omega), nI_clamp (show t < 2 ^ 31 by omega)]) (by rw [nI_clamp (show f < 2 ^ 31 by omega), nI_clamp (show t < 2 ^ 31 by omega)]) (Nat.le_of_ble_eq_true rfl) (Nat.le_of_ble_eq_true rfl) dX0_couple_81
            · have d_55 := bI_ne0 c_55
              exact w_thrS (sa := hES.1.2.2.2.1.choose) hx hb hl0 hown (hts (.classLink RX0 77 nISE) (by decide +kernel)) (hts (.initialized nISE) (by decide +kernel)) hES.1.2.2.2.1.choose_spec (fun w h => hts w ((by decide +kernel : ∀ w ∈ (vx_atS RX0 81 nISE nSup).filter goodWord, w ∈ wsX0_couple) w h)) hES hEH hS (hl.1.trans hml.symm) dX0_couple_58 dX0_couple_61 dX0_couple_62 dX0_couple_64 dX0_couple_67 hno (Nat.le_of_ble_eq_true rfl) (Nat.le_of_ble_eq_true rfl) (Nat.le_of_ble_eq_true rfl) (Nat.le_of_ble_eq_true rfl) hlocks (x_new hP hS hA (Or.inr ⟨rfl, by simp [kCpl, c_1, c_5, c_10, c_30, d_55, nI_clamp (show f < 2 ^ 31 by omega), nI_clamp (show t < 2 ^ 31 by omega)]⟩) (rfl)) (Nat.le_of_ble_eq_true rfl) (Nat.le_of_ble_eq_true rfl)
          · refine lv_iload_n hx hb dX0_couple_33 rfl (lv_at hl 3 rfl) ?_
            refine lv_bipush (v := (-12)) hx hb dX0_couple_34 (by decide) ?_
            refine lv_icmp_eq (tgt := 49) hx hb dX0_couple_36 (by decide) (fun c_36 => ?_) (fun c_36 => ?_)
            · obtain ⟨f, bf, rfl⟩ := rg_nat (n := 2) c_1 (by decide)
              obtain ⟨t, bt, rfl⟩ := rg_nat (n := 2) c_5 (by decide)
              refine lv_aload_n hx hb dX0_couple_49 rfl (lv_at hl 0 rfl) ?_
              refine lv_iload_n hx hb dX0_couple_50 rfl (lv_at hl 2 rfl) ?_
              refine lv_iload_n hx hb dX0_couple_51 rfl (lv_at hl 1 rfl) ?_
              refine w_pV (As := [.int (nI t), .int (nI f)]) (rest := []) ⟨hx, hb, hml, hown, hts⟩ (c_leadsTo l D a cI cL cO I J t f (by omega) (by omega)) (cwV 2 hts gX0_couple_X0_leadsTo rfl rfl rfl (by decide +kernel) ⟨Nat.le_of_ble_eq_true rfl, Nat.le_of_ble_eq_true rfl⟩) hK hP rfl rfl oc_at0 rfl hl.1 rfl (Nat.le_of_ble_eq_true rfl) dX0_couple_52 ⟨Nat.le_of_ble_eq_true rfl, Nat.le_of_ble_eq_true rfl⟩ ?_
              refine lv_if_eq (tgt := 68) hx hb dX0_couple_55 (by decide) (fun c_55 => ?_) (fun c_55 => ?_)
              · have d_55 := bI_eq0 c_55
                refine lv_aload_n hx hb dX0_couple_68 rfl (lv_at hl 0 rfl) ?_
                refine o_get (v := .ref (a 8)) hx hb hts hin0 hown hK hP oc_at0 8 (by decide) (hts (.fieldLink RX0 33 "OrganBuilder" "shifts" "[[I") (by decide +kernel)) rfl dX0_couple_69 ?_
                refine lv_iload_n hx hb dX0_couple_72 rfl (lv_at hl 1 rfl) ?_
                refine w_qld hx hb hK hP rfl oc_at8 (by omega) (by decide) dX0_couple_73 ?_
                refine lv_iload_n hx hb dX0_couple_74 rfl (lv_at hl 2 rfl) ?_
                refine lv_iload_n hx hb dX0_couple_75 rfl (lv_at hl 3 rfl) ?_
                refine w_ist hx hb hK hP (hD _ _) hS rfl (oc_ats (r := f) (by omega)) (oc_sets (r := f) (by omega) t p3) (by omega) (by decide) dX0_couple_76 (fun H locs hP hS => ?_)
                refine lv_aload_n hx hb dX0_couple_77 rfl (lv_at hl 0 rfl) ?_
                refine w_pV (As := []) (rest := []) ⟨hx, hb, hml, hown, hts⟩ (c_countCouplers l D a cI cL cO (u2 I (20 + f) t p3) J) (cwV 0 hts gX0_couple_X0_countCouplers rfl rfl rfl (by decide +kernel) ⟨Nat.le_of_ble_eq_true rfl, Nat.le_of_ble_eq_true rfl⟩) hK hP rfl rfl oc_at0 rfl hl.1 rfl (Nat.le_of_ble_eq_true rfl) dX0_couple_78 ⟨Nat.le_of_ble_eq_true rfl, Nat.le_of_ble_eq_true rfl⟩ ?_
                exact e_ti hx hb hr rfl hlocks hP hS (by rw [nI_clamp (show f < 2 ^ 31 by omega), nI_clamp (show t < 2 ^ 31 by omega)]) (by simp [kCpl, c_1, c_5, c_10, c_36, d_55, nI_clamp (show f < 2 ^ 31 by omega), nI_clamp (show t < 2 ^ 31 by omega)]) (by rw [nI_clamp (show f < 2 ^ 31 by omega), nI_clamp (show t < 2 ^ 31 by omega)]) (Nat.le_of_ble_eq_true rfl) (Nat.le_of_ble_eq_true rfl) dX0_couple_81
              · have d_55 := bI_ne0 c_55
                exact w_thrS (sa := hES.1.2.2.2.1.choose) hx hb hl0 hown (hts (.classLink RX0 77 nISE) (by decide +kernel)) (hts (.initialized nISE) (by decide +kernel)) hES.1.2.2.2.1.choose_spec (fun w h => hts w ((by decide +kernel : ∀ w ∈ (vx_atS RX0 81 nISE nSup).filter goodWord, w ∈ wsX0_couple) w h)) hES hEH hS (hl.1.trans hml.symm) dX0_couple_58 dX0_couple_61 dX0_couple_62 dX0_couple_64 dX0_couple_67 hno (Nat.le_of_ble_eq_true rfl) (Nat.le_of_ble_eq_true rfl) (Nat.le_of_ble_eq_true rfl) (Nat.le_of_ble_eq_true rfl) hlocks (x_new hP hS hA (Or.inr ⟨rfl, by simp [kCpl, c_1, c_5, c_10, c_36, d_55, nI_clamp (show f < 2 ^ 31 by omega), nI_clamp (show t < 2 ^ 31 by omega)]⟩) (rfl)) (Nat.le_of_ble_eq_true rfl) (Nat.le_of_ble_eq_true rfl)
            · exact w_thrA (sa := hES.1.2.2.1.choose) hx hb hl0 hown (hts (.classLink RX0 84 nIAE) (by decide +kernel)) (hts (.initialized nIAE) (by decide +kernel)) hES.1.2.2.1.choose_spec (fun w h => hts w ((by decide +kernel : ∀ w ∈ (vx_atS RX0 88 nIAE nSup).filter goodWord, w ∈ wsX0_couple) w h)) hES hEH hS (hl.1.trans hml.symm) dX0_couple_39 dX0_couple_42 dX0_couple_43 dX0_couple_45 dX0_couple_48 hno (Nat.le_of_ble_eq_true rfl) (Nat.le_of_ble_eq_true rfl) (Nat.le_of_ble_eq_true rfl) (Nat.le_of_ble_eq_true rfl) hlocks (x_new hP hS hA (Or.inl ⟨rfl, by simp [kCpl, c_1, c_5, c_10, c_24, c_30, c_36]⟩) (rfl)) (Nat.le_of_ble_eq_true rfl) (Nat.le_of_ble_eq_true rfl)
      · exact w_thrA (sa := hES.1.2.1.choose) hx hb hl0 hown (hts (.classLink RX0 84 nIAE) (by decide +kernel)) (hts (.initialized nIAE) (by decide +kernel)) hES.1.2.1.choose_spec (fun w h => hts w ((by decide +kernel : ∀ w ∈ (vx_atS RX0 88 nIAE nSup).filter goodWord, w ∈ wsX0_couple) w h)) hES hEH hS (hl.1.trans hml.symm) dX0_couple_13 dX0_couple_16 dX0_couple_17 dX0_couple_19 dX0_couple_22 hno (Nat.le_of_ble_eq_true rfl) (Nat.le_of_ble_eq_true rfl) (Nat.le_of_ble_eq_true rfl) (Nat.le_of_ble_eq_true rfl) hlocks (x_new hP hS hA (Or.inl ⟨rfl, by simp [kCpl, c_1, c_5, c_10]⟩) (rfl)) (Nat.le_of_ble_eq_true rfl) (Nat.le_of_ble_eq_true rfl)
set_option maxHeartbeats 4000000 in
set_option maxRecDepth 100000 in
theorem t_uncouple (l : Launch) (hl0 : l.stackTraces = false) (D : va_G) (a : Nat → Nat) (cI cL cO : ClassId) (I : Nat → Nat → Int32) (J : Nat → Nat → Int64) (p1 p2 : Int32) (sz : Nat) : vx_Met l yX0_uncouple wsX0_uncouple ({ frames := 8, cells := 2, slots := 12, locals := 124 } : Room) (va_Pc [.ref (a 0), .int p1, .int p2] (tB D (oty cI cL cO) (oc a cI cL cO I J) sz)) (tQi D (oc a cI cL cO I J) (oc a cI cL cO (u2 I (20 + p1.toNatClampNeg) p2.toNatClampNeg 1) J) sz (kUnc p1 p2) (bI (cpd I p1.toNatClampNeg p2.toNatClampNeg))) (tX D (oc a cI cL cO I J) (oc a cI cL cO I J) sz (kUnc p1 p2)) 2 12 (tA (oc a cI cL cO I J) sz) := by
  refine vx_ofW (cc := cX0_uncouple) (maxL := 4) (ret := (some .boolean)) (by decide) rfl ?_
  intro p e s m args below meth c s₁ B hml hno hv
  obtain ⟨rfl, hsz, hP, hK, hD0, hES, hEH⟩ := hv
  subst hsz
  have hx := B.exec
  have hb := B.bytes
  have hr := B.returns
  have hts := atoms_spec (ws := wsX0_uncouple) B.pre
  have hown : s.vm.findClass RX0 = some m.cls := findClass_of_methodNamed B.named
  have hlocks := B.notSynchronized
  have hin0 : ∀ w ∈ u_ws RX0 TX0 15, w ∈ wsX0_uncouple := by decide +kernel
  have hD := oc_D (tA_D (sz := s.heap.size) hD0)
  have hA : ∀ q : Nat, s.heap.size ≤ q → tA (oc a cI cL cO I J) s.heap.size q := fun _ h => Or.inr h
  have hS : va_S (tA (oc a cI cL cO I J) s.heap.size) s.heap s.heap [] := va_S.rf
  have hl := lv_entry ([.ref (a 0), .int p1, .int p2]) (n := 4) (Nat.le_of_ble_eq_true rfl)
  rw [lg_entry_eq]
  generalize (lg_sl ([.ref (a 0), .int p1, .int p2]) ++ List.replicate (4 - (lg_sl ([.ref (a 0), .int p1, .int p2])).length) Slot.unset).toArray = ls at hl ⊢
  have hl : lv_has ls 4 [(0, .ref (a 0)), (1, .int p1), (2, .int p2)] := hl
  refine lv_iload_n hx hb dX0_uncouple_0 rfl (lv_at hl 1 rfl) ?_
  refine w_chk (As := [.int p1]) (rest := []) ⟨hx, hb, hml, hown, hts⟩ (k_checkManual l hl0 p1) (va_cwS 1 hts gX0_uncouple_X0_checkManual rfl rfl rfl (by decide +kernel) ⟨Nat.le_of_ble_eq_true rfl, Nat.le_of_ble_eq_true rfl⟩) hES hEH hS hA rfl hl.1 rfl (Nat.le_of_ble_eq_true rfl) dX0_uncouple_1 ⟨Nat.le_of_ble_eq_true rfl, Nat.le_of_ble_eq_true rfl⟩ (fun ce q9 H1 locs1 c_1 z1 k1 hS1 g1 g2 g3 => ?_) (fun c_1 locs hS => ?_)
  · exact x_out1 hno hlocks hP k1 hS1 g1 g2 g3 (by simp [kUnc, c_1]) (rfl) (Nat.le_of_ble_eq_true rfl) (Nat.le_of_ble_eq_true rfl)
  · refine lv_iload_n hx hb dX0_uncouple_4 rfl (lv_at hl 2 rfl) ?_
    refine w_chk (As := [.int p2]) (rest := []) ⟨hx, hb, hml, hown, hts⟩ (k_checkManual l hl0 p2) (va_cwS 1 hts gX0_uncouple_X0_checkManual rfl rfl rfl (by decide +kernel) ⟨Nat.le_of_ble_eq_true rfl, Nat.le_of_ble_eq_true rfl⟩) hES hEH hS hA rfl hl.1 rfl (Nat.le_of_ble_eq_true rfl) dX0_uncouple_5 ⟨Nat.le_of_ble_eq_true rfl, Nat.le_of_ble_eq_true rfl⟩ (fun ce q9 H1 locs1 c_5 z1 k1 hS1 g1 g2 g3 => ?_) (fun c_5 locs hS => ?_)
    · exact x_out1 hno hlocks hP k1 hS1 g1 g2 g3 (by simp [kUnc, c_1, c_5]) (rfl) (Nat.le_of_ble_eq_true rfl) (Nat.le_of_ble_eq_true rfl)
    · obtain ⟨f, bf, rfl⟩ := rg_nat (n := 2) c_1 (by decide)
      obtain ⟨t, bt, rfl⟩ := rg_nat (n := 2) c_5 (by decide)
      refine lv_aload_n hx hb dX0_uncouple_8 rfl (lv_at hl 0 rfl) ?_
      refine lv_iload_n hx hb dX0_uncouple_9 rfl (lv_at hl 1 rfl) ?_
      refine lv_iload_n hx hb dX0_uncouple_10 rfl (lv_at hl 2 rfl) ?_
      refine w_pV (As := [.int (nI f), .int (nI t)]) (rest := []) ⟨hx, hb, hml, hown, hts⟩ (c_isCoupled l D a cI cL cO I J f t (by omega) (by omega)) (cwV 2 hts gX0_uncouple_X0_isCoupled rfl rfl rfl (by decide +kernel) ⟨Nat.le_of_ble_eq_true rfl, Nat.le_of_ble_eq_true rfl⟩) hK hP rfl rfl oc_at0 rfl hl.1 rfl (Nat.le_of_ble_eq_true rfl) dX0_uncouple_11 ⟨Nat.le_of_ble_eq_true rfl, Nat.le_of_ble_eq_true rfl⟩ ?_
      refine lv_istore_n (lv' := [(3, .int (bI (cpd I f t))), (0, .ref (a 0)), (1, .int (nI f)), (2, .int (nI t))]) hx hb dX0_uncouple_14 rfl hl (by decide) rfl (fun ls hl => ?_)
      refine lv_aload_n hx hb dX0_uncouple_15 rfl (lv_at hl 1 rfl) ?_
      refine o_get (v := .ref (a 8)) hx hb hts hin0 hown hK hP oc_at0 8 (by decide) (hts (.fieldLink RX0 33 "OrganBuilder" "shifts" "[[I") (by decide +kernel)) rfl dX0_uncouple_16 ?_
      refine lv_iload_n hx hb dX0_uncouple_19 rfl (lv_at hl 2 rfl) ?_
      refine w_qld hx hb hK hP rfl oc_at8 (by omega) (by decide) dX0_uncouple_20 ?_
      refine lv_iload_n hx hb dX0_uncouple_21 rfl (lv_at hl 3 rfl) ?_
      refine lv_iconst (v := 1) hx hb dX0_uncouple_22 (by decide) ?_
      refine w_ist hx hb hK hP (hD _ _) hS rfl (oc_ats (r := f) (by omega)) (oc_sets (r := f) (by omega) t 1) (by omega) (by decide) dX0_uncouple_23 (fun H locs hP hS => ?_)
      refine lv_iload_n hx hb dX0_uncouple_24 rfl (lv_at hl 0 rfl) ?_
      exact e_ti hx hb hr (nar_bI _) hlocks hP hS (by rw [nI_clamp (show f < 2 ^ 31 by omega), nI_clamp (show t < 2 ^ 31 by omega)]) (by simp [kUnc, c_1, c_5]) (by rw [nI_clamp (show f < 2 ^ 31 by omega), nI_clamp (show t < 2 ^ 31 by omega)]) (Nat.le_of_ble_eq_true rfl) (Nat.le_of_ble_eq_true rfl) dX0_uncouple_25
set_option maxHeartbeats 4000000 in
set_option maxRecDepth 100000 in
theorem t_setSupply (l : Launch) (hl0 : l.stackTraces = false) (D : va_G) (a : Nat → Nat) (cI cL cO : ClassId) (I : Nat → Nat → Int32) (J : Nat → Nat → Int64) (p1 : Int32) (sz : Nat) : vx_Met l yX0_setSupply wsX0_setSupply ({ frames := 7, cells := 1, slots := 6, locals := 104 } : Room) (va_Pc [.ref (a 0), .int p1] (tB D (oty cI cL cO) (oc a cI cL cO I J) sz)) (tQi D (oc a cI cL cO I J) (oc a cI cL cO (u2 I 8 1 p1) J) sz (kSup p1) (I 8 1)) (tX D (oc a cI cL cO I J) (oc a cI cL cO I J) sz (kSup p1)) 1 6 (tA (oc a cI cL cO I J) sz) := by
  refine vx_ofW (cc := cX0_setSupply) (maxL := 3) (ret := (some .int)) (by decide) rfl ?_
  intro p e s m args below meth c s₁ B hml hno hv
  obtain ⟨rfl, hsz, hP, hK, hD0, hES, hEH⟩ := hv
  subst hsz
  have hx := B.exec
  have hb := B.bytes
  have hr := B.returns
  have hts := atoms_spec (ws := wsX0_setSupply) B.pre
  have hown : s.vm.findClass RX0 = some m.cls := findClass_of_methodNamed B.named
  have hlocks := B.notSynchronized
  have hin0 : ∀ w ∈ u_ws RX0 TX0 15, w ∈ wsX0_setSupply := by decide +kernel
  have hD := oc_D (tA_D (sz := s.heap.size) hD0)
  have hA : ∀ q : Nat, s.heap.size ≤ q → tA (oc a cI cL cO I J) s.heap.size q := fun _ h => Or.inr h
  have hS : va_S (tA (oc a cI cL cO I J) s.heap.size) s.heap s.heap [] := va_S.rf
  have hl := lv_entry ([.ref (a 0), .int p1]) (n := 3) (Nat.le_of_ble_eq_true rfl)
  rw [lg_entry_eq]
  generalize (lg_sl ([.ref (a 0), .int p1]) ++ List.replicate (3 - (lg_sl ([.ref (a 0), .int p1])).length) Slot.unset).toArray = ls at hl ⊢
  have hl : lv_has ls 3 [(0, .ref (a 0)), (1, .int p1)] := hl
  refine lv_iload_n hx hb dX0_setSupply_0 rfl (lv_at hl 1 rfl) ?_
  refine lv_bipush (v := 10) hx hb dX0_setSupply_1 (by decide) ?_
  refine lv_sipush (v := 1000) hx hb dX0_setSupply_3 (by decide) ?_
  refine w_chk (As := [.int p1, .int 10, .int 1000]) (rest := []) ⟨hx, hb, hml, hown, hts⟩ (k_checkRange l hl0 p1 10 1000) (va_cwS 3 hts gX0_setSupply_X0_checkRange rfl rfl rfl (by decide +kernel) ⟨Nat.le_of_ble_eq_true rfl, Nat.le_of_ble_eq_true rfl⟩) hES hEH hS hA rfl hl.1 rfl (Nat.le_of_ble_eq_true rfl) dX0_setSupply_6 ⟨Nat.le_of_ble_eq_true rfl, Nat.le_of_ble_eq_true rfl⟩ (fun ce q9 H1 locs1 c_6 z1 k1 hS1 g1 g2 g3 => ?_) (fun c_6 locs hS => ?_)
  · exact x_out1 hno hlocks hP k1 hS1 g1 g2 g3 (by simp [kSup, c_6]) (rfl) (Nat.le_of_ble_eq_true rfl) (Nat.le_of_ble_eq_true rfl)
  · refine lv_aload_n hx hb dX0_setSupply_9 rfl (lv_at hl 0 rfl) ?_
    refine o_get (v := .int (I 8 1)) hx hb hts hin0 hown hK hP oc_at0 10 (by decide) (hts (.fieldLink RX0 55 "OrganBuilder" "supply" "I") (by decide +kernel)) rfl dX0_setSupply_10 ?_
    refine lv_istore_n (lv' := [(2, .int (I 8 1)), (0, .ref (a 0)), (1, .int p1)]) hx hb dX0_setSupply_13 rfl hl (by decide) rfl (fun ls hl => ?_)
    refine lv_aload_n hx hb dX0_setSupply_14 rfl (lv_at hl 1 rfl) ?_
    refine lv_iload_n hx hb dX0_setSupply_15 rfl (lv_at hl 2 rfl) ?_
    refine o_put hx hb hts hin0 hown hK hP (hD _ _) hS oc_at0 10 (by decide) (hts (.fieldLink RX0 55 "OrganBuilder" "supply" "I") (by decide +kernel)) rfl (by decide +kernel) (by exact Nat.le_of_ble_eq_true rfl) (oc_puts p1) dX0_setSupply_16 (fun H locs hP hS => ?_)
    refine lv_iload_n hx hb dX0_setSupply_19 rfl (lv_at hl 0 rfl) ?_
    exact e_ti hx hb hr rfl hlocks hP hS (rfl) (by simp [kSup, c_6]) (rfl) (Nat.le_of_ble_eq_true rfl) (Nat.le_of_ble_eq_true rfl) dX0_setSupply_20
set_option maxHeartbeats 4000000 in
set_option maxRecDepth 100000 in
theorem t_tune (l : Launch) (hl0 : l.stackTraces = false) (D : va_G) (a : Nat → Nat) (cI cL cO : ClassId) (I : Nat → Nat → Int32) (J : Nat → Nat → Int64) (p1 p2 : Int32) (sz : Nat) : vx_Met l yX0_tune wsX0_tune ({ frames := 7, cells := 2, slots := 12, locals := 104 } : Room) (va_Pc [.ref (a 0), .int p1, .int p2] (tB D (oty cI cL cO) (oc a cI cL cO I J) sz)) (tQi D (oc a cI cL cO I J) (oc a cI cL cO (u2 I 7 p1.toNatClampNeg p2) J) sz (kTune p1 p2) (I 7 p1.toNatClampNeg)) (tX D (oc a cI cL cO I J) (oc a cI cL cO I J) sz (kTune p1 p2)) 2 12 (tA (oc a cI cL cO I J) sz) := by
  refine vx_ofW (cc := cX0_tune) (maxL := 4) (ret := (some .int)) (by decide) rfl ?_
  intro p e s m args below meth c s₁ B hml hno hv
  obtain ⟨rfl, hsz, hP, hK, hD0, hES, hEH⟩ := hv
  subst hsz
  have hx := B.exec
  have hb := B.bytes
  have hr := B.returns
  have hts := atoms_spec (ws := wsX0_tune) B.pre
  have hown : s.vm.findClass RX0 = some m.cls := findClass_of_methodNamed B.named
  have hlocks := B.notSynchronized
  have hin0 : ∀ w ∈ u_ws RX0 TX0 15, w ∈ wsX0_tune := by decide +kernel
  have hD := oc_D (tA_D (sz := s.heap.size) hD0)
  have hA : ∀ q : Nat, s.heap.size ≤ q → tA (oc a cI cL cO I J) s.heap.size q := fun _ h => Or.inr h
  have hS : va_S (tA (oc a cI cL cO I J) s.heap.size) s.heap s.heap [] := va_S.rf
  have hl := lv_entry ([.ref (a 0), .int p1, .int p2]) (n := 4) (Nat.le_of_ble_eq_true rfl)
  rw [lg_entry_eq]
  generalize (lg_sl ([.ref (a 0), .int p1, .int p2]) ++ List.replicate (4 - (lg_sl ([.ref (a 0), .int p1, .int p2])).length) Slot.unset).toArray = ls at hl ⊢
  have hl : lv_has ls 4 [(0, .ref (a 0)), (1, .int p1), (2, .int p2)] := hl
  refine lv_iload_n hx hb dX0_tune_0 rfl (lv_at hl 1 rfl) ?_
  refine lv_iconst (v := 0) hx hb dX0_tune_1 (by decide) ?_
  refine lv_bipush (v := 11) hx hb dX0_tune_2 (by decide) ?_
  refine w_chk (As := [.int p1, .int 0, .int 11]) (rest := []) ⟨hx, hb, hml, hown, hts⟩ (k_checkRange l hl0 p1 0 11) (va_cwS 3 hts gX0_tune_X0_checkRange rfl rfl rfl (by decide +kernel) ⟨Nat.le_of_ble_eq_true rfl, Nat.le_of_ble_eq_true rfl⟩) hES hEH hS hA rfl hl.1 rfl (Nat.le_of_ble_eq_true rfl) dX0_tune_4 ⟨Nat.le_of_ble_eq_true rfl, Nat.le_of_ble_eq_true rfl⟩ (fun ce q9 H1 locs1 c_4 z1 k1 hS1 g1 g2 g3 => ?_) (fun c_4 locs hS => ?_)
  · exact x_out1 hno hlocks hP k1 hS1 g1 g2 g3 (by simp [kTune, c_4]) (rfl) (Nat.le_of_ble_eq_true rfl) (Nat.le_of_ble_eq_true rfl)
  · refine lv_iload_n hx hb dX0_tune_7 rfl (lv_at hl 2 rfl) ?_
    refine lv_bipush (v := (-50)) hx hb dX0_tune_8 (by decide) ?_
    refine lv_bipush (v := 50) hx hb dX0_tune_10 (by decide) ?_
    refine w_chk (As := [.int p2, .int (-50), .int 50]) (rest := []) ⟨hx, hb, hml, hown, hts⟩ (k_checkRange l hl0 p2 (-50) 50) (va_cwS 3 hts gX0_tune_X0_checkRange rfl rfl rfl (by decide +kernel) ⟨Nat.le_of_ble_eq_true rfl, Nat.le_of_ble_eq_true rfl⟩) hES hEH hS hA rfl hl.1 rfl (Nat.le_of_ble_eq_true rfl) dX0_tune_12 ⟨Nat.le_of_ble_eq_true rfl, Nat.le_of_ble_eq_true rfl⟩ (fun ce q9 H1 locs1 c_12 z1 k1 hS1 g1 g2 g3 => ?_) (fun c_12 locs hS => ?_)
    · exact x_out1 hno hlocks hP k1 hS1 g1 g2 g3 (by simp [kTune, c_4, c_12]) (rfl) (Nat.le_of_ble_eq_true rfl) (Nat.le_of_ble_eq_true rfl)
    · obtain ⟨r, br, rfl⟩ := rg_nat (n := 11) c_4 (by decide)
      refine lv_aload_n hx hb dX0_tune_15 rfl (lv_at hl 0 rfl) ?_
      refine o_get (v := .ref (a 11)) hx hb hts hin0 hown hK hP oc_at0 12 (by decide) (hts (.fieldLink RX0 43 "OrganBuilder" "offsets" "[I") (by decide +kernel)) rfl dX0_tune_16 ?_
      refine lv_iload_n hx hb dX0_tune_19 rfl (lv_at hl 1 rfl) ?_
      refine w_ild hx hb hK hP rfl oc_at11 (by omega) (by decide) dX0_tune_20 ?_
      refine lv_istore_n (lv' := [(3, .int (I 7 r)), (0, .ref (a 0)), (1, .int (nI r)), (2, .int p2)]) hx hb dX0_tune_21 rfl hl (by decide) rfl (fun ls hl => ?_)
      refine lv_aload_n hx hb dX0_tune_22 rfl (lv_at hl 1 rfl) ?_
      refine o_get (v := .ref (a 11)) hx hb hts hin0 hown hK hP oc_at0 12 (by decide) (hts (.fieldLink RX0 43 "OrganBuilder" "offsets" "[I") (by decide +kernel)) rfl dX0_tune_23 ?_
      refine lv_iload_n hx hb dX0_tune_26 rfl (lv_at hl 2 rfl) ?_
      refine lv_iload_n hx hb dX0_tune_27 rfl (lv_at hl 3 rfl) ?_
      refine w_ist hx hb hK hP (hD _ _) hS rfl oc_at11 (oc_set11 r p2) (by omega) (by decide) dX0_tune_28 (fun H locs hP hS => ?_)
      refine lv_iload_n hx hb dX0_tune_29 rfl (lv_at hl 0 rfl) ?_
      exact e_ti hx hb hr rfl hlocks hP hS (by rw [nI_clamp (show r < 2 ^ 31 by omega)]) (by simp [kTune, c_4, c_12]) (by rw [nI_clamp (show r < 2 ^ 31 by omega)]) (Nat.le_of_ble_eq_true rfl) (Nat.le_of_ble_eq_true rfl) dX0_tune_30
set_option maxHeartbeats 4000000 in
set_option maxRecDepth 100000 in
theorem t_draw (l : Launch) (hl0 : l.stackTraces = false) (D : va_G) (a : Nat → Nat) (cI cL cO : ClassId) (I : Nat → Nat → Int32) (J : Nat → Nat → Int64) (p1 p2 : Int32) (sz : Nat) : vx_Met l yX0_draw wsX0_draw ({ frames := 8, cells := 1, slots := 6, locals := 124 } : Room) (va_Pc [.ref (a 0), .int p1, .int p2] (tB D (oty cI cL cO) (oc a cI cL cO I J) sz)) (tQi D (oc a cI cL cO I J) (oc a cI cL cO (drI I p1 p2) J) sz (kDraw p1) (bI (dr (I 8 0) p1))) (tX D (oc a cI cL cO I J) (oc a cI cL cO I J) sz (kDraw p1)) 1 6 (tA (oc a cI cL cO I J) sz) := by
  refine vx_ofW (cc := cX0_draw) (maxL := 4) (ret := (some .boolean)) (by decide) rfl ?_
  intro p e s m args below meth c s₁ B hml hno hv
  obtain ⟨rfl, hsz, hP, hK, hD0, hES, hEH⟩ := hv
  subst hsz
  have hx := B.exec
  have hb := B.bytes
  have hr := B.returns
  have hts := atoms_spec (ws := wsX0_draw) B.pre
  have hown : s.vm.findClass RX0 = some m.cls := findClass_of_methodNamed B.named
  have hlocks := B.notSynchronized
  have hin0 : ∀ w ∈ u_ws RX0 TX0 15, w ∈ wsX0_draw := by decide +kernel
  have hD := oc_D (tA_D (sz := s.heap.size) hD0)
  have hA : ∀ q : Nat, s.heap.size ≤ q → tA (oc a cI cL cO I J) s.heap.size q := fun _ h => Or.inr h
  have hS : va_S (tA (oc a cI cL cO I J) s.heap.size) s.heap s.heap [] := va_S.rf
  have hl := lv_entry ([.ref (a 0), .int p1, .int p2]) (n := 4) (Nat.le_of_ble_eq_true rfl)
  rw [lg_entry_eq]
  generalize (lg_sl ([.ref (a 0), .int p1, .int p2]) ++ List.replicate (4 - (lg_sl ([.ref (a 0), .int p1, .int p2])).length) Slot.unset).toArray = ls at hl ⊢
  have hl : lv_has ls 4 [(0, .ref (a 0)), (1, .int p1), (2, .int p2)] := hl
  refine lv_iload_n hx hb dX0_draw_0 rfl (lv_at hl 1 rfl) ?_
  refine w_chk (As := [.int p1]) (rest := []) ⟨hx, hb, hml, hown, hts⟩ (k_checkStop l hl0 p1) (va_cwS 1 hts gX0_draw_X0_checkStop rfl rfl rfl (by decide +kernel) ⟨Nat.le_of_ble_eq_true rfl, Nat.le_of_ble_eq_true rfl⟩) hES hEH hS hA rfl hl.1 rfl (Nat.le_of_ble_eq_true rfl) dX0_draw_1 ⟨Nat.le_of_ble_eq_true rfl, Nat.le_of_ble_eq_true rfl⟩ (fun ce q9 H1 locs1 c_1 z1 k1 hS1 g1 g2 g3 => ?_) (fun c_1 locs hS => ?_)
  · exact x_out1 hno hlocks hP k1 hS1 g1 g2 g3 (by simp [kDraw, c_1]) (rfl) (Nat.le_of_ble_eq_true rfl) (Nat.le_of_ble_eq_true rfl)
  · refine lv_aload_n hx hb dX0_draw_4 rfl (lv_at hl 0 rfl) ?_
    refine lv_iload_n hx hb dX0_draw_5 rfl (lv_at hl 1 rfl) ?_
    refine w_pV (As := [.int p1]) (rest := []) ⟨hx, hb, hml, hown, hts⟩ (c_isDrawn l D a cI cL cO I J p1) (cwV 1 hts gX0_draw_X0_isDrawn rfl rfl rfl (by decide +kernel) ⟨Nat.le_of_ble_eq_true rfl, Nat.le_of_ble_eq_true rfl⟩) hK hP rfl rfl oc_at0 rfl hl.1 rfl (Nat.le_of_ble_eq_true rfl) dX0_draw_6 ⟨Nat.le_of_ble_eq_true rfl, Nat.le_of_ble_eq_true rfl⟩ ?_
    refine lv_istore_n (lv' := [(3, .int (bI (dr (I 8 0) p1))), (0, .ref (a 0)), (1, .int p1), (2, .int p2)]) hx hb dX0_draw_9 rfl hl (by decide) rfl (fun ls hl => ?_)
    refine lv_iload_n hx hb dX0_draw_10 rfl (lv_at hl 0 rfl) ?_
    refine lv_iload_n hx hb dX0_draw_11 rfl (lv_at hl 3 rfl) ?_
    refine lv_icmp_eq (tgt := 27) hx hb dX0_draw_12 (by decide) (fun c_12 => ?_) (fun c_12 => ?_)
    · refine lv_iload_n hx hb dX0_draw_27 rfl (lv_at hl 0 rfl) ?_
      exact e_ti hx hb hr (nar_bI _) hlocks hP hS (by simp only [drI, if_pos c_12]) (by simp [kDraw, c_1]) (rfl) (Nat.le_of_ble_eq_true rfl) (Nat.le_of_ble_eq_true rfl) dX0_draw_28
    · refine lv_aload_n hx hb dX0_draw_15 rfl (lv_at hl 1 rfl) ?_
      refine lv_dup hx hb dX0_draw_16 rfl ?_
      refine o_get (v := .int (I 8 0)) hx hb hts hin0 hown hK hP oc_at0 6 (by decide) (hts (.fieldLink RX0 104 "OrganBuilder" "drawnStops" "I") (by decide +kernel)) rfl dX0_draw_17 ?_
      refine lv_iconst (v := 1) hx hb dX0_draw_20 (by decide) ?_
      refine lv_iload_n hx hb dX0_draw_21 rfl (lv_at hl 2 rfl) ?_
      refine lv_ishl hx hb dX0_draw_22 ?_
      refine lv_ixor hx hb dX0_draw_23 ?_
      refine o_put hx hb hts hin0 hown hK hP (hD _ _) hS oc_at0 6 (by decide) (hts (.fieldLink RX0 104 "OrganBuilder" "drawnStops" "I") (by decide +kernel)) rfl (by decide +kernel) (by exact Nat.le_of_ble_eq_true rfl) (oc_putd ((I 8 0) ^^^ (1 <<< (p1 &&& 31)))) dX0_draw_24 (fun H locs hP hS => ?_)
      refine lv_iload_n hx hb dX0_draw_27 rfl (lv_at hl 0 rfl) ?_
      exact e_ti hx hb hr (nar_bI _) hlocks hP hS (by simp only [drI, if_neg c_12]) (by simp [kDraw, c_1]) (rfl) (Nat.le_of_ble_eq_true rfl) (Nat.le_of_ble_eq_true rfl) dX0_draw_28
set_option maxHeartbeats 4000000 in
set_option maxRecDepth 100000 in
theorem t_keep (l : Launch) (hl0 : l.stackTraces = false) (D : va_G) (a : Nat → Nat) (cI cL cO : ClassId) (I : Nat → Nat → Int32) (J : Nat → Nat → Int64) (p1 : Int32) (sz : Nat) : vx_Met l yX0_keep wsX0_keep ({ frames := 7, cells := 1, slots := 6, locals := 104 } : Room) (va_Pc [.ref (a 0), .int p1] (tB D (oty cI cL cO) (oc a cI cL cO I J) sz)) (tQi D (oc a cI cL cO I J) (oc a cI cL cO (u2 I 5 p1.toNatClampNeg (I 8 0)) J) sz (kReg p1) (bcI (I 8 0))) (tX D (oc a cI cL cO I J) (oc a cI cL cO I J) sz (kReg p1)) 1 6 (tA (oc a cI cL cO I J) sz) := by
  refine vx_ofW (cc := cX0_keep) (maxL := 2) (ret := (some .int)) (by decide) rfl ?_
  intro p e s m args below meth c s₁ B hml hno hv
  obtain ⟨rfl, hsz, hP, hK, hD0, hES, hEH⟩ := hv
  subst hsz
  have hx := B.exec
  have hb := B.bytes
  have hr := B.returns
  have hts := atoms_spec (ws := wsX0_keep) B.pre
  have hown : s.vm.findClass RX0 = some m.cls := findClass_of_methodNamed B.named
  have hlocks := B.notSynchronized
  have hin0 : ∀ w ∈ u_ws RX0 TX0 15, w ∈ wsX0_keep := by decide +kernel
  have hD := oc_D (tA_D (sz := s.heap.size) hD0)
  have hA : ∀ q : Nat, s.heap.size ≤ q → tA (oc a cI cL cO I J) s.heap.size q := fun _ h => Or.inr h
  have hS : va_S (tA (oc a cI cL cO I J) s.heap.size) s.heap s.heap [] := va_S.rf
  have hl := lv_entry ([.ref (a 0), .int p1]) (n := 2) (Nat.le_of_ble_eq_true rfl)
  rw [lg_entry_eq]
  generalize (lg_sl ([.ref (a 0), .int p1]) ++ List.replicate (2 - (lg_sl ([.ref (a 0), .int p1])).length) Slot.unset).toArray = ls at hl ⊢
  have hl : lv_has ls 2 [(0, .ref (a 0)), (1, .int p1)] := hl
  refine lv_iload_n hx hb dX0_keep_0 rfl (lv_at hl 1 rfl) ?_
  refine lv_iconst (v := 0) hx hb dX0_keep_1 (by decide) ?_
  refine lv_bipush (v := 7) hx hb dX0_keep_2 (by decide) ?_
  refine w_chk (As := [.int p1, .int 0, .int 7]) (rest := []) ⟨hx, hb, hml, hown, hts⟩ (k_checkRange l hl0 p1 0 7) (va_cwS 3 hts gX0_keep_X0_checkRange rfl rfl rfl (by decide +kernel) ⟨Nat.le_of_ble_eq_true rfl, Nat.le_of_ble_eq_true rfl⟩) hES hEH hS hA rfl hl.1 rfl (Nat.le_of_ble_eq_true rfl) dX0_keep_4 ⟨Nat.le_of_ble_eq_true rfl, Nat.le_of_ble_eq_true rfl⟩ (fun ce q9 H1 locs1 c_4 z1 k1 hS1 g1 g2 g3 => ?_) (fun c_4 locs hS => ?_)
  · exact x_out1 hno hlocks hP k1 hS1 g1 g2 g3 (by simp [kReg, c_4]) (rfl) (Nat.le_of_ble_eq_true rfl) (Nat.le_of_ble_eq_true rfl)
  · obtain ⟨r, br, rfl⟩ := rg_nat (n := 7) c_4 (by decide)
    refine lv_aload_n hx hb dX0_keep_7 rfl (lv_at hl 0 rfl) ?_
    refine o_get (v := .ref (a 7)) hx hb hts hin0 hown hK hP oc_at0 7 (by decide) (hts (.fieldLink RX0 30 "OrganBuilder" "keptStops" "[I") (by decide +kernel)) rfl dX0_keep_8 ?_
    refine lv_iload_n hx hb dX0_keep_11 rfl (lv_at hl 1 rfl) ?_
    refine lv_aload_n hx hb dX0_keep_12 rfl (lv_at hl 0 rfl) ?_
    refine o_get (v := .int (I 8 0)) hx hb hts hin0 hown hK hP oc_at0 6 (by decide) (hts (.fieldLink RX0 104 "OrganBuilder" "drawnStops" "I") (by decide +kernel)) rfl dX0_keep_13 ?_
    refine w_ist hx hb hK hP (hD _ _) hS rfl oc_at7 (oc_set7 r (I 8 0)) (by omega) (by decide) dX0_keep_16 (fun H locs hP hS => ?_)
    refine lv_aload_n hx hb dX0_keep_17 rfl (lv_at hl 0 rfl) ?_
    refine o_get (v := .int ((u2 I 5 r (I 8 0)) 8 0)) hx hb hts hin0 hown hK hP oc_at0 6 (by decide) (hts (.fieldLink RX0 104 "OrganBuilder" "drawnStops" "I") (by decide +kernel)) rfl dX0_keep_18 ?_
    refine lv_asi (I 8 0) (rfl) ?_
    refine w_pS (As := [.int (I 8 0)]) (rest := []) ⟨hx, hb, hml, hown, hts⟩ (c_bcI l (I 8 0)) (va_cwS 1 hts gX0_keep_J6_bitCount_0f7a4 rfl rfl rfl (by decide +kernel) ⟨Nat.le_of_ble_eq_true rfl, Nat.le_of_ble_eq_true rfl⟩) rfl hl.1 rfl (Nat.le_of_ble_eq_true rfl) dX0_keep_21 ⟨Nat.le_of_ble_eq_true rfl, Nat.le_of_ble_eq_true rfl⟩ ?_
    exact e_ti hx hb hr rfl hlocks hP hS (by rw [nI_clamp (show r < 2 ^ 31 by omega)]) (by simp [kReg, c_4]) (rfl) (Nat.le_of_ble_eq_true rfl) (Nat.le_of_ble_eq_true rfl) dX0_keep_24
set_option maxHeartbeats 4000000 in
set_option maxRecDepth 100000 in
theorem t_recall (l : Launch) (hl0 : l.stackTraces = false) (D : va_G) (a : Nat → Nat) (cI cL cO : ClassId) (I : Nat → Nat → Int32) (J : Nat → Nat → Int64) (p1 : Int32) (sz : Nat) : vx_Met l yX0_recall wsX0_recall ({ frames := 7, cells := 1, slots := 6, locals := 104 } : Room) (va_Pc [.ref (a 0), .int p1] (tB D (oty cI cL cO) (oc a cI cL cO I J) sz)) (tQi D (oc a cI cL cO I J) (oc a cI cL cO (u2 I 8 0 (I 5 p1.toNatClampNeg)) J) sz (kReg p1) (bcI (I 8 0 ^^^ I 5 p1.toNatClampNeg))) (tX D (oc a cI cL cO I J) (oc a cI cL cO I J) sz (kReg p1)) 1 6 (tA (oc a cI cL cO I J) sz) := by
  refine vx_ofW (cc := cX0_recall) (maxL := 3) (ret := (some .int)) (by decide) rfl ?_
  intro p e s m args below meth c s₁ B hml hno hv
  obtain ⟨rfl, hsz, hP, hK, hD0, hES, hEH⟩ := hv
  subst hsz
  have hx := B.exec
  have hb := B.bytes
  have hr := B.returns
  have hts := atoms_spec (ws := wsX0_recall) B.pre
  have hown : s.vm.findClass RX0 = some m.cls := findClass_of_methodNamed B.named
  have hlocks := B.notSynchronized
  have hin0 : ∀ w ∈ u_ws RX0 TX0 15, w ∈ wsX0_recall := by decide +kernel
  have hD := oc_D (tA_D (sz := s.heap.size) hD0)
  have hA : ∀ q : Nat, s.heap.size ≤ q → tA (oc a cI cL cO I J) s.heap.size q := fun _ h => Or.inr h
  have hS : va_S (tA (oc a cI cL cO I J) s.heap.size) s.heap s.heap [] := va_S.rf
  have hl := lv_entry ([.ref (a 0), .int p1]) (n := 3) (Nat.le_of_ble_eq_true rfl)
  rw [lg_entry_eq]
  generalize (lg_sl ([.ref (a 0), .int p1]) ++ List.replicate (3 - (lg_sl ([.ref (a 0), .int p1])).length) Slot.unset).toArray = ls at hl ⊢
  have hl : lv_has ls 3 [(0, .ref (a 0)), (1, .int p1)] := hl
  refine lv_iload_n hx hb dX0_recall_0 rfl (lv_at hl 1 rfl) ?_
  refine lv_iconst (v := 0) hx hb dX0_recall_1 (by decide) ?_
  refine lv_bipush (v := 7) hx hb dX0_recall_2 (by decide) ?_
  refine w_chk (As := [.int p1, .int 0, .int 7]) (rest := []) ⟨hx, hb, hml, hown, hts⟩ (k_checkRange l hl0 p1 0 7) (va_cwS 3 hts gX0_recall_X0_checkRange rfl rfl rfl (by decide +kernel) ⟨Nat.le_of_ble_eq_true rfl, Nat.le_of_ble_eq_true rfl⟩) hES hEH hS hA rfl hl.1 rfl (Nat.le_of_ble_eq_true rfl) dX0_recall_4 ⟨Nat.le_of_ble_eq_true rfl, Nat.le_of_ble_eq_true rfl⟩ (fun ce q9 H1 locs1 c_4 z1 k1 hS1 g1 g2 g3 => ?_) (fun c_4 locs hS => ?_)
  · exact x_out1 hno hlocks hP k1 hS1 g1 g2 g3 (by simp [kReg, c_4]) (rfl) (Nat.le_of_ble_eq_true rfl) (Nat.le_of_ble_eq_true rfl)
  · obtain ⟨r, br, rfl⟩ := rg_nat (n := 7) c_4 (by decide)
    refine lv_aload_n hx hb dX0_recall_7 rfl (lv_at hl 0 rfl) ?_
    refine o_get (v := .int (I 8 0)) hx hb hts hin0 hown hK hP oc_at0 6 (by decide) (hts (.fieldLink RX0 104 "OrganBuilder" "drawnStops" "I") (by decide +kernel)) rfl dX0_recall_8 ?_
    refine lv_aload_n hx hb dX0_recall_11 rfl (lv_at hl 0 rfl) ?_
    refine o_get (v := .ref (a 7)) hx hb hts hin0 hown hK hP oc_at0 7 (by decide) (hts (.fieldLink RX0 30 "OrganBuilder" "keptStops" "[I") (by decide +kernel)) rfl dX0_recall_12 ?_
    refine lv_iload_n hx hb dX0_recall_15 rfl (lv_at hl 1 rfl) ?_
    refine w_ild hx hb hK hP rfl oc_at7 (by omega) (by decide) dX0_recall_16 ?_
    refine lv_ixor hx hb dX0_recall_17 ?_
    refine lv_istore_n (lv' := [(2, .int ((I 8 0) ^^^ (I 5 r))), (0, .ref (a 0)), (1, .int (nI r))]) hx hb dX0_recall_18 rfl hl (by decide) rfl (fun ls hl => ?_)
    refine lv_aload_n hx hb dX0_recall_19 rfl (lv_at hl 1 rfl) ?_
    refine lv_aload_n hx hb dX0_recall_20 rfl (lv_at hl 1 rfl) ?_
    refine o_get (v := .ref (a 7)) hx hb hts hin0 hown hK hP oc_at0 7 (by decide) (hts (.fieldLink RX0 30 "OrganBuilder" "keptStops" "[I") (by decide +kernel)) rfl dX0_recall_21 ?_
    refine lv_iload_n hx hb dX0_recall_24 rfl (lv_at hl 2 rfl) ?_
    refine w_ild hx hb hK hP rfl oc_at7 (by omega) (by decide) dX0_recall_25 ?_
    refine o_put hx hb hts hin0 hown hK hP (hD _ _) hS oc_at0 6 (by decide) (hts (.fieldLink RX0 104 "OrganBuilder" "drawnStops" "I") (by decide +kernel)) rfl (by decide +kernel) (by exact Nat.le_of_ble_eq_true rfl) (oc_putd (I 5 r)) dX0_recall_26 (fun H locs hP hS => ?_)
    refine lv_iload_n hx hb dX0_recall_29 rfl (lv_at hl 0 rfl) ?_
    refine w_pS (As := [.int ((I 8 0) ^^^ (I 5 r))]) (rest := []) ⟨hx, hb, hml, hown, hts⟩ (c_bcI l ((I 8 0) ^^^ (I 5 r))) (va_cwS 1 hts gX0_recall_J6_bitCount_0f7a4 rfl rfl rfl (by decide +kernel) ⟨Nat.le_of_ble_eq_true rfl, Nat.le_of_ble_eq_true rfl⟩) rfl hl.1 rfl (Nat.le_of_ble_eq_true rfl) dX0_recall_30 ⟨Nat.le_of_ble_eq_true rfl, Nat.le_of_ble_eq_true rfl⟩ ?_
    exact e_ti hx hb hr rfl hlocks hP hS (by rw [nI_clamp (show r < 2 ^ 31 by omega)]) (by simp [kReg, c_4]) (by rw [nI_clamp (show r < 2 ^ 31 by omega)]) (Nat.le_of_ble_eq_true rfl) (Nat.le_of_ble_eq_true rfl) dX0_recall_33
set_option maxHeartbeats 4000000 in
set_option maxRecDepth 100000 in
theorem t_hold (l : Launch) (hl0 : l.stackTraces = false) (D : va_G) (a : Nat → Nat) (cI cL cO : ClassId) (I : Nat → Nat → Int32) (J : Nat → Nat → Int64) (p1 p2 p3 : Int32) (sz : Nat) : vx_Met l yX0_hold wsX0_hold ({ frames := 8, cells := 2, slots := 12, locals := 124 } : Room) (va_Pc [.ref (a 0), .int p1, .int p2, .int p3] (tB D (oty cI cL cO) (oc a cI cL cO I J) sz)) (tQi D (oc a cI cL cO I J) (oc a cI cL cO I (hoJ J p1 p2 p3)) sz (kMK p1 p2) (bI (hk (J 0 p1.toNatClampNeg) p2))) (tX D (oc a cI cL cO I J) (oc a cI cL cO I J) sz (kMK p1 p2)) 2 12 (tA (oc a cI cL cO I J) sz) := by
  refine vx_ofW (cc := cX0_hold) (maxL := 5) (ret := (some .boolean)) (by decide) rfl ?_
  intro p e s m args below meth c s₁ B hml hno hv
  obtain ⟨rfl, hsz, hP, hK, hD0, hES, hEH⟩ := hv
  subst hsz
  have hx := B.exec
  have hb := B.bytes
  have hr := B.returns
  have hts := atoms_spec (ws := wsX0_hold) B.pre
  have hown : s.vm.findClass RX0 = some m.cls := findClass_of_methodNamed B.named
  have hlocks := B.notSynchronized
  have hin0 : ∀ w ∈ u_ws RX0 TX0 15, w ∈ wsX0_hold := by decide +kernel
  have hD := oc_D (tA_D (sz := s.heap.size) hD0)
  have hA : ∀ q : Nat, s.heap.size ≤ q → tA (oc a cI cL cO I J) s.heap.size q := fun _ h => Or.inr h
  have hS : va_S (tA (oc a cI cL cO I J) s.heap.size) s.heap s.heap [] := va_S.rf
  have hl := lv_entry ([.ref (a 0), .int p1, .int p2, .int p3]) (n := 5) (Nat.le_of_ble_eq_true rfl)
  rw [lg_entry_eq]
  generalize (lg_sl ([.ref (a 0), .int p1, .int p2, .int p3]) ++ List.replicate (5 - (lg_sl ([.ref (a 0), .int p1, .int p2, .int p3])).length) Slot.unset).toArray = ls at hl ⊢
  have hl : lv_has ls 5 [(0, .ref (a 0)), (1, .int p1), (2, .int p2), (3, .int p3)] := hl
  refine lv_iload_n hx hb dX0_hold_0 rfl (lv_at hl 1 rfl) ?_
  refine w_chk (As := [.int p1]) (rest := []) ⟨hx, hb, hml, hown, hts⟩ (k_checkManual l hl0 p1) (va_cwS 1 hts gX0_hold_X0_checkManual rfl rfl rfl (by decide +kernel) ⟨Nat.le_of_ble_eq_true rfl, Nat.le_of_ble_eq_true rfl⟩) hES hEH hS hA rfl hl.1 rfl (Nat.le_of_ble_eq_true rfl) dX0_hold_1 ⟨Nat.le_of_ble_eq_true rfl, Nat.le_of_ble_eq_true rfl⟩ (fun ce q9 H1 locs1 c_1 z1 k1 hS1 g1 g2 g3 => ?_) (fun c_1 locs hS => ?_)
  · exact x_out1 hno hlocks hP k1 hS1 g1 g2 g3 (by simp [kMK, c_1]) (rfl) (Nat.le_of_ble_eq_true rfl) (Nat.le_of_ble_eq_true rfl)
  · refine lv_iload_n hx hb dX0_hold_4 rfl (lv_at hl 2 rfl) ?_
    refine w_chk (As := [.int p2]) (rest := []) ⟨hx, hb, hml, hown, hts⟩ (k_checkKey l hl0 p2) (va_cwS 1 hts gX0_hold_X0_checkKey rfl rfl rfl (by decide +kernel) ⟨Nat.le_of_ble_eq_true rfl, Nat.le_of_ble_eq_true rfl⟩) hES hEH hS hA rfl hl.1 rfl (Nat.le_of_ble_eq_true rfl) dX0_hold_5 ⟨Nat.le_of_ble_eq_true rfl, Nat.le_of_ble_eq_true rfl⟩ (fun ce q9 H1 locs1 c_5 z1 k1 hS1 g1 g2 g3 => ?_) (fun c_5 locs hS => ?_)
    · exact x_out1 hno hlocks hP k1 hS1 g1 g2 g3 (by simp [kMK, c_1, c_5]) (rfl) (Nat.le_of_ble_eq_true rfl) (Nat.le_of_ble_eq_true rfl)
    · obtain ⟨mn, bmn, rfl⟩ := rg_nat (n := 2) c_1 (by decide)
      refine lv_aload_n hx hb dX0_hold_8 rfl (lv_at hl 0 rfl) ?_
      refine o_get (v := .ref (a 9)) hx hb hts hin0 hown hK hP oc_at0 9 (by decide) (hts (.fieldLink RX0 36 "OrganBuilder" "heldKeys" "[J") (by decide +kernel)) rfl dX0_hold_9 ?_
      refine lv_iload_n hx hb dX0_hold_12 rfl (lv_at hl 1 rfl) ?_
      refine w_lld hx hb hK hP rfl oc_at9 (by omega) (by decide) dX0_hold_13 ?_
      refine lv_iload_n hx hb dX0_hold_14 rfl (lv_at hl 2 rfl) ?_
      refine w_pS (As := [.long (J 0 mn), .int p2]) (rest := []) ⟨hx, hb, hml, hown, hts⟩ (c_hasKey l (J 0 mn) p2) (va_cwS 2 hts gX0_hold_X0_hasKey rfl rfl rfl (by decide +kernel) ⟨Nat.le_of_ble_eq_true rfl, Nat.le_of_ble_eq_true rfl⟩) rfl hl.1 rfl (Nat.le_of_ble_eq_true rfl) dX0_hold_15 ⟨Nat.le_of_ble_eq_true rfl, Nat.le_of_ble_eq_true rfl⟩ ?_
      refine lv_istore (lv' := [(4, .int (bI (hk (J 0 mn) p2))), (0, .ref (a 0)), (1, .int (nI mn)), (2, .int p2), (3, .int p3)]) hx hb dX0_hold_18 hl (by decide) rfl (fun ls hl => ?_)
      refine lv_iload hx hb dX0_hold_20 (lv_at hl 0 rfl) ?_
      refine lv_iload_n hx hb dX0_hold_22 rfl (lv_at hl 4 rfl) ?_
      refine lv_icmp_eq (tgt := 39) hx hb dX0_hold_23 (by decide) (fun c_23 => ?_) (fun c_23 => ?_)
      · refine lv_iload hx hb dX0_hold_39 (lv_at hl 0 rfl) ?_
        exact e_ti hx hb hr (nar_bI _) hlocks hP hS (by simp only [hoJ, nI_clamp (show mn < 2 ^ 31 by omega), if_pos c_23]) (by simp [kMK, c_1, c_5]) (by rw [nI_clamp (show mn < 2 ^ 31 by omega)]) (Nat.le_of_ble_eq_true rfl) (Nat.le_of_ble_eq_true rfl) dX0_hold_41
      · refine lv_aload_n hx hb dX0_hold_26 rfl (lv_at hl 1 rfl) ?_
        refine o_get (v := .ref (a 9)) hx hb hts hin0 hown hK hP oc_at0 9 (by decide) (hts (.fieldLink RX0 36 "OrganBuilder" "heldKeys" "[J") (by decide +kernel)) rfl dX0_hold_27 ?_
        refine lv_iload_n hx hb dX0_hold_30 rfl (lv_at hl 2 rfl) ?_
        refine lv_dup2_11 hx hb dX0_hold_31 rfl rfl ?_
        refine w_lld hx hb hK hP rfl oc_at9 (by omega) (by decide) dX0_hold_32 ?_
        refine lv_iload_n hx hb dX0_hold_33 rfl (lv_at hl 3 rfl) ?_
        refine w_pSl (As := [.int p2]) (rest := [.long (J 0 mn), .int (nI mn), .ref (a 9)]) ⟨hx, hb, hml, hown, hts⟩ (c_keyBit l p2) (va_cwS 1 hts gX0_hold_X0_keyBit rfl rfl rfl (by decide +kernel) ⟨Nat.le_of_ble_eq_true rfl, Nat.le_of_ble_eq_true rfl⟩) rfl hl.1 rfl (Nat.le_of_ble_eq_true rfl) dX0_hold_34 ⟨Nat.le_of_ble_eq_true rfl, Nat.le_of_ble_eq_true rfl⟩ ?_
        refine lv_lxor hx hb dX0_hold_37 ?_
        refine w_lst hx hb hK hP (hD _ _) hS rfl oc_at9 (oc_set9 mn ((J 0 mn) ^^^ (kb p2))) (by omega) (by decide) dX0_hold_38 (fun H locs hP hS => ?_)
        refine lv_iload hx hb dX0_hold_39 (lv_at hl 0 rfl) ?_
        exact e_ti hx hb hr (nar_bI _) hlocks hP hS (by simp only [hoJ, nI_clamp (show mn < 2 ^ 31 by omega), if_neg c_23]) (by simp [kMK, c_1, c_5]) (by rw [nI_clamp (show mn < 2 ^ 31 by omega)]) (Nat.le_of_ble_eq_true rfl) (Nat.le_of_ble_eq_true rfl) dX0_hold_41
set_option maxHeartbeats 4000000 in
set_option maxRecDepth 100000 in
theorem t_sound (l : Launch) (hl0 : l.stackTraces = false) (D : va_G) (a : Nat → Nat) (cI cL cO : ClassId) (I : Nat → Nat → Int32) (J : Nat → Nat → Int64) (p1 : Int32) (sz : Nat) : vx_Met l yX0_sound wsX0_sound ({ frames := 7, cells := 1, slots := 6, locals := 112 } : Room) (va_Pc [.ref (a 0), .int p1] (tB D (oty cI cL cO) (oc a cI cL cO I J) sz)) (tQi D (oc a cI cL cO I J) (oc a cI cL cO (woR (fsW I J 0 0) p1 I 6) (fsW I J 0 0)) sz (kSnd p1) (csF (fsW I J 0 0) 6)) (tX D (oc a cI cL cO I J) (oc a cI cL cO I J) sz (kSnd p1)) 1 6 (tA (oc a cI cL cO I J) sz) := by
  refine vx_ofW (cc := cX0_sound) (maxL := 3) (ret := (some .int)) (by decide) rfl ?_
  intro p e s m args below meth c s₁ B hml hno hv
  obtain ⟨rfl, hsz, hP, hK, hD0, hES, hEH⟩ := hv
  subst hsz
  have hx := B.exec
  have hb := B.bytes
  have hr := B.returns
  have hts := atoms_spec (ws := wsX0_sound) B.pre
  have hown : s.vm.findClass RX0 = some m.cls := findClass_of_methodNamed B.named
  have hlocks := B.notSynchronized
  have hin0 : ∀ w ∈ u_ws RX0 TX0 15, w ∈ wsX0_sound := by decide +kernel
  have hD := oc_D (tA_D (sz := s.heap.size) hD0)
  have hA : ∀ q : Nat, s.heap.size ≤ q → tA (oc a cI cL cO I J) s.heap.size q := fun _ h => Or.inr h
  have hS : va_S (tA (oc a cI cL cO I J) s.heap.size) s.heap s.heap [] := va_S.rf
  have hl := lv_entry ([.ref (a 0), .int p1]) (n := 3) (Nat.le_of_ble_eq_true rfl)
  rw [lg_entry_eq]
  generalize (lg_sl ([.ref (a 0), .int p1]) ++ List.replicate (3 - (lg_sl ([.ref (a 0), .int p1])).length) Slot.unset).toArray = ls at hl ⊢
  have hl : lv_has ls 3 [(0, .ref (a 0)), (1, .int p1)] := hl
  refine lv_iload_n hx hb dX0_sound_0 rfl (lv_at hl 1 rfl) ?_
  refine lv_iconst (v := 1) hx hb dX0_sound_1 (by decide) ?_
  refine lv_bipush (v := 50) hx hb dX0_sound_2 (by decide) ?_
  refine w_chk (As := [.int p1, .int 1, .int 50]) (rest := []) ⟨hx, hb, hml, hown, hts⟩ (k_checkRange l hl0 p1 1 50) (va_cwS 3 hts gX0_sound_X0_checkRange rfl rfl rfl (by decide +kernel) ⟨Nat.le_of_ble_eq_true rfl, Nat.le_of_ble_eq_true rfl⟩) hES hEH hS hA rfl hl.1 rfl (Nat.le_of_ble_eq_true rfl) dX0_sound_4 ⟨Nat.le_of_ble_eq_true rfl, Nat.le_of_ble_eq_true rfl⟩ (fun ce q9 H1 locs1 c_4 z1 k1 hS1 g1 g2 g3 => ?_) (fun c_4 locs hS => ?_)
  · exact x_out1 hno hlocks hP k1 hS1 g1 g2 g3 (by simp [kSnd, c_4]) (rfl) (Nat.le_of_ble_eq_true rfl) (Nat.le_of_ble_eq_true rfl)
  · refine lv_aload_n hx hb dX0_sound_7 rfl (lv_at hl 0 rfl) ?_
    refine w_mVv (As := []) (rest := []) ⟨hx, hb, hml, hown, hts⟩ (c_findSounding l D a cI cL cO I J) (cwV 0 hts gX0_sound_X0_findSounding rfl rfl rfl (by decide +kernel) ⟨Nat.le_of_ble_eq_true rfl, Nat.le_of_ble_eq_true rfl⟩) hK hP (hD _ _) hS rfl rfl oc_at0 rfl hl.1 rfl (Nat.le_of_ble_eq_true rfl) dX0_sound_8 ⟨Nat.le_of_ble_eq_true rfl, Nat.le_of_ble_eq_true rfl⟩ (fun H locs hP hS => ?_)
    refine lv_iconst (v := 0) hx hb dX0_sound_11 (by decide) ?_
    refine lv_istore_n (lv' := [(2, .int 0), (0, .ref (a 0)), (1, .int p1)]) hx hb dX0_sound_12 rfl hl (by decide) rfl (fun ls hl => ?_)
    refine W_loopH (σ := Unit) 0 6 13 (fun r _ H locs ls => va_P D vwCl (oc a cI cL cO (woR (fsW I J 0 0) p1 I r) (fsW I J 0 0)) H ∧ va_S (tA (oc a cI cL cO I J) s.heap.size) s.heap H locs ∧ lv_has ls 3 [(0, .ref (a 0)), (1, .int p1), (2, .int (nI r))]) (fun r _ H locs ls g_r h_r hI_r ih_r => ?_) () (by decide) ⟨hP, hS, lv_sub hl [1, 2, 0] rfl⟩
    obtain ⟨hP, hS, hl⟩ := hI_r
    refine lv_iload_n hx hb dX0_sound_13 rfl (lv_at hl 2 rfl) ?_
    refine lv_bipush (v := 6) hx hb dX0_sound_14 (by decide) ?_
    refine lo_ge (n := 6) (tgt := 31) hx hb rfl (by decide) (by omega) dX0_sound_16 (by decide) (fun c_16 => ?_) (fun c_16 => ?_)
    · obtain rfl : r = 6 := by omega
      refine lv_aload_n hx hb dX0_sound_31 rfl (lv_at hl 0 rfl) ?_
      refine w_pV (As := []) (rest := []) ⟨hx, hb, hml, hown, hts⟩ (c_countSounding l D a cI cL cO (woR (fsW I J 0 0) p1 I 6) (fsW I J 0 0)) (cwV 0 hts gX0_sound_X0_countSounding rfl rfl rfl (by decide +kernel) ⟨Nat.le_of_ble_eq_true rfl, Nat.le_of_ble_eq_true rfl⟩) hK hP rfl rfl oc_at0 rfl hl.1 rfl (Nat.le_of_ble_eq_true rfl) dX0_sound_32 ⟨Nat.le_of_ble_eq_true rfl, Nat.le_of_ble_eq_true rfl⟩ ?_
      exact e_ti hx hb hr rfl hlocks hP hS (rfl) (by simp [kSnd, c_4]) (rfl) (Nat.le_of_ble_eq_true rfl) (Nat.le_of_ble_eq_true rfl) dX0_sound_35
    · refine lv_aload_n hx hb dX0_sound_19 rfl (lv_at hl 0 rfl) ?_
      refine lv_iload_n hx hb dX0_sound_20 rfl (lv_at hl 2 rfl) ?_
      refine lv_iload_n hx hb dX0_sound_21 rfl (lv_at hl 1 rfl) ?_
      refine w_mVv (As := [.int (nI r), .int p1]) (rest := []) ⟨hx, hb, hml, hown, hts⟩ (c_wearOut l D a cI cL cO (woR (fsW I J 0 0) p1 I r) (fsW I J 0 0) r (by omega) p1) (cwV 2 hts gX0_sound_X0_wearOut rfl rfl rfl (by decide +kernel) ⟨Nat.le_of_ble_eq_true rfl, Nat.le_of_ble_eq_true rfl⟩) hK hP (hD _ _) hS rfl rfl oc_at0 rfl hl.1 rfl (Nat.le_of_ble_eq_true rfl) dX0_sound_22 ⟨Nat.le_of_ble_eq_true rfl, Nat.le_of_ble_eq_true rfl⟩ (fun H locs hP hS => ?_)
      have hP : va_P D vwCl (oc a cI cL cO (woR (fsW I J 0 0) p1 I (r + 1)) (fsW I J 0 0)) H := hP
      refine lv_iinc (v := (nI (r + 1))) (lv' := [(2, .int (nI (r + 1))), (0, .ref (a 0)), (1, .int p1)]) hx hb dX0_sound_25 hl (k := 2) rfl (nI_inc _) (by decide) rfl (fun ls hl => ?_)
      refine lv_goto (tgt := 13) hx hb dX0_sound_28 (by decide) ?_
      exact ih_r () H locs ls (by omega) ⟨hP, hS, lv_sub hl [1, 2, 0] rfl⟩
set_option maxHeartbeats 4000000 in
set_option maxRecDepth 100000 in
theorem t_repair (l : Launch) (hl0 : l.stackTraces = false) (D : va_G) (a : Nat → Nat) (cI cL cO : ClassId) (I : Nat → Nat → Int32) (J : Nat → Nat → Int64) (p1 : Int32) (sz : Nat) : vx_Met l yX0_repair wsX0_repair ({ frames := 8, cells := 1, slots := 6, locals := 124 } : Room) (va_Pc [.ref (a 0), .int p1] (tB D (oty cI cL cO) (oc a cI cL cO I J) sz)) (tQi D (oc a cI cL cO I J) (oc a cI cL cO (rpI I p1.toNatClampNeg 61) J) sz (kRk p1) (bcL (muF (I (10 + p1.toNatClampNeg)) 61))) (tX D (oc a cI cL cO I J) (oc a cI cL cO I J) sz (kRk p1)) 1 6 (tA (oc a cI cL cO I J) sz) := by
  refine vx_ofW (cc := cX0_repair) (maxL := 4) (ret := (some .int)) (by decide) rfl ?_
  intro p e s m args below meth c s₁ B hml hno hv
  obtain ⟨rfl, hsz, hP, hK, hD0, hES, hEH⟩ := hv
  subst hsz
  have hx := B.exec
  have hb := B.bytes
  have hr := B.returns
  have hts := atoms_spec (ws := wsX0_repair) B.pre
  have hown : s.vm.findClass RX0 = some m.cls := findClass_of_methodNamed B.named
  have hlocks := B.notSynchronized
  have hin0 : ∀ w ∈ u_ws RX0 TX0 15, w ∈ wsX0_repair := by decide +kernel
  have hD := oc_D (tA_D (sz := s.heap.size) hD0)
  have hA : ∀ q : Nat, s.heap.size ≤ q → tA (oc a cI cL cO I J) s.heap.size q := fun _ h => Or.inr h
  have hS : va_S (tA (oc a cI cL cO I J) s.heap.size) s.heap s.heap [] := va_S.rf
  have hl := lv_entry ([.ref (a 0), .int p1]) (n := 4) (Nat.le_of_ble_eq_true rfl)
  rw [lg_entry_eq]
  generalize (lg_sl ([.ref (a 0), .int p1]) ++ List.replicate (4 - (lg_sl ([.ref (a 0), .int p1])).length) Slot.unset).toArray = ls at hl ⊢
  have hl : lv_has ls 4 [(0, .ref (a 0)), (1, .int p1)] := hl
  refine lv_iload_n hx hb dX0_repair_0 rfl (lv_at hl 1 rfl) ?_
  refine w_chk (As := [.int p1]) (rest := []) ⟨hx, hb, hml, hown, hts⟩ (k_checkRank l hl0 p1) (va_cwS 1 hts gX0_repair_X0_checkRank rfl rfl rfl (by decide +kernel) ⟨Nat.le_of_ble_eq_true rfl, Nat.le_of_ble_eq_true rfl⟩) hES hEH hS hA rfl hl.1 rfl (Nat.le_of_ble_eq_true rfl) dX0_repair_1 ⟨Nat.le_of_ble_eq_true rfl, Nat.le_of_ble_eq_true rfl⟩ (fun ce q9 H1 locs1 c_1 z1 k1 hS1 g1 g2 g3 => ?_) (fun c_1 locs hS => ?_)
  · exact x_out1 hno hlocks hP k1 hS1 g1 g2 g3 (by simp [kRk, c_1]) (rfl) (Nat.le_of_ble_eq_true rfl) (Nat.le_of_ble_eq_true rfl)
  · obtain ⟨r, br, rfl⟩ := rg_nat (n := 5) c_1 (by decide)
    refine lv_aload_n hx hb dX0_repair_4 rfl (lv_at hl 0 rfl) ?_
    refine lv_iload_n hx hb dX0_repair_5 rfl (lv_at hl 1 rfl) ?_
    refine w_pVl (As := [.int (nI r)]) (rest := []) ⟨hx, hb, hml, hown, hts⟩ (c_mutePipes l D a cI cL cO I J r (by omega)) (cwV 1 hts gX0_repair_X0_mutePipes rfl rfl rfl (by decide +kernel) ⟨Nat.le_of_ble_eq_true rfl, Nat.le_of_ble_eq_true rfl⟩) hK hP rfl rfl oc_at0 rfl hl.1 rfl (Nat.le_of_ble_eq_true rfl) dX0_repair_6 ⟨Nat.le_of_ble_eq_true rfl, Nat.le_of_ble_eq_true rfl⟩ ?_
    refine w_pS (As := [.long (muF (I (10 + r)) 61)]) (rest := []) ⟨hx, hb, hml, hown, hts⟩ (c_bcL l (muF (I (10 + r)) 61)) (va_cwS 1 hts gX0_repair_J13_bitCount_95d88 rfl rfl rfl (by decide +kernel) ⟨Nat.le_of_ble_eq_true rfl, Nat.le_of_ble_eq_true rfl⟩) rfl hl.1 rfl (Nat.le_of_ble_eq_true rfl) dX0_repair_9 ⟨Nat.le_of_ble_eq_true rfl, Nat.le_of_ble_eq_true rfl⟩ ?_
    refine lv_istore_n (lv' := [(2, .int (bcL (muF (I (10 + r)) 61))), (0, .ref (a 0)), (1, .int (nI r))]) hx hb dX0_repair_12 rfl hl (by decide) rfl (fun ls hl => ?_)
    refine lv_iconst (v := 0) hx hb dX0_repair_13 (by decide) ?_
    refine lv_istore_n (lv' := [(3, .int 0), (2, .int (bcL (muF (I (10 + r)) 61))), (0, .ref (a 0)), (1, .int (nI r))]) hx hb dX0_repair_14 rfl hl (by decide) rfl (fun ls hl => ?_)
    refine W_loopH (σ := Unit) 0 61 15 (fun k _ H locs ls => va_P D vwCl (oc a cI cL cO (rpI I r k) J) H ∧ va_S (tA (oc a cI cL cO I J) s.heap.size) s.heap H locs ∧ lv_has ls 4 [(0, .ref (a 0)), (1, .int (nI r)), (2, .int (bcL (muF (I (10 + r)) 61))), (3, .int (nI k))]) (fun k _ H locs ls g_k h_k hI_k ih_k => ?_) () (by decide) ⟨hP, hS, lv_sub hl [2, 3, 1, 0] rfl⟩
    obtain ⟨hP, hS, hl⟩ := hI_k
    refine lv_iload_n hx hb dX0_repair_15 rfl (lv_at hl 3 rfl) ?_
    refine lv_bipush (v := 61) hx hb dX0_repair_16 (by decide) ?_
    refine lo_ge (n := 61) (tgt := 36) hx hb rfl (by decide) (by omega) dX0_repair_18 (by decide) (fun c_18 => ?_) (fun c_18 => ?_)
    · obtain rfl : k = 61 := by omega
      refine lv_iload_n hx hb dX0_repair_36 rfl (lv_at hl 2 rfl) ?_
      exact e_ti hx hb hr rfl hlocks hP hS (by rw [nI_clamp (show r < 2 ^ 31 by omega)]) (by simp [kRk, c_1]) (by rw [nI_clamp (show r < 2 ^ 31 by omega)]) (Nat.le_of_ble_eq_true rfl) (Nat.le_of_ble_eq_true rfl) dX0_repair_37
    · refine lv_aload_n hx hb dX0_repair_21 rfl (lv_at hl 0 rfl) ?_
      refine o_get (v := .ref (a 4)) hx hb hts hin0 hown hK hP oc_at0 3 (by decide) (hts (.fieldLink RX0 21 "OrganBuilder" "wears" "[[I") (by decide +kernel)) rfl dX0_repair_22 ?_
      refine lv_iload_n hx hb dX0_repair_25 rfl (lv_at hl 1 rfl) ?_
      refine w_qld hx hb hK hP rfl oc_at4 (by omega) (by decide) dX0_repair_26 ?_
      refine lv_iload_n hx hb dX0_repair_27 rfl (lv_at hl 3 rfl) ?_
      refine lv_iconst (v := 0) hx hb dX0_repair_28 (by decide) ?_
      refine w_ist hx hb hK hP (hD _ _) hS rfl (oc_atw (r := r) (by omega)) (oc_setw (r := r) (by omega) k 0) (by omega) (by decide) dX0_repair_29 (fun H locs hP hS => ?_)
      have hP : va_P D vwCl (oc a cI cL cO (rpI I r (k + 1)) J) H := hP
      refine lv_iinc (v := (nI (k + 1))) (lv' := [(3, .int (nI (k + 1))), (0, .ref (a 0)), (1, .int (nI r)), (2, .int (bcL (muF (I (10 + r)) 61)))]) hx hb dX0_repair_30 hl (k := 3) rfl (nI_inc _) (by decide) rfl (fun ls hl => ?_)
      refine lv_goto (tgt := 15) hx hb dX0_repair_33 (by decide) ?_
      exact ih_k () H locs ls (by omega) ⟨hP, hS, lv_sub hl [1, 2, 3, 0] rfl⟩
set_option maxHeartbeats 4000000 in
set_option maxRecDepth 100000 in
theorem t_sounds (l : Launch) (hl0 : l.stackTraces = false) (D : va_G) (a : Nat → Nat) (cI cL cO : ClassId) (I : Nat → Nat → Int32) (J : Nat → Nat → Int64) (p1 p2 : Int32) (sz : Nat) : vx_Met l yX0_sounds wsX0_sounds ({ frames := 8, cells := 2, slots := 12, locals := 124 } : Room) (va_Pc [.ref (a 0), .int p1, .int p2] (tB D (oty cI cL cO) (oc a cI cL cO I J) sz)) (tQi D (oc a cI cL cO I J) (oc a cI cL cO I (fsW I J 0 0)) sz (kRK p1 p2) (bI (hk (fsW I J 0 0 2 p1.toNatClampNeg) p2))) (tX D (oc a cI cL cO I J) (oc a cI cL cO I J) sz (kRK p1 p2)) 2 12 (tA (oc a cI cL cO I J) sz) := by
  refine vx_ofW (cc := cX0_sounds) (maxL := 3) (ret := (some .boolean)) (by decide) rfl ?_
  intro p e s m args below meth c s₁ B hml hno hv
  obtain ⟨rfl, hsz, hP, hK, hD0, hES, hEH⟩ := hv
  subst hsz
  have hx := B.exec
  have hb := B.bytes
  have hr := B.returns
  have hts := atoms_spec (ws := wsX0_sounds) B.pre
  have hown : s.vm.findClass RX0 = some m.cls := findClass_of_methodNamed B.named
  have hlocks := B.notSynchronized
  have hin0 : ∀ w ∈ u_ws RX0 TX0 15, w ∈ wsX0_sounds := by decide +kernel
  have hD := oc_D (tA_D (sz := s.heap.size) hD0)
  have hA : ∀ q : Nat, s.heap.size ≤ q → tA (oc a cI cL cO I J) s.heap.size q := fun _ h => Or.inr h
  have hS : va_S (tA (oc a cI cL cO I J) s.heap.size) s.heap s.heap [] := va_S.rf
  have hl := lv_entry ([.ref (a 0), .int p1, .int p2]) (n := 3) (Nat.le_of_ble_eq_true rfl)
  rw [lg_entry_eq]
  generalize (lg_sl ([.ref (a 0), .int p1, .int p2]) ++ List.replicate (3 - (lg_sl ([.ref (a 0), .int p1, .int p2])).length) Slot.unset).toArray = ls at hl ⊢
  have hl : lv_has ls 3 [(0, .ref (a 0)), (1, .int p1), (2, .int p2)] := hl
  refine lv_iload_n hx hb dX0_sounds_0 rfl (lv_at hl 1 rfl) ?_
  refine w_chk (As := [.int p1]) (rest := []) ⟨hx, hb, hml, hown, hts⟩ (k_checkRank l hl0 p1) (va_cwS 1 hts gX0_sounds_X0_checkRank rfl rfl rfl (by decide +kernel) ⟨Nat.le_of_ble_eq_true rfl, Nat.le_of_ble_eq_true rfl⟩) hES hEH hS hA rfl hl.1 rfl (Nat.le_of_ble_eq_true rfl) dX0_sounds_1 ⟨Nat.le_of_ble_eq_true rfl, Nat.le_of_ble_eq_true rfl⟩ (fun ce q9 H1 locs1 c_1 z1 k1 hS1 g1 g2 g3 => ?_) (fun c_1 locs hS => ?_)
  · exact x_out1 hno hlocks hP k1 hS1 g1 g2 g3 (by simp [kRK, c_1]) (rfl) (Nat.le_of_ble_eq_true rfl) (Nat.le_of_ble_eq_true rfl)
  · refine lv_iload_n hx hb dX0_sounds_4 rfl (lv_at hl 2 rfl) ?_
    refine w_chk (As := [.int p2]) (rest := []) ⟨hx, hb, hml, hown, hts⟩ (k_checkKey l hl0 p2) (va_cwS 1 hts gX0_sounds_X0_checkKey rfl rfl rfl (by decide +kernel) ⟨Nat.le_of_ble_eq_true rfl, Nat.le_of_ble_eq_true rfl⟩) hES hEH hS hA rfl hl.1 rfl (Nat.le_of_ble_eq_true rfl) dX0_sounds_5 ⟨Nat.le_of_ble_eq_true rfl, Nat.le_of_ble_eq_true rfl⟩ (fun ce q9 H1 locs1 c_5 z1 k1 hS1 g1 g2 g3 => ?_) (fun c_5 locs hS => ?_)
    · exact x_out1 hno hlocks hP k1 hS1 g1 g2 g3 (by simp [kRK, c_1, c_5]) (rfl) (Nat.le_of_ble_eq_true rfl) (Nat.le_of_ble_eq_true rfl)
    · obtain ⟨r, br, rfl⟩ := rg_nat (n := 5) c_1 (by decide)
      refine lv_aload_n hx hb dX0_sounds_8 rfl (lv_at hl 0 rfl) ?_
      refine w_mVv (As := []) (rest := []) ⟨hx, hb, hml, hown, hts⟩ (c_findSounding l D a cI cL cO I J) (cwV 0 hts gX0_sounds_X0_findSounding rfl rfl rfl (by decide +kernel) ⟨Nat.le_of_ble_eq_true rfl, Nat.le_of_ble_eq_true rfl⟩) hK hP (hD _ _) hS rfl rfl oc_at0 rfl hl.1 rfl (Nat.le_of_ble_eq_true rfl) dX0_sounds_9 ⟨Nat.le_of_ble_eq_true rfl, Nat.le_of_ble_eq_true rfl⟩ (fun H locs hP hS => ?_)
      refine lv_aload_n hx hb dX0_sounds_12 rfl (lv_at hl 0 rfl) ?_
      refine o_get (v := .ref (a 13)) hx hb hts hin0 hown hK hP oc_at0 14 (by decide) (hts (.fieldLink RX0 49 "OrganBuilder" "soundingKeys" "[J") (by decide +kernel)) rfl dX0_sounds_13 ?_
      refine lv_iload_n hx hb dX0_sounds_16 rfl (lv_at hl 1 rfl) ?_
      refine w_lld hx hb hK hP rfl oc_at13 (by omega) (by decide) dX0_sounds_17 ?_
      refine lv_iload_n hx hb dX0_sounds_18 rfl (lv_at hl 2 rfl) ?_
      refine w_pS (As := [.long ((fsW I J 0 0) 2 r), .int p2]) (rest := []) ⟨hx, hb, hml, hown, hts⟩ (c_hasKey l ((fsW I J 0 0) 2 r) p2) (va_cwS 2 hts gX0_sounds_X0_hasKey rfl rfl rfl (by decide +kernel) ⟨Nat.le_of_ble_eq_true rfl, Nat.le_of_ble_eq_true rfl⟩) rfl hl.1 rfl (Nat.le_of_ble_eq_true rfl) dX0_sounds_19 ⟨Nat.le_of_ble_eq_true rfl, Nat.le_of_ble_eq_true rfl⟩ ?_
      exact e_ti hx hb hr (nar_bI _) hlocks hP hS (rfl) (by simp [kRK, c_1, c_5]) (by rw [nI_clamp (show r < 2 ^ 31 by omega)]) (Nat.le_of_ble_eq_true rfl) (Nat.le_of_ble_eq_true rfl) dX0_sounds_22
set_option maxHeartbeats 4000000 in
set_option maxRecDepth 100000 in
theorem t_pitch (l : Launch) (hl0 : l.stackTraces = false) (D : va_G) (a : Nat → Nat) (cI cL cO : ClassId) (I : Nat → Nat → Int32) (J : Nat → Nat → Int64) (p1 p2 : Int32) (sz : Nat) : vx_Met l yX0_pitch wsX0_pitch ({ frames := 8, cells := 3, slots := 18, locals := 124 } : Room) (va_Pc [.ref (a 0), .int p1, .int p2] (tB D (oty cI cL cO) (oc a cI cL cO I J) sz)) (tQi D (oc a cI cL cO I J) (oc a cI cL cO I (fsW I J 0 0)) sz (kPit I J p1 p2) (pws I p1.toNatClampNeg p2.toNatClampNeg - fls I (fsW I J 0 0))) (tX D (oc a cI cL cO I J) (oc a cI cL cO I (if kRK p1 p2 = 1 then J else fsW I J 0 0)) sz (kPit I J p1 p2)) 3 18 (tA (oc a cI cL cO I J) sz) := by
  refine vx_ofW (cc := cX0_pitch) (maxL := 3) (ret := (some .int)) (by decide) rfl ?_
  intro p e s m args below meth c s₁ B hml hno hv
  obtain ⟨rfl, hsz, hP, hK, hD0, hES, hEH⟩ := hv
  subst hsz
  have hx := B.exec
  have hb := B.bytes
  have hr := B.returns
  have hts := atoms_spec (ws := wsX0_pitch) B.pre
  have hown : s.vm.findClass RX0 = some m.cls := findClass_of_methodNamed B.named
  have hlocks := B.notSynchronized
  have hin0 : ∀ w ∈ u_ws RX0 TX0 15, w ∈ wsX0_pitch := by decide +kernel
  have hD := oc_D (tA_D (sz := s.heap.size) hD0)
  have hA : ∀ q : Nat, s.heap.size ≤ q → tA (oc a cI cL cO I J) s.heap.size q := fun _ h => Or.inr h
  have hS : va_S (tA (oc a cI cL cO I J) s.heap.size) s.heap s.heap [] := va_S.rf
  have hl := lv_entry ([.ref (a 0), .int p1, .int p2]) (n := 3) (Nat.le_of_ble_eq_true rfl)
  rw [lg_entry_eq]
  generalize (lg_sl ([.ref (a 0), .int p1, .int p2]) ++ List.replicate (3 - (lg_sl ([.ref (a 0), .int p1, .int p2])).length) Slot.unset).toArray = ls at hl ⊢
  have hl : lv_has ls 3 [(0, .ref (a 0)), (1, .int p1), (2, .int p2)] := hl
  refine lv_iload_n hx hb dX0_pitch_0 rfl (lv_at hl 1 rfl) ?_
  refine w_chk (As := [.int p1]) (rest := []) ⟨hx, hb, hml, hown, hts⟩ (k_checkRank l hl0 p1) (va_cwS 1 hts gX0_pitch_X0_checkRank rfl rfl rfl (by decide +kernel) ⟨Nat.le_of_ble_eq_true rfl, Nat.le_of_ble_eq_true rfl⟩) hES hEH hS hA rfl hl.1 rfl (Nat.le_of_ble_eq_true rfl) dX0_pitch_1 ⟨Nat.le_of_ble_eq_true rfl, Nat.le_of_ble_eq_true rfl⟩ (fun ce q9 H1 locs1 c_1 z1 k1 hS1 g1 g2 g3 => ?_) (fun c_1 locs hS => ?_)
  · exact x_out1 hno hlocks hP k1 hS1 g1 g2 g3 (by simp [kPit, c_1]) (by rw [if_pos (by simp [kRK, c_1])]) (Nat.le_of_ble_eq_true rfl) (Nat.le_of_ble_eq_true rfl)
  · refine lv_iload_n hx hb dX0_pitch_4 rfl (lv_at hl 2 rfl) ?_
    refine w_chk (As := [.int p2]) (rest := []) ⟨hx, hb, hml, hown, hts⟩ (k_checkKey l hl0 p2) (va_cwS 1 hts gX0_pitch_X0_checkKey rfl rfl rfl (by decide +kernel) ⟨Nat.le_of_ble_eq_true rfl, Nat.le_of_ble_eq_true rfl⟩) hES hEH hS hA rfl hl.1 rfl (Nat.le_of_ble_eq_true rfl) dX0_pitch_5 ⟨Nat.le_of_ble_eq_true rfl, Nat.le_of_ble_eq_true rfl⟩ (fun ce q9 H1 locs1 c_5 z1 k1 hS1 g1 g2 g3 => ?_) (fun c_5 locs hS => ?_)
    · exact x_out1 hno hlocks hP k1 hS1 g1 g2 g3 (by simp [kPit, c_1, c_5]) (by rw [if_pos (by simp [kRK, c_1, c_5])]) (Nat.le_of_ble_eq_true rfl) (Nat.le_of_ble_eq_true rfl)
    · obtain ⟨r, br, rfl⟩ := rg_nat (n := 5) c_1 (by decide)
      obtain ⟨k, bk, rfl⟩ := rg_nat (n := 60) c_5 (by decide)
      refine lv_aload_n hx hb dX0_pitch_8 rfl (lv_at hl 0 rfl) ?_
      refine w_mVv (As := []) (rest := []) ⟨hx, hb, hml, hown, hts⟩ (c_findSounding l D a cI cL cO I J) (cwV 0 hts gX0_pitch_X0_findSounding rfl rfl rfl (by decide +kernel) ⟨Nat.le_of_ble_eq_true rfl, Nat.le_of_ble_eq_true rfl⟩) hK hP (hD _ _) hS rfl rfl oc_at0 rfl hl.1 rfl (Nat.le_of_ble_eq_true rfl) dX0_pitch_9 ⟨Nat.le_of_ble_eq_true rfl, Nat.le_of_ble_eq_true rfl⟩ (fun H locs hP hS => ?_)
      refine lv_aload_n hx hb dX0_pitch_12 rfl (lv_at hl 0 rfl) ?_
      refine o_get (v := .ref (a 13)) hx hb hts hin0 hown hK hP oc_at0 14 (by decide) (hts (.fieldLink RX0 49 "OrganBuilder" "soundingKeys" "[J") (by decide +kernel)) rfl dX0_pitch_13 ?_
      refine lv_iload_n hx hb dX0_pitch_16 rfl (lv_at hl 1 rfl) ?_
      refine w_lld hx hb hK hP rfl oc_at13 (by omega) (by decide) dX0_pitch_17 ?_
      refine lv_iload_n hx hb dX0_pitch_18 rfl (lv_at hl 2 rfl) ?_
      refine w_pS (As := [.long ((fsW I J 0 0) 2 r), .int (nI k)]) (rest := []) ⟨hx, hb, hml, hown, hts⟩ (c_hasKey l ((fsW I J 0 0) 2 r) (nI k)) (va_cwS 2 hts gX0_pitch_X0_hasKey rfl rfl rfl (by decide +kernel) ⟨Nat.le_of_ble_eq_true rfl, Nat.le_of_ble_eq_true rfl⟩) rfl hl.1 rfl (Nat.le_of_ble_eq_true rfl) dX0_pitch_19 ⟨Nat.le_of_ble_eq_true rfl, Nat.le_of_ble_eq_true rfl⟩ ?_
      refine lv_if_ne (tgt := 35) hx hb dX0_pitch_22 (by decide) (fun c_22 => ?_) (fun c_22 => ?_)
      · have d_22 := bI_ne0 c_22
        refine lv_aload_n hx hb dX0_pitch_35 rfl (lv_at hl 0 rfl) ?_
        refine lv_iload_n hx hb dX0_pitch_36 rfl (lv_at hl 1 rfl) ?_
        refine lv_iload_n hx hb dX0_pitch_37 rfl (lv_at hl 2 rfl) ?_
        refine w_pV (As := [.int (nI r), .int (nI k)]) (rest := []) ⟨hx, hb, hml, hown, hts⟩ (c_pitchWithoutSag l D a cI cL cO I (fsW I J 0 0) r k (by omega) (by omega)) (cwV 2 hts gX0_pitch_X0_pitchWithoutSag rfl rfl rfl (by decide +kernel) ⟨Nat.le_of_ble_eq_true rfl, Nat.le_of_ble_eq_true rfl⟩) hK hP rfl rfl oc_at0 rfl hl.1 rfl (Nat.le_of_ble_eq_true rfl) dX0_pitch_38 ⟨Nat.le_of_ble_eq_true rfl, Nat.le_of_ble_eq_true rfl⟩ ?_
        refine lv_aload_n hx hb dX0_pitch_41 rfl (lv_at hl 0 rfl) ?_
        refine w_pV (As := []) (rest := [.int (pws I r k)]) ⟨hx, hb, hml, hown, hts⟩ (c_fallOfSag l D a cI cL cO I (fsW I J 0 0)) (cwV 0 hts gX0_pitch_X0_fallOfSag rfl rfl rfl (by decide +kernel) ⟨Nat.le_of_ble_eq_true rfl, Nat.le_of_ble_eq_true rfl⟩) hK hP rfl rfl oc_at0 rfl hl.1 rfl (Nat.le_of_ble_eq_true rfl) dX0_pitch_42 ⟨Nat.le_of_ble_eq_true rfl, Nat.le_of_ble_eq_true rfl⟩ ?_
        refine lv_isub hx hb dX0_pitch_45 ?_
        exact e_ti hx hb hr rfl hlocks hP hS (rfl) (by simp [kPit, c_1, c_5, d_22, nI_clamp (show r < 2 ^ 31 by omega)]) (by rw [nI_clamp (show r < 2 ^ 31 by omega), nI_clamp (show k < 2 ^ 31 by omega)]) (Nat.le_of_ble_eq_true rfl) (Nat.le_of_ble_eq_true rfl) dX0_pitch_46
      · have d_22 := bI_eq0 c_22
        exact w_thrS (sa := hES.1.2.2.2.2.1.choose) hx hb hl0 hown (hts (.classLink RX0 77 nISE) (by decide +kernel)) (hts (.initialized nISE) (by decide +kernel)) hES.1.2.2.2.2.1.choose_spec (fun w h => hts w ((by decide +kernel : ∀ w ∈ (vx_atS RX0 81 nISE nSup).filter goodWord, w ∈ wsX0_pitch) w h)) hES hEH hS (hl.1.trans hml.symm) dX0_pitch_25 dX0_pitch_28 dX0_pitch_29 dX0_pitch_31 dX0_pitch_34 hno (Nat.le_of_ble_eq_true rfl) (Nat.le_of_ble_eq_true rfl) (Nat.le_of_ble_eq_true rfl) (Nat.le_of_ble_eq_true rfl) hlocks (x_new hP hS hA (Or.inr ⟨rfl, by simp [kPit, c_1, c_5, d_22, nI_clamp (show r < 2 ^ 31 by omega)]⟩) (by rw [if_neg (by simp [kRK, c_1, c_5, d_22, nI_clamp (show r < 2 ^ 31 by omega)])])) (Nat.le_of_ble_eq_true rfl) (Nat.le_of_ble_eq_true rfl)
set_option maxHeartbeats 4000000 in
set_option maxRecDepth 100000 in
theorem t_wear (l : Launch) (hl0 : l.stackTraces = false) (D : va_G) (a : Nat → Nat) (cI cL cO : ClassId) (I : Nat → Nat → Int32) (J : Nat → Nat → Int64) (p1 p2 : Int32) (sz : Nat) : vx_Met l yX0_wear wsX0_wear ({ frames := 8, cells := 2, slots := 12, locals := 124 } : Room) (va_Pc [.ref (a 0), .int p1, .int p2] (tB D (oty cI cL cO) (oc a cI cL cO I J) sz)) (tQi D (oc a cI cL cO I J) (oc a cI cL cO I J) sz (kRK p1 p2) (I (10 + p1.toNatClampNeg) p2.toNatClampNeg)) (tX D (oc a cI cL cO I J) (oc a cI cL cO I J) sz (kRK p1 p2)) 2 12 (tA (oc a cI cL cO I J) sz) := by
  refine vx_ofW (cc := cX0_wear) (maxL := 3) (ret := (some .int)) (by decide) rfl ?_
  intro p e s m args below meth c s₁ B hml hno hv
  obtain ⟨rfl, hsz, hP, hK, hD0, hES, hEH⟩ := hv
  subst hsz
  have hx := B.exec
  have hb := B.bytes
  have hr := B.returns
  have hts := atoms_spec (ws := wsX0_wear) B.pre
  have hown : s.vm.findClass RX0 = some m.cls := findClass_of_methodNamed B.named
  have hlocks := B.notSynchronized
  have hin0 : ∀ w ∈ u_ws RX0 TX0 15, w ∈ wsX0_wear := by decide +kernel
  have hD := oc_D (tA_D (sz := s.heap.size) hD0)
  have hA : ∀ q : Nat, s.heap.size ≤ q → tA (oc a cI cL cO I J) s.heap.size q := fun _ h => Or.inr h
  have hS : va_S (tA (oc a cI cL cO I J) s.heap.size) s.heap s.heap [] := va_S.rf
  have hl := lv_entry ([.ref (a 0), .int p1, .int p2]) (n := 3) (Nat.le_of_ble_eq_true rfl)
  rw [lg_entry_eq]
  generalize (lg_sl ([.ref (a 0), .int p1, .int p2]) ++ List.replicate (3 - (lg_sl ([.ref (a 0), .int p1, .int p2])).length) Slot.unset).toArray = ls at hl ⊢
  have hl : lv_has ls 3 [(0, .ref (a 0)), (1, .int p1), (2, .int p2)] := hl
  refine lv_iload_n hx hb dX0_wear_0 rfl (lv_at hl 1 rfl) ?_
  refine w_chk (As := [.int p1]) (rest := []) ⟨hx, hb, hml, hown, hts⟩ (k_checkRank l hl0 p1) (va_cwS 1 hts gX0_wear_X0_checkRank rfl rfl rfl (by decide +kernel) ⟨Nat.le_of_ble_eq_true rfl, Nat.le_of_ble_eq_true rfl⟩) hES hEH hS hA rfl hl.1 rfl (Nat.le_of_ble_eq_true rfl) dX0_wear_1 ⟨Nat.le_of_ble_eq_true rfl, Nat.le_of_ble_eq_true rfl⟩ (fun ce q9 H1 locs1 c_1 z1 k1 hS1 g1 g2 g3 => ?_) (fun c_1 locs hS => ?_)
  · exact x_out1 hno hlocks hP k1 hS1 g1 g2 g3 (by simp [kRK, c_1]) (rfl) (Nat.le_of_ble_eq_true rfl) (Nat.le_of_ble_eq_true rfl)
  · refine lv_iload_n hx hb dX0_wear_4 rfl (lv_at hl 2 rfl) ?_
    refine w_chk (As := [.int p2]) (rest := []) ⟨hx, hb, hml, hown, hts⟩ (k_checkKey l hl0 p2) (va_cwS 1 hts gX0_wear_X0_checkKey rfl rfl rfl (by decide +kernel) ⟨Nat.le_of_ble_eq_true rfl, Nat.le_of_ble_eq_true rfl⟩) hES hEH hS hA rfl hl.1 rfl (Nat.le_of_ble_eq_true rfl) dX0_wear_5 ⟨Nat.le_of_ble_eq_true rfl, Nat.le_of_ble_eq_true rfl⟩ (fun ce q9 H1 locs1 c_5 z1 k1 hS1 g1 g2 g3 => ?_) (fun c_5 locs hS => ?_)
    · exact x_out1 hno hlocks hP k1 hS1 g1 g2 g3 (by simp [kRK, c_1, c_5]) (rfl) (Nat.le_of_ble_eq_true rfl) (Nat.le_of_ble_eq_true rfl)
    · obtain ⟨r, br, rfl⟩ := rg_nat (n := 5) c_1 (by decide)
      obtain ⟨k, bk, rfl⟩ := rg_nat (n := 60) c_5 (by decide)
      refine lv_aload_n hx hb dX0_wear_8 rfl (lv_at hl 0 rfl) ?_
      refine o_get (v := .ref (a 4)) hx hb hts hin0 hown hK hP oc_at0 3 (by decide) (hts (.fieldLink RX0 21 "OrganBuilder" "wears" "[[I") (by decide +kernel)) rfl dX0_wear_9 ?_
      refine lv_iload_n hx hb dX0_wear_12 rfl (lv_at hl 1 rfl) ?_
      refine w_qld hx hb hK hP rfl oc_at4 (by omega) (by decide) dX0_wear_13 ?_
      refine lv_iload_n hx hb dX0_wear_14 rfl (lv_at hl 2 rfl) ?_
      refine w_ild hx hb hK hP rfl (oc_atw (r := r) (by omega)) (by omega) (by decide) dX0_wear_15 ?_
      exact e_ti hx hb hr rfl hlocks hP hS (rfl) (by simp [kRK, c_1, c_5]) (by rw [nI_clamp (show r < 2 ^ 31 by omega), nI_clamp (show k < 2 ^ 31 by omega)]) (Nat.le_of_ble_eq_true rfl) (Nat.le_of_ble_eq_true rfl) dX0_wear_16
set_option maxHeartbeats 4000000 in
set_option maxRecDepth 100000 in
theorem t_more (l : Launch) (hl0 : l.stackTraces = false) (D : va_G) (a : Nat → Nat) (cI cL cO : ClassId) (I : Nat → Nat → Int32) (J : Nat → Nat → Int64) (p1 p2 : Int32) (sz : Nat) : vx_Met l yX0_more wsX0_more ({ frames := 8, cells := 2, slots := 12, locals := 124 } : Room) (va_Pc [.ref (a 0), .int p1, .int p2] (tB D (oty cI cL cO) (oc a cI cL cO I J) sz)) (tQi D (oc a cI cL cO I J) (oc a cI cL cO I (fsW I (fsW I J 0 0) p1.toNatClampNeg (kb p2))) sz (kMK p1 p2) (wsO I (fsW I (fsW I J 0 0) p1.toNatClampNeg (kb p2)) 6 - wsO I (fsW I J 0 0) 6)) (tX D (oc a cI cL cO I J) (oc a cI cL cO I J) sz (kMK p1 p2)) 2 12 (tA (oc a cI cL cO I J) sz) := by
  refine vx_ofW (cc := cX0_more) (maxL := 4) (ret := (some .int)) (by decide) rfl ?_
  intro p e s m args below meth c s₁ B hml hno hv
  obtain ⟨rfl, hsz, hP, hK, hD0, hES, hEH⟩ := hv
  subst hsz
  have hx := B.exec
  have hb := B.bytes
  have hr := B.returns
  have hts := atoms_spec (ws := wsX0_more) B.pre
  have hown : s.vm.findClass RX0 = some m.cls := findClass_of_methodNamed B.named
  have hlocks := B.notSynchronized
  have hin0 : ∀ w ∈ u_ws RX0 TX0 15, w ∈ wsX0_more := by decide +kernel
  have hD := oc_D (tA_D (sz := s.heap.size) hD0)
  have hA : ∀ q : Nat, s.heap.size ≤ q → tA (oc a cI cL cO I J) s.heap.size q := fun _ h => Or.inr h
  have hS : va_S (tA (oc a cI cL cO I J) s.heap.size) s.heap s.heap [] := va_S.rf
  have hl := lv_entry ([.ref (a 0), .int p1, .int p2]) (n := 4) (Nat.le_of_ble_eq_true rfl)
  rw [lg_entry_eq]
  generalize (lg_sl ([.ref (a 0), .int p1, .int p2]) ++ List.replicate (4 - (lg_sl ([.ref (a 0), .int p1, .int p2])).length) Slot.unset).toArray = ls at hl ⊢
  have hl : lv_has ls 4 [(0, .ref (a 0)), (1, .int p1), (2, .int p2)] := hl
  refine lv_iload_n hx hb dX0_more_0 rfl (lv_at hl 1 rfl) ?_
  refine w_chk (As := [.int p1]) (rest := []) ⟨hx, hb, hml, hown, hts⟩ (k_checkManual l hl0 p1) (va_cwS 1 hts gX0_more_X0_checkManual rfl rfl rfl (by decide +kernel) ⟨Nat.le_of_ble_eq_true rfl, Nat.le_of_ble_eq_true rfl⟩) hES hEH hS hA rfl hl.1 rfl (Nat.le_of_ble_eq_true rfl) dX0_more_1 ⟨Nat.le_of_ble_eq_true rfl, Nat.le_of_ble_eq_true rfl⟩ (fun ce q9 H1 locs1 c_1 z1 k1 hS1 g1 g2 g3 => ?_) (fun c_1 locs hS => ?_)
  · exact x_out1 hno hlocks hP k1 hS1 g1 g2 g3 (by simp [kMK, c_1]) (rfl) (Nat.le_of_ble_eq_true rfl) (Nat.le_of_ble_eq_true rfl)
  · refine lv_iload_n hx hb dX0_more_4 rfl (lv_at hl 2 rfl) ?_
    refine w_chk (As := [.int p2]) (rest := []) ⟨hx, hb, hml, hown, hts⟩ (k_checkKey l hl0 p2) (va_cwS 1 hts gX0_more_X0_checkKey rfl rfl rfl (by decide +kernel) ⟨Nat.le_of_ble_eq_true rfl, Nat.le_of_ble_eq_true rfl⟩) hES hEH hS hA rfl hl.1 rfl (Nat.le_of_ble_eq_true rfl) dX0_more_5 ⟨Nat.le_of_ble_eq_true rfl, Nat.le_of_ble_eq_true rfl⟩ (fun ce q9 H1 locs1 c_5 z1 k1 hS1 g1 g2 g3 => ?_) (fun c_5 locs hS => ?_)
    · exact x_out1 hno hlocks hP k1 hS1 g1 g2 g3 (by simp [kMK, c_1, c_5]) (rfl) (Nat.le_of_ble_eq_true rfl) (Nat.le_of_ble_eq_true rfl)
    · obtain ⟨mn, bmn, rfl⟩ := rg_nat (n := 2) c_1 (by decide)
      refine lv_aload_n hx hb dX0_more_8 rfl (lv_at hl 0 rfl) ?_
      refine w_mVv (As := []) (rest := []) ⟨hx, hb, hml, hown, hts⟩ (c_findSounding l D a cI cL cO I J) (cwV 0 hts gX0_more_X0_findSounding rfl rfl rfl (by decide +kernel) ⟨Nat.le_of_ble_eq_true rfl, Nat.le_of_ble_eq_true rfl⟩) hK hP (hD _ _) hS rfl rfl oc_at0 rfl hl.1 rfl (Nat.le_of_ble_eq_true rfl) dX0_more_9 ⟨Nat.le_of_ble_eq_true rfl, Nat.le_of_ble_eq_true rfl⟩ (fun H locs hP hS => ?_)
      refine lv_aload_n hx hb dX0_more_12 rfl (lv_at hl 0 rfl) ?_
      refine w_pV (As := []) (rest := []) ⟨hx, hb, hml, hown, hts⟩ (c_windOfSounding l D a cI cL cO I (fsW I J 0 0)) (cwV 0 hts gX0_more_X0_windOfSounding rfl rfl rfl (by decide +kernel) ⟨Nat.le_of_ble_eq_true rfl, Nat.le_of_ble_eq_true rfl⟩) hK hP rfl rfl oc_at0 rfl hl.1 rfl (Nat.le_of_ble_eq_true rfl) dX0_more_13 ⟨Nat.le_of_ble_eq_true rfl, Nat.le_of_ble_eq_true rfl⟩ ?_
      refine lv_istore_n (lv' := [(3, .int (wsO I (fsW I J 0 0) 6)), (0, .ref (a 0)), (1, .int (nI mn)), (2, .int p2)]) hx hb dX0_more_16 rfl hl (by decide) rfl (fun ls hl => ?_)
      refine lv_aload_n hx hb dX0_more_17 rfl (lv_at hl 1 rfl) ?_
      refine lv_iload_n hx hb dX0_more_18 rfl (lv_at hl 2 rfl) ?_
      refine lv_iload_n hx hb dX0_more_19 rfl (lv_at hl 3 rfl) ?_
      refine w_pSl (As := [.int p2]) (rest := [.int (nI mn), .ref (a 0)]) ⟨hx, hb, hml, hown, hts⟩ (c_keyBit l p2) (va_cwS 1 hts gX0_more_X0_keyBit rfl rfl rfl (by decide +kernel) ⟨Nat.le_of_ble_eq_true rfl, Nat.le_of_ble_eq_true rfl⟩) rfl hl.1 rfl (Nat.le_of_ble_eq_true rfl) dX0_more_20 ⟨Nat.le_of_ble_eq_true rfl, Nat.le_of_ble_eq_true rfl⟩ ?_
      refine w_mVv (As := [.int (nI mn), .long (kb p2)]) (rest := []) ⟨hx, hb, hml, hown, hts⟩ (c_findSoundingWith l D a cI cL cO I (fsW I J 0 0) mn (by omega) (kb p2)) (cwV 2 hts gX0_more_X0_findSoundingWith rfl rfl rfl (by decide +kernel) ⟨Nat.le_of_ble_eq_true rfl, Nat.le_of_ble_eq_true rfl⟩) hK hP (hD _ _) hS rfl rfl oc_at0 rfl hl.1 rfl (Nat.le_of_ble_eq_true rfl) dX0_more_23 ⟨Nat.le_of_ble_eq_true rfl, Nat.le_of_ble_eq_true rfl⟩ (fun H locs hP hS => ?_)
      refine lv_aload_n hx hb dX0_more_26 rfl (lv_at hl 1 rfl) ?_
      refine w_pV (As := []) (rest := []) ⟨hx, hb, hml, hown, hts⟩ (c_windOfSounding l D a cI cL cO I (fsW I (fsW I J 0 0) mn (kb p2))) (cwV 0 hts gX0_more_X0_windOfSounding rfl rfl rfl (by decide +kernel) ⟨Nat.le_of_ble_eq_true rfl, Nat.le_of_ble_eq_true rfl⟩) hK hP rfl rfl oc_at0 rfl hl.1 rfl (Nat.le_of_ble_eq_true rfl) dX0_more_27 ⟨Nat.le_of_ble_eq_true rfl, Nat.le_of_ble_eq_true rfl⟩ ?_
      refine lv_iload_n hx hb dX0_more_30 rfl (lv_at hl 0 rfl) ?_
      refine lv_isub hx hb dX0_more_31 ?_
      exact e_ti hx hb hr rfl hlocks hP hS (by rw [nI_clamp (show mn < 2 ^ 31 by omega)]) (by simp [kMK, c_1, c_5]) (by rw [nI_clamp (show mn < 2 ^ 31 by omega)]) (Nat.le_of_ble_eq_true rfl) (Nat.le_of_ble_eq_true rfl) dX0_more_32
