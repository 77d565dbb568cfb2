/-! ===== the law's helpers ===== -/
theorem n99 : (-99993 : Int32) = Int32.ofInt (-99993) := by decide
theorem narI (x : Int32) : narrow .int (.int x) = .int x := rfl
set_option maxHeartbeats 4000000 in
set_option maxRecDepth 100000 in
theorem n_couples (l : Launch) (hl0 : l.stackTraces = false) (D : va_G) (a : Nat → Nat) (cI cL cO : ClassId) {I : Nat → Nat → Int32} {J : Nat → Nat → Int64} {h : Nat → Nat} (p1 p2 p3 : Int32) (sz : Nat) : Met l yL_couples wsL_couples ({ frames := 9, cells := 3, slots := 18, locals := 147 } : Room) (va_Pc [.ref (a 0), .int p1, .int p2, .int p3] (tB D (oty cI cL cO) (oc a cI cL cO I J) sz)) (gQ (oc a cI cL cO I J) sz (if kCpl I p1 p2 p3 = 0 then ccO (u2 I (20 + p1.toNatClampNeg) p2.toNatClampNeg p3) 3 else if kCpl I p1 p2 p3 = 1 then -2 else -3) (fun H => (kCpl I p1 p2 p3 = 0 → va_P D vwCl (oc a cI cL cO (u2 I (20 + p1.toNatClampNeg) p2.toNatClampNeg p3) J) H) ∧ (¬ kCpl I p1 p2 p3 = 0 → va_P D vwCl (oc a cI cL cO I J) H))) 3 18 (tA (oc a cI cL cO I J) sz) := by
  refine va_MetW (cc := cL_couples) (maxL := 5) (ret := some .int) (hh := [(0, 7, 8, 13), (0, 7, 13, 15)]) (by decide) rfl ?_
  intro p e s m args below meth c s₁ B hml hv
  obtain ⟨rfl, hsz, hP, hK, hD0, hES, hEH⟩ := hv
  subst hsz
  have hx := B.exec
  have hb := B.bytes
  have hr := B.returns
  have hts := atoms_spec (ws := wsL_couples) B.pre
  have hown : s.vm.findClass RL = some m.cls := findClass_of_methodNamed B.named
  have hlocks := B.notSynchronized
  have htab := vx_table (x := yL_couples) B (hts _ List.mem_cons_self)
  have hDA := tA_D (sz := s.heap.size) hD0
  have hA : ∀ z9 : Nat, s.heap.size ≤ z9 → tA (oc a cI cL cO I J) s.heap.size z9 := fun _ h => Or.inr h
  have hS : va_S (tA (oc a cI cL cO I J) s.heap.size) s.heap s.heap [] := va_S.rf
  have hl := lv_entry ([.ref (a 0), .int p1, .int p2, .int p3]) (n := 5) (Nat.le_of_ble_eq_true rfl)
  rw [lg_entry_eq]
  generalize (lg_sl ([.ref (a 0), .int p1, .int p2, .int p3]) ++ List.replicate (5 - (lg_sl ([.ref (a 0), .int p1, .int p2, .int p3])).length) Slot.unset).toArray = ls at hl ⊢
  have hl : lv_has ls 5 [(0, .ref (a 0)), (1, .int p1), (2, .int p2), (3, .int p3)] := hl
  refine lv_aload_n hx hb dL_couples_0 rfl (lv_at hl 0 rfl) ?_
  refine lv_iload_n hx hb dL_couples_1 rfl (lv_at hl 1 rfl) ?_
  refine lv_iload_n hx hb dL_couples_2 rfl (lv_at hl 2 rfl) ?_
  refine lv_iload_n hx hb dL_couples_3 rfl (lv_at hl 3 rfl) ?_
  refine w_tVi (As := [.int p1, .int p2, .int p3]) (rest := []) ⟨hx, hb, hml, hown, hts⟩ (t_couple l hl0 D a cI cL cO I J p1 p2 p3 s.heap.size) (cwV 3 hts gL_couples_X0_couple rfl rfl rfl (by decide +kernel) ⟨Nat.le_of_ble_eq_true rfl, Nat.le_of_ble_eq_true rfl⟩) hK hP hDA hES hEH hS hA rfl rfl oc_at0 rfl hl.1 rfl (Nat.le_of_ble_eq_true rfl) dL_couples_4 ⟨Nat.le_of_ble_eq_true rfl, Nat.le_of_ble_eq_true rfl⟩ (fun E ce q9 H1 locs1 hxk hP3 hfr hS1 g1 g2 g3 => ?_) (fun hk0 H1 locs hP3 hfr hS => ?_)
  · rcases hxk with ⟨rfl, hk9⟩ | ⟨rfl, hk9⟩
    · refine vx_catch (name := nIAE) hown [] (⟨0, 7, 8, 13⟩ : ExceptionTableEntry) [(⟨0, 7, 13, 15⟩ : ExceptionTableEntry)] htab (fun z hz => by cases hz) (by decide) (by decide) (hts (.classLink RL 13 nIAE) (by decide +kernel)) (hES.2.1.use rfl) g1 g2 g3 ?_
      refine lv_astore (lv' := [(4, .ref q9), (0, .ref (a 0)), (1, .int p1), (2, .int p2), (3, .int p3)]) hx hb dL_couples_8 hl (by decide) rfl (fun ls hl => ?_)
      refine lv_bipush (v := -2) hx hb dL_couples_10 (by decide) ?_
      exact e_g hx hb hr (narI _) hlocks ⟨fun z => absurd (hk9.symm.trans z) (by decide), fun _ => hP3⟩ hS1 (by rw [if_neg (by rw [hk9]; decide), if_pos hk9]) (Nat.le_of_ble_eq_true rfl) (Nat.le_of_ble_eq_true rfl) dL_couples_12
    · refine vx_catch (name := nISE) hown [(⟨0, 7, 8, 13⟩ : ExceptionTableEntry)] (⟨0, 7, 13, 15⟩ : ExceptionTableEntry) [] htab (fun z hz => by rw [List.mem_singleton] at hz; subst hz; exact Or.inr ⟨by decide, nIAE, hts (.classLink RL 13 nIAE) (by decide +kernel), hES.2.2.2.1⟩) (by decide) (by decide) (hts (.classLink RL 15 nISE) (by decide +kernel)) (hES.2.2.1.use rfl) g1 g2 g3 ?_
      refine lv_astore (lv' := [(4, .ref q9), (0, .ref (a 0)), (1, .int p1), (2, .int p2), (3, .int p3)]) hx hb dL_couples_13 hl (by decide) rfl (fun ls hl => ?_)
      refine lv_bipush (v := -3) hx hb dL_couples_15 (by decide) ?_
      exact e_g hx hb hr (narI _) hlocks ⟨fun z => absurd (hk9.symm.trans z) (by decide), fun _ => hP3⟩ hS1 (by rw [if_neg (by rw [hk9]; decide), if_neg (by rw [hk9]; decide)]) (Nat.le_of_ble_eq_true rfl) (Nat.le_of_ble_eq_true rfl) dL_couples_17
  · exact e_g hx hb hr (narI _) hlocks ⟨fun _ => hP3, fun z => absurd hk0 z⟩ hS (by rw [if_pos hk0]) (Nat.le_of_ble_eq_true rfl) (Nat.le_of_ble_eq_true rfl) dL_couples_7
set_option maxHeartbeats 4000000 in
set_option maxRecDepth 100000 in
theorem n_stops (l : Launch) (hl0 : l.stackTraces = false) (D : va_G) (a : Nat → Nat) (cI cL cO : ClassId) {I : Nat → Nat → Int32} {J : Nat → Nat → Int64} {h : Nat → Nat} {sp m9 r d : Nat} (hs : sp < 12) (hm : m9 < 3) (hr6 : r < 6) (hd : I 8 0 = nI d) (sz : Nat) : Met l yL_stops wsL_stops ({ frames := 9, cells := 4, slots := 24, locals := 147 } : Room) (va_Pc [.ref (a 0), .int (nI sp), .int (nI m9), .int (nI r)] (tB D (oty cI cL cO) (oc a cI cL cO I J) sz)) (gQ (oc a cI cL cO I J) sz (if d.testBit sp = true then -3 else 0) (fun H => (d.testBit sp = true → va_P D vwCl (oc a cI cL cO I J) H) ∧ (d.testBit sp = false → va_P D vwCl (oc a cI cL cO (mStop I sp m9 r) J) H))) 4 24 (tA (oc a cI cL cO I J) sz) := by
  refine va_MetW (cc := cL_stops) (maxL := 5) (ret := some .int) (hh := [(0, 8, 9, 15)]) (by decide) rfl ?_
  intro p e s m args below meth c s₁ B hml hv
  obtain ⟨rfl, hsz, hP, hK, hD0, hES, hEH⟩ := hv
  subst hsz
  have hx := B.exec
  have hb := B.bytes
  have hr := B.returns
  have hts := atoms_spec (ws := wsL_stops) B.pre
  have hown : s.vm.findClass RL = some m.cls := findClass_of_methodNamed B.named
  have hlocks := B.notSynchronized
  have htab := vx_table (x := yL_stops) B (hts _ List.mem_cons_self)
  have hDA := tA_D (sz := s.heap.size) hD0
  have hA : ∀ z9 : Nat, s.heap.size ≤ z9 → tA (oc a cI cL cO I J) s.heap.size z9 := fun _ h => Or.inr h
  have hS : va_S (tA (oc a cI cL cO I J) s.heap.size) s.heap s.heap [] := va_S.rf
  have hl := lv_entry ([.ref (a 0), .int (nI sp), .int (nI m9), .int (nI r)]) (n := 5) (Nat.le_of_ble_eq_true rfl)
  rw [lg_entry_eq]
  generalize (lg_sl ([.ref (a 0), .int (nI sp), .int (nI m9), .int (nI r)]) ++ List.replicate (5 - (lg_sl ([.ref (a 0), .int (nI sp), .int (nI m9), .int (nI r)])).length) Slot.unset).toArray = ls at hl ⊢
  have hl : lv_has ls 5 [(0, .ref (a 0)), (1, .int (nI sp)), (2, .int (nI m9)), (3, .int (nI r))] := hl
  have ek : kStop I (nI sp) (nI m9) (nI r) = if d.testBit sp = true then 2 else 0 := by
    unfold kStop
    rw [rg_ok (v := sp) (n := 11) (x := 11) rfl (by omega) (by decide), rg_ok (v := m9) (n := 2) (x := 2) rfl (by omega) (by decide), rg_ok (v := r) (n := 5) (x := 5) rfl (by omega) (by decide), hd, dr_bit hs]
    rfl
  have q := t_setStop l hl0 D a cI cL cO I J (nI sp) (nI m9) (nI r) s.heap.size
  rw [nI_clamp (show sp < 2 ^ 31 by omega), ek] at q
  refine lv_aload_n hx hb dL_stops_0 rfl (lv_at hl 0 rfl) ?_
  refine lv_iload_n hx hb dL_stops_1 rfl (lv_at hl 1 rfl) ?_
  refine lv_iload_n hx hb dL_stops_2 rfl (lv_at hl 2 rfl) ?_
  refine lv_iload_n hx hb dL_stops_3 rfl (lv_at hl 3 rfl) ?_
  refine w_tVv (As := [.int (nI sp), .int (nI m9), .int (nI r)]) (rest := []) ⟨hx, hb, hml, hown, hts⟩ q (cwV 3 hts gL_stops_X0_setStop rfl rfl rfl (by decide +kernel) ⟨Nat.le_of_ble_eq_true rfl, Nat.le_of_ble_eq_true rfl⟩) hK hP hDA hES hEH hS hA rfl rfl oc_at0 rfl hl.1 rfl (Nat.le_of_ble_eq_true rfl) dL_stops_4 ⟨Nat.le_of_ble_eq_true rfl, Nat.le_of_ble_eq_true rfl⟩ (fun E ce q9 H1 locs1 hxk hP3 hfr hS1 g1 g2 g3 => ?_) (fun hk0 H1 locs hP3 hfr hS => ?_)
  · rcases hxk with ⟨rfl, hk9⟩ | ⟨rfl, hk9⟩
    · exfalso
      revert hk9
      cases d.testBit sp <;> decide
    · have hb9 : d.testBit sp = true := by
        revert hk9
        cases d.testBit sp <;> decide
      refine vx_catch (name := nISE) hown [] (⟨0, 8, 9, 15⟩ : ExceptionTableEntry) [] htab (fun z hz => by cases hz) (by decide) (by decide) (hts (.classLink RL 15 nISE) (by decide +kernel)) (hES.2.2.1.use rfl) g1 g2 g3 ?_
      refine lv_astore (lv' := [(4, .ref q9), (0, .ref (a 0)), (1, .int (nI sp)), (2, .int (nI m9)), (3, .int (nI r))]) hx hb dL_stops_9 hl (by decide) rfl (fun ls hl => ?_)
      refine lv_bipush (v := -3) hx hb dL_stops_11 (by decide) ?_
      exact e_g hx hb hr (narI _) hlocks ⟨fun _ => hP3, fun z => by rw [hb9] at z; cases z⟩ hS1 (by rw [if_pos hb9]) (Nat.le_of_ble_eq_true rfl) (Nat.le_of_ble_eq_true rfl) dL_stops_13
  · have hb9 : d.testBit sp = false := by
      revert hk0
      cases d.testBit sp <;> decide
    refine lv_iconst (v := 0) hx hb dL_stops_7 (by decide) ?_
    exact e_g hx hb hr (narI _) hlocks ⟨fun z => absurd (hb9.symm.trans z) (by decide), fun _ => hP3⟩ hS (by rw [if_neg (by rw [hb9]; decide)]) (Nat.le_of_ble_eq_true rfl) (Nat.le_of_ble_eq_true rfl) dL_stops_8
set_option maxHeartbeats 4000000 in
set_option maxRecDepth 100000 in
theorem n_pitch (l : Launch) (hl0 : l.stackTraces = false) (D : va_G) (a : Nat → Nat) (cI cL cO : ClassId) {I : Nat → Nat → Int32} {J : Nat → Nat → Int64} {h : Nat → Nat} {r k : Nat} (hG : GI I) (hJ : gJ J h) (hr6 : r < 6) (hk61 : k < 61) (sz : Nat) : Met l yL_pitch wsL_pitch ({ frames := 9, cells := 3, slots := 18, locals := 146 } : Room) (va_Pc [.ref (a 0), .int (nI r), .int (nI k)] (tB D (oty cI cL cO) (oc a cI cL cO I J) sz)) (gQ (oc a cI cL cO I J) sz (if sB I h r k = true then pws I r k - fall I h else -99993) (fun H => ∃ J2, gJ J2 h ∧ va_P D vwCl (oc a cI cL cO I J2) H)) 3 18 (tA (oc a cI cL cO I J) sz) := by
  refine va_MetW (cc := cL_pitch) (maxL := 4) (ret := some .int) (hh := [(0, 6, 7, 15)]) (by decide) rfl ?_
  intro p e s m args below meth c s₁ B hml hv
  obtain ⟨rfl, hsz, hP, hK, hD0, hES, hEH⟩ := hv
  subst hsz
  have hx := B.exec
  have hb := B.bytes
  have hr := B.returns
  have hts := atoms_spec (ws := wsL_pitch) B.pre
  have hown : s.vm.findClass RL = some m.cls := findClass_of_methodNamed B.named
  have hlocks := B.notSynchronized
  have htab := vx_table (x := yL_pitch) B (hts _ List.mem_cons_self)
  have hDA := tA_D (sz := s.heap.size) hD0
  have hA : ∀ z9 : Nat, s.heap.size ≤ z9 → tA (oc a cI cL cO I J) s.heap.size z9 := fun _ h => Or.inr h
  have hS : va_S (tA (oc a cI cL cO I J) s.heap.size) s.heap s.heap [] := va_S.rf
  have hl := lv_entry ([.ref (a 0), .int (nI r), .int (nI k)]) (n := 4) (Nat.le_of_ble_eq_true rfl)
  rw [lg_entry_eq]
  generalize (lg_sl ([.ref (a 0), .int (nI r), .int (nI k)]) ++ List.replicate (4 - (lg_sl ([.ref (a 0), .int (nI r), .int (nI k)])).length) Slot.unset).toArray = ls at hl ⊢
  have hl : lv_has ls 4 [(0, .ref (a 0)), (1, .int (nI r)), (2, .int (nI k))] := hl
  have ek : kPit I J (nI r) (nI k) = if sB I h r k = true then 0 else 2 := by
    unfold kPit
    rw [rg_ok (v := r) (n := 5) (x := 5) rfl (by omega) (by decide), rg_ok (v := k) (n := 60) (x := 60) rfl (by omega) (by decide), nI_clamp (show r < 2 ^ 31 by omega), g_snd hG hJ hr6 hk61]
    rfl
  have q := t_pitch l hl0 D a cI cL cO I J (nI r) (nI k) s.heap.size
  rw [nI_clamp (show r < 2 ^ 31 by omega), nI_clamp (show k < 2 ^ 31 by omega), ek, k_RK hr6 hk61, if_neg (show ¬ (0 : Int32) = 1 by decide), g_fall hG hJ] at q
  have hJ2 := g_J hG hJ
  refine lv_aload_n hx hb dL_pitch_0 rfl (lv_at hl 0 rfl) ?_
  refine lv_iload_n hx hb dL_pitch_1 rfl (lv_at hl 1 rfl) ?_
  refine lv_iload_n hx hb dL_pitch_2 rfl (lv_at hl 2 rfl) ?_
  refine w_tVi (As := [.int (nI r), .int (nI k)]) (rest := []) ⟨hx, hb, hml, hown, hts⟩ q (cwV 2 hts gL_pitch_X0_pitch rfl rfl rfl (by decide +kernel) ⟨Nat.le_of_ble_eq_true rfl, Nat.le_of_ble_eq_true rfl⟩) hK hP hDA hES hEH hS hA rfl rfl oc_at0 rfl hl.1 rfl (Nat.le_of_ble_eq_true rfl) dL_pitch_3 ⟨Nat.le_of_ble_eq_true rfl, Nat.le_of_ble_eq_true rfl⟩ (fun E ce q9 H1 locs1 hxk hP3 hfr hS1 g1 g2 g3 => ?_) (fun hk0 H1 locs hP3 hfr hS => ?_)
  · rcases hxk with ⟨rfl, hk9⟩ | ⟨rfl, hk9⟩
    · exfalso
      revert hk9
      cases sB I h r k <;> decide
    · have hb9 : sB I h r k = false := by
        revert hk9
        cases sB I h r k <;> decide
      refine vx_catch (name := nISE) hown [] (⟨0, 6, 7, 15⟩ : ExceptionTableEntry) [] htab (fun z hz => by cases hz) (by decide) (by decide) (hts (.classLink RL 15 nISE) (by decide +kernel)) (hES.2.2.1.use rfl) g1 g2 g3 ?_
      refine lv_astore_n (lv' := [(3, .ref q9), (0, .ref (a 0)), (1, .int (nI r)), (2, .int (nI k))]) hx hb dL_pitch_7 rfl hl (by decide) rfl (fun ls hl => ?_)
      refine lv_ldc (v := -99993) hx hb hown (hts (.constant RL 25 (-99993)) (by decide +kernel)) dL_pitch_8 ?_
      exact e_g hx hb hr (narI _) hlocks ⟨_, hJ2, hP3⟩ hS1 (by rw [if_neg (by rw [hb9]; decide)]) (Nat.le_of_ble_eq_true rfl) (Nat.le_of_ble_eq_true rfl) dL_pitch_10
  · have hb9 : sB I h r k = true := by
      revert hk0
      cases sB I h r k <;> decide
    exact e_g hx hb hr (narI _) hlocks ⟨_, hJ2, hP3⟩ hS (by rw [if_pos hb9]) (Nat.le_of_ble_eq_true rfl) (Nat.le_of_ble_eq_true rfl) dL_pitch_6
