/-! ===== counting bits, as the JDK does it; sums ===== -/
def bcL1 (x : Int64) : Int64 := x - ((x.toUInt64 >>> ((1 : Int32).toInt64.toUInt64 &&& Int64.toUInt64 63)).toInt64 &&& 6148914691236517205)
def bcL2 (x : Int64) : Int64 := (bcL1 x &&& 3689348814741910323) + (((bcL1 x).toUInt64 >>> ((2 : Int32).toInt64.toUInt64 &&& Int64.toUInt64 63)).toInt64 &&& 3689348814741910323)
def bcL3 (x : Int64) : Int64 := (bcL2 x + ((bcL2 x).toUInt64 >>> ((4 : Int32).toInt64.toUInt64 &&& Int64.toUInt64 63)).toInt64) &&& 1085102592571150095
def bcL4 (x : Int64) : Int64 := bcL3 x + ((bcL3 x).toUInt64 >>> ((8 : Int32).toInt64.toUInt64 &&& Int64.toUInt64 63)).toInt64
def bcL5 (x : Int64) : Int64 := bcL4 x + ((bcL4 x).toUInt64 >>> ((16 : Int32).toInt64.toUInt64 &&& Int64.toUInt64 63)).toInt64
def bcL6 (x : Int64) : Int64 := bcL5 x + ((bcL5 x).toUInt64 >>> ((32 : Int32).toInt64.toUInt64 &&& Int64.toUInt64 63)).toInt64
def bcL (x : Int64) : Int32 := (bcL6 x).toInt32 &&& 127
def bcI1 (x : Int32) : Int32 := x - ((x.toUInt32 >>> ((1 : Int32).toUInt32 &&& Int32.toUInt32 31)).toInt32 &&& 1431655765)
def bcI2 (x : Int32) : Int32 := (bcI1 x &&& 858993459) + (((bcI1 x).toUInt32 >>> ((2 : Int32).toUInt32 &&& Int32.toUInt32 31)).toInt32 &&& 858993459)
def bcI3 (x : Int32) : Int32 := (bcI2 x + ((bcI2 x).toUInt32 >>> ((4 : Int32).toUInt32 &&& Int32.toUInt32 31)).toInt32) &&& 252645135
def bcI4 (x : Int32) : Int32 := bcI3 x + ((bcI3 x).toUInt32 >>> ((8 : Int32).toUInt32 &&& Int32.toUInt32 31)).toInt32
def bcI5 (x : Int32) : Int32 := bcI4 x + ((bcI4 x).toUInt32 >>> ((16 : Int32).toUInt32 &&& Int32.toUInt32 31)).toInt32
def bcI (x : Int32) : Int32 := bcI5 x &&& 63
def csF (J : Nat → Nat → Int64) : Nat → Int32
  | 0 => 0
  | r + 1 => csF J r + bcL (J 2 r)
def lgJ (J : Nat → Nat → Int64) : Nat → Nat → Nat → Int64
  | 0 => J
  | i + 1 => u2L (lgJ J i) 0 i 0
def lgA (J : Nat → Nat → Int64) : Nat → Int32
  | 0 => 0
  | i + 1 => lgA J i + bcL (lgJ J i 0 i)
def loI (I : Nat → Nat → Int32) (J : Nat → Nat → Int64) (r : Nat) (acc : Bool × Int32) : Nat → Bool × Int32
  | 0 => acc
  | k + 1 => if hk (J 2 r) (nI k) = true then (true, if (loI I J r acc k).1 = true then (if pws I r k < (loI I J r acc k).2 then pws I r k else (loI I J r acc k).2) else pws I r k) else loI I J r acc k
def loO (I : Nat → Nat → Int32) (J : Nat → Nat → Int64) : Nat → Bool × Int32
  | 0 => (false, 0)
  | r + 1 => loI I J r (loO I J r) 61
def lwF (I : Nat → Nat → Int32) (J : Nat → Nat → Int64) : Int32 := if (loO I J 6).1 = true then (loO I J 6).2 - fls I J else 0
theorem loI_found {I : Nat → Nat → Int32} {J : Nat → Nat → Int64} {r k : Nat} {acc : Bool × Int32} (h : hk (J 2 r) (nI k) = true) : (1 : Int32) = bI (loI I J r acc (k + 1)).1 := by rw [loI, if_pos h]; rfl
theorem loI_first {I : Nat → Nat → Int32} {J : Nat → Nat → Int64} {r k : Nat} {acc : Bool × Int32} (h : hk (J 2 r) (nI k) = true) (h2 : (loI I J r acc k).1 = false) : pws I r k = (loI I J r acc (k + 1)).2 := by rw [loI, if_pos h]; exact (ite_f h2).symm
theorem loI_next {I : Nat → Nat → Int32} {J : Nat → Nat → Int64} {r k : Nat} {acc : Bool × Int32} (h : hk (J 2 r) (nI k) = true) (h2 : (loI I J r acc k).1 = true) : (if pws I r k < (loI I J r acc k).2 then pws I r k else (loI I J r acc k).2) = (loI I J r acc (k + 1)).2 := by rw [loI, if_pos h]; exact (ite_t h2).symm
theorem loI_skip1 {I : Nat → Nat → Int32} {J : Nat → Nat → Int64} {r k : Nat} {acc : Bool × Int32} (h : hk (J 2 r) (nI k) = false) : bI (loI I J r acc k).1 = bI (loI I J r acc (k + 1)).1 := by rw [loI, ite_f h]
theorem loI_skip2 {I : Nat → Nat → Int32} {J : Nat → Nat → Int64} {r k : Nat} {acc : Bool × Int32} (h : hk (J 2 r) (nI k) = false) : (loI I J r acc k).2 = (loI I J r acc (k + 1)).2 := by rw [loI, ite_f h]
set_option maxHeartbeats 4000000 in
set_option maxRecDepth 100000 in
theorem c_bcL (l : Launch) (x : Int64) : Met l yJ13_bitCount_95d88 wsJ13_bitCount_95d88 ({ frames := 0, cells := 0, slots := 0, locals := 0 } : Room) (va_Pc [.long x] ((fun _ => True))) (vp_Si (fun v9 => v9 = bcL x)) 0 0 (fun _ => False) := by
  refine Met.ofW (cc := cJ13_bitCount_95d88) (maxL := 2) (ret := (some .int)) (by decide) rfl ?_
  intro p e s m args below meth c s₁ B hml hv
  obtain ⟨rfl, -⟩ := hv
  have hx := B.exec
  have hb := B.bytes
  have hr := B.returns
  have hts := atoms_spec (ws := wsJ13_bitCount_95d88) B.pre
  have hown : s.vm.findClass RJ13 = some m.cls := findClass_of_methodNamed B.named
  have hlocks := B.notSynchronized
  have hl := lv_entry ([.long x]) (n := 2) (Nat.le_of_ble_eq_true rfl)
  rw [lg_entry_eq]
  generalize (lg_sl ([.long x]) ++ List.replicate (2 - (lg_sl ([.long x])).length) Slot.unset).toArray = ls at hl ⊢
  have hl : lv_has ls 2 [(0, .long x)] := hl
  refine lv_lload_n hx hb dJ13_bitCount_95d88_0 rfl (lv_at hl 0 rfl) ?_
  refine lv_lload_n hx hb dJ13_bitCount_95d88_1 rfl (lv_at hl 0 rfl) ?_
  refine lv_iconst (v := 1) hx hb dJ13_bitCount_95d88_2 (by decide) ?_
  refine lv_lushr hx hb dJ13_bitCount_95d88_3 rfl ?_
  refine lv_ldc2 (v := 6148914691236517205) hx hb hown (hts (.constantLong RJ13 314 (6148914691236517205)) (by decide +kernel)) dJ13_bitCount_95d88_4 ?_
  refine lv_land hx hb dJ13_bitCount_95d88_7 ?_
  refine lv_lsub hx hb dJ13_bitCount_95d88_8 ?_
  refine lv_asl (bcL1 x) (rfl) ?_
  refine lv_lstore_n (lv' := [(0, .long (bcL1 x))]) hx hb dJ13_bitCount_95d88_9 rfl hl (by decide) rfl (fun ls hl => ?_)
  refine lv_lload_n hx hb dJ13_bitCount_95d88_10 rfl (lv_at hl 0 rfl) ?_
  refine lv_ldc2 (v := 3689348814741910323) hx hb hown (hts (.constantLong RJ13 316 (3689348814741910323)) (by decide +kernel)) dJ13_bitCount_95d88_11 ?_
  refine lv_land hx hb dJ13_bitCount_95d88_14 ?_
  refine lv_lload_n hx hb dJ13_bitCount_95d88_15 rfl (lv_at hl 0 rfl) ?_
  refine lv_iconst (v := 2) hx hb dJ13_bitCount_95d88_16 (by decide) ?_
  refine lv_lushr hx hb dJ13_bitCount_95d88_17 rfl ?_
  refine lv_ldc2 (v := 3689348814741910323) hx hb hown (hts (.constantLong RJ13 316 (3689348814741910323)) (by decide +kernel)) dJ13_bitCount_95d88_18 ?_
  refine lv_land hx hb dJ13_bitCount_95d88_21 ?_
  refine lv_ladd hx hb dJ13_bitCount_95d88_22 ?_
  refine lv_asl (bcL2 x) (rfl) ?_
  refine lv_lstore_n (lv' := [(0, .long (bcL2 x))]) hx hb dJ13_bitCount_95d88_23 rfl hl (by decide) rfl (fun ls hl => ?_)
  refine lv_lload_n hx hb dJ13_bitCount_95d88_24 rfl (lv_at hl 0 rfl) ?_
  refine lv_lload_n hx hb dJ13_bitCount_95d88_25 rfl (lv_at hl 0 rfl) ?_
  refine lv_iconst (v := 4) hx hb dJ13_bitCount_95d88_26 (by decide) ?_
  refine lv_lushr hx hb dJ13_bitCount_95d88_27 rfl ?_
  refine lv_ladd hx hb dJ13_bitCount_95d88_28 ?_
  refine lv_ldc2 (v := 1085102592571150095) hx hb hown (hts (.constantLong RJ13 318 (1085102592571150095)) (by decide +kernel)) dJ13_bitCount_95d88_29 ?_
  refine lv_land hx hb dJ13_bitCount_95d88_32 ?_
  refine lv_asl (bcL3 x) (rfl) ?_
  refine lv_lstore_n (lv' := [(0, .long (bcL3 x))]) hx hb dJ13_bitCount_95d88_33 rfl hl (by decide) rfl (fun ls hl => ?_)
  refine lv_lload_n hx hb dJ13_bitCount_95d88_34 rfl (lv_at hl 0 rfl) ?_
  refine lv_lload_n hx hb dJ13_bitCount_95d88_35 rfl (lv_at hl 0 rfl) ?_
  refine lv_bipush (v := 8) hx hb dJ13_bitCount_95d88_36 (by decide) ?_
  refine lv_lushr hx hb dJ13_bitCount_95d88_38 rfl ?_
  refine lv_ladd hx hb dJ13_bitCount_95d88_39 ?_
  refine lv_asl (bcL4 x) (rfl) ?_
  refine lv_lstore_n (lv' := [(0, .long (bcL4 x))]) hx hb dJ13_bitCount_95d88_40 rfl hl (by decide) rfl (fun ls hl => ?_)
  refine lv_lload_n hx hb dJ13_bitCount_95d88_41 rfl (lv_at hl 0 rfl) ?_
  refine lv_lload_n hx hb dJ13_bitCount_95d88_42 rfl (lv_at hl 0 rfl) ?_
  refine lv_bipush (v := 16) hx hb dJ13_bitCount_95d88_43 (by decide) ?_
  refine lv_lushr hx hb dJ13_bitCount_95d88_45 rfl ?_
  refine lv_ladd hx hb dJ13_bitCount_95d88_46 ?_
  refine lv_asl (bcL5 x) (rfl) ?_
  refine lv_lstore_n (lv' := [(0, .long (bcL5 x))]) hx hb dJ13_bitCount_95d88_47 rfl hl (by decide) rfl (fun ls hl => ?_)
  refine lv_lload_n hx hb dJ13_bitCount_95d88_48 rfl (lv_at hl 0 rfl) ?_
  refine lv_lload_n hx hb dJ13_bitCount_95d88_49 rfl (lv_at hl 0 rfl) ?_
  refine lv_bipush (v := 32) hx hb dJ13_bitCount_95d88_50 (by decide) ?_
  refine lv_lushr hx hb dJ13_bitCount_95d88_52 rfl ?_
  refine lv_ladd hx hb dJ13_bitCount_95d88_53 ?_
  refine lv_asl (bcL6 x) (rfl) ?_
  refine lv_lstore_n (lv' := [(0, .long (bcL6 x))]) hx hb dJ13_bitCount_95d88_54 rfl hl (by decide) rfl (fun ls hl => ?_)
  refine lv_lload_n hx hb dJ13_bitCount_95d88_55 rfl (lv_at hl 0 rfl) ?_
  refine lv_l2i hx hb dJ13_bitCount_95d88_56 rfl ?_
  refine lv_bipush (v := 127) hx hb dJ13_bitCount_95d88_57 (by decide) ?_
  refine lv_iand hx hb dJ13_bitCount_95d88_59 ?_
  exact e_i hx hb hr rfl hlocks (rfl) dJ13_bitCount_95d88_60
set_option maxHeartbeats 4000000 in
set_option maxRecDepth 100000 in
theorem c_bcI (l : Launch) (x : Int32) : Met l yJ6_bitCount_0f7a4 wsJ6_bitCount_0f7a4 ({ frames := 0, cells := 0, slots := 0, locals := 0 } : Room) (va_Pc [.int x] ((fun _ => True))) (vp_Si (fun v9 => v9 = bcI x)) 0 0 (fun _ => False) := by
  refine Met.ofW (cc := cJ6_bitCount_0f7a4) (maxL := 1) (ret := (some .int)) (by decide) rfl ?_
  intro p e s m args below meth c s₁ B hml hv
  obtain ⟨rfl, -⟩ := hv
  have hx := B.exec
  have hb := B.bytes
  have hr := B.returns
  have hts := atoms_spec (ws := wsJ6_bitCount_0f7a4) B.pre
  have hown : s.vm.findClass RJ6 = some m.cls := findClass_of_methodNamed B.named
  have hlocks := B.notSynchronized
  have hl := lv_entry ([.int x]) (n := 1) (Nat.le_of_ble_eq_true rfl)
  rw [lg_entry_eq]
  generalize (lg_sl ([.int x]) ++ List.replicate (1 - (lg_sl ([.int x])).length) Slot.unset).toArray = ls at hl ⊢
  have hl : lv_has ls 1 [(0, .int x)] := hl
  refine lv_iload_n hx hb dJ6_bitCount_0f7a4_0 rfl (lv_at hl 0 rfl) ?_
  refine lv_iload_n hx hb dJ6_bitCount_0f7a4_1 rfl (lv_at hl 0 rfl) ?_
  refine lv_iconst (v := 1) hx hb dJ6_bitCount_0f7a4_2 (by decide) ?_
  refine lv_iushr hx hb dJ6_bitCount_0f7a4_3 rfl ?_
  refine lv_ldcw (v := 1431655765) hx hb hown (hts (.constant RJ6 265 (1431655765)) (by decide +kernel)) dJ6_bitCount_0f7a4_4 ?_
  refine lv_iand hx hb dJ6_bitCount_0f7a4_7 ?_
  refine lv_isub hx hb dJ6_bitCount_0f7a4_8 ?_
  refine lv_asi (bcI1 x) (rfl) ?_
  refine lv_istore_n (lv' := [(0, .int (bcI1 x))]) hx hb dJ6_bitCount_0f7a4_9 rfl hl (by decide) rfl (fun ls hl => ?_)
  refine lv_iload_n hx hb dJ6_bitCount_0f7a4_10 rfl (lv_at hl 0 rfl) ?_
  refine lv_ldcw (v := 858993459) hx hb hown (hts (.constant RJ6 266 (858993459)) (by decide +kernel)) dJ6_bitCount_0f7a4_11 ?_
  refine lv_iand hx hb dJ6_bitCount_0f7a4_14 ?_
  refine lv_iload_n hx hb dJ6_bitCount_0f7a4_15 rfl (lv_at hl 0 rfl) ?_
  refine lv_iconst (v := 2) hx hb dJ6_bitCount_0f7a4_16 (by decide) ?_
  refine lv_iushr hx hb dJ6_bitCount_0f7a4_17 rfl ?_
  refine lv_ldcw (v := 858993459) hx hb hown (hts (.constant RJ6 266 (858993459)) (by decide +kernel)) dJ6_bitCount_0f7a4_18 ?_
  refine lv_iand hx hb dJ6_bitCount_0f7a4_21 ?_
  refine lv_iadd hx hb dJ6_bitCount_0f7a4_22 ?_
  refine lv_asi (bcI2 x) (rfl) ?_
  refine lv_istore_n (lv' := [(0, .int (bcI2 x))]) hx hb dJ6_bitCount_0f7a4_23 rfl hl (by decide) rfl (fun ls hl => ?_)
  refine lv_iload_n hx hb dJ6_bitCount_0f7a4_24 rfl (lv_at hl 0 rfl) ?_
  refine lv_iload_n hx hb dJ6_bitCount_0f7a4_25 rfl (lv_at hl 0 rfl) ?_
  refine lv_iconst (v := 4) hx hb dJ6_bitCount_0f7a4_26 (by decide) ?_
  refine lv_iushr hx hb dJ6_bitCount_0f7a4_27 rfl ?_
  refine lv_iadd hx hb dJ6_bitCount_0f7a4_28 ?_
  refine lv_ldcw (v := 252645135) hx hb hown (hts (.constant RJ6 267 (252645135)) (by decide +kernel)) dJ6_bitCount_0f7a4_29 ?_
  refine lv_iand hx hb dJ6_bitCount_0f7a4_32 ?_
  refine lv_asi (bcI3 x) (rfl) ?_
  refine lv_istore_n (lv' := [(0, .int (bcI3 x))]) hx hb dJ6_bitCount_0f7a4_33 rfl hl (by decide) rfl (fun ls hl => ?_)
  refine lv_iload_n hx hb dJ6_bitCount_0f7a4_34 rfl (lv_at hl 0 rfl) ?_
  refine lv_iload_n hx hb dJ6_bitCount_0f7a4_35 rfl (lv_at hl 0 rfl) ?_
  refine lv_bipush (v := 8) hx hb dJ6_bitCount_0f7a4_36 (by decide) ?_
  refine lv_iushr hx hb dJ6_bitCount_0f7a4_38 rfl ?_
  refine lv_iadd hx hb dJ6_bitCount_0f7a4_39 ?_
  refine lv_asi (bcI4 x) (rfl) ?_
  refine lv_istore_n (lv' := [(0, .int (bcI4 x))]) hx hb dJ6_bitCount_0f7a4_40 rfl hl (by decide) rfl (fun ls hl => ?_)
  refine lv_iload_n hx hb dJ6_bitCount_0f7a4_41 rfl (lv_at hl 0 rfl) ?_
  refine lv_iload_n hx hb dJ6_bitCount_0f7a4_42 rfl (lv_at hl 0 rfl) ?_
  refine lv_bipush (v := 16) hx hb dJ6_bitCount_0f7a4_43 (by decide) ?_
  refine lv_iushr hx hb dJ6_bitCount_0f7a4_45 rfl ?_
  refine lv_iadd hx hb dJ6_bitCount_0f7a4_46 ?_
  refine lv_asi (bcI5 x) (rfl) ?_
  refine lv_istore_n (lv' := [(0, .int (bcI5 x))]) hx hb dJ6_bitCount_0f7a4_47 rfl hl (by decide) rfl (fun ls hl => ?_)
  refine lv_iload_n hx hb dJ6_bitCount_0f7a4_48 rfl (lv_at hl 0 rfl) ?_
  refine lv_bipush (v := 63) hx hb dJ6_bitCount_0f7a4_49 (by decide) ?_
  refine lv_iand hx hb dJ6_bitCount_0f7a4_51 ?_
  exact e_i hx hb hr rfl hlocks (rfl) dJ6_bitCount_0f7a4_52
set_option maxHeartbeats 4000000 in
set_option maxRecDepth 100000 in
theorem c_countSounding (l : Launch) (D : va_G) (a : Nat → Nat) (cI cL cO : ClassId) (I : Nat → Nat → Int32) (J : Nat → Nat → Int64) : Met l yX0_countSounding wsX0_countSounding ({ frames := 1, cells := 0, slots := 0, locals := 21 } : Room) (va_Pc [.ref (a 0)] (oB D (oty cI cL cO) (oc a cI cL cO I J))) (vp_Si (fun v9 => v9 = csF J 6)) 0 0 (fun _ => False) := by
  refine Met.ofW (cc := cX0_countSounding) (maxL := 3) (ret := (some .int)) (by decide) rfl ?_
  intro p e s m args below meth c s₁ B hml hv
  obtain ⟨rfl, hP, hK⟩ := hv
  have hx := B.exec
  have hb := B.bytes
  have hr := B.returns
  have hts := atoms_spec (ws := wsX0_countSounding) B.pre
  have hown : s.vm.findClass RX0 = some m.cls := findClass_of_methodNamed B.named
  have hlocks := B.notSynchronized
  have hin0 : ∀ w ∈ u_ws RX0 TX0 15, w ∈ wsX0_countSounding := by decide +kernel
  have hl := lv_entry ([.ref (a 0)]) (n := 3) (Nat.le_of_ble_eq_true rfl)
  rw [lg_entry_eq]
  generalize (lg_sl ([.ref (a 0)]) ++ List.replicate (3 - (lg_sl ([.ref (a 0)])).length) Slot.unset).toArray = ls at hl ⊢
  have hl : lv_has ls 3 [(0, .ref (a 0))] := hl
  refine lv_iconst (v := 0) hx hb dX0_countSounding_0 (by decide) ?_
  refine lv_istore_n (lv' := [(1, .int 0), (0, .ref (a 0))]) hx hb dX0_countSounding_1 rfl hl (by decide) rfl (fun ls hl => ?_)
  refine lv_iconst (v := 0) hx hb dX0_countSounding_2 (by decide) ?_
  refine lv_istore_n (lv' := [(2, .int 0), (1, .int 0), (0, .ref (a 0))]) hx hb dX0_countSounding_3 rfl hl (by decide) rfl (fun ls hl => ?_)
  refine W_loop (σ := Unit) 0 6 4 (fun r _ ls => lv_has ls 3 [(0, .ref (a 0)), (1, .int (csF J r)), (2, .int (nI r))]) (fun r _ ls g_r h_r hl ih_r => ?_) () (by decide) (lv_sub hl [2, 1, 0] rfl)
  refine lv_iload_n hx hb dX0_countSounding_4 rfl (lv_at hl 2 rfl) ?_
  refine lv_bipush (v := 6) hx hb dX0_countSounding_5 (by decide) ?_
  refine lo_ge (n := 6) (tgt := 28) hx hb rfl (by decide) (by omega) dX0_countSounding_7 (by decide) (fun c_7 => ?_) (fun c_7 => ?_)
  · refine lv_iload_n hx hb dX0_countSounding_28 rfl (lv_at hl 1 rfl) ?_
    exact e_i hx hb hr rfl hlocks (by rw [show r = 6 by omega]) dX0_countSounding_29
  · refine lv_iload_n hx hb dX0_countSounding_10 rfl (lv_at hl 1 rfl) ?_
    refine lv_aload_n hx hb dX0_countSounding_11 rfl (lv_at hl 0 rfl) ?_
    refine o_get (v := .ref (a 13)) hx hb hts hin0 hown hK hP oc_at0 14 (by decide) (hts (.fieldLink RX0 49 "OrganBuilder" "soundingKeys" "[J") (by decide +kernel)) rfl dX0_countSounding_12 ?_
    refine lv_iload_n hx hb dX0_countSounding_15 rfl (lv_at hl 2 rfl) ?_
    refine w_lld hx hb hK hP rfl oc_at13 (by omega) (by decide) dX0_countSounding_16 ?_
    refine w_pS (As := [.long (J 2 r)]) (rest := [.int (csF J r)]) ⟨hx, hb, hml, hown, hts⟩ (c_bcL l (J 2 r)) (va_cwS 1 hts gX0_countSounding_J13_bitCount_95d88 rfl rfl rfl (by decide +kernel) ⟨Nat.le_of_ble_eq_true rfl, Nat.le_of_ble_eq_true rfl⟩) rfl hl.1 rfl (Nat.le_of_ble_eq_true rfl) dX0_countSounding_17 ⟨Nat.le_of_ble_eq_true rfl, Nat.le_of_ble_eq_true rfl⟩ ?_
    refine lv_iadd hx hb dX0_countSounding_20 ?_
    refine lv_asi (csF J (r + 1)) (rfl) ?_
    refine lv_istore_n (lv' := [(1, .int (csF J (r + 1))), (0, .ref (a 0)), (2, .int (nI r))]) hx hb dX0_countSounding_21 rfl hl (by decide) rfl (fun ls hl => ?_)
    refine lv_iinc (v := (nI (r + 1))) (lv' := [(2, .int (nI (r + 1))), (1, .int (csF J (r + 1))), (0, .ref (a 0))]) hx hb dX0_countSounding_22 hl (k := 2) rfl (nI_inc _) (by decide) rfl (fun ls hl => ?_)
    refine lv_goto (tgt := 4) hx hb dX0_countSounding_25 (by decide) ?_
    exact ih_r () ls (by omega) (lv_sub hl [2, 1, 0] rfl)
set_option maxHeartbeats 4000000 in
set_option maxRecDepth 100000 in
theorem c_followCouplers (l : Launch) (D : va_G) (a : Nat → Nat) (cI cL cO : ClassId) (I : Nat → Nat → Int32) (J : Nat → Nat → Int64) : Met l yX0_followCouplers wsX0_followCouplers ({ frames := 1, cells := 0, slots := 0, locals := 22 } : Room) (va_Pc [.ref (a 0)] (mB D (oty cI cL cO) (oc a cI cL cO I J))) (mQv D (oc a cI cL cO I J) (oc a cI cL cO I (fcO I J 3))) 0 0 (wA (oc a cI cL cO I J)) := by
  refine Met.ofW (cc := cX0_followCouplers) (maxL := 3) (ret := none) (by decide) rfl ?_
  intro p e s m args below meth c s₁ B hml hv
  obtain ⟨rfl, hP, hK, hD0⟩ := hv
  have hx := B.exec
  have hb := B.bytes
  have hr := B.returns
  have hts := atoms_spec (ws := wsX0_followCouplers) B.pre
  have hown : s.vm.findClass RX0 = some m.cls := findClass_of_methodNamed B.named
  have hlocks := B.notSynchronized
  have hin0 : ∀ w ∈ u_ws RX0 TX0 15, w ∈ wsX0_followCouplers := by decide +kernel
  have hD := oc_D (wA_D hD0)
  have hS : va_S (wA (oc a cI cL cO I J)) s.heap s.heap [] := va_S.rf
  have hl := lv_entry ([.ref (a 0)]) (n := 3) (Nat.le_of_ble_eq_true rfl)
  rw [lg_entry_eq]
  generalize (lg_sl ([.ref (a 0)]) ++ List.replicate (3 - (lg_sl ([.ref (a 0)])).length) Slot.unset).toArray = ls at hl ⊢
  have hl : lv_has ls 3 [(0, .ref (a 0))] := hl
  refine lv_iconst (v := 0) hx hb dX0_followCouplers_0 (by decide) ?_
  refine lv_istore_n (lv' := [(1, .int 0), (0, .ref (a 0))]) hx hb dX0_followCouplers_1 rfl hl (by decide) rfl (fun ls hl => ?_)
  refine W_loopH (σ := Unit) 0 3 2 (fun f _ H locs ls => va_P D vwCl (oc a cI cL cO I (fcO I J f)) H ∧ va_S (wA (oc a cI cL cO I J)) s.heap H locs ∧ lv_has ls 3 [(0, .ref (a 0)), (1, .int (nI f))]) (fun f _ H locs ls g_f h_f hI_f ih_f => ?_) () (by decide) ⟨hP, hS, lv_sub hl [1, 0] rfl⟩
  obtain ⟨hP, hS, hl⟩ := hI_f
  refine lv_iload_n hx hb dX0_followCouplers_2 rfl (lv_at hl 1 rfl) ?_
  refine lv_iconst (v := 3) hx hb dX0_followCouplers_3 (by decide) ?_
  refine lo_ge (n := 3) (tgt := 61) hx hb rfl (by decide) (by omega) dX0_followCouplers_4 (by decide) (fun c_4 => ?_) (fun c_4 => ?_)
  · obtain rfl : f = 3 := by omega
    exact e_mv hx hb hr hlocks hP hS (rfl) dX0_followCouplers_61
  · refine lv_iconst (v := 0) hx hb dX0_followCouplers_7 (by decide) ?_
    refine lv_istore_n (lv' := [(2, .int 0), (0, .ref (a 0)), (1, .int (nI f))]) hx hb dX0_followCouplers_8 rfl hl (by decide) rfl (fun ls hl => ?_)
    refine W_loopH (σ := Unit) 0 3 9 (fun t _ H locs ls => va_P D vwCl (oc a cI cL cO I (fcI I f (fcO I J f) t)) H ∧ va_S (wA (oc a cI cL cO I J)) s.heap H locs ∧ lv_has ls 3 [(0, .ref (a 0)), (1, .int (nI f)), (2, .int (nI t))]) (fun t _ H locs ls g_t h_t hI_t ih_t => ?_) () (by decide) ⟨hP, hS, lv_sub hl [1, 2, 0] rfl⟩
    obtain ⟨hP, hS, hl⟩ := hI_t
    refine lv_iload_n hx hb dX0_followCouplers_9 rfl (lv_at hl 2 rfl) ?_
    refine lv_iconst (v := 3) hx hb dX0_followCouplers_10 (by decide) ?_
    refine lo_ge (n := 3) (tgt := 55) hx hb rfl (by decide) (by omega) dX0_followCouplers_11 (by decide) (fun c_11 => ?_) (fun c_11 => ?_)
    · obtain rfl : t = 3 := by omega
      have hP : va_P D vwCl (oc a cI cL cO I (fcO I J (f + 1))) H := hP
      refine lv_iinc (v := (nI (f + 1))) (lv' := [(1, .int (nI (f + 1))), (0, .ref (a 0)), (2, .int (nI 3))]) hx hb dX0_followCouplers_55 hl (k := 1) rfl (nI_inc _) (by decide) rfl (fun ls hl => ?_)
      refine lv_goto (tgt := 2) hx hb dX0_followCouplers_58 (by decide) ?_
      exact ih_f () H locs ls (by omega) ⟨hP, hS, lv_sub hl [1, 0] rfl⟩
    · refine lv_aload_n hx hb dX0_followCouplers_14 rfl (lv_at hl 0 rfl) ?_
      refine lv_iload_n hx hb dX0_followCouplers_15 rfl (lv_at hl 1 rfl) ?_
      refine lv_iload_n hx hb dX0_followCouplers_16 rfl (lv_at hl 2 rfl) ?_
      refine w_pV (As := [.int (nI f), .int (nI t)]) (rest := []) ⟨hx, hb, hml, hown, hts⟩ (c_isCoupled l D a cI cL cO I (fcI I f (fcO I J f) t) f t (by omega) (by omega)) (cwV 2 hts gX0_followCouplers_X0_isCoupled rfl rfl rfl (by decide +kernel) ⟨Nat.le_of_ble_eq_true rfl, Nat.le_of_ble_eq_true rfl⟩) hK hP rfl rfl oc_at0 rfl hl.1 rfl (Nat.le_of_ble_eq_true rfl) dX0_followCouplers_17 ⟨Nat.le_of_ble_eq_true rfl, Nat.le_of_ble_eq_true rfl⟩ ?_
      refine lv_if_eq (tgt := 49) hx hb dX0_followCouplers_20 (by decide) (fun c_20 => ?_) (fun c_20 => ?_)
      · have hP : va_P D vwCl (oc a cI cL cO I (fcI I f (fcO I J f) (t + 1))) H := by rw [show (fcI I f (fcO I J f) (t + 1)) = (fcI I f (fcO I J f) t) from ite_f (bI_eq0 c_20)]; exact hP
        refine lv_iinc (v := (nI (t + 1))) (lv' := [(2, .int (nI (t + 1))), (0, .ref (a 0)), (1, .int (nI f))]) hx hb dX0_followCouplers_49 hl (k := 2) rfl (nI_inc _) (by decide) rfl (fun ls hl => ?_)
        refine lv_goto (tgt := 9) hx hb dX0_followCouplers_52 (by decide) ?_
        exact ih_t () H locs ls (by omega) ⟨hP, hS, lv_sub hl [1, 2, 0] rfl⟩
      · refine lv_aload_n hx hb dX0_followCouplers_23 rfl (lv_at hl 0 rfl) ?_
        refine o_get (v := .ref (a 12)) hx hb hts hin0 hown hK hP oc_at0 13 (by decide) (hts (.fieldLink RX0 46 "OrganBuilder" "reachedKeys" "[J") (by decide +kernel)) rfl dX0_followCouplers_24 ?_
        refine lv_iload_n hx hb dX0_followCouplers_27 rfl (lv_at hl 2 rfl) ?_
        refine lv_dup2_11 hx hb dX0_followCouplers_28 rfl rfl ?_
        refine w_lld hx hb hK hP rfl oc_at12 (by omega) (by decide) dX0_followCouplers_29 ?_
        refine lv_aload_n hx hb dX0_followCouplers_30 rfl (lv_at hl 0 rfl) ?_
        refine o_get (v := .ref (a 12)) hx hb hts hin0 hown hK hP oc_at0 13 (by decide) (hts (.fieldLink RX0 46 "OrganBuilder" "reachedKeys" "[J") (by decide +kernel)) rfl dX0_followCouplers_31 ?_
        refine lv_iload_n hx hb dX0_followCouplers_34 rfl (lv_at hl 1 rfl) ?_
        refine w_lld hx hb hK hP rfl oc_at12 (by omega) (by decide) dX0_followCouplers_35 ?_
        refine lv_aload_n hx hb dX0_followCouplers_36 rfl (lv_at hl 0 rfl) ?_
        refine o_get (v := .ref (a 8)) hx hb hts hin0 hown hK hP oc_at0 8 (by decide) (hts (.fieldLink RX0 33 "OrganBuilder" "shifts" "[[I") (by decide +kernel)) rfl dX0_followCouplers_37 ?_
        refine lv_iload_n hx hb dX0_followCouplers_40 rfl (lv_at hl 1 rfl) ?_
        refine w_qld hx hb hK hP rfl oc_at8 (by omega) (by decide) dX0_followCouplers_41 ?_
        refine lv_iload_n hx hb dX0_followCouplers_42 rfl (lv_at hl 2 rfl) ?_
        refine w_ild hx hb hK hP rfl (oc_ats (r := f) (by omega)) (by omega) (by decide) dX0_followCouplers_43 ?_
        refine w_pSl (As := [.long ((fcI I f (fcO I J f) t) 1 f), .int (I (20 + f) t)]) (rest := [.long ((fcI I f (fcO I J f) t) 1 t), .int (nI t), .ref (a 12)]) ⟨hx, hb, hml, hown, hts⟩ (c_shifted l ((fcI I f (fcO I J f) t) 1 f) (I (20 + f) t)) (va_cwS 2 hts gX0_followCouplers_X0_shifted rfl rfl rfl (by decide +kernel) ⟨Nat.le_of_ble_eq_true rfl, Nat.le_of_ble_eq_true rfl⟩) rfl hl.1 rfl (Nat.le_of_ble_eq_true rfl) dX0_followCouplers_44 ⟨Nat.le_of_ble_eq_true rfl, Nat.le_of_ble_eq_true rfl⟩ ?_
        refine lv_lor hx hb dX0_followCouplers_47 ?_
        refine w_lst hx hb hK hP (hD _ _) hS rfl oc_at12 (oc_set12 t (((fcI I f (fcO I J f) t) 1 t) ||| (shf ((fcI I f (fcO I J f) t) 1 f) (I (20 + f) t)))) (by omega) (by decide) dX0_followCouplers_48 (fun H locs hP hS => ?_)
        have hP : va_P D vwCl (oc a cI cL cO I (fcI I f (fcO I J f) (t + 1))) H := by rw [show (fcI I f (fcO I J f) (t + 1)) = (u2L (fcI I f (fcO I J f) t) 1 t (((fcI I f (fcO I J f) t) 1 t) ||| (shf ((fcI I f (fcO I J f) t) 1 f) (I (20 + f) t)))) from ite_t (bI_ne0 c_20)]; exact hP
        refine lv_iinc (v := (nI (t + 1))) (lv' := [(2, .int (nI (t + 1))), (0, .ref (a 0)), (1, .int (nI f))]) hx hb dX0_followCouplers_49 hl (k := 2) rfl (nI_inc _) (by decide) rfl (fun ls hl => ?_)
        refine lv_goto (tgt := 9) hx hb dX0_followCouplers_52 (by decide) ?_
        exact ih_t () H locs ls (by omega) ⟨hP, hS, lv_sub hl [1, 2, 0] rfl⟩
set_option maxHeartbeats 4000000 in
set_option maxRecDepth 100000 in
theorem c_findReached (l : Launch) (D : va_G) (a : Nat → Nat) (cI cL cO : ClassId) (I : Nat → Nat → Int32) (J : Nat → Nat → Int64) (mn : Nat) (hmn : mn < 3) (x : Int64) : Met l yX0_findReached wsX0_findReached ({ frames := 2, cells := 0, slots := 0, locals := 44 } : Room) (va_Pc [.ref (a 0), .int (nI mn), .long x] (mB D (oty cI cL cO) (oc a cI cL cO I J))) (mQv D (oc a cI cL cO I J) (oc a cI cL cO I (frD I J mn x))) 0 0 (wA (oc a cI cL cO I J)) := by
  refine Met.ofW (cc := cX0_findReached) (maxL := 5) (ret := none) (by decide) rfl ?_
  intro p e s m args below meth c s₁ B hml hv
  obtain ⟨rfl, hP, hK, hD0⟩ := hv
  have hx := B.exec
  have hb := B.bytes
  have hr := B.returns
  have hts := atoms_spec (ws := wsX0_findReached) B.pre
  have hown : s.vm.findClass RX0 = some m.cls := findClass_of_methodNamed B.named
  have hlocks := B.notSynchronized
  have hin0 : ∀ w ∈ u_ws RX0 TX0 15, w ∈ wsX0_findReached := by decide +kernel
  have hD := oc_D (wA_D hD0)
  have hS : va_S (wA (oc a cI cL cO I J)) s.heap s.heap [] := va_S.rf
  have hl := lv_entry ([.ref (a 0), .int (nI mn), .long x]) (n := 5) (Nat.le_of_ble_eq_true rfl)
  rw [lg_entry_eq]
  generalize (lg_sl ([.ref (a 0), .int (nI mn), .long x]) ++ List.replicate (5 - (lg_sl ([.ref (a 0), .int (nI mn), .long x])).length) Slot.unset).toArray = ls at hl ⊢
  have hl : lv_has ls 5 [(0, .ref (a 0)), (1, .int (nI mn)), (2, .long x)] := hl
  refine lv_iconst (v := 0) hx hb dX0_findReached_0 (by decide) ?_
  refine lv_istore (lv' := [(4, .int 0), (0, .ref (a 0)), (1, .int (nI mn)), (2, .long x)]) hx hb dX0_findReached_1 hl (by decide) rfl (fun ls hl => ?_)
  refine W_loopH (σ := Unit) 0 3 3 (fun i _ H locs ls => va_P D vwCl (oc a cI cL cO I (frA J i)) H ∧ va_S (wA (oc a cI cL cO I J)) s.heap H locs ∧ lv_has ls 5 [(0, .ref (a 0)), (1, .int (nI mn)), (2, .long x), (4, .int (nI i))]) (fun i _ H locs ls g_i h_i hI_i ih_i => ?_) () (by decide) ⟨hP, hS, lv_sub hl [1, 2, 3, 0] rfl⟩
  obtain ⟨hP, hS, hl⟩ := hI_i
  refine lv_iload hx hb dX0_findReached_3 (lv_at hl 3 rfl) ?_
  refine lv_iconst (v := 3) hx hb dX0_findReached_5 (by decide) ?_
  refine lo_ge (n := 3) (tgt := 29) hx hb rfl (by decide) (by omega) dX0_findReached_6 (by decide) (fun c_6 => ?_) (fun c_6 => ?_)
  · obtain rfl : i = 3 := by omega
    refine lv_aload_n hx hb dX0_findReached_29 rfl (lv_at hl 0 rfl) ?_
    refine o_get (v := .ref (a 12)) hx hb hts hin0 hown hK hP oc_at0 13 (by decide) (hts (.fieldLink RX0 46 "OrganBuilder" "reachedKeys" "[J") (by decide +kernel)) rfl dX0_findReached_30 ?_
    refine lv_iload_n hx hb dX0_findReached_33 rfl (lv_at hl 1 rfl) ?_
    refine lv_dup2_11 hx hb dX0_findReached_34 rfl rfl ?_
    refine w_lld hx hb hK hP rfl oc_at12 (by omega) (by decide) dX0_findReached_35 ?_
    refine lv_lload_n hx hb dX0_findReached_36 rfl (lv_at hl 2 rfl) ?_
    refine lv_lor hx hb dX0_findReached_37 ?_
    refine w_lst hx hb hK hP (hD _ _) hS rfl oc_at12 (oc_set12 mn (((frA J 3) 1 mn) ||| x)) (by omega) (by decide) dX0_findReached_38 (fun H locs hP hS => ?_)
    have hP : va_P D vwCl (oc a cI cL cO I (frB J mn x)) H := hP
    refine lv_iconst (v := 1) hx hb dX0_findReached_39 (by decide) ?_
    refine lv_istore (lv' := [(4, .int 1), (0, .ref (a 0)), (1, .int (nI mn)), (2, .long x)]) hx hb dX0_findReached_40 hl (by decide) rfl (fun ls hl => ?_)
    refine W_loopH (σ := Unit) 1 3 42 (fun q _ H locs ls => va_P D vwCl (oc a cI cL cO I (frC I (frB J mn x) (q - 1))) H ∧ va_S (wA (oc a cI cL cO I J)) s.heap H locs ∧ lv_has ls 5 [(0, .ref (a 0)), (1, .int (nI mn)), (2, .long x), (4, .int (nI q))]) (fun q _ H locs ls g_q h_q hI_q ih_q => ?_) () (by decide) ⟨hP, hS, lv_sub hl [1, 2, 3, 0] rfl⟩
    obtain ⟨hP, hS, hl⟩ := hI_q
    refine lv_iload hx hb dX0_findReached_42 (lv_at hl 3 rfl) ?_
    refine lv_iconst (v := 3) hx hb dX0_findReached_44 (by decide) ?_
    refine lo_ge (n := 3) (tgt := 58) hx hb rfl (by decide) (by omega) dX0_findReached_45 (by decide) (fun c_45 => ?_) (fun c_45 => ?_)
    · obtain rfl : q = 3 := by omega
      exact e_mv hx hb hr hlocks hP hS (rfl) dX0_findReached_58
    · refine lv_aload_n hx hb dX0_findReached_48 rfl (lv_at hl 0 rfl) ?_
      refine w_mVv (As := []) (rest := []) ⟨hx, hb, hml, hown, hts⟩ (c_followCouplers l D a cI cL cO I (frC I (frB J mn x) (q - 1))) (cwV 0 hts gX0_findReached_X0_followCouplers rfl rfl rfl (by decide +kernel) ⟨Nat.le_of_ble_eq_true rfl, Nat.le_of_ble_eq_true rfl⟩) hK hP (hD _ _) hS rfl rfl oc_at0 rfl hl.1 rfl (Nat.le_of_ble_eq_true rfl) dX0_findReached_49 ⟨Nat.le_of_ble_eq_true rfl, Nat.le_of_ble_eq_true rfl⟩ (fun H locs hP hS => ?_)
      have hP : va_P D vwCl (oc a cI cL cO I (frC I (frB J mn x) (q + 1 - 1))) H := by rw [show frC I (frB J mn x) (q + 1 - 1) = fcO I (frC I (frB J mn x) (q - 1)) 3 by rw [show q + 1 - 1 = (q - 1) + 1 by omega]; rfl]; exact hP
      refine lv_iinc (v := (nI (q + 1))) (lv' := [(4, .int (nI (q + 1))), (0, .ref (a 0)), (1, .int (nI mn)), (2, .long x)]) hx hb dX0_findReached_52 hl (k := 3) rfl (nI_inc _) (by decide) rfl (fun ls hl => ?_)
      refine lv_goto (tgt := 42) hx hb dX0_findReached_55 (by decide) ?_
      exact ih_q () H locs ls (by omega) ⟨hP, hS, lv_sub hl [1, 2, 3, 0] rfl⟩
  · refine lv_aload_n hx hb dX0_findReached_9 rfl (lv_at hl 0 rfl) ?_
    refine o_get (v := .ref (a 12)) hx hb hts hin0 hown hK hP oc_at0 13 (by decide) (hts (.fieldLink RX0 46 "OrganBuilder" "reachedKeys" "[J") (by decide +kernel)) rfl dX0_findReached_10 ?_
    refine lv_iload hx hb dX0_findReached_13 (lv_at hl 3 rfl) ?_
    refine lv_aload_n hx hb dX0_findReached_15 rfl (lv_at hl 0 rfl) ?_
    refine o_get (v := .ref (a 9)) hx hb hts hin0 hown hK hP oc_at0 9 (by decide) (hts (.fieldLink RX0 36 "OrganBuilder" "heldKeys" "[J") (by decide +kernel)) rfl dX0_findReached_16 ?_
    refine lv_iload hx hb dX0_findReached_19 (lv_at hl 3 rfl) ?_
    refine w_lld hx hb hK hP rfl oc_at9 (by omega) (by decide) dX0_findReached_21 ?_
    refine w_lst hx hb hK hP (hD _ _) hS rfl oc_at12 (oc_set12 i ((frA J i) 0 i)) (by omega) (by decide) dX0_findReached_22 (fun H locs hP hS => ?_)
    have hP : va_P D vwCl (oc a cI cL cO I (frA J (i + 1))) H := hP
    refine lv_iinc (v := (nI (i + 1))) (lv' := [(4, .int (nI (i + 1))), (0, .ref (a 0)), (1, .int (nI mn)), (2, .long x)]) hx hb dX0_findReached_23 hl (k := 3) rfl (nI_inc _) (by decide) rfl (fun ls hl => ?_)
    refine lv_goto (tgt := 3) hx hb dX0_findReached_26 (by decide) ?_
    exact ih_i () H locs ls (by omega) ⟨hP, hS, lv_sub hl [1, 2, 3, 0] rfl⟩
set_option maxHeartbeats 4000000 in
set_option maxRecDepth 100000 in
theorem c_findSoundingWith (l : Launch) (D : va_G) (a : Nat → Nat) (cI cL cO : ClassId) (I : Nat → Nat → Int32) (J : Nat → Nat → Int64) (mn : Nat) (hmn : mn < 3) (x : Int64) : Met l yX0_findSoundingWith wsX0_findSoundingWith ({ frames := 3, cells := 0, slots := 0, locals := 68 } : Room) (va_Pc [.ref (a 0), .int (nI mn), .long x] (mB D (oty cI cL cO) (oc a cI cL cO I J))) (mQv D (oc a cI cL cO I J) (oc a cI cL cO I (fsW I J mn x))) 0 0 (wA (oc a cI cL cO I J)) := by
  refine Met.ofW (cc := cX0_findSoundingWith) (maxL := 5) (ret := none) (by decide) rfl ?_
  intro p e s m args below meth c s₁ B hml hv
  obtain ⟨rfl, hP, hK, hD0⟩ := hv
  have hx := B.exec
  have hb := B.bytes
  have hr := B.returns
  have hts := atoms_spec (ws := wsX0_findSoundingWith) B.pre
  have hown : s.vm.findClass RX0 = some m.cls := findClass_of_methodNamed B.named
  have hlocks := B.notSynchronized
  have hin0 : ∀ w ∈ u_ws RX0 TX0 15, w ∈ wsX0_findSoundingWith := by decide +kernel
  have hD := oc_D (wA_D hD0)
  have hS : va_S (wA (oc a cI cL cO I J)) s.heap s.heap [] := va_S.rf
  have hl := lv_entry ([.ref (a 0), .int (nI mn), .long x]) (n := 5) (Nat.le_of_ble_eq_true rfl)
  rw [lg_entry_eq]
  generalize (lg_sl ([.ref (a 0), .int (nI mn), .long x]) ++ List.replicate (5 - (lg_sl ([.ref (a 0), .int (nI mn), .long x])).length) Slot.unset).toArray = ls at hl ⊢
  have hl : lv_has ls 5 [(0, .ref (a 0)), (1, .int (nI mn)), (2, .long x)] := hl
  refine lv_aload_n hx hb dX0_findSoundingWith_0 rfl (lv_at hl 0 rfl) ?_
  refine lv_iload_n hx hb dX0_findSoundingWith_1 rfl (lv_at hl 1 rfl) ?_
  refine lv_lload_n hx hb dX0_findSoundingWith_2 rfl (lv_at hl 2 rfl) ?_
  refine w_mVv (As := [.int (nI mn), .long x]) (rest := []) ⟨hx, hb, hml, hown, hts⟩ (c_findReached l D a cI cL cO I J mn (by omega) x) (cwV 2 hts gX0_findSoundingWith_X0_findReached rfl rfl rfl (by decide +kernel) ⟨Nat.le_of_ble_eq_true rfl, Nat.le_of_ble_eq_true rfl⟩) hK hP (hD _ _) hS rfl rfl oc_at0 rfl hl.1 rfl (Nat.le_of_ble_eq_true rfl) dX0_findSoundingWith_3 ⟨Nat.le_of_ble_eq_true rfl, Nat.le_of_ble_eq_true rfl⟩ (fun H locs hP hS => ?_)
  refine lv_iconst (v := 0) hx hb dX0_findSoundingWith_6 (by decide) ?_
  refine lv_istore (lv' := [(4, .int 0), (0, .ref (a 0)), (1, .int (nI mn)), (2, .long x)]) hx hb dX0_findSoundingWith_7 hl (by decide) rfl (fun ls hl => ?_)
  refine W_loopH (σ := Unit) 0 6 9 (fun r _ H locs ls => va_P D vwCl (oc a cI cL cO I (fsA I (frD I J mn x) r)) H ∧ va_S (wA (oc a cI cL cO I J)) s.heap H locs ∧ lv_has ls 5 [(0, .ref (a 0)), (1, .int (nI mn)), (2, .long x), (4, .int (nI r))]) (fun r _ H locs ls g_r h_r hI_r ih_r => ?_) () (by decide) ⟨hP, hS, lv_sub hl [1, 2, 3, 0] rfl⟩
  obtain ⟨hP, hS, hl⟩ := hI_r
  refine lv_iload hx hb dX0_findSoundingWith_9 (lv_at hl 3 rfl) ?_
  refine lv_bipush (v := 6) hx hb dX0_findSoundingWith_11 (by decide) ?_
  refine lo_ge (n := 6) (tgt := 46) hx hb rfl (by decide) (by omega) dX0_findSoundingWith_13 (by decide) (fun c_13 => ?_) (fun c_13 => ?_)
  · obtain rfl : r = 6 := by omega
    exact e_mv hx hb hr hlocks hP hS (rfl) dX0_findSoundingWith_46
  · refine lv_aload_n hx hb dX0_findSoundingWith_16 rfl (lv_at hl 0 rfl) ?_
    refine o_get (v := .ref (a 13)) hx hb hts hin0 hown hK hP oc_at0 14 (by decide) (hts (.fieldLink RX0 49 "OrganBuilder" "soundingKeys" "[J") (by decide +kernel)) rfl dX0_findSoundingWith_17 ?_
    refine lv_iload hx hb dX0_findSoundingWith_20 (lv_at hl 3 rfl) ?_
    refine lv_aload_n hx hb dX0_findSoundingWith_22 rfl (lv_at hl 0 rfl) ?_
    refine lv_iload hx hb dX0_findSoundingWith_23 (lv_at hl 3 rfl) ?_
    refine w_pVl (As := [.int (nI r)]) (rest := [.int (nI r), .ref (a 13)]) ⟨hx, hb, hml, hown, hts⟩ (c_keysOfDrawnStops l D a cI cL cO I (fsA I (frD I J mn x) r) r (by omega)) (cwV 1 hts gX0_findSoundingWith_X0_keysOfDrawnStops rfl rfl rfl (by decide +kernel) ⟨Nat.le_of_ble_eq_true rfl, Nat.le_of_ble_eq_true rfl⟩) hK hP rfl rfl oc_at0 rfl hl.1 rfl (Nat.le_of_ble_eq_true rfl) dX0_findSoundingWith_25 ⟨Nat.le_of_ble_eq_true rfl, Nat.le_of_ble_eq_true rfl⟩ ?_
    refine lv_aload_n hx hb dX0_findSoundingWith_28 rfl (lv_at hl 0 rfl) ?_
    refine lv_iload hx hb dX0_findSoundingWith_29 (lv_at hl 3 rfl) ?_
    refine w_pVl (As := [.int (nI r)]) (rest := [.long (kdF I ((fsA I (frD I J mn x) r) 1) r 12), .int (nI r), .ref (a 13)]) ⟨hx, hb, hml, hown, hts⟩ (c_mutePipes l D a cI cL cO I (fsA I (frD I J mn x) r) r (by omega)) (cwV 1 hts gX0_findSoundingWith_X0_mutePipes rfl rfl rfl (by decide +kernel) ⟨Nat.le_of_ble_eq_true rfl, Nat.le_of_ble_eq_true rfl⟩) hK hP rfl rfl oc_at0 rfl hl.1 rfl (Nat.le_of_ble_eq_true rfl) dX0_findSoundingWith_31 ⟨Nat.le_of_ble_eq_true rfl, Nat.le_of_ble_eq_true rfl⟩ ?_
    refine lv_ldc2 (v := (-1)) hx hb hown (hts (.constantLong RX0 183 ((-1))) (by decide +kernel)) dX0_findSoundingWith_34 ?_
    refine lv_lxor hx hb dX0_findSoundingWith_37 ?_
    refine lv_land hx hb dX0_findSoundingWith_38 ?_
    refine w_lst hx hb hK hP (hD _ _) hS rfl oc_at13 (oc_set13 r ((kdF I ((fsA I (frD I J mn x) r) 1) r 12) &&& ((muF (I (10 + r)) 61) ^^^ (-1)))) (by omega) (by decide) dX0_findSoundingWith_39 (fun H locs hP hS => ?_)
    have hP : va_P D vwCl (oc a cI cL cO I (fsA I (frD I J mn x) (r + 1))) H := hP
    refine lv_iinc (v := (nI (r + 1))) (lv' := [(4, .int (nI (r + 1))), (0, .ref (a 0)), (1, .int (nI mn)), (2, .long x)]) hx hb dX0_findSoundingWith_40 hl (k := 3) rfl (nI_inc _) (by decide) rfl (fun ls hl => ?_)
    refine lv_goto (tgt := 9) hx hb dX0_findSoundingWith_43 (by decide) ?_
    exact ih_r () H locs ls (by omega) ⟨hP, hS, lv_sub hl [1, 2, 3, 0] rfl⟩
set_option maxHeartbeats 4000000 in
set_option maxRecDepth 100000 in
theorem c_findSounding (l : Launch) (D : va_G) (a : Nat → Nat) (cI cL cO : ClassId) (I : Nat → Nat → Int32) (J : Nat → Nat → Int64) : Met l yX0_findSounding wsX0_findSounding ({ frames := 4, cells := 0, slots := 0, locals := 92 } : Room) (va_Pc [.ref (a 0)] (mB D (oty cI cL cO) (oc a cI cL cO I J))) (mQv D (oc a cI cL cO I J) (oc a cI cL cO I (fsW I J 0 0))) 0 0 (wA (oc a cI cL cO I J)) := by
  refine Met.ofW (cc := cX0_findSounding) (maxL := 1) (ret := none) (by decide) rfl ?_
  intro p e s m args below meth c s₁ B hml hv
  obtain ⟨rfl, hP, hK, hD0⟩ := hv
  have hx := B.exec
  have hb := B.bytes
  have hr := B.returns
  have hts := atoms_spec (ws := wsX0_findSounding) B.pre
  have hown : s.vm.findClass RX0 = some m.cls := findClass_of_methodNamed B.named
  have hlocks := B.notSynchronized
  have hin0 : ∀ w ∈ u_ws RX0 TX0 15, w ∈ wsX0_findSounding := by decide +kernel
  have hD := oc_D (wA_D hD0)
  have hS : va_S (wA (oc a cI cL cO I J)) s.heap s.heap [] := va_S.rf
  have hl := lv_entry ([.ref (a 0)]) (n := 1) (Nat.le_of_ble_eq_true rfl)
  rw [lg_entry_eq]
  generalize (lg_sl ([.ref (a 0)]) ++ List.replicate (1 - (lg_sl ([.ref (a 0)])).length) Slot.unset).toArray = ls at hl ⊢
  have hl : lv_has ls 1 [(0, .ref (a 0))] := hl
  refine lv_aload_n hx hb dX0_findSounding_0 rfl (lv_at hl 0 rfl) ?_
  refine lv_iconst (v := (nI 0)) hx hb dX0_findSounding_1 (by decide) ?_
  refine lv_lconst (v := 0) hx hb dX0_findSounding_2 (by decide) ?_
  refine w_mVv (As := [.int (nI 0), .long 0]) (rest := []) ⟨hx, hb, hml, hown, hts⟩ (c_findSoundingWith l D a cI cL cO I J 0 (by omega) 0) (cwV 2 hts gX0_findSounding_X0_findSoundingWith rfl rfl rfl (by decide +kernel) ⟨Nat.le_of_ble_eq_true rfl, Nat.le_of_ble_eq_true rfl⟩) hK hP (hD _ _) hS rfl rfl oc_at0 rfl hl.1 rfl (Nat.le_of_ble_eq_true rfl) dX0_findSounding_3 ⟨Nat.le_of_ble_eq_true rfl, Nat.le_of_ble_eq_true rfl⟩ (fun H locs hP hS => ?_)
  exact e_mv hx hb hr hlocks hP hS (rfl) dX0_findSounding_6
set_option maxHeartbeats 4000000 in
set_option maxRecDepth 100000 in
theorem c_wearOut (l : Launch) (D : va_G) (a : Nat → Nat) (cI cL cO : ClassId) (I : Nat → Nat → Int32) (J : Nat → Nat → Int64) (r : Nat) (hr6 : r < 6) (tm : Int32) : Met l yX0_wearOut wsX0_wearOut ({ frames := 2, cells := 0, slots := 0, locals := 42 } : Room) (va_Pc [.ref (a 0), .int (nI r), .int tm] (mB D (oty cI cL cO) (oc a cI cL cO I J))) (mQv D (oc a cI cL cO I J) (oc a cI cL cO (woF (J 2 r) r tm I 61) J)) 0 0 (wA (oc a cI cL cO I J)) := by
  refine Met.ofW (cc := cX0_wearOut) (maxL := 4) (ret := none) (by decide) rfl ?_
  intro p e s m args below meth c s₁ B hml hv
  obtain ⟨rfl, hP, hK, hD0⟩ := hv
  have hx := B.exec
  have hb := B.bytes
  have hr := B.returns
  have hts := atoms_spec (ws := wsX0_wearOut) B.pre
  have hown : s.vm.findClass RX0 = some m.cls := findClass_of_methodNamed B.named
  have hlocks := B.notSynchronized
  have hin0 : ∀ w ∈ u_ws RX0 TX0 15, w ∈ wsX0_wearOut := by decide +kernel
  have hD := oc_D (wA_D hD0)
  have hS : va_S (wA (oc a cI cL cO I J)) s.heap s.heap [] := va_S.rf
  have hl := lv_entry ([.ref (a 0), .int (nI r), .int tm]) (n := 4) (Nat.le_of_ble_eq_true rfl)
  rw [lg_entry_eq]
  generalize (lg_sl ([.ref (a 0), .int (nI r), .int tm]) ++ List.replicate (4 - (lg_sl ([.ref (a 0), .int (nI r), .int tm])).length) Slot.unset).toArray = ls at hl ⊢
  have hl : lv_has ls 4 [(0, .ref (a 0)), (1, .int (nI r)), (2, .int tm)] := hl
  refine lv_iconst (v := 0) hx hb dX0_wearOut_0 (by decide) ?_
  refine lv_istore_n (lv' := [(3, .int 0), (0, .ref (a 0)), (1, .int (nI r)), (2, .int tm)]) hx hb dX0_wearOut_1 rfl hl (by decide) rfl (fun ls hl => ?_)
  refine W_loopH (σ := Unit) 0 61 2 (fun k _ H locs ls => va_P D vwCl (oc a cI cL cO (woF (J 2 r) r tm I k) J) H ∧ va_S (wA (oc a cI cL cO I J)) s.heap H locs ∧ lv_has ls 4 [(0, .ref (a 0)), (1, .int (nI r)), (2, .int tm), (3, .int (nI k))]) (fun k _ H locs ls g_k h_k hI_k ih_k => ?_) () (by decide) ⟨hP, hS, lv_sub hl [1, 2, 3, 0] rfl⟩
  obtain ⟨hP, hS, hl⟩ := hI_k
  refine lv_iload_n hx hb dX0_wearOut_2 rfl (lv_at hl 3 rfl) ?_
  refine lv_bipush (v := 61) hx hb dX0_wearOut_3 (by decide) ?_
  refine lo_ge (n := 61) (tgt := 39) hx hb rfl (by decide) (by omega) dX0_wearOut_5 (by decide) (fun c_5 => ?_) (fun c_5 => ?_)
  · obtain rfl : k = 61 := by omega
    exact e_mv hx hb hr hlocks hP hS (rfl) dX0_wearOut_39
  · refine lv_aload_n hx hb dX0_wearOut_8 rfl (lv_at hl 0 rfl) ?_
    refine o_get (v := .ref (a 13)) hx hb hts hin0 hown hK hP oc_at0 14 (by decide) (hts (.fieldLink RX0 49 "OrganBuilder" "soundingKeys" "[J") (by decide +kernel)) rfl dX0_wearOut_9 ?_
    refine lv_iload_n hx hb dX0_wearOut_12 rfl (lv_at hl 1 rfl) ?_
    refine w_lld hx hb hK hP rfl oc_at13 (by omega) (by decide) dX0_wearOut_13 ?_
    refine lv_iload_n hx hb dX0_wearOut_14 rfl (lv_at hl 3 rfl) ?_
    refine w_pS (As := [.long (J 2 r), .int (nI k)]) (rest := []) ⟨hx, hb, hml, hown, hts⟩ (c_hasKey l (J 2 r) (nI k)) (va_cwS 2 hts gX0_wearOut_X0_hasKey rfl rfl rfl (by decide +kernel) ⟨Nat.le_of_ble_eq_true rfl, Nat.le_of_ble_eq_true rfl⟩) rfl hl.1 rfl (Nat.le_of_ble_eq_true rfl) dX0_wearOut_15 ⟨Nat.le_of_ble_eq_true rfl, Nat.le_of_ble_eq_true rfl⟩ ?_
    refine lv_if_eq (tgt := 33) hx hb dX0_wearOut_18 (by decide) (fun c_18 => ?_) (fun c_18 => ?_)
    · have hP : va_P D vwCl (oc a cI cL cO (woF (J 2 r) r tm I (k + 1)) J) H := by rw [show (woF (J 2 r) r tm I (k + 1)) = (woF (J 2 r) r tm I k) from ite_f (bI_eq0 c_18)]; exact hP
      refine lv_iinc (v := (nI (k + 1))) (lv' := [(3, .int (nI (k + 1))), (0, .ref (a 0)), (1, .int (nI r)), (2, .int tm)]) hx hb dX0_wearOut_33 hl (k := 3) rfl (nI_inc _) (by decide) rfl (fun ls hl => ?_)
      refine lv_goto (tgt := 2) hx hb dX0_wearOut_36 (by decide) ?_
      exact ih_k () H locs ls (by omega) ⟨hP, hS, lv_sub hl [1, 2, 3, 0] rfl⟩
    · refine lv_aload_n hx hb dX0_wearOut_21 rfl (lv_at hl 0 rfl) ?_
      refine o_get (v := .ref (a 4)) hx hb hts hin0 hown hK hP oc_at0 3 (by decide) (hts (.fieldLink RX0 21 "OrganBuilder" "wears" "[[I") (by decide +kernel)) rfl dX0_wearOut_22 ?_
      refine lv_iload_n hx hb dX0_wearOut_25 rfl (lv_at hl 1 rfl) ?_
      refine w_qld hx hb hK hP rfl oc_at4 (by omega) (by decide) dX0_wearOut_26 ?_
      refine lv_iload_n hx hb dX0_wearOut_27 rfl (lv_at hl 3 rfl) ?_
      refine lv_dup2_11 hx hb dX0_wearOut_28 rfl rfl ?_
      refine w_ild hx hb hK hP rfl (oc_atw (r := r) (by omega)) (by omega) (by decide) dX0_wearOut_29 ?_
      refine lv_iload_n hx hb dX0_wearOut_30 rfl (lv_at hl 2 rfl) ?_
      refine lv_iadd hx hb dX0_wearOut_31 ?_
      refine w_ist hx hb hK hP (hD _ _) hS rfl (oc_atw (r := r) (by omega)) (oc_setw (r := r) (by omega) k (((woF (J 2 r) r tm I k) (10 + r) k) + tm)) (by omega) (by decide) dX0_wearOut_32 (fun H locs hP hS => ?_)
      have hP : va_P D vwCl (oc a cI cL cO (woF (J 2 r) r tm I (k + 1)) J) H := by rw [show (woF (J 2 r) r tm I (k + 1)) = (u2 (woF (J 2 r) r tm I k) (10 + r) k (((woF (J 2 r) r tm I k) (10 + r) k) + tm)) from ite_t (bI_ne0 c_18)]; exact hP
      refine lv_iinc (v := (nI (k + 1))) (lv' := [(3, .int (nI (k + 1))), (0, .ref (a 0)), (1, .int (nI r)), (2, .int tm)]) hx hb dX0_wearOut_33 hl (k := 3) rfl (nI_inc _) (by decide) rfl (fun ls hl => ?_)
      refine lv_goto (tgt := 2) hx hb dX0_wearOut_36 (by decide) ?_
      exact ih_k () H locs ls (by omega) ⟨hP, hS, lv_sub hl [1, 2, 3, 0] rfl⟩
set_option maxHeartbeats 4000000 in
set_option maxRecDepth 100000 in
theorem c_letGo (l : Launch) (D : va_G) (a : Nat → Nat) (cI cL cO : ClassId) (I : Nat → Nat → Int32) (J : Nat → Nat → Int64) : Met l yX0_letGo wsX0_letGo ({ frames := 1, cells := 0, slots := 0, locals := 21 } : Room) (va_Pc [.ref (a 0)] (mB D (oty cI cL cO) (oc a cI cL cO I J))) (mQi D (oc a cI cL cO I J) (oc a cI cL cO I (lgJ J 3)) (lgA J 3)) 0 0 (wA (oc a cI cL cO I J)) := by
  refine Met.ofW (cc := cX0_letGo) (maxL := 3) (ret := (some .int)) (by decide) rfl ?_
  intro p e s m args below meth c s₁ B hml hv
  obtain ⟨rfl, hP, hK, hD0⟩ := hv
  have hx := B.exec
  have hb := B.bytes
  have hr := B.returns
  have hts := atoms_spec (ws := wsX0_letGo) B.pre
  have hown : s.vm.findClass RX0 = some m.cls := findClass_of_methodNamed B.named
  have hlocks := B.notSynchronized
  have hin0 : ∀ w ∈ u_ws RX0 TX0 15, w ∈ wsX0_letGo := by decide +kernel
  have hD := oc_D (wA_D hD0)
  have hS : va_S (wA (oc a cI cL cO I J)) s.heap s.heap [] := va_S.rf
  have hl := lv_entry ([.ref (a 0)]) (n := 3) (Nat.le_of_ble_eq_true rfl)
  rw [lg_entry_eq]
  generalize (lg_sl ([.ref (a 0)]) ++ List.replicate (3 - (lg_sl ([.ref (a 0)])).length) Slot.unset).toArray = ls at hl ⊢
  have hl : lv_has ls 3 [(0, .ref (a 0))] := hl
  refine lv_iconst (v := 0) hx hb dX0_letGo_0 (by decide) ?_
  refine lv_istore_n (lv' := [(1, .int 0), (0, .ref (a 0))]) hx hb dX0_letGo_1 rfl hl (by decide) rfl (fun ls hl => ?_)
  refine lv_iconst (v := 0) hx hb dX0_letGo_2 (by decide) ?_
  refine lv_istore_n (lv' := [(2, .int 0), (1, .int 0), (0, .ref (a 0))]) hx hb dX0_letGo_3 rfl hl (by decide) rfl (fun ls hl => ?_)
  refine W_loopH (σ := Unit) 0 3 4 (fun m1 _ H locs ls => va_P D vwCl (oc a cI cL cO I (lgJ J m1)) H ∧ va_S (wA (oc a cI cL cO I J)) s.heap H locs ∧ lv_has ls 3 [(0, .ref (a 0)), (1, .int (lgA J m1)), (2, .int (nI m1))]) (fun m1 _ H locs ls g_m1 h_m1 hI_m1 ih_m1 => ?_) () (by decide) ⟨hP, hS, lv_sub hl [2, 1, 0] rfl⟩
  obtain ⟨hP, hS, hl⟩ := hI_m1
  refine lv_iload_n hx hb dX0_letGo_4 rfl (lv_at hl 2 rfl) ?_
  refine lv_iconst (v := 3) hx hb dX0_letGo_5 (by decide) ?_
  refine lo_ge (n := 3) (tgt := 34) hx hb rfl (by decide) (by omega) dX0_letGo_6 (by decide) (fun c_6 => ?_) (fun c_6 => ?_)
  · obtain rfl : m1 = 3 := by omega
    refine lv_iload_n hx hb dX0_letGo_34 rfl (lv_at hl 1 rfl) ?_
    exact e_mi hx hb hr rfl hlocks hP hS (rfl) (rfl) dX0_letGo_35
  · refine lv_iload_n hx hb dX0_letGo_9 rfl (lv_at hl 1 rfl) ?_
    refine lv_aload_n hx hb dX0_letGo_10 rfl (lv_at hl 0 rfl) ?_
    refine o_get (v := .ref (a 9)) hx hb hts hin0 hown hK hP oc_at0 9 (by decide) (hts (.fieldLink RX0 36 "OrganBuilder" "heldKeys" "[J") (by decide +kernel)) rfl dX0_letGo_11 ?_
    refine lv_iload_n hx hb dX0_letGo_14 rfl (lv_at hl 2 rfl) ?_
    refine w_lld hx hb hK hP rfl oc_at9 (by omega) (by decide) dX0_letGo_15 ?_
    refine w_pS (As := [.long ((lgJ J m1) 0 m1)]) (rest := [.int (lgA J m1)]) ⟨hx, hb, hml, hown, hts⟩ (c_bcL l ((lgJ J m1) 0 m1)) (va_cwS 1 hts gX0_letGo_J13_bitCount_95d88 rfl rfl rfl (by decide +kernel) ⟨Nat.le_of_ble_eq_true rfl, Nat.le_of_ble_eq_true rfl⟩) rfl hl.1 rfl (Nat.le_of_ble_eq_true rfl) dX0_letGo_16 ⟨Nat.le_of_ble_eq_true rfl, Nat.le_of_ble_eq_true rfl⟩ ?_
    refine lv_iadd hx hb dX0_letGo_19 ?_
    refine lv_asi (lgA J (m1 + 1)) (rfl) ?_
    refine lv_istore_n (lv' := [(1, .int (lgA J (m1 + 1))), (0, .ref (a 0)), (2, .int (nI m1))]) hx hb dX0_letGo_20 rfl hl (by decide) rfl (fun ls hl => ?_)
    refine lv_aload_n hx hb dX0_letGo_21 rfl (lv_at hl 1 rfl) ?_
    refine o_get (v := .ref (a 9)) hx hb hts hin0 hown hK hP oc_at0 9 (by decide) (hts (.fieldLink RX0 36 "OrganBuilder" "heldKeys" "[J") (by decide +kernel)) rfl dX0_letGo_22 ?_
    refine lv_iload_n hx hb dX0_letGo_25 rfl (lv_at hl 2 rfl) ?_
    refine lv_lconst (v := 0) hx hb dX0_letGo_26 (by decide) ?_
    refine w_lst hx hb hK hP (hD _ _) hS rfl oc_at9 (oc_set9 m1 0) (by omega) (by decide) dX0_letGo_27 (fun H locs hP hS => ?_)
    have hP : va_P D vwCl (oc a cI cL cO I (lgJ J (m1 + 1))) H := hP
    refine lv_iinc (v := (nI (m1 + 1))) (lv' := [(2, .int (nI (m1 + 1))), (1, .int (lgA J (m1 + 1))), (0, .ref (a 0))]) hx hb dX0_letGo_28 hl (k := 2) rfl (nI_inc _) (by decide) rfl (fun ls hl => ?_)
    refine lv_goto (tgt := 4) hx hb dX0_letGo_31 (by decide) ?_
    exact ih_m1 () H locs ls (by omega) ⟨hP, hS, lv_sub hl [2, 1, 0] rfl⟩
set_option maxHeartbeats 4000000 in
set_option maxRecDepth 100000 in
theorem c_pipes (l : Launch) (D : va_G) (a : Nat → Nat) (cI cL cO : ClassId) (I : Nat → Nat → Int32) (J : Nat → Nat → Int64) : Met l yX0_pipes wsX0_pipes ({ frames := 5, cells := 0, slots := 0, locals := 112 } : Room) (va_Pc [.ref (a 0)] (mB D (oty cI cL cO) (oc a cI cL cO I J))) (mQi D (oc a cI cL cO I J) (oc a cI cL cO I (fsW I J 0 0)) (csF (fsW I J 0 0) 6)) 0 0 (wA (oc a cI cL cO I J)) := by
  refine Met.ofW (cc := cX0_pipes) (maxL := 1) (ret := (some .int)) (by decide) rfl ?_
  intro p e s m args below meth c s₁ B hml hv
  obtain ⟨rfl, hP, hK, hD0⟩ := hv
  have hx := B.exec
  have hb := B.bytes
  have hr := B.returns
  have hts := atoms_spec (ws := wsX0_pipes) B.pre
  have hown : s.vm.findClass RX0 = some m.cls := findClass_of_methodNamed B.named
  have hlocks := B.notSynchronized
  have hin0 : ∀ w ∈ u_ws RX0 TX0 15, w ∈ wsX0_pipes := by decide +kernel
  have hD := oc_D (wA_D hD0)
  have hS : va_S (wA (oc a cI cL cO I J)) s.heap s.heap [] := va_S.rf
  have hl := lv_entry ([.ref (a 0)]) (n := 1) (Nat.le_of_ble_eq_true rfl)
  rw [lg_entry_eq]
  generalize (lg_sl ([.ref (a 0)]) ++ List.replicate (1 - (lg_sl ([.ref (a 0)])).length) Slot.unset).toArray = ls at hl ⊢
  have hl : lv_has ls 1 [(0, .ref (a 0))] := hl
  refine lv_aload_n hx hb dX0_pipes_0 rfl (lv_at hl 0 rfl) ?_
  refine w_mVv (As := []) (rest := []) ⟨hx, hb, hml, hown, hts⟩ (c_findSounding l D a cI cL cO I J) (cwV 0 hts gX0_pipes_X0_findSounding rfl rfl rfl (by decide +kernel) ⟨Nat.le_of_ble_eq_true rfl, Nat.le_of_ble_eq_true rfl⟩) hK hP (hD _ _) hS rfl rfl oc_at0 rfl hl.1 rfl (Nat.le_of_ble_eq_true rfl) dX0_pipes_1 ⟨Nat.le_of_ble_eq_true rfl, Nat.le_of_ble_eq_true rfl⟩ (fun H locs hP hS => ?_)
  refine lv_aload_n hx hb dX0_pipes_4 rfl (lv_at hl 0 rfl) ?_
  refine w_pV (As := []) (rest := []) ⟨hx, hb, hml, hown, hts⟩ (c_countSounding l D a cI cL cO I (fsW I J 0 0)) (cwV 0 hts gX0_pipes_X0_countSounding rfl rfl rfl (by decide +kernel) ⟨Nat.le_of_ble_eq_true rfl, Nat.le_of_ble_eq_true rfl⟩) hK hP rfl rfl oc_at0 rfl hl.1 rfl (Nat.le_of_ble_eq_true rfl) dX0_pipes_5 ⟨Nat.le_of_ble_eq_true rfl, Nat.le_of_ble_eq_true rfl⟩ ?_
  exact e_mi hx hb hr rfl hlocks hP hS (rfl) (rfl) dX0_pipes_8
set_option maxHeartbeats 4000000 in
set_option maxRecDepth 100000 in
theorem c_need (l : Launch) (D : va_G) (a : Nat → Nat) (cI cL cO : ClassId) (I : Nat → Nat → Int32) (J : Nat → Nat → Int64) : Met l yX0_need wsX0_need ({ frames := 5, cells := 0, slots := 0, locals := 112 } : Room) (va_Pc [.ref (a 0)] (mB D (oty cI cL cO) (oc a cI cL cO I J))) (mQi D (oc a cI cL cO I J) (oc a cI cL cO I (fsW I J 0 0)) (wsO I (fsW I J 0 0) 6)) 0 0 (wA (oc a cI cL cO I J)) := by
  refine Met.ofW (cc := cX0_need) (maxL := 1) (ret := (some .int)) (by decide) rfl ?_
  intro p e s m args below meth c s₁ B hml hv
  obtain ⟨rfl, hP, hK, hD0⟩ := hv
  have hx := B.exec
  have hb := B.bytes
  have hr := B.returns
  have hts := atoms_spec (ws := wsX0_need) B.pre
  have hown : s.vm.findClass RX0 = some m.cls := findClass_of_methodNamed B.named
  have hlocks := B.notSynchronized
  have hin0 : ∀ w ∈ u_ws RX0 TX0 15, w ∈ wsX0_need := by decide +kernel
  have hD := oc_D (wA_D hD0)
  have hS : va_S (wA (oc a cI cL cO I J)) s.heap s.heap [] := va_S.rf
  have hl := lv_entry ([.ref (a 0)]) (n := 1) (Nat.le_of_ble_eq_true rfl)
  rw [lg_entry_eq]
  generalize (lg_sl ([.ref (a 0)]) ++ List.replicate (1 - (lg_sl ([.ref (a 0)])).length) Slot.unset).toArray = ls at hl ⊢
  have hl : lv_has ls 1 [(0, .ref (a 0))] := hl
  refine lv_aload_n hx hb dX0_need_0 rfl (lv_at hl 0 rfl) ?_
  refine w_mVv (As := []) (rest := []) ⟨hx, hb, hml, hown, hts⟩ (c_findSounding l D a cI cL cO I J) (cwV 0 hts gX0_need_X0_findSounding rfl rfl rfl (by decide +kernel) ⟨Nat.le_of_ble_eq_true rfl, Nat.le_of_ble_eq_true rfl⟩) hK hP (hD _ _) hS rfl rfl oc_at0 rfl hl.1 rfl (Nat.le_of_ble_eq_true rfl) dX0_need_1 ⟨Nat.le_of_ble_eq_true rfl, Nat.le_of_ble_eq_true rfl⟩ (fun H locs hP hS => ?_)
  refine lv_aload_n hx hb dX0_need_4 rfl (lv_at hl 0 rfl) ?_
  refine w_pV (As := []) (rest := []) ⟨hx, hb, hml, hown, hts⟩ (c_windOfSounding l D a cI cL cO I (fsW I J 0 0)) (cwV 0 hts gX0_need_X0_windOfSounding rfl rfl rfl (by decide +kernel) ⟨Nat.le_of_ble_eq_true rfl, Nat.le_of_ble_eq_true rfl⟩) hK hP rfl rfl oc_at0 rfl hl.1 rfl (Nat.le_of_ble_eq_true rfl) dX0_need_5 ⟨Nat.le_of_ble_eq_true rfl, Nat.le_of_ble_eq_true rfl⟩ ?_
  exact e_mi hx hb hr rfl hlocks hP hS (rfl) (rfl) dX0_need_8
set_option maxHeartbeats 4000000 in
set_option maxRecDepth 100000 in
theorem c_sagStep (l : Launch) (D : va_G) (a : Nat → Nat) (cI cL cO : ClassId) (I : Nat → Nat → Int32) (J : Nat → Nat → Int64) : Met l yX0_sagStep wsX0_sagStep ({ frames := 5, cells := 0, slots := 0, locals := 112 } : Room) (va_Pc [.ref (a 0)] (mB D (oty cI cL cO) (oc a cI cL cO I J))) (mQi D (oc a cI cL cO I J) (oc a cI cL cO I (fsW I J 0 0)) (stS (wsO I (fsW I J 0 0) 6) (I 8 1))) 0 0 (wA (oc a cI cL cO I J)) := by
  refine Met.ofW (cc := cX0_sagStep) (maxL := 1) (ret := (some .int)) (by decide) rfl ?_
  intro p e s m args below meth c s₁ B hml hv
  obtain ⟨rfl, hP, hK, hD0⟩ := hv
  have hx := B.exec
  have hb := B.bytes
  have hr := B.returns
  have hts := atoms_spec (ws := wsX0_sagStep) B.pre
  have hown : s.vm.findClass RX0 = some m.cls := findClass_of_methodNamed B.named
  have hlocks := B.notSynchronized
  have hin0 : ∀ w ∈ u_ws RX0 TX0 15, w ∈ wsX0_sagStep := by decide +kernel
  have hD := oc_D (wA_D hD0)
  have hS : va_S (wA (oc a cI cL cO I J)) s.heap s.heap [] := va_S.rf
  have hl := lv_entry ([.ref (a 0)]) (n := 1) (Nat.le_of_ble_eq_true rfl)
  rw [lg_entry_eq]
  generalize (lg_sl ([.ref (a 0)]) ++ List.replicate (1 - (lg_sl ([.ref (a 0)])).length) Slot.unset).toArray = ls at hl ⊢
  have hl : lv_has ls 1 [(0, .ref (a 0))] := hl
  refine lv_aload_n hx hb dX0_sagStep_0 rfl (lv_at hl 0 rfl) ?_
  refine w_mVv (As := []) (rest := []) ⟨hx, hb, hml, hown, hts⟩ (c_findSounding l D a cI cL cO I J) (cwV 0 hts gX0_sagStep_X0_findSounding rfl rfl rfl (by decide +kernel) ⟨Nat.le_of_ble_eq_true rfl, Nat.le_of_ble_eq_true rfl⟩) hK hP (hD _ _) hS rfl rfl oc_at0 rfl hl.1 rfl (Nat.le_of_ble_eq_true rfl) dX0_sagStep_1 ⟨Nat.le_of_ble_eq_true rfl, Nat.le_of_ble_eq_true rfl⟩ (fun H locs hP hS => ?_)
  refine lv_aload_n hx hb dX0_sagStep_4 rfl (lv_at hl 0 rfl) ?_
  refine lv_aload_n hx hb dX0_sagStep_5 rfl (lv_at hl 0 rfl) ?_
  refine w_pV (As := []) (rest := [.ref (a 0)]) ⟨hx, hb, hml, hown, hts⟩ (c_windOfSounding l D a cI cL cO I (fsW I J 0 0)) (cwV 0 hts gX0_sagStep_X0_windOfSounding rfl rfl rfl (by decide +kernel) ⟨Nat.le_of_ble_eq_true rfl, Nat.le_of_ble_eq_true rfl⟩) hK hP rfl rfl oc_at0 rfl hl.1 rfl (Nat.le_of_ble_eq_true rfl) dX0_sagStep_6 ⟨Nat.le_of_ble_eq_true rfl, Nat.le_of_ble_eq_true rfl⟩ ?_
  refine w_pV (As := [.int (wsO I (fsW I J 0 0) 6)]) (rest := []) ⟨hx, hb, hml, hown, hts⟩ (c_stepOfSag l D a cI cL cO I (fsW I J 0 0) (wsO I (fsW I J 0 0) 6)) (cwV 1 hts gX0_sagStep_X0_stepOfSag rfl rfl rfl (by decide +kernel) ⟨Nat.le_of_ble_eq_true rfl, Nat.le_of_ble_eq_true rfl⟩) hK hP rfl rfl oc_at0 rfl hl.1 rfl (Nat.le_of_ble_eq_true rfl) dX0_sagStep_9 ⟨Nat.le_of_ble_eq_true rfl, Nat.le_of_ble_eq_true rfl⟩ ?_
  exact e_mi hx hb hr rfl hlocks hP hS (rfl) (rfl) dX0_sagStep_12
set_option maxHeartbeats 4000000 in
set_option maxRecDepth 100000 in
theorem c_lowest (l : Launch) (D : va_G) (a : Nat → Nat) (cI cL cO : ClassId) (I : Nat → Nat → Int32) (J : Nat → Nat → Int64) : Met l yX0_lowest wsX0_lowest ({ frames := 5, cells := 0, slots := 0, locals := 112 } : Room) (va_Pc [.ref (a 0)] (mB D (oty cI cL cO) (oc a cI cL cO I J))) (mQi D (oc a cI cL cO I J) (oc a cI cL cO I (fsW I J 0 0)) (lwF I (fsW I J 0 0))) 0 0 (wA (oc a cI cL cO I J)) := by
  refine Met.ofW (cc := cX0_lowest) (maxL := 6) (ret := (some .int)) (by decide) rfl ?_
  intro p e s m args below meth c s₁ B hml hv
  obtain ⟨rfl, hP, hK, hD0⟩ := hv
  have hx := B.exec
  have hb := B.bytes
  have hr := B.returns
  have hts := atoms_spec (ws := wsX0_lowest) B.pre
  have hown : s.vm.findClass RX0 = some m.cls := findClass_of_methodNamed B.named
  have hlocks := B.notSynchronized
  have hin0 : ∀ w ∈ u_ws RX0 TX0 15, w ∈ wsX0_lowest := by decide +kernel
  have hD := oc_D (wA_D hD0)
  have hS : va_S (wA (oc a cI cL cO I J)) s.heap s.heap [] := va_S.rf
  have hl := lv_entry ([.ref (a 0)]) (n := 6) (Nat.le_of_ble_eq_true rfl)
  rw [lg_entry_eq]
  generalize (lg_sl ([.ref (a 0)]) ++ List.replicate (6 - (lg_sl ([.ref (a 0)])).length) Slot.unset).toArray = ls at hl ⊢
  have hl : lv_has ls 6 [(0, .ref (a 0))] := hl
  refine lv_aload_n hx hb dX0_lowest_0 rfl (lv_at hl 0 rfl) ?_
  refine w_mVv (As := []) (rest := []) ⟨hx, hb, hml, hown, hts⟩ (c_findSounding l D a cI cL cO I J) (cwV 0 hts gX0_lowest_X0_findSounding rfl rfl rfl (by decide +kernel) ⟨Nat.le_of_ble_eq_true rfl, Nat.le_of_ble_eq_true rfl⟩) hK hP (hD _ _) hS rfl rfl oc_at0 rfl hl.1 rfl (Nat.le_of_ble_eq_true rfl) dX0_lowest_1 ⟨Nat.le_of_ble_eq_true rfl, Nat.le_of_ble_eq_true rfl⟩ (fun H locs hP hS => ?_)
  refine lv_iconst (v := 0) hx hb dX0_lowest_4 (by decide) ?_
  refine lv_istore_n (lv' := [(1, .int 0), (0, .ref (a 0))]) hx hb dX0_lowest_5 rfl hl (by decide) rfl (fun ls hl => ?_)
  refine lv_iconst (v := 0) hx hb dX0_lowest_6 (by decide) ?_
  refine lv_istore_n (lv' := [(2, .int 0), (1, .int 0), (0, .ref (a 0))]) hx hb dX0_lowest_7 rfl hl (by decide) rfl (fun ls hl => ?_)
  refine lv_iconst (v := 0) hx hb dX0_lowest_8 (by decide) ?_
  have hl : lv_has ls 6 [(2, .int 0), (1, .int (bI (loO I (fsW I J 0 0) 0).1)), (0, .ref (a 0))] := hl
  have hl : lv_has ls 6 [(2, .int ((loO I (fsW I J 0 0) 0).2)), (1, .int (bI (loO I (fsW I J 0 0) 0).1)), (0, .ref (a 0))] := hl
  refine lv_istore_n (lv' := [(3, .int 0), (2, .int ((loO I (fsW I J 0 0) 0).2)), (1, .int (bI (loO I (fsW I J 0 0) 0).1)), (0, .ref (a 0))]) hx hb dX0_lowest_9 rfl hl (by decide) rfl (fun ls hl => ?_)
  refine W_loopH (σ := Unit) 0 6 10 (fun r _ H locs ls => va_P D vwCl (oc a cI cL cO I (fsW I J 0 0)) H ∧ va_S (wA (oc a cI cL cO I J)) s.heap H locs ∧ lv_has ls 6 [(0, .ref (a 0)), (1, .int (bI (loO I (fsW I J 0 0) r).1)), (2, .int ((loO I (fsW I J 0 0) r).2)), (3, .int (nI r))]) (fun r _ H locs ls g_r h_r hI_r ih_r => ?_) () (by decide) ⟨hP, hS, lv_sub hl [3, 2, 1, 0] rfl⟩
  obtain ⟨hP, hS, hl⟩ := hI_r
  refine lv_iload_n hx hb dX0_lowest_10 rfl (lv_at hl 3 rfl) ?_
  refine lv_bipush (v := 6) hx hb dX0_lowest_11 (by decide) ?_
  refine lo_ge (n := 6) (tgt := 79) hx hb rfl (by decide) (by omega) dX0_lowest_13 (by decide) (fun c_13 => ?_) (fun c_13 => ?_)
  · obtain rfl : r = 6 := by omega
    refine lv_iload_n hx hb dX0_lowest_79 rfl (lv_at hl 1 rfl) ?_
    refine lv_if_eq (tgt := 92) hx hb dX0_lowest_80 (by decide) (fun c_80 => ?_) (fun c_80 => ?_)
    · refine lv_iconst (v := 0) hx hb dX0_lowest_92 (by decide) ?_
      exact e_mi hx hb hr rfl hlocks hP hS (rfl) ((ite_f (bI_eq0 c_80)).symm) dX0_lowest_93
    · refine lv_iload_n hx hb dX0_lowest_83 rfl (lv_at hl 2 rfl) ?_
      refine lv_aload_n hx hb dX0_lowest_84 rfl (lv_at hl 0 rfl) ?_
      refine w_pV (As := []) (rest := [.int ((loO I (fsW I J 0 0) 6).2)]) ⟨hx, hb, hml, hown, hts⟩ (c_fallOfSag l D a cI cL cO I (fsW I J 0 0)) (cwV 0 hts gX0_lowest_X0_fallOfSag rfl rfl rfl (by decide +kernel) ⟨Nat.le_of_ble_eq_true rfl, Nat.le_of_ble_eq_true rfl⟩) hK hP rfl rfl oc_at0 rfl hl.1 rfl (Nat.le_of_ble_eq_true rfl) dX0_lowest_85 ⟨Nat.le_of_ble_eq_true rfl, Nat.le_of_ble_eq_true rfl⟩ ?_
      refine lv_isub hx hb dX0_lowest_88 ?_
      refine lv_goto (tgt := 93) hx hb dX0_lowest_89 (by decide) ?_
      exact e_mi hx hb hr rfl hlocks hP hS (rfl) ((ite_t (bI_ne0 c_80)).symm) dX0_lowest_93
  · refine lv_iconst (v := 0) hx hb dX0_lowest_16 (by decide) ?_
    refine lv_istore (lv' := [(4, .int 0), (0, .ref (a 0)), (1, .int (bI (loO I (fsW I J 0 0) r).1)), (2, .int ((loO I (fsW I J 0 0) r).2)), (3, .int (nI r))]) hx hb dX0_lowest_17 hl (by decide) rfl (fun ls hl => ?_)
    refine W_loopH (σ := Unit) 0 61 19 (fun k _ H locs ls => va_P D vwCl (oc a cI cL cO I (fsW I J 0 0)) H ∧ va_S (wA (oc a cI cL cO I J)) s.heap H locs ∧ lv_has ls 6 [(0, .ref (a 0)), (1, .int (bI (loI I (fsW I J 0 0) r (loO I (fsW I J 0 0) r) k).1)), (2, .int ((loI I (fsW I J 0 0) r (loO I (fsW I J 0 0) r) k).2)), (3, .int (nI r)), (4, .int (nI k))]) (fun k _ H locs ls g_k h_k hI_k ih_k => ?_) () (by decide) ⟨hP, hS, lv_sub hl [1, 2, 3, 4, 0] rfl⟩
    obtain ⟨hP, hS, hl⟩ := hI_k
    refine lv_iload hx hb dX0_lowest_19 (lv_at hl 4 rfl) ?_
    refine lv_bipush (v := 61) hx hb dX0_lowest_21 (by decide) ?_
    refine lo_ge (n := 61) (tgt := 73) hx hb rfl (by decide) (by omega) dX0_lowest_23 (by decide) (fun c_23 => ?_) (fun c_23 => ?_)
    · obtain rfl : k = 61 := by omega
      have hl : lv_has ls 6 [(0, .ref (a 0)), (1, .int (bI (loO I (fsW I J 0 0) (r + 1)).1)), (2, .int ((loI I (fsW I J 0 0) r (loO I (fsW I J 0 0) r) 61).2)), (3, .int (nI r)), (4, .int (nI 61))] := hl
      have hl : lv_has ls 6 [(0, .ref (a 0)), (1, .int (bI (loO I (fsW I J 0 0) (r + 1)).1)), (2, .int ((loO I (fsW I J 0 0) (r + 1)).2)), (3, .int (nI r)), (4, .int (nI 61))] := hl
      refine lv_iinc (v := (nI (r + 1))) (lv' := [(3, .int (nI (r + 1))), (0, .ref (a 0)), (1, .int (bI (loO I (fsW I J 0 0) (r + 1)).1)), (2, .int ((loO I (fsW I J 0 0) (r + 1)).2)), (4, .int (nI 61))]) hx hb dX0_lowest_73 hl (k := 3) rfl (nI_inc _) (by decide) rfl (fun ls hl => ?_)
      refine lv_goto (tgt := 10) hx hb dX0_lowest_76 (by decide) ?_
      exact ih_r () H locs ls (by omega) ⟨hP, hS, lv_sub hl [1, 2, 3, 0] rfl⟩
    · refine lv_aload_n hx hb dX0_lowest_26 rfl (lv_at hl 0 rfl) ?_
      refine o_get (v := .ref (a 13)) hx hb hts hin0 hown hK hP oc_at0 14 (by decide) (hts (.fieldLink RX0 49 "OrganBuilder" "soundingKeys" "[J") (by decide +kernel)) rfl dX0_lowest_27 ?_
      refine lv_iload_n hx hb dX0_lowest_30 rfl (lv_at hl 3 rfl) ?_
      refine w_lld hx hb hK hP rfl oc_at13 (by omega) (by decide) dX0_lowest_31 ?_
      refine lv_iload hx hb dX0_lowest_32 (lv_at hl 4 rfl) ?_
      refine w_pS (As := [.long ((fsW I J 0 0) 2 r), .int (nI k)]) (rest := []) ⟨hx, hb, hml, hown, hts⟩ (c_hasKey l ((fsW I J 0 0) 2 r) (nI k)) (va_cwS 2 hts gX0_lowest_X0_hasKey rfl rfl rfl (by decide +kernel) ⟨Nat.le_of_ble_eq_true rfl, Nat.le_of_ble_eq_true rfl⟩) rfl hl.1 rfl (Nat.le_of_ble_eq_true rfl) dX0_lowest_34 ⟨Nat.le_of_ble_eq_true rfl, Nat.le_of_ble_eq_true rfl⟩ ?_
      refine lv_if_eq (tgt := 67) hx hb dX0_lowest_37 (by decide) (fun c_37 => ?_) (fun c_37 => ?_)
      · have hl := lv_re hl 1 (v' := .int (bI (loI I (fsW I J 0 0) r (loO I (fsW I J 0 0) r) (k + 1)).1)) rfl (congrArg Value.int (loI_skip1 (bI_eq0 c_37)))
        have hl : lv_has ls 6 [(0, .ref (a 0)), (1, .int (bI (loI I (fsW I J 0 0) r (loO I (fsW I J 0 0) r) (k + 1)).1)), (2, .int ((loI I (fsW I J 0 0) r (loO I (fsW I J 0 0) r) k).2)), (3, .int (nI r)), (4, .int (nI k))] := hl
        have hl := lv_re hl 2 (v' := .int (loI I (fsW I J 0 0) r (loO I (fsW I J 0 0) r) (k + 1)).2) rfl (congrArg Value.int (loI_skip2 (bI_eq0 c_37)))
        have hl : lv_has ls 6 [(0, .ref (a 0)), (1, .int (bI (loI I (fsW I J 0 0) r (loO I (fsW I J 0 0) r) (k + 1)).1)), (2, .int ((loI I (fsW I J 0 0) r (loO I (fsW I J 0 0) r) (k + 1)).2)), (3, .int (nI r)), (4, .int (nI k))] := hl
        refine lv_iinc (v := (nI (k + 1))) (lv' := [(4, .int (nI (k + 1))), (0, .ref (a 0)), (1, .int (bI (loI I (fsW I J 0 0) r (loO I (fsW I J 0 0) r) (k + 1)).1)), (2, .int ((loI I (fsW I J 0 0) r (loO I (fsW I J 0 0) r) (k + 1)).2)), (3, .int (nI r))]) hx hb dX0_lowest_67 hl (k := 4) rfl (nI_inc _) (by decide) rfl (fun ls hl => ?_)
        refine lv_goto (tgt := 19) hx hb dX0_lowest_70 (by decide) ?_
        exact ih_k () H locs ls (by omega) ⟨hP, hS, lv_sub hl [1, 2, 3, 4, 0] rfl⟩
      · refine lv_aload_n hx hb dX0_lowest_40 rfl (lv_at hl 0 rfl) ?_
        refine lv_iload_n hx hb dX0_lowest_41 rfl (lv_at hl 3 rfl) ?_
        refine lv_iload hx hb dX0_lowest_42 (lv_at hl 4 rfl) ?_
        refine w_pV (As := [.int (nI r), .int (nI k)]) (rest := []) ⟨hx, hb, hml, hown, hts⟩ (c_pitchWithoutSag l D a cI cL cO I (fsW I J 0 0) r k (by omega) (by omega)) (cwV 2 hts gX0_lowest_X0_pitchWithoutSag rfl rfl rfl (by decide +kernel) ⟨Nat.le_of_ble_eq_true rfl, Nat.le_of_ble_eq_true rfl⟩) hK hP rfl rfl oc_at0 rfl hl.1 rfl (Nat.le_of_ble_eq_true rfl) dX0_lowest_44 ⟨Nat.le_of_ble_eq_true rfl, Nat.le_of_ble_eq_true rfl⟩ ?_
        refine lv_istore (lv' := [(5, .int (pws I r k)), (0, .ref (a 0)), (1, .int (bI (loI I (fsW I J 0 0) r (loO I (fsW I J 0 0) r) k).1)), (2, .int ((loI I (fsW I J 0 0) r (loO I (fsW I J 0 0) r) k).2)), (3, .int (nI r)), (4, .int (nI k))]) hx hb dX0_lowest_47 hl (by decide) rfl (fun ls hl => ?_)
        refine lv_iload_n hx hb dX0_lowest_49 rfl (lv_at hl 2 rfl) ?_
        refine lv_if_eq (tgt := 62) hx hb dX0_lowest_50 (by decide) (fun c_50 => ?_) (fun c_50 => ?_)
        · refine lv_iload hx hb dX0_lowest_62 (lv_at hl 0 rfl) ?_
          refine lv_asi ((loI I (fsW I J 0 0) r (loO I (fsW I J 0 0) r) (k + 1)).2) (loI_first (bI_ne0 c_37) (bI_eq0 c_50)) ?_
          refine lv_istore_n (lv' := [(2, .int ((loI I (fsW I J 0 0) r (loO I (fsW I J 0 0) r) (k + 1)).2)), (5, .int (pws I r k)), (0, .ref (a 0)), (1, .int (bI (loI I (fsW I J 0 0) r (loO I (fsW I J 0 0) r) k).1)), (3, .int (nI r)), (4, .int (nI k))]) hx hb dX0_lowest_64 rfl hl (by decide) rfl (fun ls hl => ?_)
          refine lv_iconst (v := 1) hx hb dX0_lowest_65 (by decide) ?_
          refine lv_asi (bI (loI I (fsW I J 0 0) r (loO I (fsW I J 0 0) r) (k + 1)).1) (loI_found (bI_ne0 c_37)) ?_
          refine lv_istore_n (lv' := [(1, .int (bI (loI I (fsW I J 0 0) r (loO I (fsW I J 0 0) r) (k + 1)).1)), (2, .int ((loI I (fsW I J 0 0) r (loO I (fsW I J 0 0) r) (k + 1)).2)), (5, .int (pws I r k)), (0, .ref (a 0)), (3, .int (nI r)), (4, .int (nI k))]) hx hb dX0_lowest_66 rfl hl (by decide) rfl (fun ls hl => ?_)
          refine lv_iinc (v := (nI (k + 1))) (lv' := [(4, .int (nI (k + 1))), (1, .int (bI (loI I (fsW I J 0 0) r (loO I (fsW I J 0 0) r) (k + 1)).1)), (2, .int ((loI I (fsW I J 0 0) r (loO I (fsW I J 0 0) r) (k + 1)).2)), (5, .int (pws I r k)), (0, .ref (a 0)), (3, .int (nI r))]) hx hb dX0_lowest_67 hl (k := 5) rfl (nI_inc _) (by decide) rfl (fun ls hl => ?_)
          refine lv_goto (tgt := 19) hx hb dX0_lowest_70 (by decide) ?_
          exact ih_k () H locs ls (by omega) ⟨hP, hS, lv_sub hl [4, 1, 2, 5, 0] rfl⟩
        · refine lv_iload_n hx hb dX0_lowest_53 rfl (lv_at hl 3 rfl) ?_
          refine lv_iload hx hb dX0_lowest_54 (lv_at hl 0 rfl) ?_
          refine va_mmin hx hb (hml.trans hl.1.symm) hown (hts (.methodLink RX0 157 Lib.Math.min.name) (by decide +kernel)) (hts (.static Lib.Math.min.name) (by decide +kernel)) (hts (.initialized "java/lang/Math") (by decide +kernel)) (hts (.code Lib.Math.min.name Lib.Math.min.code 2 (some .int)) (by decide +kernel)) (Nat.le_of_ble_eq_true rfl) (Nat.le_of_ble_eq_true rfl) (Nat.zero_le _) (Nat.zero_le _) dX0_lowest_56 ?_
          refine lv_goto (tgt := 64) hx hb dX0_lowest_59 (by decide) ?_
          refine lv_asi ((loI I (fsW I J 0 0) r (loO I (fsW I J 0 0) r) (k + 1)).2) (loI_next (bI_ne0 c_37) (bI_ne0 c_50)) ?_
          refine lv_istore_n (lv' := [(2, .int ((loI I (fsW I J 0 0) r (loO I (fsW I J 0 0) r) (k + 1)).2)), (5, .int (pws I r k)), (0, .ref (a 0)), (1, .int (bI (loI I (fsW I J 0 0) r (loO I (fsW I J 0 0) r) k).1)), (3, .int (nI r)), (4, .int (nI k))]) hx hb dX0_lowest_64 rfl hl (by decide) rfl (fun ls hl => ?_)
          refine lv_iconst (v := 1) hx hb dX0_lowest_65 (by decide) ?_
          refine lv_asi (bI (loI I (fsW I J 0 0) r (loO I (fsW I J 0 0) r) (k + 1)).1) (loI_found (bI_ne0 c_37)) ?_
          refine lv_istore_n (lv' := [(1, .int (bI (loI I (fsW I J 0 0) r (loO I (fsW I J 0 0) r) (k + 1)).1)), (2, .int ((loI I (fsW I J 0 0) r (loO I (fsW I J 0 0) r) (k + 1)).2)), (5, .int (pws I r k)), (0, .ref (a 0)), (3, .int (nI r)), (4, .int (nI k))]) hx hb dX0_lowest_66 rfl hl (by decide) rfl (fun ls hl => ?_)
          refine lv_iinc (v := (nI (k + 1))) (lv' := [(4, .int (nI (k + 1))), (1, .int (bI (loI I (fsW I J 0 0) r (loO I (fsW I J 0 0) r) (k + 1)).1)), (2, .int ((loI I (fsW I J 0 0) r (loO I (fsW I J 0 0) r) (k + 1)).2)), (5, .int (pws I r k)), (0, .ref (a 0)), (3, .int (nI r))]) hx hb dX0_lowest_67 hl (k := 5) rfl (nI_inc _) (by decide) rfl (fun ls hl => ?_)
          refine lv_goto (tgt := 19) hx hb dX0_lowest_70 (by decide) ?_
          exact ih_k () H locs ls (by omega) ⟨hP, hS, lv_sub hl [4, 1, 2, 5, 0] rfl⟩
