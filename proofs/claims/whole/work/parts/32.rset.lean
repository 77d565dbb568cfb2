set_option maxHeartbeats 4000000 in
set_option maxRecDepth 100000 in
theorem r_setRank (l : Launch) (D : va_G) (a : Nat → Nat) (cI cL : ClassId) (I : Nat → Nat → Int32) (J : Nat → Nat → Int64) (p1 p2 p3 p4 : Int32) : Met l yX1_setRank wsX1_setRank ({ frames := 2, cells := 0, slots := 0, locals := 42 } : Room) (va_Pc [.ref (a 0), .int p1, .int p2, .int p3, .int p4] (mB D (rty cI cL) (rc a cI cL I J))) (mQv D (rc a cI cL I J) (rc a cI cL (rRank I p1 p2 p3 p4) J)) 0 0 (wA (rc a cI cL I J)) := by
  refine Met.ofW (cc := cX1_setRank) (maxL := 5) (ret := none) (by decide) rfl ?_
  intro p e s m args below meth c s₁ B hml hv
  obtain ⟨rfl, hP, hK, hD0⟩ := hv
  have hx := B.exec
  have hb := B.bytes
  have hr := B.returns
  have hts := atoms_spec (ws := wsX1_setRank) B.pre
  have hown : s.vm.findClass RX1 = some m.cls := findClass_of_methodNamed B.named
  have hlocks := B.notSynchronized
  have hin0 : ∀ w ∈ u_ws RX1 TX1 16, w ∈ wsX1_setRank := by decide +kernel
  have hD := rc_D (wA_D hD0)
  have hS : va_S (wA (rc a cI cL I J)) s.heap s.heap [] := va_S.rf
  have hl := lv_entry ([.ref (a 0), .int p1, .int p2, .int p3, .int p4]) (n := 5) (Nat.le_of_ble_eq_true rfl)
  rw [lg_entry_eq]
  generalize (lg_sl ([.ref (a 0), .int p1, .int p2, .int p3, .int p4]) ++ List.replicate (5 - (lg_sl ([.ref (a 0), .int p1, .int p2, .int p3, .int p4])).length) Slot.unset).toArray = ls at hl ⊢
  have hl : lv_has ls 5 [(0, .ref (a 0)), (1, .int p1), (2, .int p2), (3, .int p3), (4, .int p4)] := hl
  refine lv_aload_n hx hb dX1_setRank_0 rfl (lv_at hl 0 rfl) ?_
  refine lv_iload_n hx hb dX1_setRank_1 rfl (lv_at hl 1 rfl) ?_
  refine w_pS (As := [.int p1]) (rest := [.ref (a 0)]) ⟨hx, hb, hml, hown, hts⟩ (r_isRank l p1) (va_cwS 1 hts gX1_setRank_X1_isRank rfl rfl rfl (by decide +kernel) ⟨Nat.le_of_ble_eq_true rfl, Nat.le_of_ble_eq_true rfl⟩) rfl hl.1 rfl (Nat.le_of_ble_eq_true rfl) dX1_setRank_2 ⟨Nat.le_of_ble_eq_true rfl, Nat.le_of_ble_eq_true rfl⟩ ?_
  refine lv_if_eq (tgt := 43) hx hb dX1_setRank_5 (by decide) (fun c_5 => ?_) (fun c_5 => ?_)
  · have d_5 := bI_eq0 c_5
    refine lv_iconst (v := 1) hx hb dX1_setRank_43 (by decide) ?_
    refine w_mVi (As := [.int 1]) (rest := []) ⟨hx, hb, hml, hown, hts⟩ (r_isFine l D a cI cL I J 1) (cwV 1 hts gX1_setRank_X1_isFine rfl rfl rfl (by decide +kernel) ⟨Nat.le_of_ble_eq_true rfl, Nat.le_of_ble_eq_true rfl⟩) hK hP (hD _ _) hS rfl rfl rc_at0 rfl hl.1 rfl (Nat.le_of_ble_eq_true rfl) dX1_setRank_44 ⟨Nat.le_of_ble_eq_true rfl, Nat.le_of_ble_eq_true rfl⟩ (fun H locs hP hS => ?_)
    refine lv_asi 0 (by decide) ?_
    refine lv_if_eq (tgt := 72) hx hb dX1_setRank_47 (by decide) (fun c_47 => ?_) (fun c_47 => (absurd c_47 (by decide)))
    exact e_mv hx hb hr hlocks hP hS (by simp [rRank, kRank, d_5]) dX1_setRank_72
  · have d_5 := bI_ne0 c_5
    refine lv_iload_n hx hb dX1_setRank_8 rfl (lv_at hl 2 rfl) ?_
    refine lv_iconst (v := 0) hx hb dX1_setRank_9 (by decide) ?_
    refine lv_iconst (v := 3) hx hb dX1_setRank_10 (by decide) ?_
    refine w_pS (As := [.int p2, .int 0, .int 3]) (rest := [.ref (a 0)]) ⟨hx, hb, hml, hown, hts⟩ (r_isIn l p2 0 3) (va_cwS 3 hts gX1_setRank_X1_isIn rfl rfl rfl (by decide +kernel) ⟨Nat.le_of_ble_eq_true rfl, Nat.le_of_ble_eq_true rfl⟩) rfl hl.1 rfl (Nat.le_of_ble_eq_true rfl) dX1_setRank_11 ⟨Nat.le_of_ble_eq_true rfl, Nat.le_of_ble_eq_true rfl⟩ ?_
    refine lv_if_eq (tgt := 43) hx hb dX1_setRank_14 (by decide) (fun c_14 => ?_) (fun c_14 => ?_)
    · have d_14 := bI_eq0 c_14
      refine lv_iconst (v := 1) hx hb dX1_setRank_43 (by decide) ?_
      refine w_mVi (As := [.int 1]) (rest := []) ⟨hx, hb, hml, hown, hts⟩ (r_isFine l D a cI cL I J 1) (cwV 1 hts gX1_setRank_X1_isFine rfl rfl rfl (by decide +kernel) ⟨Nat.le_of_ble_eq_true rfl, Nat.le_of_ble_eq_true rfl⟩) hK hP (hD _ _) hS rfl rfl rc_at0 rfl hl.1 rfl (Nat.le_of_ble_eq_true rfl) dX1_setRank_44 ⟨Nat.le_of_ble_eq_true rfl, Nat.le_of_ble_eq_true rfl⟩ (fun H locs hP hS => ?_)
      refine lv_asi 0 (by decide) ?_
      refine lv_if_eq (tgt := 72) hx hb dX1_setRank_47 (by decide) (fun c_47 => ?_) (fun c_47 => (absurd c_47 (by decide)))
      exact e_mv hx hb hr hlocks hP hS (by simp [rRank, kRank, d_5, d_14]) dX1_setRank_72
    · have d_14 := bI_ne0 c_14
      refine lv_iload_n hx hb dX1_setRank_17 rfl (lv_at hl 3 rfl) ?_
      refine lv_iconst (v := 1) hx hb dX1_setRank_18 (by decide) ?_
      refine lv_bipush (v := 9) hx hb dX1_setRank_19 (by decide) ?_
      refine w_pS (As := [.int p3, .int 1, .int 9]) (rest := [.ref (a 0)]) ⟨hx, hb, hml, hown, hts⟩ (r_isIn l p3 1 9) (va_cwS 3 hts gX1_setRank_X1_isIn rfl rfl rfl (by decide +kernel) ⟨Nat.le_of_ble_eq_true rfl, Nat.le_of_ble_eq_true rfl⟩) rfl hl.1 rfl (Nat.le_of_ble_eq_true rfl) dX1_setRank_21 ⟨Nat.le_of_ble_eq_true rfl, Nat.le_of_ble_eq_true rfl⟩ ?_
      refine lv_if_eq (tgt := 43) hx hb dX1_setRank_24 (by decide) (fun c_24 => ?_) (fun c_24 => ?_)
      · have d_24 := bI_eq0 c_24
        refine lv_iconst (v := 1) hx hb dX1_setRank_43 (by decide) ?_
        refine w_mVi (As := [.int 1]) (rest := []) ⟨hx, hb, hml, hown, hts⟩ (r_isFine l D a cI cL I J 1) (cwV 1 hts gX1_setRank_X1_isFine rfl rfl rfl (by decide +kernel) ⟨Nat.le_of_ble_eq_true rfl, Nat.le_of_ble_eq_true rfl⟩) hK hP (hD _ _) hS rfl rfl rc_at0 rfl hl.1 rfl (Nat.le_of_ble_eq_true rfl) dX1_setRank_44 ⟨Nat.le_of_ble_eq_true rfl, Nat.le_of_ble_eq_true rfl⟩ (fun H locs hP hS => ?_)
        refine lv_asi 0 (by decide) ?_
        refine lv_if_eq (tgt := 72) hx hb dX1_setRank_47 (by decide) (fun c_47 => ?_) (fun c_47 => (absurd c_47 (by decide)))
        exact e_mv hx hb hr hlocks hP hS (by simp [rRank, kRank, d_5, d_14, d_24]) dX1_setRank_72
      · have d_24 := bI_ne0 c_24
        refine lv_iload hx hb dX1_setRank_27 (lv_at hl 4 rfl) ?_
        refine lv_bipush (v := (-50)) hx hb dX1_setRank_29 (by decide) ?_
        refine lv_bipush (v := 50) hx hb dX1_setRank_31 (by decide) ?_
        refine w_pS (As := [.int p4, .int (-50), .int 50]) (rest := [.ref (a 0)]) ⟨hx, hb, hml, hown, hts⟩ (r_isIn l p4 (-50) 50) (va_cwS 3 hts gX1_setRank_X1_isIn rfl rfl rfl (by decide +kernel) ⟨Nat.le_of_ble_eq_true rfl, Nat.le_of_ble_eq_true rfl⟩) rfl hl.1 rfl (Nat.le_of_ble_eq_true rfl) dX1_setRank_33 ⟨Nat.le_of_ble_eq_true rfl, Nat.le_of_ble_eq_true rfl⟩ ?_
        refine lv_if_eq (tgt := 43) hx hb dX1_setRank_36 (by decide) (fun c_36 => ?_) (fun c_36 => ?_)
        · have d_36 := bI_eq0 c_36
          refine lv_iconst (v := 1) hx hb dX1_setRank_43 (by decide) ?_
          refine w_mVi (As := [.int 1]) (rest := []) ⟨hx, hb, hml, hown, hts⟩ (r_isFine l D a cI cL I J 1) (cwV 1 hts gX1_setRank_X1_isFine rfl rfl rfl (by decide +kernel) ⟨Nat.le_of_ble_eq_true rfl, Nat.le_of_ble_eq_true rfl⟩) hK hP (hD _ _) hS rfl rfl rc_at0 rfl hl.1 rfl (Nat.le_of_ble_eq_true rfl) dX1_setRank_44 ⟨Nat.le_of_ble_eq_true rfl, Nat.le_of_ble_eq_true rfl⟩ (fun H locs hP hS => ?_)
          refine lv_asi 0 (by decide) ?_
          refine lv_if_eq (tgt := 72) hx hb dX1_setRank_47 (by decide) (fun c_47 => ?_) (fun c_47 => (absurd c_47 (by decide)))
          exact e_mv hx hb hr hlocks hP hS (by simp [rRank, kRank, d_5, d_14, d_24, d_36]) dX1_setRank_72
        · have d_36 := bI_ne0 c_36
          refine lv_iconst (v := 0) hx hb dX1_setRank_39 (by decide) ?_
          refine lv_goto (tgt := 44) hx hb dX1_setRank_40 (by decide) ?_
          refine w_mVi (As := [.int 0]) (rest := []) ⟨hx, hb, hml, hown, hts⟩ (r_isFine l D a cI cL I J 0) (cwV 1 hts gX1_setRank_X1_isFine rfl rfl rfl (by decide +kernel) ⟨Nat.le_of_ble_eq_true rfl, Nat.le_of_ble_eq_true rfl⟩) hK hP (hD _ _) hS rfl rfl rc_at0 rfl hl.1 rfl (Nat.le_of_ble_eq_true rfl) dX1_setRank_44 ⟨Nat.le_of_ble_eq_true rfl, Nat.le_of_ble_eq_true rfl⟩ (fun H locs hP hS => ?_)
          refine lv_asi 1 (by decide) ?_
          refine lv_if_eq (tgt := 72) hx hb dX1_setRank_47 (by decide) (fun c_47 => (absurd c_47 (by decide))) (fun c_47 => ?_)
          obtain ⟨r, br, rfl⟩ := rg_nat (n := 5) d_5 (by decide)
          refine lv_aload_n hx hb dX1_setRank_50 rfl (lv_at hl 0 rfl) ?_
          refine r_get (v := .ref (a 1)) hx hb hts hin0 hown hK hP rc_at0 1 (by decide) (hts (.fieldLink RX1 7 "OrganBuilderModel" "kind" "[I") (by decide +kernel)) rfl dX1_setRank_51 ?_
          refine lv_iload_n hx hb dX1_setRank_54 rfl (lv_at hl 1 rfl) ?_
          refine lv_iload_n hx hb dX1_setRank_55 rfl (lv_at hl 2 rfl) ?_
          refine w_ist hx hb hK hP (hD _ _) hS rfl rc_at1 (rc_set1 r p2) (by omega) (by decide) dX1_setRank_56 (fun H locs hP hS => ?_)
          refine lv_aload_n hx hb dX1_setRank_57 rfl (lv_at hl 0 rfl) ?_
          refine r_get (v := .ref (a 2)) hx hb hts hin0 hown hK hP rc_at0 2 (by decide) (hts (.fieldLink RX1 13 "OrganBuilderModel" "wind" "[I") (by decide +kernel)) rfl dX1_setRank_58 ?_
          refine lv_iload_n hx hb dX1_setRank_61 rfl (lv_at hl 1 rfl) ?_
          refine lv_iload_n hx hb dX1_setRank_62 rfl (lv_at hl 3 rfl) ?_
          refine w_ist hx hb hK hP (hD _ _) hS rfl rc_at2 (rc_set2 r p3) (by omega) (by decide) dX1_setRank_63 (fun H locs hP hS => ?_)
          refine lv_aload_n hx hb dX1_setRank_64 rfl (lv_at hl 0 rfl) ?_
          refine r_get (v := .ref (a 3)) hx hb hts hin0 hown hK hP rc_at0 3 (by decide) (hts (.fieldLink RX1 16 "OrganBuilderModel" "detune" "[I") (by decide +kernel)) rfl dX1_setRank_65 ?_
          refine lv_iload_n hx hb dX1_setRank_68 rfl (lv_at hl 1 rfl) ?_
          refine lv_iload hx hb dX1_setRank_69 (lv_at hl 4 rfl) ?_
          refine w_ist hx hb hK hP (hD _ _) hS rfl rc_at3 (rc_set3 r p4) (by omega) (by decide) dX1_setRank_71 (fun H locs hP hS => ?_)
          exact e_mv hx hb hr hlocks hP hS (by rw [rRank, if_pos (by simp [kRank, d_5, d_14, d_24, d_36]), nI_clamp (show r < 2 ^ 31 by omega)]) dX1_setRank_72
set_option maxHeartbeats 4000000 in
set_option maxRecDepth 100000 in
theorem r_setStop (l : Launch) (D : va_G) (a : Nat → Nat) (cI cL : ClassId) (I : Nat → Nat → Int32) (J : Nat → Nat → Int64) (p1 p2 p3 : Int32) : Met l yX1_setStop wsX1_setStop ({ frames := 2, cells := 0, slots := 0, locals := 42 } : Room) (va_Pc [.ref (a 0), .int p1, .int p2, .int p3] (mB D (rty cI cL) (rc a cI cL I J))) (mQv D (rc a cI cL I J) (rc a cI cL (rStop I p1 p2 p3) J)) 0 0 (wA (rc a cI cL I J)) := by
  refine Met.ofW (cc := cX1_setStop) (maxL := 5) (ret := none) (by decide) rfl ?_
  intro p e s m args below meth c s₁ B hml hv
  obtain ⟨rfl, hP, hK, hD0⟩ := hv
  have hx := B.exec
  have hb := B.bytes
  have hr := B.returns
  have hts := atoms_spec (ws := wsX1_setStop) B.pre
  have hown : s.vm.findClass RX1 = some m.cls := findClass_of_methodNamed B.named
  have hlocks := B.notSynchronized
  have hin0 : ∀ w ∈ u_ws RX1 TX1 16, w ∈ wsX1_setStop := by decide +kernel
  have hD := rc_D (wA_D hD0)
  have hS : va_S (wA (rc a cI cL I J)) s.heap s.heap [] := va_S.rf
  have hl := lv_entry ([.ref (a 0), .int p1, .int p2, .int p3]) (n := 5) (Nat.le_of_ble_eq_true rfl)
  rw [lg_entry_eq]
  generalize (lg_sl ([.ref (a 0), .int p1, .int p2, .int p3]) ++ List.replicate (5 - (lg_sl ([.ref (a 0), .int p1, .int p2, .int p3])).length) Slot.unset).toArray = ls at hl ⊢
  have hl : lv_has ls 5 [(0, .ref (a 0)), (1, .int p1), (2, .int p2), (3, .int p3)] := hl
  refine lv_iload_n hx hb dX1_setStop_0 rfl (lv_at hl 1 rfl) ?_
  refine lv_iconst (v := 0) hx hb dX1_setStop_1 (by decide) ?_
  refine lv_bipush (v := 11) hx hb dX1_setStop_2 (by decide) ?_
  refine w_pS (As := [.int p1, .int 0, .int 11]) (rest := []) ⟨hx, hb, hml, hown, hts⟩ (r_isIn l p1 0 11) (va_cwS 3 hts gX1_setStop_X1_isIn rfl rfl rfl (by decide +kernel) ⟨Nat.le_of_ble_eq_true rfl, Nat.le_of_ble_eq_true rfl⟩) rfl hl.1 rfl (Nat.le_of_ble_eq_true rfl) dX1_setStop_4 ⟨Nat.le_of_ble_eq_true rfl, Nat.le_of_ble_eq_true rfl⟩ ?_
  refine lv_if_eq (tgt := 28) hx hb dX1_setStop_7 (by decide) (fun c_7 => ?_) (fun c_7 => ?_)
  · have d_7 := bI_eq0 c_7
    refine lv_iconst (v := 0) hx hb dX1_setStop_28 (by decide) ?_
    refine lv_istore (lv' := [(4, .int 0), (0, .ref (a 0)), (1, .int p1), (2, .int p2), (3, .int p3)]) hx hb dX1_setStop_29 hl (by decide) rfl (fun ls hl => ?_)
    refine lv_aload_n hx hb dX1_setStop_31 rfl (lv_at hl 1 rfl) ?_
    refine lv_iload hx hb dX1_setStop_32 (lv_at hl 0 rfl) ?_
    refine lv_if_ne (tgt := 41) hx hb dX1_setStop_34 (by decide) (fun c_34 => (absurd c_34 (by decide))) (fun c_34 => ?_)
    refine lv_iconst (v := 1) hx hb dX1_setStop_37 (by decide) ?_
    refine lv_goto (tgt := 58) hx hb dX1_setStop_38 (by decide) ?_
    refine w_mVi (As := [.int 1]) (rest := []) ⟨hx, hb, hml, hown, hts⟩ (r_isFine l D a cI cL I J 1) (cwV 1 hts gX1_setStop_X1_isFine rfl rfl rfl (by decide +kernel) ⟨Nat.le_of_ble_eq_true rfl, Nat.le_of_ble_eq_true rfl⟩) hK hP (hD _ _) hS rfl rfl rc_at0 rfl hl.1 rfl (Nat.le_of_ble_eq_true rfl) dX1_setStop_58 ⟨Nat.le_of_ble_eq_true rfl, Nat.le_of_ble_eq_true rfl⟩ (fun H locs hP hS => ?_)
    refine lv_asi 0 (by decide) ?_
    refine lv_if_eq (tgt := 78) hx hb dX1_setStop_61 (by decide) (fun c_61 => ?_) (fun c_61 => (absurd c_61 (by decide)))
    exact e_mv hx hb hr hlocks hP hS (by simp [rStop, qStop, d_7]) dX1_setStop_78
  · have d_7 := bI_ne0 c_7
    refine lv_iload_n hx hb dX1_setStop_10 rfl (lv_at hl 2 rfl) ?_
    refine w_pS (As := [.int p2]) (rest := []) ⟨hx, hb, hml, hown, hts⟩ (r_isManual l p2) (va_cwS 1 hts gX1_setStop_X1_isManual rfl rfl rfl (by decide +kernel) ⟨Nat.le_of_ble_eq_true rfl, Nat.le_of_ble_eq_true rfl⟩) rfl hl.1 rfl (Nat.le_of_ble_eq_true rfl) dX1_setStop_11 ⟨Nat.le_of_ble_eq_true rfl, Nat.le_of_ble_eq_true rfl⟩ ?_
    refine lv_if_eq (tgt := 28) hx hb dX1_setStop_14 (by decide) (fun c_14 => ?_) (fun c_14 => ?_)
    · have d_14 := bI_eq0 c_14
      refine lv_iconst (v := 0) hx hb dX1_setStop_28 (by decide) ?_
      refine lv_istore (lv' := [(4, .int 0), (0, .ref (a 0)), (1, .int p1), (2, .int p2), (3, .int p3)]) hx hb dX1_setStop_29 hl (by decide) rfl (fun ls hl => ?_)
      refine lv_aload_n hx hb dX1_setStop_31 rfl (lv_at hl 1 rfl) ?_
      refine lv_iload hx hb dX1_setStop_32 (lv_at hl 0 rfl) ?_
      refine lv_if_ne (tgt := 41) hx hb dX1_setStop_34 (by decide) (fun c_34 => (absurd c_34 (by decide))) (fun c_34 => ?_)
      refine lv_iconst (v := 1) hx hb dX1_setStop_37 (by decide) ?_
      refine lv_goto (tgt := 58) hx hb dX1_setStop_38 (by decide) ?_
      refine w_mVi (As := [.int 1]) (rest := []) ⟨hx, hb, hml, hown, hts⟩ (r_isFine l D a cI cL I J 1) (cwV 1 hts gX1_setStop_X1_isFine rfl rfl rfl (by decide +kernel) ⟨Nat.le_of_ble_eq_true rfl, Nat.le_of_ble_eq_true rfl⟩) hK hP (hD _ _) hS rfl rfl rc_at0 rfl hl.1 rfl (Nat.le_of_ble_eq_true rfl) dX1_setStop_58 ⟨Nat.le_of_ble_eq_true rfl, Nat.le_of_ble_eq_true rfl⟩ (fun H locs hP hS => ?_)
      refine lv_asi 0 (by decide) ?_
      refine lv_if_eq (tgt := 78) hx hb dX1_setStop_61 (by decide) (fun c_61 => ?_) (fun c_61 => (absurd c_61 (by decide)))
      exact e_mv hx hb hr hlocks hP hS (by simp [rStop, qStop, d_7, d_14]) dX1_setStop_78
    · have d_14 := bI_ne0 c_14
      refine lv_iload_n hx hb dX1_setStop_17 rfl (lv_at hl 3 rfl) ?_
      refine w_pS (As := [.int p3]) (rest := []) ⟨hx, hb, hml, hown, hts⟩ (r_isRank l p3) (va_cwS 1 hts gX1_setStop_X1_isRank rfl rfl rfl (by decide +kernel) ⟨Nat.le_of_ble_eq_true rfl, Nat.le_of_ble_eq_true rfl⟩) rfl hl.1 rfl (Nat.le_of_ble_eq_true rfl) dX1_setStop_18 ⟨Nat.le_of_ble_eq_true rfl, Nat.le_of_ble_eq_true rfl⟩ ?_
      refine lv_if_eq (tgt := 28) hx hb dX1_setStop_21 (by decide) (fun c_21 => ?_) (fun c_21 => ?_)
      · have d_21 := bI_eq0 c_21
        refine lv_iconst (v := 0) hx hb dX1_setStop_28 (by decide) ?_
        refine lv_istore (lv' := [(4, .int 0), (0, .ref (a 0)), (1, .int p1), (2, .int p2), (3, .int p3)]) hx hb dX1_setStop_29 hl (by decide) rfl (fun ls hl => ?_)
        refine lv_aload_n hx hb dX1_setStop_31 rfl (lv_at hl 1 rfl) ?_
        refine lv_iload hx hb dX1_setStop_32 (lv_at hl 0 rfl) ?_
        refine lv_if_ne (tgt := 41) hx hb dX1_setStop_34 (by decide) (fun c_34 => (absurd c_34 (by decide))) (fun c_34 => ?_)
        refine lv_iconst (v := 1) hx hb dX1_setStop_37 (by decide) ?_
        refine lv_goto (tgt := 58) hx hb dX1_setStop_38 (by decide) ?_
        refine w_mVi (As := [.int 1]) (rest := []) ⟨hx, hb, hml, hown, hts⟩ (r_isFine l D a cI cL I J 1) (cwV 1 hts gX1_setStop_X1_isFine rfl rfl rfl (by decide +kernel) ⟨Nat.le_of_ble_eq_true rfl, Nat.le_of_ble_eq_true rfl⟩) hK hP (hD _ _) hS rfl rfl rc_at0 rfl hl.1 rfl (Nat.le_of_ble_eq_true rfl) dX1_setStop_58 ⟨Nat.le_of_ble_eq_true rfl, Nat.le_of_ble_eq_true rfl⟩ (fun H locs hP hS => ?_)
        refine lv_asi 0 (by decide) ?_
        refine lv_if_eq (tgt := 78) hx hb dX1_setStop_61 (by decide) (fun c_61 => ?_) (fun c_61 => (absurd c_61 (by decide)))
        exact e_mv hx hb hr hlocks hP hS (by simp [rStop, qStop, d_7, d_14, d_21]) dX1_setStop_78
      · have d_21 := bI_ne0 c_21
        refine lv_iconst (v := 1) hx hb dX1_setStop_24 (by decide) ?_
        refine lv_goto (tgt := 29) hx hb dX1_setStop_25 (by decide) ?_
        refine lv_istore (lv' := [(4, .int 1), (0, .ref (a 0)), (1, .int p1), (2, .int p2), (3, .int p3)]) hx hb dX1_setStop_29 hl (by decide) rfl (fun ls hl => ?_)
        refine lv_aload_n hx hb dX1_setStop_31 rfl (lv_at hl 1 rfl) ?_
        refine lv_iload hx hb dX1_setStop_32 (lv_at hl 0 rfl) ?_
        refine lv_if_ne (tgt := 41) hx hb dX1_setStop_34 (by decide) (fun c_34 => ?_) (fun c_34 => (absurd c_34 (by decide)))
        refine lv_aload_n hx hb dX1_setStop_41 rfl (lv_at hl 1 rfl) ?_
        refine r_get (v := .int (I 20 1)) hx hb hts hin0 hown hK hP rc_at0 6 (by decide) (hts (.fieldLink RX1 75 "OrganBuilderModel" "drawn" "I") (by decide +kernel)) rfl dX1_setStop_42 ?_
        refine lv_i2l hx hb dX1_setStop_45 rfl ?_
        refine lv_iload_n hx hb dX1_setStop_46 rfl (lv_at hl 2 rfl) ?_
        refine w_pS (As := [.long ((I 20 1).toInt64), .int p1]) (rest := [.ref (a 0)]) ⟨hx, hb, hml, hown, hts⟩ (r_has l ((I 20 1).toInt64) p1) (va_cwS 2 hts gX1_setStop_X1_has rfl rfl rfl (by decide +kernel) ⟨Nat.le_of_ble_eq_true rfl, Nat.le_of_ble_eq_true rfl⟩) rfl hl.1 rfl (Nat.le_of_ble_eq_true rfl) dX1_setStop_47 ⟨Nat.le_of_ble_eq_true rfl, Nat.le_of_ble_eq_true rfl⟩ ?_
        refine lv_if_eq (tgt := 57) hx hb dX1_setStop_50 (by decide) (fun c_50 => ?_) (fun c_50 => ?_)
        · have d_50 := bI_eq0 c_50
          refine lv_iconst (v := 0) hx hb dX1_setStop_57 (by decide) ?_
          refine w_mVi (As := [.int 0]) (rest := []) ⟨hx, hb, hml, hown, hts⟩ (r_isFine l D a cI cL I J 0) (cwV 1 hts gX1_setStop_X1_isFine rfl rfl rfl (by decide +kernel) ⟨Nat.le_of_ble_eq_true rfl, Nat.le_of_ble_eq_true rfl⟩) hK hP (hD _ _) hS rfl rfl rc_at0 rfl hl.1 rfl (Nat.le_of_ble_eq_true rfl) dX1_setStop_58 ⟨Nat.le_of_ble_eq_true rfl, Nat.le_of_ble_eq_true rfl⟩ (fun H locs hP hS => ?_)
          refine lv_asi 1 (by decide) ?_
          refine lv_if_eq (tgt := 78) hx hb dX1_setStop_61 (by decide) (fun c_61 => (absurd c_61 (by decide))) (fun c_61 => ?_)
          obtain ⟨sp, bsp, rfl⟩ := rg_nat (n := 11) d_7 (by decide)
          refine lv_aload_n hx hb dX1_setStop_64 rfl (lv_at hl 1 rfl) ?_
          refine r_get (v := .ref (a 4)) hx hb hts hin0 hown hK hP rc_at0 4 (by decide) (hts (.fieldLink RX1 19 "OrganBuilderModel" "manual" "[I") (by decide +kernel)) rfl dX1_setStop_65 ?_
          refine lv_iload_n hx hb dX1_setStop_68 rfl (lv_at hl 2 rfl) ?_
          refine lv_iload_n hx hb dX1_setStop_69 rfl (lv_at hl 3 rfl) ?_
          refine w_ist hx hb hK hP (hD _ _) hS rfl rc_at4 (rc_set4 sp p2) (by omega) (by decide) dX1_setStop_70 (fun H locs hP hS => ?_)
          refine lv_aload_n hx hb dX1_setStop_71 rfl (lv_at hl 1 rfl) ?_
          refine r_get (v := .ref (a 5)) hx hb hts hin0 hown hK hP rc_at0 5 (by decide) (hts (.fieldLink RX1 22 "OrganBuilderModel" "rank" "[I") (by decide +kernel)) rfl dX1_setStop_72 ?_
          refine lv_iload_n hx hb dX1_setStop_75 rfl (lv_at hl 2 rfl) ?_
          refine lv_iload_n hx hb dX1_setStop_76 rfl (lv_at hl 4 rfl) ?_
          refine w_ist hx hb hK hP (hD _ _) hS rfl rc_at5 (rc_set5 sp p3) (by omega) (by decide) dX1_setStop_77 (fun H locs hP hS => ?_)
          exact e_mv hx hb hr hlocks hP hS (by rw [rStop, if_pos (by simp [qStop, d_7, d_14, d_21, d_50]), nI_clamp (show sp < 2 ^ 31 by omega)]) dX1_setStop_78
        · have d_50 := bI_ne0 c_50
          refine lv_iconst (v := 2) hx hb dX1_setStop_53 (by decide) ?_
          refine lv_goto (tgt := 58) hx hb dX1_setStop_54 (by decide) ?_
          refine w_mVi (As := [.int 2]) (rest := []) ⟨hx, hb, hml, hown, hts⟩ (r_isFine l D a cI cL I J 2) (cwV 1 hts gX1_setStop_X1_isFine rfl rfl rfl (by decide +kernel) ⟨Nat.le_of_ble_eq_true rfl, Nat.le_of_ble_eq_true rfl⟩) hK hP (hD _ _) hS rfl rfl rc_at0 rfl hl.1 rfl (Nat.le_of_ble_eq_true rfl) dX1_setStop_58 ⟨Nat.le_of_ble_eq_true rfl, Nat.le_of_ble_eq_true rfl⟩ (fun H locs hP hS => ?_)
          refine lv_asi 0 (by decide) ?_
          refine lv_if_eq (tgt := 78) hx hb dX1_setStop_61 (by decide) (fun c_61 => ?_) (fun c_61 => (absurd c_61 (by decide)))
          exact e_mv hx hb hr hlocks hP hS (by simp [rStop, qStop, d_7, d_14, d_21, d_50]) dX1_setStop_78
set_option maxHeartbeats 4000000 in
set_option maxRecDepth 100000 in
theorem r_couple (l : Launch) (D : va_G) (a : Nat → Nat) (cI cL : ClassId) (I : Nat → Nat → Int32) (J : Nat → Nat → Int64) (p1 p2 p3 : Int32) : Met l yX1_couple wsX1_couple ({ frames := 2, cells := 0, slots := 0, locals := 45 } : Room) (va_Pc [.ref (a 0), .int p1, .int p2, .int p3] (mB D (rty cI cL) (rc a cI cL I J))) (mQi D (rc a cI cL I J) (rc a cI cL (rCpl I p1 p2 p3) J) (aCpl I p1 p2 p3)) 0 0 (wA (rc a cI cL I J)) := by
  refine Met.ofW (cc := cX1_couple) (maxL := 7) (ret := (some .int)) (by decide) rfl ?_
  intro p e s m args below meth c s₁ B hml hv
  obtain ⟨rfl, hP, hK, hD0⟩ := hv
  have hx := B.exec
  have hb := B.bytes
  have hr := B.returns
  have hts := atoms_spec (ws := wsX1_couple) B.pre
  have hown : s.vm.findClass RX1 = some m.cls := findClass_of_methodNamed B.named
  have hlocks := B.notSynchronized
  have hin0 : ∀ w ∈ u_ws RX1 TX1 16, w ∈ wsX1_couple := by decide +kernel
  have hD := rc_D (wA_D hD0)
  have hS : va_S (wA (rc a cI cL I J)) s.heap s.heap [] := va_S.rf
  have hl := lv_entry ([.ref (a 0), .int p1, .int p2, .int p3]) (n := 7) (Nat.le_of_ble_eq_true rfl)
  rw [lg_entry_eq]
  generalize (lg_sl ([.ref (a 0), .int p1, .int p2, .int p3]) ++ List.replicate (7 - (lg_sl ([.ref (a 0), .int p1, .int p2, .int p3])).length) Slot.unset).toArray = ls at hl ⊢
  have hl : lv_has ls 7 [(0, .ref (a 0)), (1, .int p1), (2, .int p2), (3, .int p3)] := hl
  refine lv_iload_n hx hb dX1_couple_0 rfl (lv_at hl 1 rfl) ?_
  refine w_pS (As := [.int p1]) (rest := []) ⟨hx, hb, hml, hown, hts⟩ (r_isManual l p1) (va_cwS 1 hts gX1_couple_X1_isManual rfl rfl rfl (by decide +kernel) ⟨Nat.le_of_ble_eq_true rfl, Nat.le_of_ble_eq_true rfl⟩) rfl hl.1 rfl (Nat.le_of_ble_eq_true rfl) dX1_couple_1 ⟨Nat.le_of_ble_eq_true rfl, Nat.le_of_ble_eq_true rfl⟩ ?_
  refine lv_if_eq (tgt := 39) hx hb dX1_couple_4 (by decide) (fun c_4 => ?_) (fun c_4 => ?_)
  · have d_4 := bI_eq0 c_4
    refine lv_iconst (v := 0) hx hb dX1_couple_39 (by decide) ?_
    refine lv_istore (lv' := [(4, .int 0), (0, .ref (a 0)), (1, .int p1), (2, .int p2), (3, .int p3)]) hx hb dX1_couple_40 hl (by decide) rfl (fun ls hl => ?_)
    refine lv_aload_n hx hb dX1_couple_42 rfl (lv_at hl 1 rfl) ?_
    refine lv_iload hx hb dX1_couple_43 (lv_at hl 0 rfl) ?_
    refine lv_if_ne (tgt := 52) hx hb dX1_couple_45 (by decide) (fun c_45 => (absurd c_45 (by decide))) (fun c_45 => ?_)
    refine lv_iconst (v := 1) hx hb dX1_couple_48 (by decide) ?_
    refine lv_goto (tgt := 66) hx hb dX1_couple_49 (by decide) ?_
    refine w_mVi (As := [.int 1]) (rest := []) ⟨hx, hb, hml, hown, hts⟩ (r_isFine l D a cI cL I J 1) (cwV 1 hts gX1_couple_X1_isFine rfl rfl rfl (by decide +kernel) ⟨Nat.le_of_ble_eq_true rfl, Nat.le_of_ble_eq_true rfl⟩) hK hP (hD _ _) hS rfl rfl rc_at0 rfl hl.1 rfl (Nat.le_of_ble_eq_true rfl) dX1_couple_66 ⟨Nat.le_of_ble_eq_true rfl, Nat.le_of_ble_eq_true rfl⟩ (fun H locs hP hS => ?_)
    refine lv_asi 0 (by decide) ?_
    refine lv_if_ne (tgt := 74) hx hb dX1_couple_69 (by decide) (fun c_69 => (absurd c_69 (by decide))) (fun c_69 => ?_)
    refine lv_iconst (v := 0) hx hb dX1_couple_72 (by decide) ?_
    exact e_mi hx hb hr rfl hlocks hP hS (by simp [rCpl, qCpl, d_4]) (by simp [aCpl, qCpl, d_4]) dX1_couple_73
  · have d_4 := bI_ne0 c_4
    refine lv_iload_n hx hb dX1_couple_7 rfl (lv_at hl 2 rfl) ?_
    refine w_pS (As := [.int p2]) (rest := []) ⟨hx, hb, hml, hown, hts⟩ (r_isManual l p2) (va_cwS 1 hts gX1_couple_X1_isManual rfl rfl rfl (by decide +kernel) ⟨Nat.le_of_ble_eq_true rfl, Nat.le_of_ble_eq_true rfl⟩) rfl hl.1 rfl (Nat.le_of_ble_eq_true rfl) dX1_couple_8 ⟨Nat.le_of_ble_eq_true rfl, Nat.le_of_ble_eq_true rfl⟩ ?_
    refine lv_if_eq (tgt := 39) hx hb dX1_couple_11 (by decide) (fun c_11 => ?_) (fun c_11 => ?_)
    · have d_11 := bI_eq0 c_11
      refine lv_iconst (v := 0) hx hb dX1_couple_39 (by decide) ?_
      refine lv_istore (lv' := [(4, .int 0), (0, .ref (a 0)), (1, .int p1), (2, .int p2), (3, .int p3)]) hx hb dX1_couple_40 hl (by decide) rfl (fun ls hl => ?_)
      refine lv_aload_n hx hb dX1_couple_42 rfl (lv_at hl 1 rfl) ?_
      refine lv_iload hx hb dX1_couple_43 (lv_at hl 0 rfl) ?_
      refine lv_if_ne (tgt := 52) hx hb dX1_couple_45 (by decide) (fun c_45 => (absurd c_45 (by decide))) (fun c_45 => ?_)
      refine lv_iconst (v := 1) hx hb dX1_couple_48 (by decide) ?_
      refine lv_goto (tgt := 66) hx hb dX1_couple_49 (by decide) ?_
      refine w_mVi (As := [.int 1]) (rest := []) ⟨hx, hb, hml, hown, hts⟩ (r_isFine l D a cI cL I J 1) (cwV 1 hts gX1_couple_X1_isFine rfl rfl rfl (by decide +kernel) ⟨Nat.le_of_ble_eq_true rfl, Nat.le_of_ble_eq_true rfl⟩) hK hP (hD _ _) hS rfl rfl rc_at0 rfl hl.1 rfl (Nat.le_of_ble_eq_true rfl) dX1_couple_66 ⟨Nat.le_of_ble_eq_true rfl, Nat.le_of_ble_eq_true rfl⟩ (fun H locs hP hS => ?_)
      refine lv_asi 0 (by decide) ?_
      refine lv_if_ne (tgt := 74) hx hb dX1_couple_69 (by decide) (fun c_69 => (absurd c_69 (by decide))) (fun c_69 => ?_)
      refine lv_iconst (v := 0) hx hb dX1_couple_72 (by decide) ?_
      exact e_mi hx hb hr rfl hlocks hP hS (by simp [rCpl, qCpl, d_4, d_11]) (by simp [aCpl, qCpl, d_4, d_11]) dX1_couple_73
    · have d_11 := bI_ne0 c_11
      refine lv_iload_n hx hb dX1_couple_14 rfl (lv_at hl 1 rfl) ?_
      refine lv_iload_n hx hb dX1_couple_15 rfl (lv_at hl 2 rfl) ?_
      refine lv_icmp_eq (tgt := 39) hx hb dX1_couple_16 (by decide) (fun c_16 => ?_) (fun c_16 => ?_)
      · refine lv_iconst (v := 0) hx hb dX1_couple_39 (by decide) ?_
        refine lv_istore (lv' := [(4, .int 0), (0, .ref (a 0)), (1, .int p1), (2, .int p2), (3, .int p3)]) hx hb dX1_couple_40 hl (by decide) rfl (fun ls hl => ?_)
        refine lv_aload_n hx hb dX1_couple_42 rfl (lv_at hl 1 rfl) ?_
        refine lv_iload hx hb dX1_couple_43 (lv_at hl 0 rfl) ?_
        refine lv_if_ne (tgt := 52) hx hb dX1_couple_45 (by decide) (fun c_45 => (absurd c_45 (by decide))) (fun c_45 => ?_)
        refine lv_iconst (v := 1) hx hb dX1_couple_48 (by decide) ?_
        refine lv_goto (tgt := 66) hx hb dX1_couple_49 (by decide) ?_
        refine w_mVi (As := [.int 1]) (rest := []) ⟨hx, hb, hml, hown, hts⟩ (r_isFine l D a cI cL I J 1) (cwV 1 hts gX1_couple_X1_isFine rfl rfl rfl (by decide +kernel) ⟨Nat.le_of_ble_eq_true rfl, Nat.le_of_ble_eq_true rfl⟩) hK hP (hD _ _) hS rfl rfl rc_at0 rfl hl.1 rfl (Nat.le_of_ble_eq_true rfl) dX1_couple_66 ⟨Nat.le_of_ble_eq_true rfl, Nat.le_of_ble_eq_true rfl⟩ (fun H locs hP hS => ?_)
        refine lv_asi 0 (by decide) ?_
        refine lv_if_ne (tgt := 74) hx hb dX1_couple_69 (by decide) (fun c_69 => (absurd c_69 (by decide))) (fun c_69 => ?_)
        refine lv_iconst (v := 0) hx hb dX1_couple_72 (by decide) ?_
        exact e_mi hx hb hr rfl hlocks hP hS (by simp [rCpl, qCpl, d_4, d_11, c_16]) (by simp [aCpl, qCpl, d_4, d_11, c_16]) dX1_couple_73
      · refine lv_iload_n hx hb dX1_couple_19 rfl (lv_at hl 3 rfl) ?_
        refine lv_if_eq (tgt := 35) hx hb dX1_couple_20 (by decide) (fun c_20 => ?_) (fun c_20 => ?_)
        · refine lv_iconst (v := 1) hx hb dX1_couple_35 (by decide) ?_
          refine lv_goto (tgt := 40) hx hb dX1_couple_36 (by decide) ?_
          refine lv_istore (lv' := [(4, .int 1), (0, .ref (a 0)), (1, .int p1), (2, .int p2), (3, .int p3)]) hx hb dX1_couple_40 hl (by decide) rfl (fun ls hl => ?_)
          refine lv_aload_n hx hb dX1_couple_42 rfl (lv_at hl 1 rfl) ?_
          refine lv_iload hx hb dX1_couple_43 (lv_at hl 0 rfl) ?_
          refine lv_if_ne (tgt := 52) hx hb dX1_couple_45 (by decide) (fun c_45 => ?_) (fun c_45 => (absurd c_45 (by decide)))
          obtain ⟨f, bf, rfl⟩ := rg_nat (n := 2) d_4 (by decide)
          obtain ⟨t, bt, rfl⟩ := rg_nat (n := 2) d_11 (by decide)
          have hft : ¬ f = t := fun q => c_16 (by rw [q])
          have hne : ¬ t = f := fun q => hft q.symm
          refine lv_aload_n hx hb dX1_couple_52 rfl (lv_at hl 1 rfl) ?_
          refine lv_iload_n hx hb dX1_couple_53 rfl (lv_at hl 3 rfl) ?_
          refine lv_iload_n hx hb dX1_couple_54 rfl (lv_at hl 2 rfl) ?_
          refine w_pV (As := [.int (nI t), .int (nI f)]) (rest := [.ref (a 0)]) ⟨hx, hb, hml, hown, hts⟩ (r_comes l D a cI cL I J t f (by omega) (by omega) hne) (cwV 2 hts gX1_couple_X1_comes rfl rfl rfl (by decide +kernel) ⟨Nat.le_of_ble_eq_true rfl, Nat.le_of_ble_eq_true rfl⟩) hK hP rfl rfl rc_at0 rfl hl.1 rfl (Nat.le_of_ble_eq_true rfl) dX1_couple_55 ⟨Nat.le_of_ble_eq_true rfl, Nat.le_of_ble_eq_true rfl⟩ ?_
          refine lv_if_eq (tgt := 65) hx hb dX1_couple_58 (by decide) (fun c_58 => ?_) (fun c_58 => ?_)
          · have d_58 := bI_eq0 c_58
            refine lv_iconst (v := 0) hx hb dX1_couple_65 (by decide) ?_
            refine w_mVi (As := [.int 0]) (rest := []) ⟨hx, hb, hml, hown, hts⟩ (r_isFine l D a cI cL I J 0) (cwV 1 hts gX1_couple_X1_isFine rfl rfl rfl (by decide +kernel) ⟨Nat.le_of_ble_eq_true rfl, Nat.le_of_ble_eq_true rfl⟩) hK hP (hD _ _) hS rfl rfl rc_at0 rfl hl.1 rfl (Nat.le_of_ble_eq_true rfl) dX1_couple_66 ⟨Nat.le_of_ble_eq_true rfl, Nat.le_of_ble_eq_true rfl⟩ (fun H locs hP hS => ?_)
            refine lv_asi 1 (by decide) ?_
            refine lv_if_ne (tgt := 74) hx hb dX1_couple_69 (by decide) (fun c_69 => ?_) (fun c_69 => (absurd c_69 (by decide)))
            refine lv_aload_n hx hb dX1_couple_74 rfl (lv_at hl 1 rfl) ?_
            refine r_get (v := .ref (a 6)) hx hb hts hin0 hown hK hP rc_at0 7 (by decide) (hts (.fieldLink RX1 25 "OrganBuilderModel" "coupler" "[I") (by decide +kernel)) rfl dX1_couple_75 ?_
            refine lv_iconst (v := (nI 3)) hx hb dX1_couple_78 (by decide) ?_
            refine lv_iload_n hx hb dX1_couple_79 rfl (lv_at hl 2 rfl) ?_
            refine lv_imul hx hb dX1_couple_80 ?_
            refine lv_iload_n hx hb dX1_couple_81 rfl (lv_at hl 3 rfl) ?_
            refine lv_iadd hx hb dX1_couple_82 ?_
            refine lv_asi (nI (3 * f + t)) (ix3 f t) ?_
            refine lv_iload_n hx hb dX1_couple_83 rfl (lv_at hl 4 rfl) ?_
            refine lv_bipush (v := 12) hx hb dX1_couple_84 (by decide) ?_
            refine lv_idiv hx hb dX1_couple_86 (by decide) ?_
            refine lv_iconst (v := 2) hx hb dX1_couple_87 (by decide) ?_
            refine lv_iadd hx hb dX1_couple_88 ?_
            refine w_ist hx hb hK hP (hD _ _) hS rfl rc_at6 (rc_set6 (3 * f + t) ((p3 / 12) + 2)) (by omega) (by decide) dX1_couple_89 (fun H locs hP hS => ?_)
            refine lv_iconst (v := 0) hx hb dX1_couple_90 (by decide) ?_
            refine lv_istore (lv' := [(5, .int 0), (4, .int 1), (0, .ref (a 0)), (1, .int (nI f)), (2, .int (nI t)), (3, .int p3)]) hx hb dX1_couple_91 hl (by decide) rfl (fun ls hl => ?_)
            refine lv_iconst (v := 0) hx hb dX1_couple_93 (by decide) ?_
            refine lv_istore (lv' := [(6, .int 0), (5, .int 0), (4, .int 1), (0, .ref (a 0)), (1, .int (nI f)), (2, .int (nI t)), (3, .int p3)]) hx hb dX1_couple_94 hl (by decide) rfl (fun ls hl => ?_)
            refine W_loopH (σ := Unit) 0 9 96 (fun k _ H locs ls => va_P D vwCl (rc a cI cL (u2 (u2 I 20 0 0) 5 (3 * f + t) (p3 / 12 + 2)) J) H ∧ va_S (wA (rc a cI cL I J)) s.heap H locs ∧ lv_has ls 7 [(0, .ref (a 0)), (5, .int (rccF (u2 (u2 I 20 0 0) 5 (3 * f + t) (p3 / 12 + 2)) k)), (6, .int (nI k))]) (fun k _ H locs ls g_k h_k hI_k ih_k => ?_) () (by decide) ⟨hP, hS, lv_sub hl [3, 1, 0] rfl⟩
            obtain ⟨hP, hS, hl⟩ := hI_k
            refine lv_iload hx hb dX1_couple_96 (lv_at hl 2 rfl) ?_
            refine lv_bipush (v := 9) hx hb dX1_couple_98 (by decide) ?_
            refine lo_ge (n := 9) (tgt := 129) hx hb rfl (by omega) (by omega) dX1_couple_100 (by decide) (fun c_100 => ?_) (fun c_100 => ?_)
            · refine lv_iload hx hb dX1_couple_129 (lv_at hl 1 rfl) ?_
              exact e_mi hx hb hr rfl hlocks hP hS (by rw [rCpl, if_pos (by simp [qCpl, d_4, d_11, c_16, c_20, nI_clamp (show f < 2 ^ 31 by omega), nI_clamp (show t < 2 ^ 31 by omega), d_58]), rCplI, nI_clamp (show f < 2 ^ 31 by omega), nI_clamp (show t < 2 ^ 31 by omega)]) (by rw [aCpl, if_pos (by simp [qCpl, d_4, d_11, c_16, c_20, nI_clamp (show f < 2 ^ 31 by omega), nI_clamp (show t < 2 ^ 31 by omega), d_58]), rCplI, nI_clamp (show f < 2 ^ 31 by omega), nI_clamp (show t < 2 ^ 31 by omega), show k = 9 by omega]) dX1_couple_131
            · refine lv_iload hx hb dX1_couple_103 (lv_at hl 1 rfl) ?_
              refine lv_aload_n hx hb dX1_couple_105 rfl (lv_at hl 0 rfl) ?_
              refine r_get (v := .ref (a 6)) hx hb hts hin0 hown hK hP rc_at0 7 (by decide) (hts (.fieldLink RX1 25 "OrganBuilderModel" "coupler" "[I") (by decide +kernel)) rfl dX1_couple_106 ?_
              refine lv_iload hx hb dX1_couple_109 (lv_at hl 2 rfl) ?_
              refine w_ild hx hb hK hP rfl rc_at6 (by omega) (by decide) dX1_couple_111 ?_
              refine lv_if_le (tgt := 119) hx hb dX1_couple_112 (by decide) (fun c_112 => ?_) (fun c_112 => ?_)
              · refine lv_iconst (v := 0) hx hb dX1_couple_119 (by decide) ?_
                refine lv_iadd hx hb dX1_couple_120 ?_
                refine lv_asi (rccF (u2 (u2 I 20 0 0) 5 (3 * f + t) (p3 / 12 + 2)) (k + 1)) (rcc_0 c_112 rfl) ?_
                refine lv_istore (lv' := [(5, .int (rccF (u2 (u2 I 20 0 0) 5 (3 * f + t) (p3 / 12 + 2)) (k + 1))), (0, .ref (a 0)), (6, .int (nI k))]) hx hb dX1_couple_121 hl (by decide) rfl (fun ls hl => ?_)
                refine lv_iinc (v := (nI (k + 1))) (lv' := [(6, .int (nI (k + 1))), (5, .int (rccF (u2 (u2 I 20 0 0) 5 (3 * f + t) (p3 / 12 + 2)) (k + 1))), (0, .ref (a 0))]) hx hb dX1_couple_123 hl (k := 2) rfl (nI_inc _) (by decide) rfl (fun ls hl => ?_)
                refine lv_goto (tgt := 96) hx hb dX1_couple_126 (by decide) ?_
                exact ih_k () H locs ls (by omega) ⟨hP, hS, lv_sub hl [2, 1, 0] rfl⟩
              · refine lv_iconst (v := 1) hx hb dX1_couple_115 (by decide) ?_
                refine lv_goto (tgt := 120) hx hb dX1_couple_116 (by decide) ?_
                refine lv_iadd hx hb dX1_couple_120 ?_
                refine lv_asi (rccF (u2 (u2 I 20 0 0) 5 (3 * f + t) (p3 / 12 + 2)) (k + 1)) (rcc_1 c_112 rfl) ?_
                refine lv_istore (lv' := [(5, .int (rccF (u2 (u2 I 20 0 0) 5 (3 * f + t) (p3 / 12 + 2)) (k + 1))), (0, .ref (a 0)), (6, .int (nI k))]) hx hb dX1_couple_121 hl (by decide) rfl (fun ls hl => ?_)
                refine lv_iinc (v := (nI (k + 1))) (lv' := [(6, .int (nI (k + 1))), (5, .int (rccF (u2 (u2 I 20 0 0) 5 (3 * f + t) (p3 / 12 + 2)) (k + 1))), (0, .ref (a 0))]) hx hb dX1_couple_123 hl (k := 2) rfl (nI_inc _) (by decide) rfl (fun ls hl => ?_)
                refine lv_goto (tgt := 96) hx hb dX1_couple_126 (by decide) ?_
                exact ih_k () H locs ls (by omega) ⟨hP, hS, lv_sub hl [2, 1, 0] rfl⟩
          · have d_58 := bI_ne0 c_58
            refine lv_iconst (v := 2) hx hb dX1_couple_61 (by decide) ?_
            refine lv_goto (tgt := 66) hx hb dX1_couple_62 (by decide) ?_
            refine w_mVi (As := [.int 2]) (rest := []) ⟨hx, hb, hml, hown, hts⟩ (r_isFine l D a cI cL I J 2) (cwV 1 hts gX1_couple_X1_isFine rfl rfl rfl (by decide +kernel) ⟨Nat.le_of_ble_eq_true rfl, Nat.le_of_ble_eq_true rfl⟩) hK hP (hD _ _) hS rfl rfl rc_at0 rfl hl.1 rfl (Nat.le_of_ble_eq_true rfl) dX1_couple_66 ⟨Nat.le_of_ble_eq_true rfl, Nat.le_of_ble_eq_true rfl⟩ (fun H locs hP hS => ?_)
            refine lv_asi 0 (by decide) ?_
            refine lv_if_ne (tgt := 74) hx hb dX1_couple_69 (by decide) (fun c_69 => (absurd c_69 (by decide))) (fun c_69 => ?_)
            refine lv_iconst (v := 0) hx hb dX1_couple_72 (by decide) ?_
            exact e_mi hx hb hr rfl hlocks hP hS (by simp [rCpl, qCpl, d_4, d_11, c_16, c_20, nI_clamp (show f < 2 ^ 31 by omega), nI_clamp (show t < 2 ^ 31 by omega), d_58]) (by simp [aCpl, qCpl, d_4, d_11, c_16, c_20, nI_clamp (show f < 2 ^ 31 by omega), nI_clamp (show t < 2 ^ 31 by omega), d_58]) dX1_couple_73
        · refine lv_iload_n hx hb dX1_couple_23 rfl (lv_at hl 3 rfl) ?_
          refine lv_bipush (v := 12) hx hb dX1_couple_24 (by decide) ?_
          refine lv_icmp_eq (tgt := 35) hx hb dX1_couple_26 (by decide) (fun c_26 => ?_) (fun c_26 => ?_)
          · refine lv_iconst (v := 1) hx hb dX1_couple_35 (by decide) ?_
            refine lv_goto (tgt := 40) hx hb dX1_couple_36 (by decide) ?_
            refine lv_istore (lv' := [(4, .int 1), (0, .ref (a 0)), (1, .int p1), (2, .int p2), (3, .int p3)]) hx hb dX1_couple_40 hl (by decide) rfl (fun ls hl => ?_)
            refine lv_aload_n hx hb dX1_couple_42 rfl (lv_at hl 1 rfl) ?_
            refine lv_iload hx hb dX1_couple_43 (lv_at hl 0 rfl) ?_
            refine lv_if_ne (tgt := 52) hx hb dX1_couple_45 (by decide) (fun c_45 => ?_) (fun c_45 => (absurd c_45 (by decide)))
            obtain ⟨f, bf, rfl⟩ := rg_nat (n := 2) d_4 (by decide)
            obtain ⟨t, bt, rfl⟩ := rg_nat (n := 2) d_11 (by decide)
            have hft : ¬ f = t := fun q => c_16 (by rw [q])
            have hne : ¬ t = f := fun q => hft q.symm
            refine lv_aload_n hx hb dX1_couple_52 rfl (lv_at hl 1 rfl) ?_
            refine lv_iload_n hx hb dX1_couple_53 rfl (lv_at hl 3 rfl) ?_
            refine lv_iload_n hx hb dX1_couple_54 rfl (lv_at hl 2 rfl) ?_
            refine w_pV (As := [.int (nI t), .int (nI f)]) (rest := [.ref (a 0)]) ⟨hx, hb, hml, hown, hts⟩ (r_comes l D a cI cL I J t f (by omega) (by omega) hne) (cwV 2 hts gX1_couple_X1_comes rfl rfl rfl (by decide +kernel) ⟨Nat.le_of_ble_eq_true rfl, Nat.le_of_ble_eq_true rfl⟩) hK hP rfl rfl rc_at0 rfl hl.1 rfl (Nat.le_of_ble_eq_true rfl) dX1_couple_55 ⟨Nat.le_of_ble_eq_true rfl, Nat.le_of_ble_eq_true rfl⟩ ?_
            refine lv_if_eq (tgt := 65) hx hb dX1_couple_58 (by decide) (fun c_58 => ?_) (fun c_58 => ?_)
            · have d_58 := bI_eq0 c_58
              refine lv_iconst (v := 0) hx hb dX1_couple_65 (by decide) ?_
              refine w_mVi (As := [.int 0]) (rest := []) ⟨hx, hb, hml, hown, hts⟩ (r_isFine l D a cI cL I J 0) (cwV 1 hts gX1_couple_X1_isFine rfl rfl rfl (by decide +kernel) ⟨Nat.le_of_ble_eq_true rfl, Nat.le_of_ble_eq_true rfl⟩) hK hP (hD _ _) hS rfl rfl rc_at0 rfl hl.1 rfl (Nat.le_of_ble_eq_true rfl) dX1_couple_66 ⟨Nat.le_of_ble_eq_true rfl, Nat.le_of_ble_eq_true rfl⟩ (fun H locs hP hS => ?_)
              refine lv_asi 1 (by decide) ?_
              refine lv_if_ne (tgt := 74) hx hb dX1_couple_69 (by decide) (fun c_69 => ?_) (fun c_69 => (absurd c_69 (by decide)))
              refine lv_aload_n hx hb dX1_couple_74 rfl (lv_at hl 1 rfl) ?_
              refine r_get (v := .ref (a 6)) hx hb hts hin0 hown hK hP rc_at0 7 (by decide) (hts (.fieldLink RX1 25 "OrganBuilderModel" "coupler" "[I") (by decide +kernel)) rfl dX1_couple_75 ?_
              refine lv_iconst (v := (nI 3)) hx hb dX1_couple_78 (by decide) ?_
              refine lv_iload_n hx hb dX1_couple_79 rfl (lv_at hl 2 rfl) ?_
              refine lv_imul hx hb dX1_couple_80 ?_
              refine lv_iload_n hx hb dX1_couple_81 rfl (lv_at hl 3 rfl) ?_
              refine lv_iadd hx hb dX1_couple_82 ?_
              refine lv_asi (nI (3 * f + t)) (ix3 f t) ?_
              refine lv_iload_n hx hb dX1_couple_83 rfl (lv_at hl 4 rfl) ?_
              refine lv_bipush (v := 12) hx hb dX1_couple_84 (by decide) ?_
              refine lv_idiv hx hb dX1_couple_86 (by decide) ?_
              refine lv_iconst (v := 2) hx hb dX1_couple_87 (by decide) ?_
              refine lv_iadd hx hb dX1_couple_88 ?_
              refine w_ist hx hb hK hP (hD _ _) hS rfl rc_at6 (rc_set6 (3 * f + t) ((p3 / 12) + 2)) (by omega) (by decide) dX1_couple_89 (fun H locs hP hS => ?_)
              refine lv_iconst (v := 0) hx hb dX1_couple_90 (by decide) ?_
              refine lv_istore (lv' := [(5, .int 0), (4, .int 1), (0, .ref (a 0)), (1, .int (nI f)), (2, .int (nI t)), (3, .int p3)]) hx hb dX1_couple_91 hl (by decide) rfl (fun ls hl => ?_)
              refine lv_iconst (v := 0) hx hb dX1_couple_93 (by decide) ?_
              refine lv_istore (lv' := [(6, .int 0), (5, .int 0), (4, .int 1), (0, .ref (a 0)), (1, .int (nI f)), (2, .int (nI t)), (3, .int p3)]) hx hb dX1_couple_94 hl (by decide) rfl (fun ls hl => ?_)
              refine W_loopH (σ := Unit) 0 9 96 (fun k _ H locs ls => va_P D vwCl (rc a cI cL (u2 (u2 I 20 0 0) 5 (3 * f + t) (p3 / 12 + 2)) J) H ∧ va_S (wA (rc a cI cL I J)) s.heap H locs ∧ lv_has ls 7 [(0, .ref (a 0)), (5, .int (rccF (u2 (u2 I 20 0 0) 5 (3 * f + t) (p3 / 12 + 2)) k)), (6, .int (nI k))]) (fun k _ H locs ls g_k h_k hI_k ih_k => ?_) () (by decide) ⟨hP, hS, lv_sub hl [3, 1, 0] rfl⟩
              obtain ⟨hP, hS, hl⟩ := hI_k
              refine lv_iload hx hb dX1_couple_96 (lv_at hl 2 rfl) ?_
              refine lv_bipush (v := 9) hx hb dX1_couple_98 (by decide) ?_
              refine lo_ge (n := 9) (tgt := 129) hx hb rfl (by omega) (by omega) dX1_couple_100 (by decide) (fun c_100 => ?_) (fun c_100 => ?_)
              · refine lv_iload hx hb dX1_couple_129 (lv_at hl 1 rfl) ?_
                exact e_mi hx hb hr rfl hlocks hP hS (by rw [rCpl, if_pos (by simp [qCpl, d_4, d_11, c_16, c_20, c_26, nI_clamp (show f < 2 ^ 31 by omega), nI_clamp (show t < 2 ^ 31 by omega), d_58]), rCplI, nI_clamp (show f < 2 ^ 31 by omega), nI_clamp (show t < 2 ^ 31 by omega)]) (by rw [aCpl, if_pos (by simp [qCpl, d_4, d_11, c_16, c_20, c_26, nI_clamp (show f < 2 ^ 31 by omega), nI_clamp (show t < 2 ^ 31 by omega), d_58]), rCplI, nI_clamp (show f < 2 ^ 31 by omega), nI_clamp (show t < 2 ^ 31 by omega), show k = 9 by omega]) dX1_couple_131
              · refine lv_iload hx hb dX1_couple_103 (lv_at hl 1 rfl) ?_
                refine lv_aload_n hx hb dX1_couple_105 rfl (lv_at hl 0 rfl) ?_
                refine r_get (v := .ref (a 6)) hx hb hts hin0 hown hK hP rc_at0 7 (by decide) (hts (.fieldLink RX1 25 "OrganBuilderModel" "coupler" "[I") (by decide +kernel)) rfl dX1_couple_106 ?_
                refine lv_iload hx hb dX1_couple_109 (lv_at hl 2 rfl) ?_
                refine w_ild hx hb hK hP rfl rc_at6 (by omega) (by decide) dX1_couple_111 ?_
                refine lv_if_le (tgt := 119) hx hb dX1_couple_112 (by decide) (fun c_112 => ?_) (fun c_112 => ?_)
                · refine lv_iconst (v := 0) hx hb dX1_couple_119 (by decide) ?_
                  refine lv_iadd hx hb dX1_couple_120 ?_
                  refine lv_asi (rccF (u2 (u2 I 20 0 0) 5 (3 * f + t) (p3 / 12 + 2)) (k + 1)) (rcc_0 c_112 rfl) ?_
                  refine lv_istore (lv' := [(5, .int (rccF (u2 (u2 I 20 0 0) 5 (3 * f + t) (p3 / 12 + 2)) (k + 1))), (0, .ref (a 0)), (6, .int (nI k))]) hx hb dX1_couple_121 hl (by decide) rfl (fun ls hl => ?_)
                  refine lv_iinc (v := (nI (k + 1))) (lv' := [(6, .int (nI (k + 1))), (5, .int (rccF (u2 (u2 I 20 0 0) 5 (3 * f + t) (p3 / 12 + 2)) (k + 1))), (0, .ref (a 0))]) hx hb dX1_couple_123 hl (k := 2) rfl (nI_inc _) (by decide) rfl (fun ls hl => ?_)
                  refine lv_goto (tgt := 96) hx hb dX1_couple_126 (by decide) ?_
                  exact ih_k () H locs ls (by omega) ⟨hP, hS, lv_sub hl [2, 1, 0] rfl⟩
                · refine lv_iconst (v := 1) hx hb dX1_couple_115 (by decide) ?_
                  refine lv_goto (tgt := 120) hx hb dX1_couple_116 (by decide) ?_
                  refine lv_iadd hx hb dX1_couple_120 ?_
                  refine lv_asi (rccF (u2 (u2 I 20 0 0) 5 (3 * f + t) (p3 / 12 + 2)) (k + 1)) (rcc_1 c_112 rfl) ?_
                  refine lv_istore (lv' := [(5, .int (rccF (u2 (u2 I 20 0 0) 5 (3 * f + t) (p3 / 12 + 2)) (k + 1))), (0, .ref (a 0)), (6, .int (nI k))]) hx hb dX1_couple_121 hl (by decide) rfl (fun ls hl => ?_)
                  refine lv_iinc (v := (nI (k + 1))) (lv' := [(6, .int (nI (k + 1))), (5, .int (rccF (u2 (u2 I 20 0 0) 5 (3 * f + t) (p3 / 12 + 2)) (k + 1))), (0, .ref (a 0))]) hx hb dX1_couple_123 hl (k := 2) rfl (nI_inc _) (by decide) rfl (fun ls hl => ?_)
                  refine lv_goto (tgt := 96) hx hb dX1_couple_126 (by decide) ?_
                  exact ih_k () H locs ls (by omega) ⟨hP, hS, lv_sub hl [2, 1, 0] rfl⟩
            · have d_58 := bI_ne0 c_58
              refine lv_iconst (v := 2) hx hb dX1_couple_61 (by decide) ?_
              refine lv_goto (tgt := 66) hx hb dX1_couple_62 (by decide) ?_
              refine w_mVi (As := [.int 2]) (rest := []) ⟨hx, hb, hml, hown, hts⟩ (r_isFine l D a cI cL I J 2) (cwV 1 hts gX1_couple_X1_isFine rfl rfl rfl (by decide +kernel) ⟨Nat.le_of_ble_eq_true rfl, Nat.le_of_ble_eq_true rfl⟩) hK hP (hD _ _) hS rfl rfl rc_at0 rfl hl.1 rfl (Nat.le_of_ble_eq_true rfl) dX1_couple_66 ⟨Nat.le_of_ble_eq_true rfl, Nat.le_of_ble_eq_true rfl⟩ (fun H locs hP hS => ?_)
              refine lv_asi 0 (by decide) ?_
              refine lv_if_ne (tgt := 74) hx hb dX1_couple_69 (by decide) (fun c_69 => (absurd c_69 (by decide))) (fun c_69 => ?_)
              refine lv_iconst (v := 0) hx hb dX1_couple_72 (by decide) ?_
              exact e_mi hx hb hr rfl hlocks hP hS (by simp [rCpl, qCpl, d_4, d_11, c_16, c_20, c_26, nI_clamp (show f < 2 ^ 31 by omega), nI_clamp (show t < 2 ^ 31 by omega), d_58]) (by simp [aCpl, qCpl, d_4, d_11, c_16, c_20, c_26, nI_clamp (show f < 2 ^ 31 by omega), nI_clamp (show t < 2 ^ 31 by omega), d_58]) dX1_couple_73
          · refine lv_iload_n hx hb dX1_couple_29 rfl (lv_at hl 3 rfl) ?_
            refine lv_bipush (v := (-12)) hx hb dX1_couple_30 (by decide) ?_
            refine lv_icmp_ne (tgt := 39) hx hb dX1_couple_32 (by decide) (fun c_32 => ?_) (fun c_32 => ?_)
            · refine lv_iconst (v := 0) hx hb dX1_couple_39 (by decide) ?_
              refine lv_istore (lv' := [(4, .int 0), (0, .ref (a 0)), (1, .int p1), (2, .int p2), (3, .int p3)]) hx hb dX1_couple_40 hl (by decide) rfl (fun ls hl => ?_)
              refine lv_aload_n hx hb dX1_couple_42 rfl (lv_at hl 1 rfl) ?_
              refine lv_iload hx hb dX1_couple_43 (lv_at hl 0 rfl) ?_
              refine lv_if_ne (tgt := 52) hx hb dX1_couple_45 (by decide) (fun c_45 => (absurd c_45 (by decide))) (fun c_45 => ?_)
              refine lv_iconst (v := 1) hx hb dX1_couple_48 (by decide) ?_
              refine lv_goto (tgt := 66) hx hb dX1_couple_49 (by decide) ?_
              refine w_mVi (As := [.int 1]) (rest := []) ⟨hx, hb, hml, hown, hts⟩ (r_isFine l D a cI cL I J 1) (cwV 1 hts gX1_couple_X1_isFine rfl rfl rfl (by decide +kernel) ⟨Nat.le_of_ble_eq_true rfl, Nat.le_of_ble_eq_true rfl⟩) hK hP (hD _ _) hS rfl rfl rc_at0 rfl hl.1 rfl (Nat.le_of_ble_eq_true rfl) dX1_couple_66 ⟨Nat.le_of_ble_eq_true rfl, Nat.le_of_ble_eq_true rfl⟩ (fun H locs hP hS => ?_)
              refine lv_asi 0 (by decide) ?_
              refine lv_if_ne (tgt := 74) hx hb dX1_couple_69 (by decide) (fun c_69 => (absurd c_69 (by decide))) (fun c_69 => ?_)
              refine lv_iconst (v := 0) hx hb dX1_couple_72 (by decide) ?_
              exact e_mi hx hb hr rfl hlocks hP hS (by simp [rCpl, qCpl, d_4, d_11, c_16, c_20, c_26, c_32]) (by simp [aCpl, qCpl, d_4, d_11, c_16, c_20, c_26, c_32]) dX1_couple_73
            · refine lv_iconst (v := 1) hx hb dX1_couple_35 (by decide) ?_
              refine lv_goto (tgt := 40) hx hb dX1_couple_36 (by decide) ?_
              refine lv_istore (lv' := [(4, .int 1), (0, .ref (a 0)), (1, .int p1), (2, .int p2), (3, .int p3)]) hx hb dX1_couple_40 hl (by decide) rfl (fun ls hl => ?_)
              refine lv_aload_n hx hb dX1_couple_42 rfl (lv_at hl 1 rfl) ?_
              refine lv_iload hx hb dX1_couple_43 (lv_at hl 0 rfl) ?_
              refine lv_if_ne (tgt := 52) hx hb dX1_couple_45 (by decide) (fun c_45 => ?_) (fun c_45 => (absurd c_45 (by decide)))
              obtain ⟨f, bf, rfl⟩ := rg_nat (n := 2) d_4 (by decide)
              obtain ⟨t, bt, rfl⟩ := rg_nat (n := 2) d_11 (by decide)
              have hft : ¬ f = t := fun q => c_16 (by rw [q])
              have hne : ¬ t = f := fun q => hft q.symm
              refine lv_aload_n hx hb dX1_couple_52 rfl (lv_at hl 1 rfl) ?_
              refine lv_iload_n hx hb dX1_couple_53 rfl (lv_at hl 3 rfl) ?_
              refine lv_iload_n hx hb dX1_couple_54 rfl (lv_at hl 2 rfl) ?_
              refine w_pV (As := [.int (nI t), .int (nI f)]) (rest := [.ref (a 0)]) ⟨hx, hb, hml, hown, hts⟩ (r_comes l D a cI cL I J t f (by omega) (by omega) hne) (cwV 2 hts gX1_couple_X1_comes rfl rfl rfl (by decide +kernel) ⟨Nat.le_of_ble_eq_true rfl, Nat.le_of_ble_eq_true rfl⟩) hK hP rfl rfl rc_at0 rfl hl.1 rfl (Nat.le_of_ble_eq_true rfl) dX1_couple_55 ⟨Nat.le_of_ble_eq_true rfl, Nat.le_of_ble_eq_true rfl⟩ ?_
              refine lv_if_eq (tgt := 65) hx hb dX1_couple_58 (by decide) (fun c_58 => ?_) (fun c_58 => ?_)
              · have d_58 := bI_eq0 c_58
                refine lv_iconst (v := 0) hx hb dX1_couple_65 (by decide) ?_
                refine w_mVi (As := [.int 0]) (rest := []) ⟨hx, hb, hml, hown, hts⟩ (r_isFine l D a cI cL I J 0) (cwV 1 hts gX1_couple_X1_isFine rfl rfl rfl (by decide +kernel) ⟨Nat.le_of_ble_eq_true rfl, Nat.le_of_ble_eq_true rfl⟩) hK hP (hD _ _) hS rfl rfl rc_at0 rfl hl.1 rfl (Nat.le_of_ble_eq_true rfl) dX1_couple_66 ⟨Nat.le_of_ble_eq_true rfl, Nat.le_of_ble_eq_true rfl⟩ (fun H locs hP hS => ?_)
                refine lv_asi 1 (by decide) ?_
                refine lv_if_ne (tgt := 74) hx hb dX1_couple_69 (by decide) (fun c_69 => ?_) (fun c_69 => (absurd c_69 (by decide)))
                refine lv_aload_n hx hb dX1_couple_74 rfl (lv_at hl 1 rfl) ?_
                refine r_get (v := .ref (a 6)) hx hb hts hin0 hown hK hP rc_at0 7 (by decide) (hts (.fieldLink RX1 25 "OrganBuilderModel" "coupler" "[I") (by decide +kernel)) rfl dX1_couple_75 ?_
                refine lv_iconst (v := (nI 3)) hx hb dX1_couple_78 (by decide) ?_
                refine lv_iload_n hx hb dX1_couple_79 rfl (lv_at hl 2 rfl) ?_
                refine lv_imul hx hb dX1_couple_80 ?_
                refine lv_iload_n hx hb dX1_couple_81 rfl (lv_at hl 3 rfl) ?_
                refine lv_iadd hx hb dX1_couple_82 ?_
                refine lv_asi (nI (3 * f + t)) (ix3 f t) ?_
                refine lv_iload_n hx hb dX1_couple_83 rfl (lv_at hl 4 rfl) ?_
                refine lv_bipush (v := 12) hx hb dX1_couple_84 (by decide) ?_
                refine lv_idiv hx hb dX1_couple_86 (by decide) ?_
                refine lv_iconst (v := 2) hx hb dX1_couple_87 (by decide) ?_
                refine lv_iadd hx hb dX1_couple_88 ?_
                refine w_ist hx hb hK hP (hD _ _) hS rfl rc_at6 (rc_set6 (3 * f + t) ((p3 / 12) + 2)) (by omega) (by decide) dX1_couple_89 (fun H locs hP hS => ?_)
                refine lv_iconst (v := 0) hx hb dX1_couple_90 (by decide) ?_
                refine lv_istore (lv' := [(5, .int 0), (4, .int 1), (0, .ref (a 0)), (1, .int (nI f)), (2, .int (nI t)), (3, .int p3)]) hx hb dX1_couple_91 hl (by decide) rfl (fun ls hl => ?_)
                refine lv_iconst (v := 0) hx hb dX1_couple_93 (by decide) ?_
                refine lv_istore (lv' := [(6, .int 0), (5, .int 0), (4, .int 1), (0, .ref (a 0)), (1, .int (nI f)), (2, .int (nI t)), (3, .int p3)]) hx hb dX1_couple_94 hl (by decide) rfl (fun ls hl => ?_)
                refine W_loopH (σ := Unit) 0 9 96 (fun k _ H locs ls => va_P D vwCl (rc a cI cL (u2 (u2 I 20 0 0) 5 (3 * f + t) (p3 / 12 + 2)) J) H ∧ va_S (wA (rc a cI cL I J)) s.heap H locs ∧ lv_has ls 7 [(0, .ref (a 0)), (5, .int (rccF (u2 (u2 I 20 0 0) 5 (3 * f + t) (p3 / 12 + 2)) k)), (6, .int (nI k))]) (fun k _ H locs ls g_k h_k hI_k ih_k => ?_) () (by decide) ⟨hP, hS, lv_sub hl [3, 1, 0] rfl⟩
                obtain ⟨hP, hS, hl⟩ := hI_k
                refine lv_iload hx hb dX1_couple_96 (lv_at hl 2 rfl) ?_
                refine lv_bipush (v := 9) hx hb dX1_couple_98 (by decide) ?_
                refine lo_ge (n := 9) (tgt := 129) hx hb rfl (by omega) (by omega) dX1_couple_100 (by decide) (fun c_100 => ?_) (fun c_100 => ?_)
                · refine lv_iload hx hb dX1_couple_129 (lv_at hl 1 rfl) ?_
                  exact e_mi hx hb hr rfl hlocks hP hS (by rw [rCpl, if_pos (by simp [qCpl, d_4, d_11, c_16, c_20, c_26, c_32, nI_clamp (show f < 2 ^ 31 by omega), nI_clamp (show t < 2 ^ 31 by omega), d_58]), rCplI, nI_clamp (show f < 2 ^ 31 by omega), nI_clamp (show t < 2 ^ 31 by omega)]) (by rw [aCpl, if_pos (by simp [qCpl, d_4, d_11, c_16, c_20, c_26, c_32, nI_clamp (show f < 2 ^ 31 by omega), nI_clamp (show t < 2 ^ 31 by omega), d_58]), rCplI, nI_clamp (show f < 2 ^ 31 by omega), nI_clamp (show t < 2 ^ 31 by omega), show k = 9 by omega]) dX1_couple_131
                · refine lv_iload hx hb dX1_couple_103 (lv_at hl 1 rfl) ?_
                  refine lv_aload_n hx hb dX1_couple_105 rfl (lv_at hl 0 rfl) ?_
                  refine r_get (v := .ref (a 6)) hx hb hts hin0 hown hK hP rc_at0 7 (by decide) (hts (.fieldLink RX1 25 "OrganBuilderModel" "coupler" "[I") (by decide +kernel)) rfl dX1_couple_106 ?_
                  refine lv_iload hx hb dX1_couple_109 (lv_at hl 2 rfl) ?_
                  refine w_ild hx hb hK hP rfl rc_at6 (by omega) (by decide) dX1_couple_111 ?_
                  refine lv_if_le (tgt := 119) hx hb dX1_couple_112 (by decide) (fun c_112 => ?_) (fun c_112 => ?_)
                  · refine lv_iconst (v := 0) hx hb dX1_couple_119 (by decide) ?_
                    refine lv_iadd hx hb dX1_couple_120 ?_
                    refine lv_asi (rccF (u2 (u2 I 20 0 0) 5 (3 * f + t) (p3 / 12 + 2)) (k + 1)) (rcc_0 c_112 rfl) ?_
                    refine lv_istore (lv' := [(5, .int (rccF (u2 (u2 I 20 0 0) 5 (3 * f + t) (p3 / 12 + 2)) (k + 1))), (0, .ref (a 0)), (6, .int (nI k))]) hx hb dX1_couple_121 hl (by decide) rfl (fun ls hl => ?_)
                    refine lv_iinc (v := (nI (k + 1))) (lv' := [(6, .int (nI (k + 1))), (5, .int (rccF (u2 (u2 I 20 0 0) 5 (3 * f + t) (p3 / 12 + 2)) (k + 1))), (0, .ref (a 0))]) hx hb dX1_couple_123 hl (k := 2) rfl (nI_inc _) (by decide) rfl (fun ls hl => ?_)
                    refine lv_goto (tgt := 96) hx hb dX1_couple_126 (by decide) ?_
                    exact ih_k () H locs ls (by omega) ⟨hP, hS, lv_sub hl [2, 1, 0] rfl⟩
                  · refine lv_iconst (v := 1) hx hb dX1_couple_115 (by decide) ?_
                    refine lv_goto (tgt := 120) hx hb dX1_couple_116 (by decide) ?_
                    refine lv_iadd hx hb dX1_couple_120 ?_
                    refine lv_asi (rccF (u2 (u2 I 20 0 0) 5 (3 * f + t) (p3 / 12 + 2)) (k + 1)) (rcc_1 c_112 rfl) ?_
                    refine lv_istore (lv' := [(5, .int (rccF (u2 (u2 I 20 0 0) 5 (3 * f + t) (p3 / 12 + 2)) (k + 1))), (0, .ref (a 0)), (6, .int (nI k))]) hx hb dX1_couple_121 hl (by decide) rfl (fun ls hl => ?_)
                    refine lv_iinc (v := (nI (k + 1))) (lv' := [(6, .int (nI (k + 1))), (5, .int (rccF (u2 (u2 I 20 0 0) 5 (3 * f + t) (p3 / 12 + 2)) (k + 1))), (0, .ref (a 0))]) hx hb dX1_couple_123 hl (k := 2) rfl (nI_inc _) (by decide) rfl (fun ls hl => ?_)
                    refine lv_goto (tgt := 96) hx hb dX1_couple_126 (by decide) ?_
                    exact ih_k () H locs ls (by omega) ⟨hP, hS, lv_sub hl [2, 1, 0] rfl⟩
              · have d_58 := bI_ne0 c_58
                refine lv_iconst (v := 2) hx hb dX1_couple_61 (by decide) ?_
                refine lv_goto (tgt := 66) hx hb dX1_couple_62 (by decide) ?_
                refine w_mVi (As := [.int 2]) (rest := []) ⟨hx, hb, hml, hown, hts⟩ (r_isFine l D a cI cL I J 2) (cwV 1 hts gX1_couple_X1_isFine rfl rfl rfl (by decide +kernel) ⟨Nat.le_of_ble_eq_true rfl, Nat.le_of_ble_eq_true rfl⟩) hK hP (hD _ _) hS rfl rfl rc_at0 rfl hl.1 rfl (Nat.le_of_ble_eq_true rfl) dX1_couple_66 ⟨Nat.le_of_ble_eq_true rfl, Nat.le_of_ble_eq_true rfl⟩ (fun H locs hP hS => ?_)
                refine lv_asi 0 (by decide) ?_
                refine lv_if_ne (tgt := 74) hx hb dX1_couple_69 (by decide) (fun c_69 => (absurd c_69 (by decide))) (fun c_69 => ?_)
                refine lv_iconst (v := 0) hx hb dX1_couple_72 (by decide) ?_
                exact e_mi hx hb hr rfl hlocks hP hS (by simp [rCpl, qCpl, d_4, d_11, c_16, c_20, c_26, c_32, nI_clamp (show f < 2 ^ 31 by omega), nI_clamp (show t < 2 ^ 31 by omega), d_58]) (by simp [aCpl, qCpl, d_4, d_11, c_16, c_20, c_26, c_32, nI_clamp (show f < 2 ^ 31 by omega), nI_clamp (show t < 2 ^ 31 by omega), d_58]) dX1_couple_73
set_option maxHeartbeats 4000000 in
set_option maxRecDepth 100000 in
theorem r_uncouple (l : Launch) (D : va_G) (a : Nat → Nat) (cI cL : ClassId) (I : Nat → Nat → Int32) (J : Nat → Nat → Int64) (p1 p2 : Int32) : Met l yX1_uncouple wsX1_uncouple ({ frames := 2, cells := 0, slots := 0, locals := 42 } : Room) (va_Pc [.ref (a 0), .int p1, .int p2] (mB D (rty cI cL) (rc a cI cL I J))) (mQi D (rc a cI cL I J) (rc a cI cL (rUnc I p1 p2) J) (aUnc I p1 p2)) 0 0 (wA (rc a cI cL I J)) := by
  refine Met.ofW (cc := cX1_uncouple) (maxL := 4) (ret := (some .boolean)) (by decide) rfl ?_
  intro p e s m args below meth c s₁ B hml hv
  obtain ⟨rfl, hP, hK, hD0⟩ := hv
  have hx := B.exec
  have hb := B.bytes
  have hr := B.returns
  have hts := atoms_spec (ws := wsX1_uncouple) B.pre
  have hown : s.vm.findClass RX1 = some m.cls := findClass_of_methodNamed B.named
  have hlocks := B.notSynchronized
  have hin0 : ∀ w ∈ u_ws RX1 TX1 16, w ∈ wsX1_uncouple := by decide +kernel
  have hD := rc_D (wA_D hD0)
  have hS : va_S (wA (rc a cI cL I J)) s.heap s.heap [] := va_S.rf
  have hl := lv_entry ([.ref (a 0), .int p1, .int p2]) (n := 4) (Nat.le_of_ble_eq_true rfl)
  rw [lg_entry_eq]
  generalize (lg_sl ([.ref (a 0), .int p1, .int p2]) ++ List.replicate (4 - (lg_sl ([.ref (a 0), .int p1, .int p2])).length) Slot.unset).toArray = ls at hl ⊢
  have hl : lv_has ls 4 [(0, .ref (a 0)), (1, .int p1), (2, .int p2)] := hl
  refine lv_aload_n hx hb dX1_uncouple_0 rfl (lv_at hl 0 rfl) ?_
  refine lv_iload_n hx hb dX1_uncouple_1 rfl (lv_at hl 1 rfl) ?_
  refine w_pS (As := [.int p1]) (rest := [.ref (a 0)]) ⟨hx, hb, hml, hown, hts⟩ (r_isManual l p1) (va_cwS 1 hts gX1_uncouple_X1_isManual rfl rfl rfl (by decide +kernel) ⟨Nat.le_of_ble_eq_true rfl, Nat.le_of_ble_eq_true rfl⟩) rfl hl.1 rfl (Nat.le_of_ble_eq_true rfl) dX1_uncouple_2 ⟨Nat.le_of_ble_eq_true rfl, Nat.le_of_ble_eq_true rfl⟩ ?_
  refine lv_if_eq (tgt := 19) hx hb dX1_uncouple_5 (by decide) (fun c_5 => ?_) (fun c_5 => ?_)
  · have d_5 := bI_eq0 c_5
    refine lv_iconst (v := 1) hx hb dX1_uncouple_19 (by decide) ?_
    refine w_mVi (As := [.int 1]) (rest := []) ⟨hx, hb, hml, hown, hts⟩ (r_isFine l D a cI cL I J 1) (cwV 1 hts gX1_uncouple_X1_isFine rfl rfl rfl (by decide +kernel) ⟨Nat.le_of_ble_eq_true rfl, Nat.le_of_ble_eq_true rfl⟩) hK hP (hD _ _) hS rfl rfl rc_at0 rfl hl.1 rfl (Nat.le_of_ble_eq_true rfl) dX1_uncouple_20 ⟨Nat.le_of_ble_eq_true rfl, Nat.le_of_ble_eq_true rfl⟩ (fun H locs hP hS => ?_)
    refine lv_asi 0 (by decide) ?_
    refine lv_if_ne (tgt := 28) hx hb dX1_uncouple_23 (by decide) (fun c_23 => (absurd c_23 (by decide))) (fun c_23 => ?_)
    refine lv_iconst (v := 0) hx hb dX1_uncouple_26 (by decide) ?_
    exact e_mi hx hb hr rfl hlocks hP hS (by simp [rUnc, kUnc, d_5]) (by simp [aUnc, kUnc, d_5]) dX1_uncouple_27
  · have d_5 := bI_ne0 c_5
    refine lv_iload_n hx hb dX1_uncouple_8 rfl (lv_at hl 2 rfl) ?_
    refine w_pS (As := [.int p2]) (rest := [.ref (a 0)]) ⟨hx, hb, hml, hown, hts⟩ (r_isManual l p2) (va_cwS 1 hts gX1_uncouple_X1_isManual rfl rfl rfl (by decide +kernel) ⟨Nat.le_of_ble_eq_true rfl, Nat.le_of_ble_eq_true rfl⟩) rfl hl.1 rfl (Nat.le_of_ble_eq_true rfl) dX1_uncouple_9 ⟨Nat.le_of_ble_eq_true rfl, Nat.le_of_ble_eq_true rfl⟩ ?_
    refine lv_if_eq (tgt := 19) hx hb dX1_uncouple_12 (by decide) (fun c_12 => ?_) (fun c_12 => ?_)
    · have d_12 := bI_eq0 c_12
      refine lv_iconst (v := 1) hx hb dX1_uncouple_19 (by decide) ?_
      refine w_mVi (As := [.int 1]) (rest := []) ⟨hx, hb, hml, hown, hts⟩ (r_isFine l D a cI cL I J 1) (cwV 1 hts gX1_uncouple_X1_isFine rfl rfl rfl (by decide +kernel) ⟨Nat.le_of_ble_eq_true rfl, Nat.le_of_ble_eq_true rfl⟩) hK hP (hD _ _) hS rfl rfl rc_at0 rfl hl.1 rfl (Nat.le_of_ble_eq_true rfl) dX1_uncouple_20 ⟨Nat.le_of_ble_eq_true rfl, Nat.le_of_ble_eq_true rfl⟩ (fun H locs hP hS => ?_)
      refine lv_asi 0 (by decide) ?_
      refine lv_if_ne (tgt := 28) hx hb dX1_uncouple_23 (by decide) (fun c_23 => (absurd c_23 (by decide))) (fun c_23 => ?_)
      refine lv_iconst (v := 0) hx hb dX1_uncouple_26 (by decide) ?_
      exact e_mi hx hb hr rfl hlocks hP hS (by simp [rUnc, kUnc, d_5, d_12]) (by simp [aUnc, kUnc, d_5, d_12]) dX1_uncouple_27
    · have d_12 := bI_ne0 c_12
      refine lv_iconst (v := 0) hx hb dX1_uncouple_15 (by decide) ?_
      refine lv_goto (tgt := 20) hx hb dX1_uncouple_16 (by decide) ?_
      refine w_mVi (As := [.int 0]) (rest := []) ⟨hx, hb, hml, hown, hts⟩ (r_isFine l D a cI cL I J 0) (cwV 1 hts gX1_uncouple_X1_isFine rfl rfl rfl (by decide +kernel) ⟨Nat.le_of_ble_eq_true rfl, Nat.le_of_ble_eq_true rfl⟩) hK hP (hD _ _) hS rfl rfl rc_at0 rfl hl.1 rfl (Nat.le_of_ble_eq_true rfl) dX1_uncouple_20 ⟨Nat.le_of_ble_eq_true rfl, Nat.le_of_ble_eq_true rfl⟩ (fun H locs hP hS => ?_)
      refine lv_asi 1 (by decide) ?_
      refine lv_if_ne (tgt := 28) hx hb dX1_uncouple_23 (by decide) (fun c_23 => ?_) (fun c_23 => (absurd c_23 (by decide)))
      obtain ⟨f, bf, rfl⟩ := rg_nat (n := 2) d_5 (by decide)
      obtain ⟨t, bt, rfl⟩ := rg_nat (n := 2) d_12 (by decide)
      refine lv_aload_n hx hb dX1_uncouple_28 rfl (lv_at hl 0 rfl) ?_
      refine lv_iload_n hx hb dX1_uncouple_29 rfl (lv_at hl 1 rfl) ?_
      refine lv_iload_n hx hb dX1_uncouple_30 rfl (lv_at hl 2 rfl) ?_
      refine w_pV (As := [.int (nI f), .int (nI t)]) (rest := []) ⟨hx, hb, hml, hown, hts⟩ (r_isCoupled l D a cI cL (u2 I 20 0 0) J f t (by omega) (by omega)) (cwV 2 hts gX1_uncouple_X1_isCoupled rfl rfl rfl (by decide +kernel) ⟨Nat.le_of_ble_eq_true rfl, Nat.le_of_ble_eq_true rfl⟩) hK hP rfl rfl rc_at0 rfl hl.1 rfl (Nat.le_of_ble_eq_true rfl) dX1_uncouple_31 ⟨Nat.le_of_ble_eq_true rfl, Nat.le_of_ble_eq_true rfl⟩ ?_
      refine lv_istore_n (lv' := [(3, .int (bI (rcp (u2 I 20 0 0) f t))), (0, .ref (a 0)), (1, .int (nI f)), (2, .int (nI t))]) hx hb dX1_uncouple_34 rfl hl (by decide) rfl (fun ls hl => ?_)
      refine lv_aload_n hx hb dX1_uncouple_35 rfl (lv_at hl 1 rfl) ?_
      refine r_get (v := .ref (a 6)) hx hb hts hin0 hown hK hP rc_at0 7 (by decide) (hts (.fieldLink RX1 25 "OrganBuilderModel" "coupler" "[I") (by decide +kernel)) rfl dX1_uncouple_36 ?_
      refine lv_iconst (v := (nI 3)) hx hb dX1_uncouple_39 (by decide) ?_
      refine lv_iload_n hx hb dX1_uncouple_40 rfl (lv_at hl 2 rfl) ?_
      refine lv_imul hx hb dX1_uncouple_41 ?_
      refine lv_iload_n hx hb dX1_uncouple_42 rfl (lv_at hl 3 rfl) ?_
      refine lv_iadd hx hb dX1_uncouple_43 ?_
      refine lv_asi (nI (3 * f + t)) (ix3 f t) ?_
      refine lv_iconst (v := 0) hx hb dX1_uncouple_44 (by decide) ?_
      refine w_ist hx hb hK hP (hD _ _) hS rfl rc_at6 (rc_set6 (3 * f + t) 0) (by omega) (by decide) dX1_uncouple_45 (fun H locs hP hS => ?_)
      refine lv_iload_n hx hb dX1_uncouple_46 rfl (lv_at hl 0 rfl) ?_
      exact e_mi hx hb hr (nar_bI _) hlocks hP hS (by rw [rUnc, if_pos (by simp [kUnc, d_5, d_12]), nI_clamp (show f < 2 ^ 31 by omega), nI_clamp (show t < 2 ^ 31 by omega)]) (by rw [aUnc, if_pos (by simp [kUnc, d_5, d_12]), nI_clamp (show f < 2 ^ 31 by omega), nI_clamp (show t < 2 ^ 31 by omega)]) dX1_uncouple_47
set_option maxHeartbeats 4000000 in
set_option maxRecDepth 100000 in
theorem r_setSupply (l : Launch) (D : va_G) (a : Nat → Nat) (cI cL : ClassId) (I : Nat → Nat → Int32) (J : Nat → Nat → Int64) (p1 : Int32) : Met l yX1_setSupply wsX1_setSupply ({ frames := 1, cells := 0, slots := 0, locals := 22 } : Room) (va_Pc [.ref (a 0), .int p1] (mB D (rty cI cL) (rc a cI cL I J))) (mQi D (rc a cI cL I J) (rc a cI cL (rSup I p1) J) (aSup I p1)) 0 0 (wA (rc a cI cL I J)) := by
  refine Met.ofW (cc := cX1_setSupply) (maxL := 3) (ret := (some .int)) (by decide) rfl ?_
  intro p e s m args below meth c s₁ B hml hv
  obtain ⟨rfl, hP, hK, hD0⟩ := hv
  have hx := B.exec
  have hb := B.bytes
  have hr := B.returns
  have hts := atoms_spec (ws := wsX1_setSupply) B.pre
  have hown : s.vm.findClass RX1 = some m.cls := findClass_of_methodNamed B.named
  have hlocks := B.notSynchronized
  have hin0 : ∀ w ∈ u_ws RX1 TX1 16, w ∈ wsX1_setSupply := by decide +kernel
  have hD := rc_D (wA_D hD0)
  have hS : va_S (wA (rc a cI cL I J)) s.heap s.heap [] := va_S.rf
  have hl := lv_entry ([.ref (a 0), .int p1]) (n := 3) (Nat.le_of_ble_eq_true rfl)
  rw [lg_entry_eq]
  generalize (lg_sl ([.ref (a 0), .int p1]) ++ List.replicate (3 - (lg_sl ([.ref (a 0), .int p1])).length) Slot.unset).toArray = ls at hl ⊢
  have hl : lv_has ls 3 [(0, .ref (a 0)), (1, .int p1)] := hl
  refine lv_aload_n hx hb dX1_setSupply_0 rfl (lv_at hl 0 rfl) ?_
  refine lv_iload_n hx hb dX1_setSupply_1 rfl (lv_at hl 1 rfl) ?_
  refine lv_bipush (v := 10) hx hb dX1_setSupply_2 (by decide) ?_
  refine lv_sipush (v := 1000) hx hb dX1_setSupply_4 (by decide) ?_
  refine w_pS (As := [.int p1, .int 10, .int 1000]) (rest := [.ref (a 0)]) ⟨hx, hb, hml, hown, hts⟩ (r_isIn l p1 10 1000) (va_cwS 3 hts gX1_setSupply_X1_isIn rfl rfl rfl (by decide +kernel) ⟨Nat.le_of_ble_eq_true rfl, Nat.le_of_ble_eq_true rfl⟩) rfl hl.1 rfl (Nat.le_of_ble_eq_true rfl) dX1_setSupply_7 ⟨Nat.le_of_ble_eq_true rfl, Nat.le_of_ble_eq_true rfl⟩ ?_
  refine lv_if_eq (tgt := 17) hx hb dX1_setSupply_10 (by decide) (fun c_10 => ?_) (fun c_10 => ?_)
  · have d_10 := bI_eq0 c_10
    refine lv_iconst (v := 1) hx hb dX1_setSupply_17 (by decide) ?_
    refine w_mVi (As := [.int 1]) (rest := []) ⟨hx, hb, hml, hown, hts⟩ (r_isFine l D a cI cL I J 1) (cwV 1 hts gX1_setSupply_X1_isFine rfl rfl rfl (by decide +kernel) ⟨Nat.le_of_ble_eq_true rfl, Nat.le_of_ble_eq_true rfl⟩) hK hP (hD _ _) hS rfl rfl rc_at0 rfl hl.1 rfl (Nat.le_of_ble_eq_true rfl) dX1_setSupply_18 ⟨Nat.le_of_ble_eq_true rfl, Nat.le_of_ble_eq_true rfl⟩ (fun H locs hP hS => ?_)
    refine lv_asi 0 (by decide) ?_
    refine lv_if_ne (tgt := 26) hx hb dX1_setSupply_21 (by decide) (fun c_21 => (absurd c_21 (by decide))) (fun c_21 => ?_)
    refine lv_iconst (v := 0) hx hb dX1_setSupply_24 (by decide) ?_
    exact e_mi hx hb hr rfl hlocks hP hS (by simp [rSup, kSup, d_10]) (by simp [aSup, kSup, d_10]) dX1_setSupply_25
  · have d_10 := bI_ne0 c_10
    refine lv_iconst (v := 0) hx hb dX1_setSupply_13 (by decide) ?_
    refine lv_goto (tgt := 18) hx hb dX1_setSupply_14 (by decide) ?_
    refine w_mVi (As := [.int 0]) (rest := []) ⟨hx, hb, hml, hown, hts⟩ (r_isFine l D a cI cL I J 0) (cwV 1 hts gX1_setSupply_X1_isFine rfl rfl rfl (by decide +kernel) ⟨Nat.le_of_ble_eq_true rfl, Nat.le_of_ble_eq_true rfl⟩) hK hP (hD _ _) hS rfl rfl rc_at0 rfl hl.1 rfl (Nat.le_of_ble_eq_true rfl) dX1_setSupply_18 ⟨Nat.le_of_ble_eq_true rfl, Nat.le_of_ble_eq_true rfl⟩ (fun H locs hP hS => ?_)
    refine lv_asi 1 (by decide) ?_
    refine lv_if_ne (tgt := 26) hx hb dX1_setSupply_21 (by decide) (fun c_21 => ?_) (fun c_21 => (absurd c_21 (by decide)))
    refine lv_aload_n hx hb dX1_setSupply_26 rfl (lv_at hl 0 rfl) ?_
    refine r_get (v := .int ((u2 I 20 0 0) 20 2)) hx hb hts hin0 hown hK hP rc_at0 8 (by decide) (hts (.fieldLink RX1 28 "OrganBuilderModel" "supply" "I") (by decide +kernel)) rfl dX1_setSupply_27 ?_
    refine lv_istore_n (lv' := [(2, .int ((u2 I 20 0 0) 20 2)), (0, .ref (a 0)), (1, .int p1)]) hx hb dX1_setSupply_30 rfl hl (by decide) rfl (fun ls hl => ?_)
    refine lv_aload_n hx hb dX1_setSupply_31 rfl (lv_at hl 1 rfl) ?_
    refine lv_iload_n hx hb dX1_setSupply_32 rfl (lv_at hl 2 rfl) ?_
    refine r_put hx hb hts hin0 hown hK hP (hD _ _) hS rc_at0 8 (by decide) (hts (.fieldLink RX1 28 "OrganBuilderModel" "supply" "I") (by decide +kernel)) rfl (by decide +kernel) (by exact Nat.le_of_ble_eq_true rfl) (rc_puts p1) dX1_setSupply_33 (fun H locs hP hS => ?_)
    refine lv_iload_n hx hb dX1_setSupply_36 rfl (lv_at hl 0 rfl) ?_
    exact e_mi hx hb hr rfl hlocks hP hS (by rw [rSup, if_pos (by simp [kSup, d_10])]) (by rw [aSup, if_pos (by simp [kSup, d_10])]) dX1_setSupply_37
set_option maxHeartbeats 4000000 in
set_option maxRecDepth 100000 in
theorem r_setSag (l : Launch) (D : va_G) (a : Nat → Nat) (cI cL : ClassId) (I : Nat → Nat → Int32) (J : Nat → Nat → Int64) (p1 p2 : Int32) : Met l yX1_setSag wsX1_setSag ({ frames := 1, cells := 0, slots := 0, locals := 22 } : Room) (va_Pc [.ref (a 0), .int p1, .int p2] (mB D (rty cI cL) (rc a cI cL I J))) (mQi D (rc a cI cL I J) (rc a cI cL (rSag I p1 p2) J) (aSag I p1 p2)) 0 0 (wA (rc a cI cL I J)) := by
  refine Met.ofW (cc := cX1_setSag) (maxL := 4) (ret := (some .int)) (by decide) rfl ?_
  intro p e s m args below meth c s₁ B hml hv
  obtain ⟨rfl, hP, hK, hD0⟩ := hv
  have hx := B.exec
  have hb := B.bytes
  have hr := B.returns
  have hts := atoms_spec (ws := wsX1_setSag) B.pre
  have hown : s.vm.findClass RX1 = some m.cls := findClass_of_methodNamed B.named
  have hlocks := B.notSynchronized
  have hin0 : ∀ w ∈ u_ws RX1 TX1 16, w ∈ wsX1_setSag := by decide +kernel
  have hD := rc_D (wA_D hD0)
  have hS : va_S (wA (rc a cI cL I J)) s.heap s.heap [] := va_S.rf
  have hl := lv_entry ([.ref (a 0), .int p1, .int p2]) (n := 4) (Nat.le_of_ble_eq_true rfl)
  rw [lg_entry_eq]
  generalize (lg_sl ([.ref (a 0), .int p1, .int p2]) ++ List.replicate (4 - (lg_sl ([.ref (a 0), .int p1, .int p2])).length) Slot.unset).toArray = ls at hl ⊢
  have hl : lv_has ls 4 [(0, .ref (a 0)), (1, .int p1), (2, .int p2)] := hl
  refine lv_aload_n hx hb dX1_setSag_0 rfl (lv_at hl 0 rfl) ?_
  refine lv_iload_n hx hb dX1_setSag_1 rfl (lv_at hl 1 rfl) ?_
  refine lv_iconst (v := 1) hx hb dX1_setSag_2 (by decide) ?_
  refine lv_bipush (v := 10) hx hb dX1_setSag_3 (by decide) ?_
  refine w_pS (As := [.int p1, .int 1, .int 10]) (rest := [.ref (a 0)]) ⟨hx, hb, hml, hown, hts⟩ (r_isIn l p1 1 10) (va_cwS 3 hts gX1_setSag_X1_isIn rfl rfl rfl (by decide +kernel) ⟨Nat.le_of_ble_eq_true rfl, Nat.le_of_ble_eq_true rfl⟩) rfl hl.1 rfl (Nat.le_of_ble_eq_true rfl) dX1_setSag_5 ⟨Nat.le_of_ble_eq_true rfl, Nat.le_of_ble_eq_true rfl⟩ ?_
  refine lv_if_eq (tgt := 25) hx hb dX1_setSag_8 (by decide) (fun c_8 => ?_) (fun c_8 => ?_)
  · have d_8 := bI_eq0 c_8
    refine lv_iconst (v := 1) hx hb dX1_setSag_25 (by decide) ?_
    refine w_mVi (As := [.int 1]) (rest := []) ⟨hx, hb, hml, hown, hts⟩ (r_isFine l D a cI cL I J 1) (cwV 1 hts gX1_setSag_X1_isFine rfl rfl rfl (by decide +kernel) ⟨Nat.le_of_ble_eq_true rfl, Nat.le_of_ble_eq_true rfl⟩) hK hP (hD _ _) hS rfl rfl rc_at0 rfl hl.1 rfl (Nat.le_of_ble_eq_true rfl) dX1_setSag_26 ⟨Nat.le_of_ble_eq_true rfl, Nat.le_of_ble_eq_true rfl⟩ (fun H locs hP hS => ?_)
    refine lv_asi 0 (by decide) ?_
    refine lv_if_ne (tgt := 34) hx hb dX1_setSag_29 (by decide) (fun c_29 => (absurd c_29 (by decide))) (fun c_29 => ?_)
    refine lv_iconst (v := 0) hx hb dX1_setSag_32 (by decide) ?_
    exact e_mi hx hb hr rfl hlocks hP hS (by simp [rSag, kSag, d_8]) (by simp [aSag, kSag, d_8]) dX1_setSag_33
  · have d_8 := bI_ne0 c_8
    refine lv_iload_n hx hb dX1_setSag_11 rfl (lv_at hl 2 rfl) ?_
    refine lv_iconst (v := 0) hx hb dX1_setSag_12 (by decide) ?_
    refine lv_bipush (v := 100) hx hb dX1_setSag_13 (by decide) ?_
    refine w_pS (As := [.int p2, .int 0, .int 100]) (rest := [.ref (a 0)]) ⟨hx, hb, hml, hown, hts⟩ (r_isIn l p2 0 100) (va_cwS 3 hts gX1_setSag_X1_isIn rfl rfl rfl (by decide +kernel) ⟨Nat.le_of_ble_eq_true rfl, Nat.le_of_ble_eq_true rfl⟩) rfl hl.1 rfl (Nat.le_of_ble_eq_true rfl) dX1_setSag_15 ⟨Nat.le_of_ble_eq_true rfl, Nat.le_of_ble_eq_true rfl⟩ ?_
    refine lv_if_eq (tgt := 25) hx hb dX1_setSag_18 (by decide) (fun c_18 => ?_) (fun c_18 => ?_)
    · have d_18 := bI_eq0 c_18
      refine lv_iconst (v := 1) hx hb dX1_setSag_25 (by decide) ?_
      refine w_mVi (As := [.int 1]) (rest := []) ⟨hx, hb, hml, hown, hts⟩ (r_isFine l D a cI cL I J 1) (cwV 1 hts gX1_setSag_X1_isFine rfl rfl rfl (by decide +kernel) ⟨Nat.le_of_ble_eq_true rfl, Nat.le_of_ble_eq_true rfl⟩) hK hP (hD _ _) hS rfl rfl rc_at0 rfl hl.1 rfl (Nat.le_of_ble_eq_true rfl) dX1_setSag_26 ⟨Nat.le_of_ble_eq_true rfl, Nat.le_of_ble_eq_true rfl⟩ (fun H locs hP hS => ?_)
      refine lv_asi 0 (by decide) ?_
      refine lv_if_ne (tgt := 34) hx hb dX1_setSag_29 (by decide) (fun c_29 => (absurd c_29 (by decide))) (fun c_29 => ?_)
      refine lv_iconst (v := 0) hx hb dX1_setSag_32 (by decide) ?_
      exact e_mi hx hb hr rfl hlocks hP hS (by simp [rSag, kSag, d_8, d_18]) (by simp [aSag, kSag, d_8, d_18]) dX1_setSag_33
    · have d_18 := bI_ne0 c_18
      refine lv_iconst (v := 0) hx hb dX1_setSag_21 (by decide) ?_
      refine lv_goto (tgt := 26) hx hb dX1_setSag_22 (by decide) ?_
      refine w_mVi (As := [.int 0]) (rest := []) ⟨hx, hb, hml, hown, hts⟩ (r_isFine l D a cI cL I J 0) (cwV 1 hts gX1_setSag_X1_isFine rfl rfl rfl (by decide +kernel) ⟨Nat.le_of_ble_eq_true rfl, Nat.le_of_ble_eq_true rfl⟩) hK hP (hD _ _) hS rfl rfl rc_at0 rfl hl.1 rfl (Nat.le_of_ble_eq_true rfl) dX1_setSag_26 ⟨Nat.le_of_ble_eq_true rfl, Nat.le_of_ble_eq_true rfl⟩ (fun H locs hP hS => ?_)
      refine lv_asi 1 (by decide) ?_
      refine lv_if_ne (tgt := 34) hx hb dX1_setSag_29 (by decide) (fun c_29 => ?_) (fun c_29 => (absurd c_29 (by decide)))
      obtain ⟨r, br, rfl⟩ := rg_nat1 (n := 10) d_8 (by decide)
      refine lv_aload_n hx hb dX1_setSag_34 rfl (lv_at hl 0 rfl) ?_
      refine r_get (v := .ref (a 7)) hx hb hts hin0 hown hK hP rc_at0 9 (by decide) (hts (.fieldLink RX1 32 "OrganBuilderModel" "fall" "[I") (by decide +kernel)) rfl dX1_setSag_35 ?_
      refine lv_iload_n hx hb dX1_setSag_38 rfl (lv_at hl 1 rfl) ?_
      refine w_ild hx hb hK hP rfl rc_at7 (by omega) (by decide) dX1_setSag_39 ?_
      refine lv_istore_n (lv' := [(3, .int ((u2 I 20 0 0) 6 r)), (0, .ref (a 0)), (1, .int (nI r)), (2, .int p2)]) hx hb dX1_setSag_40 rfl hl (by decide) rfl (fun ls hl => ?_)
      refine lv_aload_n hx hb dX1_setSag_41 rfl (lv_at hl 1 rfl) ?_
      refine r_get (v := .ref (a 7)) hx hb hts hin0 hown hK hP rc_at0 9 (by decide) (hts (.fieldLink RX1 32 "OrganBuilderModel" "fall" "[I") (by decide +kernel)) rfl dX1_setSag_42 ?_
      refine lv_iload_n hx hb dX1_setSag_45 rfl (lv_at hl 2 rfl) ?_
      refine lv_iload_n hx hb dX1_setSag_46 rfl (lv_at hl 3 rfl) ?_
      refine w_ist hx hb hK hP (hD _ _) hS rfl rc_at7 (rc_set7 r p2) (by omega) (by decide) dX1_setSag_47 (fun H locs hP hS => ?_)
      refine lv_iload_n hx hb dX1_setSag_48 rfl (lv_at hl 0 rfl) ?_
      exact e_mi hx hb hr rfl hlocks hP hS (by rw [rSag, if_pos (by simp [kSag, d_8, d_18]), nI_clamp (show r < 2 ^ 31 by omega)]) (by rw [aSag, if_pos (by simp [kSag, d_8, d_18]), nI_clamp (show r < 2 ^ 31 by omega)]) dX1_setSag_49
set_option maxHeartbeats 4000000 in
set_option maxRecDepth 100000 in
theorem r_tune (l : Launch) (D : va_G) (a : Nat → Nat) (cI cL : ClassId) (I : Nat → Nat → Int32) (J : Nat → Nat → Int64) (p1 p2 : Int32) : Met l yX1_tune wsX1_tune ({ frames := 1, cells := 0, slots := 0, locals := 22 } : Room) (va_Pc [.ref (a 0), .int p1, .int p2] (mB D (rty cI cL) (rc a cI cL I J))) (mQi D (rc a cI cL I J) (rc a cI cL (rTune I p1 p2) J) (aTune I p1 p2)) 0 0 (wA (rc a cI cL I J)) := by
  refine Met.ofW (cc := cX1_tune) (maxL := 4) (ret := (some .int)) (by decide) rfl ?_
  intro p e s m args below meth c s₁ B hml hv
  obtain ⟨rfl, hP, hK, hD0⟩ := hv
  have hx := B.exec
  have hb := B.bytes
  have hr := B.returns
  have hts := atoms_spec (ws := wsX1_tune) B.pre
  have hown : s.vm.findClass RX1 = some m.cls := findClass_of_methodNamed B.named
  have hlocks := B.notSynchronized
  have hin0 : ∀ w ∈ u_ws RX1 TX1 16, w ∈ wsX1_tune := by decide +kernel
  have hD := rc_D (wA_D hD0)
  have hS : va_S (wA (rc a cI cL I J)) s.heap s.heap [] := va_S.rf
  have hl := lv_entry ([.ref (a 0), .int p1, .int p2]) (n := 4) (Nat.le_of_ble_eq_true rfl)
  rw [lg_entry_eq]
  generalize (lg_sl ([.ref (a 0), .int p1, .int p2]) ++ List.replicate (4 - (lg_sl ([.ref (a 0), .int p1, .int p2])).length) Slot.unset).toArray = ls at hl ⊢
  have hl : lv_has ls 4 [(0, .ref (a 0)), (1, .int p1), (2, .int p2)] := hl
  refine lv_aload_n hx hb dX1_tune_0 rfl (lv_at hl 0 rfl) ?_
  refine lv_iload_n hx hb dX1_tune_1 rfl (lv_at hl 1 rfl) ?_
  refine lv_iconst (v := 0) hx hb dX1_tune_2 (by decide) ?_
  refine lv_bipush (v := 11) hx hb dX1_tune_3 (by decide) ?_
  refine w_pS (As := [.int p1, .int 0, .int 11]) (rest := [.ref (a 0)]) ⟨hx, hb, hml, hown, hts⟩ (r_isIn l p1 0 11) (va_cwS 3 hts gX1_tune_X1_isIn rfl rfl rfl (by decide +kernel) ⟨Nat.le_of_ble_eq_true rfl, Nat.le_of_ble_eq_true rfl⟩) rfl hl.1 rfl (Nat.le_of_ble_eq_true rfl) dX1_tune_5 ⟨Nat.le_of_ble_eq_true rfl, Nat.le_of_ble_eq_true rfl⟩ ?_
  refine lv_if_eq (tgt := 26) hx hb dX1_tune_8 (by decide) (fun c_8 => ?_) (fun c_8 => ?_)
  · have d_8 := bI_eq0 c_8
    refine lv_iconst (v := 1) hx hb dX1_tune_26 (by decide) ?_
    refine w_mVi (As := [.int 1]) (rest := []) ⟨hx, hb, hml, hown, hts⟩ (r_isFine l D a cI cL I J 1) (cwV 1 hts gX1_tune_X1_isFine rfl rfl rfl (by decide +kernel) ⟨Nat.le_of_ble_eq_true rfl, Nat.le_of_ble_eq_true rfl⟩) hK hP (hD _ _) hS rfl rfl rc_at0 rfl hl.1 rfl (Nat.le_of_ble_eq_true rfl) dX1_tune_27 ⟨Nat.le_of_ble_eq_true rfl, Nat.le_of_ble_eq_true rfl⟩ (fun H locs hP hS => ?_)
    refine lv_asi 0 (by decide) ?_
    refine lv_if_ne (tgt := 35) hx hb dX1_tune_30 (by decide) (fun c_30 => (absurd c_30 (by decide))) (fun c_30 => ?_)
    refine lv_iconst (v := 0) hx hb dX1_tune_33 (by decide) ?_
    exact e_mi hx hb hr rfl hlocks hP hS (by simp [rTune, kTune, d_8]) (by simp [aTune, kTune, d_8]) dX1_tune_34
  · have d_8 := bI_ne0 c_8
    refine lv_iload_n hx hb dX1_tune_11 rfl (lv_at hl 2 rfl) ?_
    refine lv_bipush (v := (-50)) hx hb dX1_tune_12 (by decide) ?_
    refine lv_bipush (v := 50) hx hb dX1_tune_14 (by decide) ?_
    refine w_pS (As := [.int p2, .int (-50), .int 50]) (rest := [.ref (a 0)]) ⟨hx, hb, hml, hown, hts⟩ (r_isIn l p2 (-50) 50) (va_cwS 3 hts gX1_tune_X1_isIn rfl rfl rfl (by decide +kernel) ⟨Nat.le_of_ble_eq_true rfl, Nat.le_of_ble_eq_true rfl⟩) rfl hl.1 rfl (Nat.le_of_ble_eq_true rfl) dX1_tune_16 ⟨Nat.le_of_ble_eq_true rfl, Nat.le_of_ble_eq_true rfl⟩ ?_
    refine lv_if_eq (tgt := 26) hx hb dX1_tune_19 (by decide) (fun c_19 => ?_) (fun c_19 => ?_)
    · have d_19 := bI_eq0 c_19
      refine lv_iconst (v := 1) hx hb dX1_tune_26 (by decide) ?_
      refine w_mVi (As := [.int 1]) (rest := []) ⟨hx, hb, hml, hown, hts⟩ (r_isFine l D a cI cL I J 1) (cwV 1 hts gX1_tune_X1_isFine rfl rfl rfl (by decide +kernel) ⟨Nat.le_of_ble_eq_true rfl, Nat.le_of_ble_eq_true rfl⟩) hK hP (hD _ _) hS rfl rfl rc_at0 rfl hl.1 rfl (Nat.le_of_ble_eq_true rfl) dX1_tune_27 ⟨Nat.le_of_ble_eq_true rfl, Nat.le_of_ble_eq_true rfl⟩ (fun H locs hP hS => ?_)
      refine lv_asi 0 (by decide) ?_
      refine lv_if_ne (tgt := 35) hx hb dX1_tune_30 (by decide) (fun c_30 => (absurd c_30 (by decide))) (fun c_30 => ?_)
      refine lv_iconst (v := 0) hx hb dX1_tune_33 (by decide) ?_
      exact e_mi hx hb hr rfl hlocks hP hS (by simp [rTune, kTune, d_8, d_19]) (by simp [aTune, kTune, d_8, d_19]) dX1_tune_34
    · have d_19 := bI_ne0 c_19
      refine lv_iconst (v := 0) hx hb dX1_tune_22 (by decide) ?_
      refine lv_goto (tgt := 27) hx hb dX1_tune_23 (by decide) ?_
      refine w_mVi (As := [.int 0]) (rest := []) ⟨hx, hb, hml, hown, hts⟩ (r_isFine l D a cI cL I J 0) (cwV 1 hts gX1_tune_X1_isFine rfl rfl rfl (by decide +kernel) ⟨Nat.le_of_ble_eq_true rfl, Nat.le_of_ble_eq_true rfl⟩) hK hP (hD _ _) hS rfl rfl rc_at0 rfl hl.1 rfl (Nat.le_of_ble_eq_true rfl) dX1_tune_27 ⟨Nat.le_of_ble_eq_true rfl, Nat.le_of_ble_eq_true rfl⟩ (fun H locs hP hS => ?_)
      refine lv_asi 1 (by decide) ?_
      refine lv_if_ne (tgt := 35) hx hb dX1_tune_30 (by decide) (fun c_30 => ?_) (fun c_30 => (absurd c_30 (by decide)))
      obtain ⟨r, br, rfl⟩ := rg_nat (n := 11) d_8 (by decide)
      refine lv_aload_n hx hb dX1_tune_35 rfl (lv_at hl 0 rfl) ?_
      refine r_get (v := .ref (a 8)) hx hb hts hin0 hown hK hP rc_at0 10 (by decide) (hts (.fieldLink RX1 35 "OrganBuilderModel" "offset" "[I") (by decide +kernel)) rfl dX1_tune_36 ?_
      refine lv_iload_n hx hb dX1_tune_39 rfl (lv_at hl 1 rfl) ?_
      refine w_ild hx hb hK hP rfl rc_at8 (by omega) (by decide) dX1_tune_40 ?_
      refine lv_istore_n (lv' := [(3, .int ((u2 I 20 0 0) 7 r)), (0, .ref (a 0)), (1, .int (nI r)), (2, .int p2)]) hx hb dX1_tune_41 rfl hl (by decide) rfl (fun ls hl => ?_)
      refine lv_aload_n hx hb dX1_tune_42 rfl (lv_at hl 1 rfl) ?_
      refine r_get (v := .ref (a 8)) hx hb hts hin0 hown hK hP rc_at0 10 (by decide) (hts (.fieldLink RX1 35 "OrganBuilderModel" "offset" "[I") (by decide +kernel)) rfl dX1_tune_43 ?_
      refine lv_iload_n hx hb dX1_tune_46 rfl (lv_at hl 2 rfl) ?_
      refine lv_iload_n hx hb dX1_tune_47 rfl (lv_at hl 3 rfl) ?_
      refine w_ist hx hb hK hP (hD _ _) hS rfl rc_at8 (rc_set8 r p2) (by omega) (by decide) dX1_tune_48 (fun H locs hP hS => ?_)
      refine lv_iload_n hx hb dX1_tune_49 rfl (lv_at hl 0 rfl) ?_
      exact e_mi hx hb hr rfl hlocks hP hS (by rw [rTune, if_pos (by simp [kTune, d_8, d_19]), nI_clamp (show r < 2 ^ 31 by omega)]) (by rw [aTune, if_pos (by simp [kTune, d_8, d_19]), nI_clamp (show r < 2 ^ 31 by omega)]) dX1_tune_50
set_option maxHeartbeats 4000000 in
set_option maxRecDepth 100000 in
theorem r_draw (l : Launch) (D : va_G) (a : Nat → Nat) (cI cL : ClassId) (I : Nat → Nat → Int32) (J : Nat → Nat → Int64) (p1 p2 : Int32) : Met l yX1_draw wsX1_draw ({ frames := 1, cells := 0, slots := 0, locals := 22 } : Room) (va_Pc [.ref (a 0), .int p1, .int p2] (mB D (rty cI cL) (rc a cI cL I J))) (mQi D (rc a cI cL I J) (rc a cI cL (rDraw I p1 p2) J) (aDraw I p1)) 0 0 (wA (rc a cI cL I J)) := by
  refine Met.ofW (cc := cX1_draw) (maxL := 4) (ret := (some .boolean)) (by decide) rfl ?_
  intro p e s m args below meth c s₁ B hml hv
  obtain ⟨rfl, hP, hK, hD0⟩ := hv
  have hx := B.exec
  have hb := B.bytes
  have hr := B.returns
  have hts := atoms_spec (ws := wsX1_draw) B.pre
  have hown : s.vm.findClass RX1 = some m.cls := findClass_of_methodNamed B.named
  have hlocks := B.notSynchronized
  have hin0 : ∀ w ∈ u_ws RX1 TX1 16, w ∈ wsX1_draw := by decide +kernel
  have hD := rc_D (wA_D hD0)
  have hS : va_S (wA (rc a cI cL I J)) s.heap s.heap [] := va_S.rf
  have hl := lv_entry ([.ref (a 0), .int p1, .int p2]) (n := 4) (Nat.le_of_ble_eq_true rfl)
  rw [lg_entry_eq]
  generalize (lg_sl ([.ref (a 0), .int p1, .int p2]) ++ List.replicate (4 - (lg_sl ([.ref (a 0), .int p1, .int p2])).length) Slot.unset).toArray = ls at hl ⊢
  have hl : lv_has ls 4 [(0, .ref (a 0)), (1, .int p1), (2, .int p2)] := hl
  refine lv_aload_n hx hb dX1_draw_0 rfl (lv_at hl 0 rfl) ?_
  refine lv_iload_n hx hb dX1_draw_1 rfl (lv_at hl 1 rfl) ?_
  refine lv_iconst (v := 0) hx hb dX1_draw_2 (by decide) ?_
  refine lv_bipush (v := 11) hx hb dX1_draw_3 (by decide) ?_
  refine w_pS (As := [.int p1, .int 0, .int 11]) (rest := [.ref (a 0)]) ⟨hx, hb, hml, hown, hts⟩ (r_isIn l p1 0 11) (va_cwS 3 hts gX1_draw_X1_isIn rfl rfl rfl (by decide +kernel) ⟨Nat.le_of_ble_eq_true rfl, Nat.le_of_ble_eq_true rfl⟩) rfl hl.1 rfl (Nat.le_of_ble_eq_true rfl) dX1_draw_5 ⟨Nat.le_of_ble_eq_true rfl, Nat.le_of_ble_eq_true rfl⟩ ?_
  refine lv_if_eq (tgt := 15) hx hb dX1_draw_8 (by decide) (fun c_8 => ?_) (fun c_8 => ?_)
  · have d_8 := bI_eq0 c_8
    refine lv_iconst (v := 1) hx hb dX1_draw_15 (by decide) ?_
    refine w_mVi (As := [.int 1]) (rest := []) ⟨hx, hb, hml, hown, hts⟩ (r_isFine l D a cI cL I J 1) (cwV 1 hts gX1_draw_X1_isFine rfl rfl rfl (by decide +kernel) ⟨Nat.le_of_ble_eq_true rfl, Nat.le_of_ble_eq_true rfl⟩) hK hP (hD _ _) hS rfl rfl rc_at0 rfl hl.1 rfl (Nat.le_of_ble_eq_true rfl) dX1_draw_16 ⟨Nat.le_of_ble_eq_true rfl, Nat.le_of_ble_eq_true rfl⟩ (fun H locs hP hS => ?_)
    refine lv_asi 0 (by decide) ?_
    refine lv_if_ne (tgt := 24) hx hb dX1_draw_19 (by decide) (fun c_19 => (absurd c_19 (by decide))) (fun c_19 => ?_)
    refine lv_iconst (v := 0) hx hb dX1_draw_22 (by decide) ?_
    exact e_mi hx hb hr rfl hlocks hP hS (by simp [rDraw, kDraw, d_8]) (by simp [aDraw, kDraw, d_8]) dX1_draw_23
  · have d_8 := bI_ne0 c_8
    refine lv_iconst (v := 0) hx hb dX1_draw_11 (by decide) ?_
    refine lv_goto (tgt := 16) hx hb dX1_draw_12 (by decide) ?_
    refine w_mVi (As := [.int 0]) (rest := []) ⟨hx, hb, hml, hown, hts⟩ (r_isFine l D a cI cL I J 0) (cwV 1 hts gX1_draw_X1_isFine rfl rfl rfl (by decide +kernel) ⟨Nat.le_of_ble_eq_true rfl, Nat.le_of_ble_eq_true rfl⟩) hK hP (hD _ _) hS rfl rfl rc_at0 rfl hl.1 rfl (Nat.le_of_ble_eq_true rfl) dX1_draw_16 ⟨Nat.le_of_ble_eq_true rfl, Nat.le_of_ble_eq_true rfl⟩ (fun H locs hP hS => ?_)
    refine lv_asi 1 (by decide) ?_
    refine lv_if_ne (tgt := 24) hx hb dX1_draw_19 (by decide) (fun c_19 => ?_) (fun c_19 => (absurd c_19 (by decide)))
    refine lv_aload_n hx hb dX1_draw_24 rfl (lv_at hl 0 rfl) ?_
    refine r_get (v := .int ((u2 I 20 0 0) 20 1)) hx hb hts hin0 hown hK hP rc_at0 6 (by decide) (hts (.fieldLink RX1 75 "OrganBuilderModel" "drawn" "I") (by decide +kernel)) rfl dX1_draw_25 ?_
    refine lv_i2l hx hb dX1_draw_28 rfl ?_
    refine lv_iload_n hx hb dX1_draw_29 rfl (lv_at hl 1 rfl) ?_
    refine w_pS (As := [.long (((u2 I 20 0 0) 20 1).toInt64), .int p1]) (rest := []) ⟨hx, hb, hml, hown, hts⟩ (r_has l (((u2 I 20 0 0) 20 1).toInt64) p1) (va_cwS 2 hts gX1_draw_X1_has rfl rfl rfl (by decide +kernel) ⟨Nat.le_of_ble_eq_true rfl, Nat.le_of_ble_eq_true rfl⟩) rfl hl.1 rfl (Nat.le_of_ble_eq_true rfl) dX1_draw_30 ⟨Nat.le_of_ble_eq_true rfl, Nat.le_of_ble_eq_true rfl⟩ ?_
    refine lv_istore_n (lv' := [(3, .int (bI (hs (((u2 I 20 0 0) 20 1).toInt64) p1))), (0, .ref (a 0)), (1, .int p1), (2, .int p2)]) hx hb dX1_draw_33 rfl hl (by decide) rfl (fun ls hl => ?_)
    refine lv_aload_n hx hb dX1_draw_34 rfl (lv_at hl 1 rfl) ?_
    refine lv_iload_n hx hb dX1_draw_35 rfl (lv_at hl 3 rfl) ?_
    refine lv_if_eq (tgt := 50) hx hb dX1_draw_36 (by decide) (fun c_36 => ?_) (fun c_36 => ?_)
    · refine lv_aload_n hx hb dX1_draw_50 rfl (lv_at hl 1 rfl) ?_
      refine r_get (v := .int ((u2 I 20 0 0) 20 1)) hx hb hts hin0 hown hK hP rc_at0 6 (by decide) (hts (.fieldLink RX1 75 "OrganBuilderModel" "drawn" "I") (by decide +kernel)) rfl dX1_draw_51 ?_
      refine lv_iconst (v := 1) hx hb dX1_draw_54 (by decide) ?_
      refine lv_iload_n hx hb dX1_draw_55 rfl (lv_at hl 2 rfl) ?_
      refine lv_ishl hx hb dX1_draw_56 ?_
      refine lv_iconst (v := (-1)) hx hb dX1_draw_57 (by decide) ?_
      refine lv_ixor hx hb dX1_draw_58 ?_
      refine lv_iand hx hb dX1_draw_59 ?_
      refine r_put hx hb hts hin0 hown hK hP (hD _ _) hS rc_at0 6 (by decide) (hts (.fieldLink RX1 75 "OrganBuilderModel" "drawn" "I") (by decide +kernel)) rfl (by decide +kernel) (by exact Nat.le_of_ble_eq_true rfl) (rc_putd (((u2 I 20 0 0) 20 1) &&& ((1 <<< (p1 &&& 31)) ^^^ (-1)))) dX1_draw_60 (fun H locs hP hS => ?_)
      refine lv_iload_n hx hb dX1_draw_63 rfl (lv_at hl 0 rfl) ?_
      exact e_mi hx hb hr (nar_bI _) hlocks hP hS (by rw [rDraw, if_pos (by simp [kDraw, d_8]), if_pos c_36]) (by rw [aDraw, if_pos (by simp [kDraw, d_8])]) dX1_draw_64
    · refine lv_aload_n hx hb dX1_draw_39 rfl (lv_at hl 1 rfl) ?_
      refine r_get (v := .int ((u2 I 20 0 0) 20 1)) hx hb hts hin0 hown hK hP rc_at0 6 (by decide) (hts (.fieldLink RX1 75 "OrganBuilderModel" "drawn" "I") (by decide +kernel)) rfl dX1_draw_40 ?_
      refine lv_iconst (v := 1) hx hb dX1_draw_43 (by decide) ?_
      refine lv_iload_n hx hb dX1_draw_44 rfl (lv_at hl 2 rfl) ?_
      refine lv_ishl hx hb dX1_draw_45 ?_
      refine lv_ior hx hb dX1_draw_46 ?_
      refine lv_goto (tgt := 60) hx hb dX1_draw_47 (by decide) ?_
      refine r_put hx hb hts hin0 hown hK hP (hD _ _) hS rc_at0 6 (by decide) (hts (.fieldLink RX1 75 "OrganBuilderModel" "drawn" "I") (by decide +kernel)) rfl (by decide +kernel) (by exact Nat.le_of_ble_eq_true rfl) (rc_putd (((u2 I 20 0 0) 20 1) ||| (1 <<< (p1 &&& 31)))) dX1_draw_60 (fun H locs hP hS => ?_)
      refine lv_iload_n hx hb dX1_draw_63 rfl (lv_at hl 0 rfl) ?_
      exact e_mi hx hb hr (nar_bI _) hlocks hP hS (by rw [rDraw, if_pos (by simp [kDraw, d_8]), if_neg c_36]) (by rw [aDraw, if_pos (by simp [kDraw, d_8])]) dX1_draw_64
set_option maxHeartbeats 4000000 in
set_option maxRecDepth 100000 in
theorem r_keep (l : Launch) (D : va_G) (a : Nat → Nat) (cI cL : ClassId) (I : Nat → Nat → Int32) (J : Nat → Nat → Int64) (p1 : Int32) : Met l yX1_keep wsX1_keep ({ frames := 2, cells := 0, slots := 0, locals := 45 } : Room) (va_Pc [.ref (a 0), .int p1] (mB D (rty cI cL) (rc a cI cL I J))) (mQi D (rc a cI cL I J) (rc a cI cL (rKeep I p1) J) (aKeep I p1)) 0 0 (wA (rc a cI cL I J)) := by
  refine Met.ofW (cc := cX1_keep) (maxL := 2) (ret := (some .int)) (by decide) rfl ?_
  intro p e s m args below meth c s₁ B hml hv
  obtain ⟨rfl, hP, hK, hD0⟩ := hv
  have hx := B.exec
  have hb := B.bytes
  have hr := B.returns
  have hts := atoms_spec (ws := wsX1_keep) B.pre
  have hown : s.vm.findClass RX1 = some m.cls := findClass_of_methodNamed B.named
  have hlocks := B.notSynchronized
  have hin0 : ∀ w ∈ u_ws RX1 TX1 16, w ∈ wsX1_keep := by decide +kernel
  have hD := rc_D (wA_D hD0)
  have hS : va_S (wA (rc a cI cL I J)) s.heap s.heap [] := va_S.rf
  have hl := lv_entry ([.ref (a 0), .int p1]) (n := 2) (Nat.le_of_ble_eq_true rfl)
  rw [lg_entry_eq]
  generalize (lg_sl ([.ref (a 0), .int p1]) ++ List.replicate (2 - (lg_sl ([.ref (a 0), .int p1])).length) Slot.unset).toArray = ls at hl ⊢
  have hl : lv_has ls 2 [(0, .ref (a 0)), (1, .int p1)] := hl
  refine lv_aload_n hx hb dX1_keep_0 rfl (lv_at hl 0 rfl) ?_
  refine lv_iload_n hx hb dX1_keep_1 rfl (lv_at hl 1 rfl) ?_
  refine w_pS (As := [.int p1]) (rest := [.ref (a 0)]) ⟨hx, hb, hml, hown, hts⟩ (r_isRegistration l p1) (va_cwS 1 hts gX1_keep_X1_isRegistration rfl rfl rfl (by decide +kernel) ⟨Nat.le_of_ble_eq_true rfl, Nat.le_of_ble_eq_true rfl⟩) rfl hl.1 rfl (Nat.le_of_ble_eq_true rfl) dX1_keep_2 ⟨Nat.le_of_ble_eq_true rfl, Nat.le_of_ble_eq_true rfl⟩ ?_
  refine lv_if_eq (tgt := 12) hx hb dX1_keep_5 (by decide) (fun c_5 => ?_) (fun c_5 => ?_)
  · have d_5 := bI_eq0 c_5
    refine lv_iconst (v := 1) hx hb dX1_keep_12 (by decide) ?_
    refine w_mVi (As := [.int 1]) (rest := []) ⟨hx, hb, hml, hown, hts⟩ (r_isFine l D a cI cL I J 1) (cwV 1 hts gX1_keep_X1_isFine rfl rfl rfl (by decide +kernel) ⟨Nat.le_of_ble_eq_true rfl, Nat.le_of_ble_eq_true rfl⟩) hK hP (hD _ _) hS rfl rfl rc_at0 rfl hl.1 rfl (Nat.le_of_ble_eq_true rfl) dX1_keep_13 ⟨Nat.le_of_ble_eq_true rfl, Nat.le_of_ble_eq_true rfl⟩ (fun H locs hP hS => ?_)
    refine lv_asi 0 (by decide) ?_
    refine lv_if_ne (tgt := 21) hx hb dX1_keep_16 (by decide) (fun c_16 => (absurd c_16 (by decide))) (fun c_16 => ?_)
    refine lv_iconst (v := 0) hx hb dX1_keep_19 (by decide) ?_
    exact e_mi hx hb hr rfl hlocks hP hS (by simp [rKeep, kReg, d_5]) (by simp [aKeep, kReg, d_5]) dX1_keep_20
  · have d_5 := bI_ne0 c_5
    refine lv_iconst (v := 0) hx hb dX1_keep_8 (by decide) ?_
    refine lv_goto (tgt := 13) hx hb dX1_keep_9 (by decide) ?_
    refine w_mVi (As := [.int 0]) (rest := []) ⟨hx, hb, hml, hown, hts⟩ (r_isFine l D a cI cL I J 0) (cwV 1 hts gX1_keep_X1_isFine rfl rfl rfl (by decide +kernel) ⟨Nat.le_of_ble_eq_true rfl, Nat.le_of_ble_eq_true rfl⟩) hK hP (hD _ _) hS rfl rfl rc_at0 rfl hl.1 rfl (Nat.le_of_ble_eq_true rfl) dX1_keep_13 ⟨Nat.le_of_ble_eq_true rfl, Nat.le_of_ble_eq_true rfl⟩ (fun H locs hP hS => ?_)
    refine lv_asi 1 (by decide) ?_
    refine lv_if_ne (tgt := 21) hx hb dX1_keep_16 (by decide) (fun c_16 => ?_) (fun c_16 => (absurd c_16 (by decide)))
    obtain ⟨r, br, rfl⟩ := rg_nat (n := 7) d_5 (by decide)
    refine lv_aload_n hx hb dX1_keep_21 rfl (lv_at hl 0 rfl) ?_
    refine r_get (v := .ref (a 9)) hx hb hts hin0 hown hK hP rc_at0 11 (by decide) (hts (.fieldLink RX1 38 "OrganBuilderModel" "registration" "[I") (by decide +kernel)) rfl dX1_keep_22 ?_
    refine lv_iload_n hx hb dX1_keep_25 rfl (lv_at hl 1 rfl) ?_
    refine lv_aload_n hx hb dX1_keep_26 rfl (lv_at hl 0 rfl) ?_
    refine r_get (v := .int ((u2 I 20 0 0) 20 1)) hx hb hts hin0 hown hK hP rc_at0 6 (by decide) (hts (.fieldLink RX1 75 "OrganBuilderModel" "drawn" "I") (by decide +kernel)) rfl dX1_keep_27 ?_
    refine w_ist hx hb hK hP (hD _ _) hS rfl rc_at9 (rc_set9 r ((u2 I 20 0 0) 20 1)) (by omega) (by decide) dX1_keep_30 (fun H locs hP hS => ?_)
    refine lv_aload_n hx hb dX1_keep_31 rfl (lv_at hl 0 rfl) ?_
    refine r_get (v := .int ((u2 (u2 I 20 0 0) 8 r ((u2 I 20 0 0) 20 1)) 20 1)) hx hb hts hin0 hown hK hP rc_at0 6 (by decide) (hts (.fieldLink RX1 75 "OrganBuilderModel" "drawn" "I") (by decide +kernel)) rfl dX1_keep_32 ?_
    refine lv_asi (I 20 1) (rfl) ?_
    refine lv_i2l hx hb dX1_keep_35 rfl ?_
    refine w_pS (As := [.long ((I 20 1).toInt64)]) (rest := []) ⟨hx, hb, hml, hown, hts⟩ (r_count l ((I 20 1).toInt64)) (va_cwS 1 hts gX1_keep_X1_count rfl rfl rfl (by decide +kernel) ⟨Nat.le_of_ble_eq_true rfl, Nat.le_of_ble_eq_true rfl⟩) rfl hl.1 rfl (Nat.le_of_ble_eq_true rfl) dX1_keep_36 ⟨Nat.le_of_ble_eq_true rfl, Nat.le_of_ble_eq_true rfl⟩ ?_
    exact e_mi hx hb hr rfl hlocks hP hS (by rw [rKeep, if_pos (by simp [kReg, d_5]), nI_clamp (show r < 2 ^ 31 by omega)]) (by rw [aKeep, if_pos (by simp [kReg, d_5])]) dX1_keep_39
set_option maxHeartbeats 4000000 in
set_option maxRecDepth 100000 in
theorem r_recall (l : Launch) (D : va_G) (a : Nat → Nat) (cI cL : ClassId) (I : Nat → Nat → Int32) (J : Nat → Nat → Int64) (p1 : Int32) : Met l yX1_recall wsX1_recall ({ frames := 2, cells := 0, slots := 0, locals := 45 } : Room) (va_Pc [.ref (a 0), .int p1] (mB D (rty cI cL) (rc a cI cL I J))) (mQi D (rc a cI cL I J) (rc a cI cL (rRec I p1) J) (aRec I p1)) 0 0 (wA (rc a cI cL I J)) := by
  refine Met.ofW (cc := cX1_recall) (maxL := 3) (ret := (some .int)) (by decide) rfl ?_
  intro p e s m args below meth c s₁ B hml hv
  obtain ⟨rfl, hP, hK, hD0⟩ := hv
  have hx := B.exec
  have hb := B.bytes
  have hr := B.returns
  have hts := atoms_spec (ws := wsX1_recall) B.pre
  have hown : s.vm.findClass RX1 = some m.cls := findClass_of_methodNamed B.named
  have hlocks := B.notSynchronized
  have hin0 : ∀ w ∈ u_ws RX1 TX1 16, w ∈ wsX1_recall := by decide +kernel
  have hD := rc_D (wA_D hD0)
  have hS : va_S (wA (rc a cI cL I J)) s.heap s.heap [] := va_S.rf
  have hl := lv_entry ([.ref (a 0), .int p1]) (n := 3) (Nat.le_of_ble_eq_true rfl)
  rw [lg_entry_eq]
  generalize (lg_sl ([.ref (a 0), .int p1]) ++ List.replicate (3 - (lg_sl ([.ref (a 0), .int p1])).length) Slot.unset).toArray = ls at hl ⊢
  have hl : lv_has ls 3 [(0, .ref (a 0)), (1, .int p1)] := hl
  refine lv_aload_n hx hb dX1_recall_0 rfl (lv_at hl 0 rfl) ?_
  refine lv_iload_n hx hb dX1_recall_1 rfl (lv_at hl 1 rfl) ?_
  refine w_pS (As := [.int p1]) (rest := [.ref (a 0)]) ⟨hx, hb, hml, hown, hts⟩ (r_isRegistration l p1) (va_cwS 1 hts gX1_recall_X1_isRegistration rfl rfl rfl (by decide +kernel) ⟨Nat.le_of_ble_eq_true rfl, Nat.le_of_ble_eq_true rfl⟩) rfl hl.1 rfl (Nat.le_of_ble_eq_true rfl) dX1_recall_2 ⟨Nat.le_of_ble_eq_true rfl, Nat.le_of_ble_eq_true rfl⟩ ?_
  refine lv_if_eq (tgt := 12) hx hb dX1_recall_5 (by decide) (fun c_5 => ?_) (fun c_5 => ?_)
  · have d_5 := bI_eq0 c_5
    refine lv_iconst (v := 1) hx hb dX1_recall_12 (by decide) ?_
    refine w_mVi (As := [.int 1]) (rest := []) ⟨hx, hb, hml, hown, hts⟩ (r_isFine l D a cI cL I J 1) (cwV 1 hts gX1_recall_X1_isFine rfl rfl rfl (by decide +kernel) ⟨Nat.le_of_ble_eq_true rfl, Nat.le_of_ble_eq_true rfl⟩) hK hP (hD _ _) hS rfl rfl rc_at0 rfl hl.1 rfl (Nat.le_of_ble_eq_true rfl) dX1_recall_13 ⟨Nat.le_of_ble_eq_true rfl, Nat.le_of_ble_eq_true rfl⟩ (fun H locs hP hS => ?_)
    refine lv_asi 0 (by decide) ?_
    refine lv_if_ne (tgt := 21) hx hb dX1_recall_16 (by decide) (fun c_16 => (absurd c_16 (by decide))) (fun c_16 => ?_)
    refine lv_iconst (v := 0) hx hb dX1_recall_19 (by decide) ?_
    exact e_mi hx hb hr rfl hlocks hP hS (by simp [rRec, kReg, d_5]) (by simp [aRec, kReg, d_5]) dX1_recall_20
  · have d_5 := bI_ne0 c_5
    refine lv_iconst (v := 0) hx hb dX1_recall_8 (by decide) ?_
    refine lv_goto (tgt := 13) hx hb dX1_recall_9 (by decide) ?_
    refine w_mVi (As := [.int 0]) (rest := []) ⟨hx, hb, hml, hown, hts⟩ (r_isFine l D a cI cL I J 0) (cwV 1 hts gX1_recall_X1_isFine rfl rfl rfl (by decide +kernel) ⟨Nat.le_of_ble_eq_true rfl, Nat.le_of_ble_eq_true rfl⟩) hK hP (hD _ _) hS rfl rfl rc_at0 rfl hl.1 rfl (Nat.le_of_ble_eq_true rfl) dX1_recall_13 ⟨Nat.le_of_ble_eq_true rfl, Nat.le_of_ble_eq_true rfl⟩ (fun H locs hP hS => ?_)
    refine lv_asi 1 (by decide) ?_
    refine lv_if_ne (tgt := 21) hx hb dX1_recall_16 (by decide) (fun c_16 => ?_) (fun c_16 => (absurd c_16 (by decide)))
    obtain ⟨r, br, rfl⟩ := rg_nat (n := 7) d_5 (by decide)
    refine lv_aload_n hx hb dX1_recall_21 rfl (lv_at hl 0 rfl) ?_
    refine r_get (v := .int ((u2 I 20 0 0) 20 1)) hx hb hts hin0 hown hK hP rc_at0 6 (by decide) (hts (.fieldLink RX1 75 "OrganBuilderModel" "drawn" "I") (by decide +kernel)) rfl dX1_recall_22 ?_
    refine lv_aload_n hx hb dX1_recall_25 rfl (lv_at hl 0 rfl) ?_
    refine r_get (v := .ref (a 9)) hx hb hts hin0 hown hK hP rc_at0 11 (by decide) (hts (.fieldLink RX1 38 "OrganBuilderModel" "registration" "[I") (by decide +kernel)) rfl dX1_recall_26 ?_
    refine lv_iload_n hx hb dX1_recall_29 rfl (lv_at hl 1 rfl) ?_
    refine w_ild hx hb hK hP rfl rc_at9 (by omega) (by decide) dX1_recall_30 ?_
    refine lv_ixor hx hb dX1_recall_31 ?_
    refine lv_i2l hx hb dX1_recall_32 rfl ?_
    refine w_pS (As := [.long ((((u2 I 20 0 0) 20 1) ^^^ ((u2 I 20 0 0) 8 r)).toInt64)]) (rest := []) ⟨hx, hb, hml, hown, hts⟩ (r_count l ((((u2 I 20 0 0) 20 1) ^^^ ((u2 I 20 0 0) 8 r)).toInt64)) (va_cwS 1 hts gX1_recall_X1_count rfl rfl rfl (by decide +kernel) ⟨Nat.le_of_ble_eq_true rfl, Nat.le_of_ble_eq_true rfl⟩) rfl hl.1 rfl (Nat.le_of_ble_eq_true rfl) dX1_recall_33 ⟨Nat.le_of_ble_eq_true rfl, Nat.le_of_ble_eq_true rfl⟩ ?_
    refine lv_istore_n (lv' := [(2, .int (cnF ((((u2 I 20 0 0) 20 1) ^^^ ((u2 I 20 0 0) 8 r)).toInt64) 61)), (0, .ref (a 0)), (1, .int (nI r))]) hx hb dX1_recall_36 rfl hl (by decide) rfl (fun ls hl => ?_)
    refine lv_aload_n hx hb dX1_recall_37 rfl (lv_at hl 1 rfl) ?_
    refine lv_aload_n hx hb dX1_recall_38 rfl (lv_at hl 1 rfl) ?_
    refine r_get (v := .ref (a 9)) hx hb hts hin0 hown hK hP rc_at0 11 (by decide) (hts (.fieldLink RX1 38 "OrganBuilderModel" "registration" "[I") (by decide +kernel)) rfl dX1_recall_39 ?_
    refine lv_iload_n hx hb dX1_recall_42 rfl (lv_at hl 2 rfl) ?_
    refine w_ild hx hb hK hP rfl rc_at9 (by omega) (by decide) dX1_recall_43 ?_
    refine r_put hx hb hts hin0 hown hK hP (hD _ _) hS rc_at0 6 (by decide) (hts (.fieldLink RX1 75 "OrganBuilderModel" "drawn" "I") (by decide +kernel)) rfl (by decide +kernel) (by exact Nat.le_of_ble_eq_true rfl) (rc_putd ((u2 I 20 0 0) 8 r)) dX1_recall_44 (fun H locs hP hS => ?_)
    refine lv_iload_n hx hb dX1_recall_47 rfl (lv_at hl 0 rfl) ?_
    exact e_mi hx hb hr rfl hlocks hP hS (by rw [rRec, if_pos (by simp [kReg, d_5]), nI_clamp (show r < 2 ^ 31 by omega)]) (by rw [aRec, if_pos (by simp [kReg, d_5]), nI_clamp (show r < 2 ^ 31 by omega)]) dX1_recall_48
set_option maxHeartbeats 4000000 in
set_option maxRecDepth 100000 in
theorem r_hold (l : Launch) (D : va_G) (a : Nat → Nat) (cI cL : ClassId) (I : Nat → Nat → Int32) (J : Nat → Nat → Int64) (p1 p2 p3 : Int32) : Met l yX1_hold wsX1_hold ({ frames := 2, cells := 0, slots := 0, locals := 42 } : Room) (va_Pc [.ref (a 0), .int p1, .int p2, .int p3] (mB D (rty cI cL) (rc a cI cL I J))) (mQi D (rc a cI cL I J) (rc a cI cL (tI I (kMK p1 p2)) (rHoldJ J p1 p2 p3)) (aHold J p1 p2)) 0 0 (wA (rc a cI cL I J)) := by
  refine Met.ofW (cc := cX1_hold) (maxL := 5) (ret := (some .boolean)) (by decide) rfl ?_
  intro p e s m args below meth c s₁ B hml hv
  obtain ⟨rfl, hP, hK, hD0⟩ := hv
  have hx := B.exec
  have hb := B.bytes
  have hr := B.returns
  have hts := atoms_spec (ws := wsX1_hold) B.pre
  have hown : s.vm.findClass RX1 = some m.cls := findClass_of_methodNamed B.named
  have hlocks := B.notSynchronized
  have hin0 : ∀ w ∈ u_ws RX1 TX1 16, w ∈ wsX1_hold := by decide +kernel
  have hD := rc_D (wA_D hD0)
  have hS : va_S (wA (rc a cI cL I J)) s.heap s.heap [] := va_S.rf
  have hl := lv_entry ([.ref (a 0), .int p1, .int p2, .int p3]) (n := 5) (Nat.le_of_ble_eq_true rfl)
  rw [lg_entry_eq]
  generalize (lg_sl ([.ref (a 0), .int p1, .int p2, .int p3]) ++ List.replicate (5 - (lg_sl ([.ref (a 0), .int p1, .int p2, .int p3])).length) Slot.unset).toArray = ls at hl ⊢
  have hl : lv_has ls 5 [(0, .ref (a 0)), (1, .int p1), (2, .int p2), (3, .int p3)] := hl
  refine lv_aload_n hx hb dX1_hold_0 rfl (lv_at hl 0 rfl) ?_
  refine lv_iload_n hx hb dX1_hold_1 rfl (lv_at hl 1 rfl) ?_
  refine w_pS (As := [.int p1]) (rest := [.ref (a 0)]) ⟨hx, hb, hml, hown, hts⟩ (r_isManual l p1) (va_cwS 1 hts gX1_hold_X1_isManual rfl rfl rfl (by decide +kernel) ⟨Nat.le_of_ble_eq_true rfl, Nat.le_of_ble_eq_true rfl⟩) rfl hl.1 rfl (Nat.le_of_ble_eq_true rfl) dX1_hold_2 ⟨Nat.le_of_ble_eq_true rfl, Nat.le_of_ble_eq_true rfl⟩ ?_
  refine lv_if_eq (tgt := 19) hx hb dX1_hold_5 (by decide) (fun c_5 => ?_) (fun c_5 => ?_)
  · have d_5 := bI_eq0 c_5
    refine lv_iconst (v := 1) hx hb dX1_hold_19 (by decide) ?_
    refine w_mVi (As := [.int 1]) (rest := []) ⟨hx, hb, hml, hown, hts⟩ (r_isFine l D a cI cL I J 1) (cwV 1 hts gX1_hold_X1_isFine rfl rfl rfl (by decide +kernel) ⟨Nat.le_of_ble_eq_true rfl, Nat.le_of_ble_eq_true rfl⟩) hK hP (hD _ _) hS rfl rfl rc_at0 rfl hl.1 rfl (Nat.le_of_ble_eq_true rfl) dX1_hold_20 ⟨Nat.le_of_ble_eq_true rfl, Nat.le_of_ble_eq_true rfl⟩ (fun H locs hP hS => ?_)
    refine lv_asi 0 (by decide) ?_
    refine lv_if_ne (tgt := 28) hx hb dX1_hold_23 (by decide) (fun c_23 => (absurd c_23 (by decide))) (fun c_23 => ?_)
    refine lv_iconst (v := 0) hx hb dX1_hold_26 (by decide) ?_
    exact e_mi hx hb hr rfl hlocks hP hS (by simp [rHoldJ, kMK, d_5]) (by simp [aHold, kMK, d_5]) dX1_hold_27
  · have d_5 := bI_ne0 c_5
    refine lv_iload_n hx hb dX1_hold_8 rfl (lv_at hl 2 rfl) ?_
    refine w_pS (As := [.int p2]) (rest := [.ref (a 0)]) ⟨hx, hb, hml, hown, hts⟩ (r_isKey l p2) (va_cwS 1 hts gX1_hold_X1_isKey rfl rfl rfl (by decide +kernel) ⟨Nat.le_of_ble_eq_true rfl, Nat.le_of_ble_eq_true rfl⟩) rfl hl.1 rfl (Nat.le_of_ble_eq_true rfl) dX1_hold_9 ⟨Nat.le_of_ble_eq_true rfl, Nat.le_of_ble_eq_true rfl⟩ ?_
    refine lv_if_eq (tgt := 19) hx hb dX1_hold_12 (by decide) (fun c_12 => ?_) (fun c_12 => ?_)
    · have d_12 := bI_eq0 c_12
      refine lv_iconst (v := 1) hx hb dX1_hold_19 (by decide) ?_
      refine w_mVi (As := [.int 1]) (rest := []) ⟨hx, hb, hml, hown, hts⟩ (r_isFine l D a cI cL I J 1) (cwV 1 hts gX1_hold_X1_isFine rfl rfl rfl (by decide +kernel) ⟨Nat.le_of_ble_eq_true rfl, Nat.le_of_ble_eq_true rfl⟩) hK hP (hD _ _) hS rfl rfl rc_at0 rfl hl.1 rfl (Nat.le_of_ble_eq_true rfl) dX1_hold_20 ⟨Nat.le_of_ble_eq_true rfl, Nat.le_of_ble_eq_true rfl⟩ (fun H locs hP hS => ?_)
      refine lv_asi 0 (by decide) ?_
      refine lv_if_ne (tgt := 28) hx hb dX1_hold_23 (by decide) (fun c_23 => (absurd c_23 (by decide))) (fun c_23 => ?_)
      refine lv_iconst (v := 0) hx hb dX1_hold_26 (by decide) ?_
      exact e_mi hx hb hr rfl hlocks hP hS (by simp [rHoldJ, kMK, d_5, d_12]) (by simp [aHold, kMK, d_5, d_12]) dX1_hold_27
    · have d_12 := bI_ne0 c_12
      refine lv_iconst (v := 0) hx hb dX1_hold_15 (by decide) ?_
      refine lv_goto (tgt := 20) hx hb dX1_hold_16 (by decide) ?_
      refine w_mVi (As := [.int 0]) (rest := []) ⟨hx, hb, hml, hown, hts⟩ (r_isFine l D a cI cL I J 0) (cwV 1 hts gX1_hold_X1_isFine rfl rfl rfl (by decide +kernel) ⟨Nat.le_of_ble_eq_true rfl, Nat.le_of_ble_eq_true rfl⟩) hK hP (hD _ _) hS rfl rfl rc_at0 rfl hl.1 rfl (Nat.le_of_ble_eq_true rfl) dX1_hold_20 ⟨Nat.le_of_ble_eq_true rfl, Nat.le_of_ble_eq_true rfl⟩ (fun H locs hP hS => ?_)
      refine lv_asi 1 (by decide) ?_
      refine lv_if_ne (tgt := 28) hx hb dX1_hold_23 (by decide) (fun c_23 => ?_) (fun c_23 => (absurd c_23 (by decide)))
      obtain ⟨mn, bmn, rfl⟩ := rg_nat (n := 2) d_5 (by decide)
      refine lv_aload_n hx hb dX1_hold_28 rfl (lv_at hl 0 rfl) ?_
      refine r_get (v := .ref (a 10)) hx hb hts hin0 hown hK hP rc_at0 12 (by decide) (hts (.fieldLink RX1 41 "OrganBuilderModel" "held" "[J") (by decide +kernel)) rfl dX1_hold_29 ?_
      refine lv_iload_n hx hb dX1_hold_32 rfl (lv_at hl 1 rfl) ?_
      refine w_lld hx hb hK hP rfl rc_at10 (by omega) (by decide) dX1_hold_33 ?_
      refine lv_iload_n hx hb dX1_hold_34 rfl (lv_at hl 2 rfl) ?_
      refine w_pS (As := [.long (J 0 mn), .int p2]) (rest := []) ⟨hx, hb, hml, hown, hts⟩ (r_has l (J 0 mn) p2) (va_cwS 2 hts gX1_hold_X1_has rfl rfl rfl (by decide +kernel) ⟨Nat.le_of_ble_eq_true rfl, Nat.le_of_ble_eq_true rfl⟩) rfl hl.1 rfl (Nat.le_of_ble_eq_true rfl) dX1_hold_35 ⟨Nat.le_of_ble_eq_true rfl, Nat.le_of_ble_eq_true rfl⟩ ?_
      refine lv_istore (lv' := [(4, .int (bI (hs (J 0 mn) p2))), (0, .ref (a 0)), (1, .int (nI mn)), (2, .int p2), (3, .int p3)]) hx hb dX1_hold_38 hl (by decide) rfl (fun ls hl => ?_)
      refine lv_aload_n hx hb dX1_hold_40 rfl (lv_at hl 1 rfl) ?_
      refine r_get (v := .ref (a 10)) hx hb hts hin0 hown hK hP rc_at0 12 (by decide) (hts (.fieldLink RX1 41 "OrganBuilderModel" "held" "[J") (by decide +kernel)) rfl dX1_hold_41 ?_
      refine lv_iload_n hx hb dX1_hold_44 rfl (lv_at hl 2 rfl) ?_
      refine lv_iload_n hx hb dX1_hold_45 rfl (lv_at hl 4 rfl) ?_
      refine lv_if_eq (tgt := 62) hx hb dX1_hold_46 (by decide) (fun c_46 => ?_) (fun c_46 => ?_)
      · refine lv_aload_n hx hb dX1_hold_62 rfl (lv_at hl 1 rfl) ?_
        refine r_get (v := .ref (a 10)) hx hb hts hin0 hown hK hP rc_at0 12 (by decide) (hts (.fieldLink RX1 41 "OrganBuilderModel" "held" "[J") (by decide +kernel)) rfl dX1_hold_63 ?_
        refine lv_iload_n hx hb dX1_hold_66 rfl (lv_at hl 2 rfl) ?_
        refine w_lld hx hb hK hP rfl rc_at10 (by omega) (by decide) dX1_hold_67 ?_
        refine lv_lconst (v := 1) hx hb dX1_hold_68 (by decide) ?_
        refine lv_iload_n hx hb dX1_hold_69 rfl (lv_at hl 3 rfl) ?_
        refine lv_lshl hx hb dX1_hold_70 rfl ?_
        refine lv_ldc2 (v := (-1)) hx hb hown (hts (.constantLong RX1 95 ((-1))) (by decide +kernel)) dX1_hold_71 ?_
        refine lv_lxor hx hb dX1_hold_74 ?_
        refine lv_land hx hb dX1_hold_75 ?_
        refine w_lst hx hb hK hP (hD _ _) hS rfl rc_at10 (rc_set10 mn ((J 0 mn) &&& (((1 : Int64) <<< (p2.toInt64 &&& 63)) ^^^ (-1)))) (by omega) (by decide) dX1_hold_76 (fun H locs hP hS => ?_)
        refine lv_iload hx hb dX1_hold_77 (lv_at hl 0 rfl) ?_
        exact e_mi hx hb hr (nar_bI _) hlocks hP hS (by rw [rHoldJ, if_pos (show kMK (nI mn) p2 = 0 by simp [kMK, d_5, d_12]), if_pos c_46, nI_clamp (show mn < 2 ^ 31 by omega), show kMK (nI mn) p2 = 0 by simp [kMK, d_5, d_12]]; rfl) (by rw [aHold, if_pos (by simp [kMK, d_5, d_12]), nI_clamp (show mn < 2 ^ 31 by omega)]) dX1_hold_79
      · refine lv_aload_n hx hb dX1_hold_49 rfl (lv_at hl 1 rfl) ?_
        refine r_get (v := .ref (a 10)) hx hb hts hin0 hown hK hP rc_at0 12 (by decide) (hts (.fieldLink RX1 41 "OrganBuilderModel" "held" "[J") (by decide +kernel)) rfl dX1_hold_50 ?_
        refine lv_iload_n hx hb dX1_hold_53 rfl (lv_at hl 2 rfl) ?_
        refine w_lld hx hb hK hP rfl rc_at10 (by omega) (by decide) dX1_hold_54 ?_
        refine lv_lconst (v := 1) hx hb dX1_hold_55 (by decide) ?_
        refine lv_iload_n hx hb dX1_hold_56 rfl (lv_at hl 3 rfl) ?_
        refine lv_lshl hx hb dX1_hold_57 rfl ?_
        refine lv_lor hx hb dX1_hold_58 ?_
        refine lv_goto (tgt := 76) hx hb dX1_hold_59 (by decide) ?_
        refine w_lst hx hb hK hP (hD _ _) hS rfl rc_at10 (rc_set10 mn ((J 0 mn) ||| ((1 : Int64) <<< (p2.toInt64 &&& 63)))) (by omega) (by decide) dX1_hold_76 (fun H locs hP hS => ?_)
        refine lv_iload hx hb dX1_hold_77 (lv_at hl 0 rfl) ?_
        exact e_mi hx hb hr (nar_bI _) hlocks hP hS (by rw [rHoldJ, if_pos (show kMK (nI mn) p2 = 0 by simp [kMK, d_5, d_12]), if_neg c_46, nI_clamp (show mn < 2 ^ 31 by omega), show kMK (nI mn) p2 = 0 by simp [kMK, d_5, d_12]]; rfl) (by rw [aHold, if_pos (by simp [kMK, d_5, d_12]), nI_clamp (show mn < 2 ^ 31 by omega)]) dX1_hold_79
set_option maxHeartbeats 4000000 in
set_option maxRecDepth 100000 in
theorem r_letGo (l : Launch) (D : va_G) (a : Nat → Nat) (cI cL : ClassId) (I : Nat → Nat → Int32) (J : Nat → Nat → Int64) : Met l yX1_letGo wsX1_letGo ({ frames := 2, cells := 0, slots := 0, locals := 45 } : Room) (va_Pc [.ref (a 0)] (mB D (rty cI cL) (rc a cI cL I J))) (mQi D (rc a cI cL I J) (rc a cI cL (tI I 0) (lgJ J 3)) (mlA J 3)) 0 0 (wA (rc a cI cL I J)) := by
  refine Met.ofW (cc := cX1_letGo) (maxL := 3) (ret := (some .int)) (by decide) rfl ?_
  intro p e s m args below meth c s₁ B hml hv
  obtain ⟨rfl, hP, hK, hD0⟩ := hv
  have hx := B.exec
  have hb := B.bytes
  have hr := B.returns
  have hts := atoms_spec (ws := wsX1_letGo) B.pre
  have hown : s.vm.findClass RX1 = some m.cls := findClass_of_methodNamed B.named
  have hlocks := B.notSynchronized
  have hin0 : ∀ w ∈ u_ws RX1 TX1 16, w ∈ wsX1_letGo := by decide +kernel
  have hD := rc_D (wA_D hD0)
  have hS : va_S (wA (rc a cI cL I J)) s.heap s.heap [] := va_S.rf
  have hl := lv_entry ([.ref (a 0)]) (n := 3) (Nat.le_of_ble_eq_true rfl)
  rw [lg_entry_eq]
  generalize (lg_sl ([.ref (a 0)]) ++ List.replicate (3 - (lg_sl ([.ref (a 0)])).length) Slot.unset).toArray = ls at hl ⊢
  have hl : lv_has ls 3 [(0, .ref (a 0))] := hl
  refine lv_aload_n hx hb dX1_letGo_0 rfl (lv_at hl 0 rfl) ?_
  refine lv_iconst (v := 0) hx hb dX1_letGo_1 (by decide) ?_
  refine r_put hx hb hts hin0 hown hK hP (hD _ _) hS rc_at0 0 (by decide) (hts (.fieldLink RX1 54 "OrganBuilderModel" "thrown" "I") (by decide +kernel)) rfl (by decide +kernel) (by exact Nat.le_of_ble_eq_true rfl) (rc_putt 0) dX1_letGo_2 (fun H locs hP hS => ?_)
  refine lv_iconst (v := 0) hx hb dX1_letGo_5 (by decide) ?_
  refine lv_istore_n (lv' := [(1, .int 0), (0, .ref (a 0))]) hx hb dX1_letGo_6 rfl hl (by decide) rfl (fun ls hl => ?_)
  refine lv_iconst (v := 0) hx hb dX1_letGo_7 (by decide) ?_
  refine lv_istore_n (lv' := [(2, .int 0), (1, .int 0), (0, .ref (a 0))]) hx hb dX1_letGo_8 rfl hl (by decide) rfl (fun ls hl => ?_)
  refine W_loopH (σ := Unit) 0 3 9 (fun m1 _ H locs ls => va_P D vwCl (rc a cI cL (u2 I 20 0 0) (lgJ J m1)) H ∧ va_S (wA (rc a cI cL I J)) s.heap H locs ∧ lv_has ls 3 [(0, .ref (a 0)), (1, .int (mlA J m1)), (2, .int (nI m1))]) (fun m1 _ H locs ls g_m1 h_m1 hI_m1 ih_m1 => ?_) () (by decide) ⟨hP, hS, lv_sub hl [2, 1, 0] rfl⟩
  obtain ⟨hP, hS, hl⟩ := hI_m1
  refine lv_iload_n hx hb dX1_letGo_9 rfl (lv_at hl 2 rfl) ?_
  refine lv_iconst (v := 3) hx hb dX1_letGo_10 (by decide) ?_
  refine lo_ge (n := 3) (tgt := 39) hx hb rfl (by omega) (by omega) dX1_letGo_11 (by decide) (fun c_11 => ?_) (fun c_11 => ?_)
  · obtain rfl : m1 = 3 := by omega
    refine lv_iload_n hx hb dX1_letGo_39 rfl (lv_at hl 1 rfl) ?_
    exact e_mi hx hb hr rfl hlocks hP hS (rfl) (rfl) dX1_letGo_40
  · refine lv_iload_n hx hb dX1_letGo_14 rfl (lv_at hl 1 rfl) ?_
    refine lv_aload_n hx hb dX1_letGo_15 rfl (lv_at hl 0 rfl) ?_
    refine r_get (v := .ref (a 10)) hx hb hts hin0 hown hK hP rc_at0 12 (by decide) (hts (.fieldLink RX1 41 "OrganBuilderModel" "held" "[J") (by decide +kernel)) rfl dX1_letGo_16 ?_
    refine lv_iload_n hx hb dX1_letGo_19 rfl (lv_at hl 2 rfl) ?_
    refine w_lld hx hb hK hP rfl rc_at10 (by omega) (by decide) dX1_letGo_20 ?_
    refine w_pS (As := [.long ((lgJ J m1) 0 m1)]) (rest := [.int (mlA J m1)]) ⟨hx, hb, hml, hown, hts⟩ (r_count l ((lgJ J m1) 0 m1)) (va_cwS 1 hts gX1_letGo_X1_count rfl rfl rfl (by decide +kernel) ⟨Nat.le_of_ble_eq_true rfl, Nat.le_of_ble_eq_true rfl⟩) rfl hl.1 rfl (Nat.le_of_ble_eq_true rfl) dX1_letGo_21 ⟨Nat.le_of_ble_eq_true rfl, Nat.le_of_ble_eq_true rfl⟩ ?_
    refine lv_iadd hx hb dX1_letGo_24 ?_
    refine lv_asi (mlA J (m1 + 1)) (rfl) ?_
    refine lv_istore_n (lv' := [(1, .int (mlA J (m1 + 1))), (0, .ref (a 0)), (2, .int (nI m1))]) hx hb dX1_letGo_25 rfl hl (by decide) rfl (fun ls hl => ?_)
    refine lv_aload_n hx hb dX1_letGo_26 rfl (lv_at hl 1 rfl) ?_
    refine r_get (v := .ref (a 10)) hx hb hts hin0 hown hK hP rc_at0 12 (by decide) (hts (.fieldLink RX1 41 "OrganBuilderModel" "held" "[J") (by decide +kernel)) rfl dX1_letGo_27 ?_
    refine lv_iload_n hx hb dX1_letGo_30 rfl (lv_at hl 2 rfl) ?_
    refine lv_lconst (v := 0) hx hb dX1_letGo_31 (by decide) ?_
    refine w_lst hx hb hK hP (hD _ _) hS rfl rc_at10 (rc_set10 m1 0) (by omega) (by decide) dX1_letGo_32 (fun H locs hP hS => ?_)
    have hP : va_P D vwCl (rc a cI cL (u2 I 20 0 0) (lgJ J (m1 + 1))) H := hP
    refine lv_iinc (v := (nI (m1 + 1))) (lv' := [(2, .int (nI (m1 + 1))), (1, .int (mlA J (m1 + 1))), (0, .ref (a 0))]) hx hb dX1_letGo_33 hl (k := 2) rfl (nI_inc _) (by decide) rfl (fun ls hl => ?_)
    refine lv_goto (tgt := 9) hx hb dX1_letGo_36 (by decide) ?_
    exact ih_m1 () H locs ls (by omega) ⟨hP, hS, lv_sub hl [2, 1, 0] rfl⟩
