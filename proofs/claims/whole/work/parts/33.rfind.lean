set_option maxHeartbeats 4000000 in
set_option maxRecDepth 100000 in
theorem r_couples (l : Launch) (D : va_G) (a : Nat → Nat) (cI cL : ClassId) (I : Nat → Nat → Int32) (J : Nat → Nat → Int64) : Met l yX1_couples wsX1_couples ({ frames := 0, cells := 0, slots := 0, locals := 0 } : Room) (va_Pc [.ref (a 0)] (mB D (rty cI cL) (rc a cI cL I J))) (mQv D (rc a cI cL I J) (rc a cI cL I (cpJ I J))) 0 0 (wA (rc a cI cL I J)) := by
  refine Met.ofW (cc := cX1_couples) (maxL := 5) (ret := none) (by decide) rfl ?_
  intro p e s m args below meth c s₁ B hml hv
  obtain ⟨rfl, hP, hK, hD0⟩ := hv
  have hx := B.exec
  have hb := B.bytes
  have hr := B.returns
  have hts := atoms_spec (ws := wsX1_couples) B.pre
  have hown : s.vm.findClass RX1 = some m.cls := findClass_of_methodNamed B.named
  have hlocks := B.notSynchronized
  have hin0 : ∀ w ∈ u_ws RX1 TX1 16, w ∈ wsX1_couples := by decide +kernel
  have hD := rc_D (wA_D hD0)
  have hS : va_S (wA (rc a cI cL I J)) s.heap s.heap [] := va_S.rf
  have hl := lv_entry ([.ref (a 0)]) (n := 5) (Nat.le_of_ble_eq_true rfl)
  rw [lg_entry_eq]
  generalize (lg_sl ([.ref (a 0)]) ++ List.replicate (5 - (lg_sl ([.ref (a 0)])).length) Slot.unset).toArray = ls at hl ⊢
  have hl : lv_has ls 5 [(0, .ref (a 0))] := hl
  refine lv_iconst (v := 0) hx hb dX1_couples_0 (by decide) ?_
  refine lv_istore_n (lv' := [(1, .int 0), (0, .ref (a 0))]) hx hb dX1_couples_1 rfl hl (by decide) rfl (fun ls hl => ?_)
  refine W_loopH (σ := Unit) 0 3 2 (fun i _ H locs ls => va_P D vwCl (rc a cI cL I (frA J i)) H ∧ va_S (wA (rc a cI cL I J)) s.heap H locs ∧ lv_has ls 5 [(0, .ref (a 0)), (1, .int (nI i))]) (fun i _ H locs ls g_i h_i hI_i ih_i => ?_) () (by decide) ⟨hP, hS, lv_sub hl [1, 0] rfl⟩
  obtain ⟨hP, hS, hl⟩ := hI_i
  refine lv_iload_n hx hb dX1_couples_2 rfl (lv_at hl 1 rfl) ?_
  refine lv_iconst (v := 3) hx hb dX1_couples_3 (by decide) ?_
  refine lo_ge (n := 3) (tgt := 25) hx hb rfl (by omega) (by omega) dX1_couples_4 (by decide) (fun c_4 => ?_) (fun c_4 => ?_)
  · obtain rfl : i = 3 := by omega
    refine lv_iconst (v := 0) hx hb dX1_couples_25 (by decide) ?_
    refine lv_istore_n (lv' := [(1, .int 0), (0, .ref (a 0))]) hx hb dX1_couples_26 rfl hl (by decide) rfl (fun ls hl => ?_)
    refine W_loopH (σ := Unit) 0 3 27 (fun t _ H locs ls => va_P D vwCl (rc a cI cL I (rqO I (frA J 3) t)) H ∧ va_S (wA (rc a cI cL I J)) s.heap H locs ∧ lv_has ls 5 [(0, .ref (a 0)), (1, .int (nI t))]) (fun t _ H locs ls g_t h_t hI_t ih_t => ?_) () (by decide) ⟨hP, hS, lv_sub hl [1, 0] rfl⟩
    obtain ⟨hP, hS, hl⟩ := hI_t
    refine lv_iload_n hx hb dX1_couples_27 rfl (lv_at hl 1 rfl) ?_
    refine lv_iconst (v := 3) hx hb dX1_couples_28 (by decide) ?_
    refine lo_ge (n := 3) (tgt := 126) hx hb rfl (by omega) (by omega) dX1_couples_29 (by decide) (fun c_29 => ?_) (fun c_29 => ?_)
    · obtain rfl : t = 3 := by omega
      exact e_mv hx hb hr hlocks hP hS (rfl) dX1_couples_126
    · refine lv_iconst (v := 0) hx hb dX1_couples_32 (by decide) ?_
      refine lv_istore_n (lv' := [(2, .int 0), (0, .ref (a 0)), (1, .int (nI t))]) hx hb dX1_couples_33 rfl hl (by decide) rfl (fun ls hl => ?_)
      refine W_loopH (σ := Unit) 0 9 34 (fun k _ H locs ls => va_P D vwCl (rc a cI cL I (rqI I (rqO I (frA J 3) t) k)) H ∧ va_S (wA (rc a cI cL I J)) s.heap H locs ∧ lv_has ls 5 [(0, .ref (a 0)), (1, .int (nI t)), (2, .int (nI k))]) (fun k _ H locs ls g_k h_k hI_k ih_k => ?_) () (by decide) ⟨hP, hS, lv_sub hl [1, 2, 0] rfl⟩
      obtain ⟨hP, hS, hl⟩ := hI_k
      refine lv_iload_n hx hb dX1_couples_34 rfl (lv_at hl 2 rfl) ?_
      refine lv_bipush (v := 9) hx hb dX1_couples_35 (by decide) ?_
      refine lo_ge (n := 9) (tgt := 120) hx hb rfl (by omega) (by omega) dX1_couples_37 (by decide) (fun c_37 => ?_) (fun c_37 => ?_)
      · obtain rfl : k = 9 := by omega
        have hP : va_P D vwCl (rc a cI cL I (rqO I (frA J 3) (t + 1))) H := hP
        refine lv_iinc (v := (nI (t + 1))) (lv' := [(1, .int (nI (t + 1))), (0, .ref (a 0)), (2, .int (nI 9))]) hx hb dX1_couples_120 hl (k := 1) rfl (nI_inc _) (by decide) rfl (fun ls hl => ?_)
        refine lv_goto (tgt := 27) hx hb dX1_couples_123 (by decide) ?_
        exact ih_t () H locs ls (by omega) ⟨hP, hS, lv_sub hl [1, 0] rfl⟩
      · refine lv_aload_n hx hb dX1_couples_40 rfl (lv_at hl 0 rfl) ?_
        refine r_get (v := .ref (a 12)) hx hb hts hin0 hown hK hP rc_at0 14 (by decide) (hts (.fieldLink RX1 48 "OrganBuilderModel" "on" "[J") (by decide +kernel)) rfl dX1_couples_41 ?_
        refine lv_iload_n hx hb dX1_couples_44 rfl (lv_at hl 2 rfl) ?_
        refine lv_iconst (v := (nI 3)) hx hb dX1_couples_45 (by decide) ?_
        refine lv_idiv hx hb dX1_couples_46 (by decide) ?_
        refine lv_asi (nI (k / 3)) (pk_div (by omega) (by decide) (by decide)) ?_
        refine w_lld hx hb hK hP rfl rc_at12 (by omega) (by decide) dX1_couples_47 ?_
        refine lv_lstore_n (lv' := [(3, .long ((rqI I (rqO I (frA J 3) t) k) 1 (k / 3))), (0, .ref (a 0)), (1, .int (nI t)), (2, .int (nI k))]) hx hb dX1_couples_48 rfl hl (by decide) rfl (fun ls hl => ?_)
        refine lv_aload_n hx hb dX1_couples_49 rfl (lv_at hl 1 rfl) ?_
        refine r_get (v := .ref (a 6)) hx hb hts hin0 hown hK hP rc_at0 7 (by decide) (hts (.fieldLink RX1 25 "OrganBuilderModel" "coupler" "[I") (by decide +kernel)) rfl dX1_couples_50 ?_
        refine lv_iload_n hx hb dX1_couples_53 rfl (lv_at hl 3 rfl) ?_
        refine w_ild hx hb hK hP rfl rc_at6 (by omega) (by decide) dX1_couples_54 ?_
        refine lv_iconst (v := 1) hx hb dX1_couples_55 (by decide) ?_
        refine lv_icmp_ne (tgt := 66) hx hb dX1_couples_56 (by decide) (fun c_56 => ?_) (fun c_56 => ?_)
        · refine lv_aload_n hx hb dX1_couples_66 rfl (lv_at hl 1 rfl) ?_
          refine r_get (v := .ref (a 6)) hx hb hts hin0 hown hK hP rc_at0 7 (by decide) (hts (.fieldLink RX1 25 "OrganBuilderModel" "coupler" "[I") (by decide +kernel)) rfl dX1_couples_67 ?_
          refine lv_iload_n hx hb dX1_couples_70 rfl (lv_at hl 3 rfl) ?_
          refine w_ild hx hb hK hP rfl rc_at6 (by omega) (by decide) dX1_couples_71 ?_
          refine lv_iconst (v := 3) hx hb dX1_couples_72 (by decide) ?_
          refine lv_icmp_ne (tgt := 87) hx hb dX1_couples_73 (by decide) (fun c_73 => ?_) (fun c_73 => ?_)
          · refine lv_lload_n hx hb dX1_couples_87 rfl (lv_at hl 0 rfl) ?_
            refine lv_asl (kvF (I 5 k) ((rqI I (rqO I (frA J 3) t) k) 1 (k / 3))) (((if_neg c_56).trans (if_neg c_73)).symm) ?_
            refine lv_lstore_n (lv' := [(3, .long (kvF (I 5 k) ((rqI I (rqO I (frA J 3) t) k) 1 (k / 3)))), (0, .ref (a 0)), (1, .int (nI t)), (2, .int (nI k))]) hx hb dX1_couples_88 rfl hl (by decide) rfl (fun ls hl => ?_)
            refine lv_aload_n hx hb dX1_couples_89 rfl (lv_at hl 1 rfl) ?_
            refine r_get (v := .ref (a 12)) hx hb hts hin0 hown hK hP rc_at0 14 (by decide) (hts (.fieldLink RX1 48 "OrganBuilderModel" "on" "[J") (by decide +kernel)) rfl dX1_couples_90 ?_
            refine lv_iload_n hx hb dX1_couples_93 rfl (lv_at hl 3 rfl) ?_
            refine lv_iconst (v := (nI 3)) hx hb dX1_couples_94 (by decide) ?_
            refine lv_irem hx hb dX1_couples_95 (by decide) ?_
            refine lv_asi (nI (k % 3)) (pk_rem (by omega) (by decide) (by decide)) ?_
            refine lv_dup2_11 hx hb dX1_couples_96 rfl rfl ?_
            refine w_lld hx hb hK hP rfl rc_at12 (by omega) (by decide) dX1_couples_97 ?_
            refine lv_aload_n hx hb dX1_couples_98 rfl (lv_at hl 1 rfl) ?_
            refine r_get (v := .ref (a 6)) hx hb hts hin0 hown hK hP rc_at0 7 (by decide) (hts (.fieldLink RX1 25 "OrganBuilderModel" "coupler" "[I") (by decide +kernel)) rfl dX1_couples_99 ?_
            refine lv_iload_n hx hb dX1_couples_102 rfl (lv_at hl 3 rfl) ?_
            refine w_ild hx hb hK hP rfl rc_at6 (by omega) (by decide) dX1_couples_103 ?_
            refine lv_if_ne (tgt := 111) hx hb dX1_couples_104 (by decide) (fun c_104 => ?_) (fun c_104 => ?_)
            · refine lv_lload_n hx hb dX1_couples_111 rfl (lv_at hl 0 rfl) ?_
              refine lv_asl (ovF (I 5 k) ((rqI I (rqO I (frA J 3) t) k) 1 (k / 3))) ((if_neg c_104).symm) ?_
              refine lv_lor hx hb dX1_couples_112 ?_
              refine w_lst hx hb hK hP (hD _ _) hS rfl rc_at12 (rc_set12 (k % 3) (((rqI I (rqO I (frA J 3) t) k) 1 (k % 3)) ||| (ovF (I 5 k) ((rqI I (rqO I (frA J 3) t) k) 1 (k / 3))))) (by omega) (by decide) dX1_couples_113 (fun H locs hP hS => ?_)
              have hP : va_P D vwCl (rc a cI cL I (rqI I (rqO I (frA J 3) t) (k + 1))) H := hP
              refine lv_iinc (v := (nI (k + 1))) (lv' := [(2, .int (nI (k + 1))), (3, .long (kvF (I 5 k) ((rqI I (rqO I (frA J 3) t) k) 1 (k / 3)))), (0, .ref (a 0)), (1, .int (nI t))]) hx hb dX1_couples_114 hl (k := 3) rfl (nI_inc _) (by decide) rfl (fun ls hl => ?_)
              refine lv_goto (tgt := 34) hx hb dX1_couples_117 (by decide) ?_
              exact ih_k () H locs ls (by omega) ⟨hP, hS, lv_sub hl [2, 3, 0] rfl⟩
            · refine lv_lconst (v := 0) hx hb dX1_couples_107 (by decide) ?_
              refine lv_goto (tgt := 112) hx hb dX1_couples_108 (by decide) ?_
              refine lv_asl (ovF (I 5 k) ((rqI I (rqO I (frA J 3) t) k) 1 (k / 3))) ((if_pos c_104).symm) ?_
              refine lv_lor hx hb dX1_couples_112 ?_
              refine w_lst hx hb hK hP (hD _ _) hS rfl rc_at12 (rc_set12 (k % 3) (((rqI I (rqO I (frA J 3) t) k) 1 (k % 3)) ||| (ovF (I 5 k) ((rqI I (rqO I (frA J 3) t) k) 1 (k / 3))))) (by omega) (by decide) dX1_couples_113 (fun H locs hP hS => ?_)
              have hP : va_P D vwCl (rc a cI cL I (rqI I (rqO I (frA J 3) t) (k + 1))) H := hP
              refine lv_iinc (v := (nI (k + 1))) (lv' := [(2, .int (nI (k + 1))), (3, .long (kvF (I 5 k) ((rqI I (rqO I (frA J 3) t) k) 1 (k / 3)))), (0, .ref (a 0)), (1, .int (nI t))]) hx hb dX1_couples_114 hl (k := 3) rfl (nI_inc _) (by decide) rfl (fun ls hl => ?_)
              refine lv_goto (tgt := 34) hx hb dX1_couples_117 (by decide) ?_
              exact ih_k () H locs ls (by omega) ⟨hP, hS, lv_sub hl [2, 3, 0] rfl⟩
          · refine lv_lload_n hx hb dX1_couples_76 rfl (lv_at hl 0 rfl) ?_
            refine lv_bipush (v := 12) hx hb dX1_couples_77 (by decide) ?_
            refine lv_lshl hx hb dX1_couples_79 rfl ?_
            refine lv_ldc2 (v := 2305843009213693951) hx hb hown (hts (.constantLong RX1 97 (2305843009213693951)) (by decide +kernel)) dX1_couples_80 ?_
            refine lv_land hx hb dX1_couples_83 ?_
            refine lv_goto (tgt := 88) hx hb dX1_couples_84 (by decide) ?_
            refine lv_asl (kvF (I 5 k) ((rqI I (rqO I (frA J 3) t) k) 1 (k / 3))) (((if_neg c_56).trans (if_pos c_73)).symm) ?_
            refine lv_lstore_n (lv' := [(3, .long (kvF (I 5 k) ((rqI I (rqO I (frA J 3) t) k) 1 (k / 3)))), (0, .ref (a 0)), (1, .int (nI t)), (2, .int (nI k))]) hx hb dX1_couples_88 rfl hl (by decide) rfl (fun ls hl => ?_)
            refine lv_aload_n hx hb dX1_couples_89 rfl (lv_at hl 1 rfl) ?_
            refine r_get (v := .ref (a 12)) hx hb hts hin0 hown hK hP rc_at0 14 (by decide) (hts (.fieldLink RX1 48 "OrganBuilderModel" "on" "[J") (by decide +kernel)) rfl dX1_couples_90 ?_
            refine lv_iload_n hx hb dX1_couples_93 rfl (lv_at hl 3 rfl) ?_
            refine lv_iconst (v := (nI 3)) hx hb dX1_couples_94 (by decide) ?_
            refine lv_irem hx hb dX1_couples_95 (by decide) ?_
            refine lv_asi (nI (k % 3)) (pk_rem (by omega) (by decide) (by decide)) ?_
            refine lv_dup2_11 hx hb dX1_couples_96 rfl rfl ?_
            refine w_lld hx hb hK hP rfl rc_at12 (by omega) (by decide) dX1_couples_97 ?_
            refine lv_aload_n hx hb dX1_couples_98 rfl (lv_at hl 1 rfl) ?_
            refine r_get (v := .ref (a 6)) hx hb hts hin0 hown hK hP rc_at0 7 (by decide) (hts (.fieldLink RX1 25 "OrganBuilderModel" "coupler" "[I") (by decide +kernel)) rfl dX1_couples_99 ?_
            refine lv_iload_n hx hb dX1_couples_102 rfl (lv_at hl 3 rfl) ?_
            refine w_ild hx hb hK hP rfl rc_at6 (by omega) (by decide) dX1_couples_103 ?_
            refine lv_if_ne (tgt := 111) hx hb dX1_couples_104 (by decide) (fun c_104 => ?_) (fun c_104 => ?_)
            · refine lv_lload_n hx hb dX1_couples_111 rfl (lv_at hl 0 rfl) ?_
              refine lv_asl (ovF (I 5 k) ((rqI I (rqO I (frA J 3) t) k) 1 (k / 3))) ((if_neg c_104).symm) ?_
              refine lv_lor hx hb dX1_couples_112 ?_
              refine w_lst hx hb hK hP (hD _ _) hS rfl rc_at12 (rc_set12 (k % 3) (((rqI I (rqO I (frA J 3) t) k) 1 (k % 3)) ||| (ovF (I 5 k) ((rqI I (rqO I (frA J 3) t) k) 1 (k / 3))))) (by omega) (by decide) dX1_couples_113 (fun H locs hP hS => ?_)
              have hP : va_P D vwCl (rc a cI cL I (rqI I (rqO I (frA J 3) t) (k + 1))) H := hP
              refine lv_iinc (v := (nI (k + 1))) (lv' := [(2, .int (nI (k + 1))), (3, .long (kvF (I 5 k) ((rqI I (rqO I (frA J 3) t) k) 1 (k / 3)))), (0, .ref (a 0)), (1, .int (nI t))]) hx hb dX1_couples_114 hl (k := 3) rfl (nI_inc _) (by decide) rfl (fun ls hl => ?_)
              refine lv_goto (tgt := 34) hx hb dX1_couples_117 (by decide) ?_
              exact ih_k () H locs ls (by omega) ⟨hP, hS, lv_sub hl [2, 3, 0] rfl⟩
            · refine lv_lconst (v := 0) hx hb dX1_couples_107 (by decide) ?_
              refine lv_goto (tgt := 112) hx hb dX1_couples_108 (by decide) ?_
              refine lv_asl (ovF (I 5 k) ((rqI I (rqO I (frA J 3) t) k) 1 (k / 3))) ((if_pos c_104).symm) ?_
              refine lv_lor hx hb dX1_couples_112 ?_
              refine w_lst hx hb hK hP (hD _ _) hS rfl rc_at12 (rc_set12 (k % 3) (((rqI I (rqO I (frA J 3) t) k) 1 (k % 3)) ||| (ovF (I 5 k) ((rqI I (rqO I (frA J 3) t) k) 1 (k / 3))))) (by omega) (by decide) dX1_couples_113 (fun H locs hP hS => ?_)
              have hP : va_P D vwCl (rc a cI cL I (rqI I (rqO I (frA J 3) t) (k + 1))) H := hP
              refine lv_iinc (v := (nI (k + 1))) (lv' := [(2, .int (nI (k + 1))), (3, .long (kvF (I 5 k) ((rqI I (rqO I (frA J 3) t) k) 1 (k / 3)))), (0, .ref (a 0)), (1, .int (nI t))]) hx hb dX1_couples_114 hl (k := 3) rfl (nI_inc _) (by decide) rfl (fun ls hl => ?_)
              refine lv_goto (tgt := 34) hx hb dX1_couples_117 (by decide) ?_
              exact ih_k () H locs ls (by omega) ⟨hP, hS, lv_sub hl [2, 3, 0] rfl⟩
        · refine lv_lload_n hx hb dX1_couples_59 rfl (lv_at hl 0 rfl) ?_
          refine lv_bipush (v := 12) hx hb dX1_couples_60 (by decide) ?_
          refine lv_lshr hx hb dX1_couples_62 rfl ?_
          refine lv_goto (tgt := 88) hx hb dX1_couples_63 (by decide) ?_
          refine lv_asl (kvF (I 5 k) ((rqI I (rqO I (frA J 3) t) k) 1 (k / 3))) ((if_pos c_56).symm) ?_
          refine lv_lstore_n (lv' := [(3, .long (kvF (I 5 k) ((rqI I (rqO I (frA J 3) t) k) 1 (k / 3)))), (0, .ref (a 0)), (1, .int (nI t)), (2, .int (nI k))]) hx hb dX1_couples_88 rfl hl (by decide) rfl (fun ls hl => ?_)
          refine lv_aload_n hx hb dX1_couples_89 rfl (lv_at hl 1 rfl) ?_
          refine r_get (v := .ref (a 12)) hx hb hts hin0 hown hK hP rc_at0 14 (by decide) (hts (.fieldLink RX1 48 "OrganBuilderModel" "on" "[J") (by decide +kernel)) rfl dX1_couples_90 ?_
          refine lv_iload_n hx hb dX1_couples_93 rfl (lv_at hl 3 rfl) ?_
          refine lv_iconst (v := (nI 3)) hx hb dX1_couples_94 (by decide) ?_
          refine lv_irem hx hb dX1_couples_95 (by decide) ?_
          refine lv_asi (nI (k % 3)) (pk_rem (by omega) (by decide) (by decide)) ?_
          refine lv_dup2_11 hx hb dX1_couples_96 rfl rfl ?_
          refine w_lld hx hb hK hP rfl rc_at12 (by omega) (by decide) dX1_couples_97 ?_
          refine lv_aload_n hx hb dX1_couples_98 rfl (lv_at hl 1 rfl) ?_
          refine r_get (v := .ref (a 6)) hx hb hts hin0 hown hK hP rc_at0 7 (by decide) (hts (.fieldLink RX1 25 "OrganBuilderModel" "coupler" "[I") (by decide +kernel)) rfl dX1_couples_99 ?_
          refine lv_iload_n hx hb dX1_couples_102 rfl (lv_at hl 3 rfl) ?_
          refine w_ild hx hb hK hP rfl rc_at6 (by omega) (by decide) dX1_couples_103 ?_
          refine lv_if_ne (tgt := 111) hx hb dX1_couples_104 (by decide) (fun c_104 => ?_) (fun c_104 => ?_)
          · refine lv_lload_n hx hb dX1_couples_111 rfl (lv_at hl 0 rfl) ?_
            refine lv_asl (ovF (I 5 k) ((rqI I (rqO I (frA J 3) t) k) 1 (k / 3))) ((if_neg c_104).symm) ?_
            refine lv_lor hx hb dX1_couples_112 ?_
            refine w_lst hx hb hK hP (hD _ _) hS rfl rc_at12 (rc_set12 (k % 3) (((rqI I (rqO I (frA J 3) t) k) 1 (k % 3)) ||| (ovF (I 5 k) ((rqI I (rqO I (frA J 3) t) k) 1 (k / 3))))) (by omega) (by decide) dX1_couples_113 (fun H locs hP hS => ?_)
            have hP : va_P D vwCl (rc a cI cL I (rqI I (rqO I (frA J 3) t) (k + 1))) H := hP
            refine lv_iinc (v := (nI (k + 1))) (lv' := [(2, .int (nI (k + 1))), (3, .long (kvF (I 5 k) ((rqI I (rqO I (frA J 3) t) k) 1 (k / 3)))), (0, .ref (a 0)), (1, .int (nI t))]) hx hb dX1_couples_114 hl (k := 3) rfl (nI_inc _) (by decide) rfl (fun ls hl => ?_)
            refine lv_goto (tgt := 34) hx hb dX1_couples_117 (by decide) ?_
            exact ih_k () H locs ls (by omega) ⟨hP, hS, lv_sub hl [2, 3, 0] rfl⟩
          · refine lv_lconst (v := 0) hx hb dX1_couples_107 (by decide) ?_
            refine lv_goto (tgt := 112) hx hb dX1_couples_108 (by decide) ?_
            refine lv_asl (ovF (I 5 k) ((rqI I (rqO I (frA J 3) t) k) 1 (k / 3))) ((if_pos c_104).symm) ?_
            refine lv_lor hx hb dX1_couples_112 ?_
            refine w_lst hx hb hK hP (hD _ _) hS rfl rc_at12 (rc_set12 (k % 3) (((rqI I (rqO I (frA J 3) t) k) 1 (k % 3)) ||| (ovF (I 5 k) ((rqI I (rqO I (frA J 3) t) k) 1 (k / 3))))) (by omega) (by decide) dX1_couples_113 (fun H locs hP hS => ?_)
            have hP : va_P D vwCl (rc a cI cL I (rqI I (rqO I (frA J 3) t) (k + 1))) H := hP
            refine lv_iinc (v := (nI (k + 1))) (lv' := [(2, .int (nI (k + 1))), (3, .long (kvF (I 5 k) ((rqI I (rqO I (frA J 3) t) k) 1 (k / 3)))), (0, .ref (a 0)), (1, .int (nI t))]) hx hb dX1_couples_114 hl (k := 3) rfl (nI_inc _) (by decide) rfl (fun ls hl => ?_)
            refine lv_goto (tgt := 34) hx hb dX1_couples_117 (by decide) ?_
            exact ih_k () H locs ls (by omega) ⟨hP, hS, lv_sub hl [2, 3, 0] rfl⟩
  · refine lv_aload_n hx hb dX1_couples_7 rfl (lv_at hl 0 rfl) ?_
    refine r_get (v := .ref (a 12)) hx hb hts hin0 hown hK hP rc_at0 14 (by decide) (hts (.fieldLink RX1 48 "OrganBuilderModel" "on" "[J") (by decide +kernel)) rfl dX1_couples_8 ?_
    refine lv_iload_n hx hb dX1_couples_11 rfl (lv_at hl 1 rfl) ?_
    refine lv_aload_n hx hb dX1_couples_12 rfl (lv_at hl 0 rfl) ?_
    refine r_get (v := .ref (a 10)) hx hb hts hin0 hown hK hP rc_at0 12 (by decide) (hts (.fieldLink RX1 41 "OrganBuilderModel" "held" "[J") (by decide +kernel)) rfl dX1_couples_13 ?_
    refine lv_iload_n hx hb dX1_couples_16 rfl (lv_at hl 1 rfl) ?_
    refine w_lld hx hb hK hP rfl rc_at10 (by omega) (by decide) dX1_couples_17 ?_
    refine w_lst hx hb hK hP (hD _ _) hS rfl rc_at12 (rc_set12 i ((frA J i) 0 i)) (by omega) (by decide) dX1_couples_18 (fun H locs hP hS => ?_)
    have hP : va_P D vwCl (rc a cI cL I (frA J (i + 1))) H := hP
    refine lv_iinc (v := (nI (i + 1))) (lv' := [(1, .int (nI (i + 1))), (0, .ref (a 0))]) hx hb dX1_couples_19 hl (k := 1) rfl (nI_inc _) (by decide) rfl (fun ls hl => ?_)
    refine lv_goto (tgt := 2) hx hb dX1_couples_22 (by decide) ?_
    exact ih_i () H locs ls (by omega) ⟨hP, hS, lv_sub hl [1, 0] rfl⟩
set_option maxHeartbeats 4000000 in
set_option maxRecDepth 100000 in
theorem r_finds (l : Launch) (D : va_G) (a : Nat → Nat) (cI cL : ClassId) (I : Nat → Nat → Int32) (J : Nat → Nat → Int64) (hman : okM I) : Met l yX1_finds wsX1_finds ({ frames := 1, cells := 0, slots := 0, locals := 24 } : Room) (va_Pc [.ref (a 0)] (mB D (rty cI cL) (rc a cI cL I J))) (mQi D (rc a cI cL I J) (rc a cI cL I (fnJ I J)) (fnN I J)) 0 0 (wA (rc a cI cL I J)) := by
  refine Met.ofW (cc := cX1_finds) (maxL := 7) (ret := (some .int)) (by decide) rfl ?_
  intro p e s m args below meth c s₁ B hml hv
  obtain ⟨rfl, hP, hK, hD0⟩ := hv
  have hx := B.exec
  have hb := B.bytes
  have hr := B.returns
  have hts := atoms_spec (ws := wsX1_finds) B.pre
  have hown : s.vm.findClass RX1 = some m.cls := findClass_of_methodNamed B.named
  have hlocks := B.notSynchronized
  have hin0 : ∀ w ∈ u_ws RX1 TX1 16, w ∈ wsX1_finds := by decide +kernel
  have hD := rc_D (wA_D hD0)
  have hS : va_S (wA (rc a cI cL I J)) s.heap s.heap [] := va_S.rf
  have hl := lv_entry ([.ref (a 0)]) (n := 7) (Nat.le_of_ble_eq_true rfl)
  rw [lg_entry_eq]
  generalize (lg_sl ([.ref (a 0)]) ++ List.replicate (7 - (lg_sl ([.ref (a 0)])).length) Slot.unset).toArray = ls at hl ⊢
  have hl : lv_has ls 7 [(0, .ref (a 0))] := hl
  refine lv_aload_n hx hb dX1_finds_0 rfl (lv_at hl 0 rfl) ?_
  refine w_mVv (As := []) (rest := []) ⟨hx, hb, hml, hown, hts⟩ (r_couples l D a cI cL I J) (cwV 0 hts gX1_finds_X1_couples rfl rfl rfl (by decide +kernel) ⟨Nat.le_of_ble_eq_true rfl, Nat.le_of_ble_eq_true rfl⟩) hK hP (hD _ _) hS rfl rfl rc_at0 rfl hl.1 rfl (Nat.le_of_ble_eq_true rfl) dX1_finds_1 ⟨Nat.le_of_ble_eq_true rfl, Nat.le_of_ble_eq_true rfl⟩ (fun H locs hP hS => ?_)
  refine lv_iconst (v := 0) hx hb dX1_finds_4 (by decide) ?_
  refine lv_istore_n (lv' := [(1, .int 0), (0, .ref (a 0))]) hx hb dX1_finds_5 rfl hl (by decide) rfl (fun ls hl => ?_)
  refine lv_iconst (v := 0) hx hb dX1_finds_6 (by decide) ?_
  refine lv_istore_n (lv' := [(2, .int 0), (1, .int 0), (0, .ref (a 0))]) hx hb dX1_finds_7 rfl hl (by decide) rfl (fun ls hl => ?_)
  refine W_loopH (σ := Unit) 0 6 8 (fun r _ H locs ls => va_P D vwCl (rc a cI cL I (fnO I (cpJ I J) r).1) H ∧ va_S (wA (rc a cI cL I J)) s.heap H locs ∧ lv_has ls 7 [(0, .ref (a 0)), (1, .int ((fnO I (cpJ I J) r).2)), (2, .int (nI r))]) (fun r _ H locs ls g_r h_r hI_r ih_r => ?_) () (by decide) ⟨hP, hS, lv_sub hl [2, 1, 0] rfl⟩
  obtain ⟨hP, hS, hl⟩ := hI_r
  refine lv_iload_n hx hb dX1_finds_8 rfl (lv_at hl 2 rfl) ?_
  refine lv_bipush (v := 6) hx hb dX1_finds_9 (by decide) ?_
  refine lo_ge (n := 6) (tgt := 178) hx hb rfl (by omega) (by omega) dX1_finds_11 (by decide) (fun c_11 => ?_) (fun c_11 => ?_)
  · obtain rfl : r = 6 := by omega
    refine lv_iload_n hx hb dX1_finds_178 rfl (lv_at hl 1 rfl) ?_
    exact e_mi hx hb hr rfl hlocks hP hS (rfl) (rfl) dX1_finds_179
  · refine lv_lconst (v := 0) hx hb dX1_finds_14 (by decide) ?_
    refine lv_lstore_n (lv' := [(3, .long 0), (0, .ref (a 0)), (1, .int ((fnO I (cpJ I J) r).2)), (2, .int (nI r))]) hx hb dX1_finds_15 rfl hl (by decide) rfl (fun ls hl => ?_)
    refine lv_iconst (v := 0) hx hb dX1_finds_16 (by decide) ?_
    refine lv_istore (lv' := [(5, .int 0), (3, .long 0), (0, .ref (a 0)), (1, .int ((fnO I (cpJ I J) r).2)), (2, .int (nI r))]) hx hb dX1_finds_17 hl (by decide) rfl (fun ls hl => ?_)
    refine W_loopH (σ := Unit) 0 12 19 (fun n _ H locs ls => va_P D vwCl (rc a cI cL I (fnO I (cpJ I J) r).1) H ∧ va_S (wA (rc a cI cL I J)) s.heap H locs ∧ lv_has ls 7 [(0, .ref (a 0)), (1, .int ((fnO I (cpJ I J) r).2)), (2, .int (nI r)), (3, .long (fnK I ((fnO I (cpJ I J) r).1 1) r n)), (5, .int (nI n))]) (fun n _ H locs ls g_n h_n hI_n ih_n => ?_) () (by decide) ⟨hP, hS, lv_sub hl [2, 3, 4, 1, 0] rfl⟩
    obtain ⟨hP, hS, hl⟩ := hI_n
    refine lv_iload hx hb dX1_finds_19 (lv_at hl 4 rfl) ?_
    refine lv_bipush (v := 12) hx hb dX1_finds_21 (by decide) ?_
    refine lo_ge (n := 12) (tgt := 75) hx hb rfl (by omega) (by omega) dX1_finds_23 (by decide) (fun c_23 => ?_) (fun c_23 => ?_)
    · obtain rfl : n = 12 := by omega
      refine lv_iconst (v := 0) hx hb dX1_finds_75 (by decide) ?_
      refine lv_istore (lv' := [(5, .int 0), (0, .ref (a 0)), (1, .int ((fnO I (cpJ I J) r).2)), (2, .int (nI r)), (3, .long (fnK I ((fnO I (cpJ I J) r).1 1) r 12))]) hx hb dX1_finds_76 hl (by decide) rfl (fun ls hl => ?_)
      refine W_loopH (σ := Unit) 0 61 78 (fun k _ H locs ls => va_P D vwCl (rc a cI cL I (fnO I (cpJ I J) r).1) H ∧ va_S (wA (rc a cI cL I J)) s.heap H locs ∧ lv_has ls 7 [(0, .ref (a 0)), (1, .int ((fnS I r (fnK I ((fnO I (cpJ I J) r).1 1) r 12) (fnO I (cpJ I J) r).2 k).2)), (2, .int (nI r)), (3, .long ((fnS I r (fnK I ((fnO I (cpJ I J) r).1 1) r 12) (fnO I (cpJ I J) r).2 k).1)), (5, .int (nI k))]) (fun k _ H locs ls g_k h_k hI_k ih_k => ?_) () (by decide) ⟨hP, hS, lv_sub hl [1, 2, 3, 4, 0] rfl⟩
      obtain ⟨hP, hS, hl⟩ := hI_k
      refine lv_iload hx hb dX1_finds_78 (lv_at hl 4 rfl) ?_
      refine lv_bipush (v := 61) hx hb dX1_finds_80 (by decide) ?_
      refine lo_ge (n := 61) (tgt := 165) hx hb rfl (by omega) (by omega) dX1_finds_82 (by decide) (fun c_82 => ?_) (fun c_82 => ?_)
      · obtain rfl : k = 61 := by omega
        refine lv_aload_n hx hb dX1_finds_165 rfl (lv_at hl 0 rfl) ?_
        refine r_get (v := .ref (a 13)) hx hb hts hin0 hown hK hP rc_at0 15 (by decide) (hts (.fieldLink RX1 51 "OrganBuilderModel" "sounding" "[J") (by decide +kernel)) rfl dX1_finds_166 ?_
        refine lv_iload_n hx hb dX1_finds_169 rfl (lv_at hl 2 rfl) ?_
        refine lv_lload_n hx hb dX1_finds_170 rfl (lv_at hl 3 rfl) ?_
        refine w_lst hx hb hK hP (hD _ _) hS rfl rc_at13 (rc_set13 r ((fnS I r (fnK I ((fnO I (cpJ I J) r).1 1) r 12) (fnO I (cpJ I J) r).2 61).1)) (by omega) (by decide) dX1_finds_171 (fun H locs hP hS => ?_)
        have hP : va_P D vwCl (rc a cI cL I ((fnO I (cpJ I J) (r + 1)).1)) H := hP
        have hl : lv_has ls 7 [(0, .ref (a 0)), (1, .int ((fnO I (cpJ I J) (r + 1)).2)), (2, .int (nI r)), (3, .long ((fnS I r (fnK I ((fnO I (cpJ I J) r).1 1) r 12) (fnO I (cpJ I J) r).2 61).1)), (5, .int (nI 61))] := hl
        refine lv_iinc (v := (nI (r + 1))) (lv' := [(2, .int (nI (r + 1))), (0, .ref (a 0)), (1, .int ((fnO I (cpJ I J) (r + 1)).2)), (3, .long ((fnS I r (fnK I ((fnO I (cpJ I J) r).1 1) r 12) (fnO I (cpJ I J) r).2 61).1)), (5, .int (nI 61))]) hx hb dX1_finds_172 hl (k := 2) rfl (nI_inc _) (by decide) rfl (fun ls hl => ?_)
        refine lv_goto (tgt := 8) hx hb dX1_finds_175 (by decide) ?_
        exact ih_r () H locs ls (by omega) ⟨hP, hS, lv_sub hl [1, 2, 0] rfl⟩
      · refine lv_lload_n hx hb dX1_finds_85 rfl (lv_at hl 3 rfl) ?_
        refine lv_iload hx hb dX1_finds_86 (lv_at hl 4 rfl) ?_
        refine w_pS (As := [.long ((fnS I r (fnK I ((fnO I (cpJ I J) r).1 1) r 12) (fnO I (cpJ I J) r).2 k).1), .int (nI k)]) (rest := []) ⟨hx, hb, hml, hown, hts⟩ (r_has l ((fnS I r (fnK I ((fnO I (cpJ I J) r).1 1) r 12) (fnO I (cpJ I J) r).2 k).1) (nI k)) (va_cwS 2 hts gX1_finds_X1_has rfl rfl rfl (by decide +kernel) ⟨Nat.le_of_ble_eq_true rfl, Nat.le_of_ble_eq_true rfl⟩) rfl hl.1 rfl (Nat.le_of_ble_eq_true rfl) dX1_finds_88 ⟨Nat.le_of_ble_eq_true rfl, Nat.le_of_ble_eq_true rfl⟩ ?_
        refine lv_if_eq (tgt := 115) hx hb dX1_finds_91 (by decide) (fun c_91 => ?_) (fun c_91 => ?_)
        · have d_91 := bI_eq0 c_91
          refine lv_iconst (v := 0) hx hb dX1_finds_115 (by decide) ?_
          refine lv_istore (lv' := [(6, .int 0), (0, .ref (a 0)), (1, .int ((fnS I r (fnK I ((fnO I (cpJ I J) r).1 1) r 12) (fnO I (cpJ I J) r).2 k).2)), (2, .int (nI r)), (3, .long ((fnS I r (fnK I ((fnO I (cpJ I J) r).1 1) r 12) (fnO I (cpJ I J) r).2 k).1)), (5, .int (nI k))]) hx hb dX1_finds_116 hl (by decide) rfl (fun ls hl => ?_)
          refine lv_lload_n hx hb dX1_finds_118 rfl (lv_at hl 4 rfl) ?_
          refine lv_iload hx hb dX1_finds_119 (lv_at hl 0 rfl) ?_
          refine lv_if_eq (tgt := 130) hx hb dX1_finds_121 (by decide) (fun c_121 => ?_) (fun c_121 => (absurd c_121 (by decide)))
          refine lv_lconst (v := 1) hx hb dX1_finds_130 (by decide) ?_
          refine lv_iload hx hb dX1_finds_131 (lv_at hl 5 rfl) ?_
          refine lv_lshl hx hb dX1_finds_133 rfl ?_
          refine lv_ldc2 (v := (-1)) hx hb hown (hts (.constantLong RX1 95 ((-1))) (by decide +kernel)) dX1_finds_134 ?_
          refine lv_lxor hx hb dX1_finds_137 ?_
          refine lv_land hx hb dX1_finds_138 ?_
          refine lv_asl ((fnS I r (fnK I ((fnO I (cpJ I J) r).1 1) r 12) (fnO I (cpJ I J) r).2 (k + 1)).1) (congrArg Prod.fst (fnS_a d_91).symm) ?_
          refine lv_lstore_n (lv' := [(3, .long ((fnS I r (fnK I ((fnO I (cpJ I J) r).1 1) r 12) (fnO I (cpJ I J) r).2 (k + 1)).1)), (6, .int 0), (0, .ref (a 0)), (1, .int ((fnS I r (fnK I ((fnO I (cpJ I J) r).1 1) r 12) (fnO I (cpJ I J) r).2 k).2)), (2, .int (nI r)), (5, .int (nI k))]) hx hb dX1_finds_139 rfl hl (by decide) rfl (fun ls hl => ?_)
          refine lv_iload_n hx hb dX1_finds_140 rfl (lv_at hl 3 rfl) ?_
          refine lv_iload hx hb dX1_finds_141 (lv_at hl 1 rfl) ?_
          refine lv_if_eq (tgt := 156) hx hb dX1_finds_143 (by decide) (fun c_143 => ?_) (fun c_143 => (absurd c_143 (by decide)))
          refine lv_iconst (v := 0) hx hb dX1_finds_156 (by decide) ?_
          refine lv_iadd hx hb dX1_finds_157 ?_
          refine lv_asi ((fnS I r (fnK I ((fnO I (cpJ I J) r).1 1) r 12) (fnO I (cpJ I J) r).2 (k + 1)).2) (congrArg Prod.snd (fnS_a d_91).symm) ?_
          refine lv_istore_n (lv' := [(1, .int ((fnS I r (fnK I ((fnO I (cpJ I J) r).1 1) r 12) (fnO I (cpJ I J) r).2 (k + 1)).2)), (3, .long ((fnS I r (fnK I ((fnO I (cpJ I J) r).1 1) r 12) (fnO I (cpJ I J) r).2 (k + 1)).1)), (6, .int 0), (0, .ref (a 0)), (2, .int (nI r)), (5, .int (nI k))]) hx hb dX1_finds_158 rfl hl (by decide) rfl (fun ls hl => ?_)
          refine lv_iinc (v := (nI (k + 1))) (lv' := [(5, .int (nI (k + 1))), (1, .int ((fnS I r (fnK I ((fnO I (cpJ I J) r).1 1) r 12) (fnO I (cpJ I J) r).2 (k + 1)).2)), (3, .long ((fnS I r (fnK I ((fnO I (cpJ I J) r).1 1) r 12) (fnO I (cpJ I J) r).2 (k + 1)).1)), (6, .int 0), (0, .ref (a 0)), (2, .int (nI r))]) hx hb dX1_finds_159 hl (k := 5) rfl (nI_inc _) (by decide) rfl (fun ls hl => ?_)
          refine lv_goto (tgt := 78) hx hb dX1_finds_162 (by decide) ?_
          exact ih_k () H locs ls (by omega) ⟨hP, hS, lv_sub hl [4, 1, 5, 2, 0] rfl⟩
        · have d_91 := bI_ne0 c_91
          refine lv_aload_n hx hb dX1_finds_94 rfl (lv_at hl 0 rfl) ?_
          refine r_get (v := .ref (a 11)) hx hb hts hin0 hown hK hP rc_at0 13 (by decide) (hts (.fieldLink RX1 45 "OrganBuilderModel" "wear" "[I") (by decide +kernel)) rfl dX1_finds_95 ?_
          refine lv_bipush (v := (nI 61)) hx hb dX1_finds_98 (by decide) ?_
          refine lv_iload_n hx hb dX1_finds_100 rfl (lv_at hl 2 rfl) ?_
          refine lv_imul hx hb dX1_finds_101 ?_
          refine lv_iload hx hb dX1_finds_102 (lv_at hl 4 rfl) ?_
          refine lv_iadd hx hb dX1_finds_104 ?_
          refine lv_asi (nI (61 * r + k)) (ix61 r k) ?_
          refine w_ild hx hb hK hP rfl rc_at11 (by omega) (by decide) dX1_finds_105 ?_
          refine lv_bipush (v := 50) hx hb dX1_finds_106 (by decide) ?_
          refine lv_icmp_ge (tgt := 115) hx hb dX1_finds_108 (by decide) (fun c_108 => ?_) (fun c_108 => ?_)
          · refine lv_iconst (v := 0) hx hb dX1_finds_115 (by decide) ?_
            refine lv_istore (lv' := [(6, .int 0), (0, .ref (a 0)), (1, .int ((fnS I r (fnK I ((fnO I (cpJ I J) r).1 1) r 12) (fnO I (cpJ I J) r).2 k).2)), (2, .int (nI r)), (3, .long ((fnS I r (fnK I ((fnO I (cpJ I J) r).1 1) r 12) (fnO I (cpJ I J) r).2 k).1)), (5, .int (nI k))]) hx hb dX1_finds_116 hl (by decide) rfl (fun ls hl => ?_)
            refine lv_lload_n hx hb dX1_finds_118 rfl (lv_at hl 4 rfl) ?_
            refine lv_iload hx hb dX1_finds_119 (lv_at hl 0 rfl) ?_
            refine lv_if_eq (tgt := 130) hx hb dX1_finds_121 (by decide) (fun c_121 => ?_) (fun c_121 => (absurd c_121 (by decide)))
            refine lv_lconst (v := 1) hx hb dX1_finds_130 (by decide) ?_
            refine lv_iload hx hb dX1_finds_131 (lv_at hl 5 rfl) ?_
            refine lv_lshl hx hb dX1_finds_133 rfl ?_
            refine lv_ldc2 (v := (-1)) hx hb hown (hts (.constantLong RX1 95 ((-1))) (by decide +kernel)) dX1_finds_134 ?_
            refine lv_lxor hx hb dX1_finds_137 ?_
            refine lv_land hx hb dX1_finds_138 ?_
            refine lv_asl ((fnS I r (fnK I ((fnO I (cpJ I J) r).1 1) r 12) (fnO I (cpJ I J) r).2 (k + 1)).1) (congrArg Prod.fst (fnS_b d_91 c_108).symm) ?_
            refine lv_lstore_n (lv' := [(3, .long ((fnS I r (fnK I ((fnO I (cpJ I J) r).1 1) r 12) (fnO I (cpJ I J) r).2 (k + 1)).1)), (6, .int 0), (0, .ref (a 0)), (1, .int ((fnS I r (fnK I ((fnO I (cpJ I J) r).1 1) r 12) (fnO I (cpJ I J) r).2 k).2)), (2, .int (nI r)), (5, .int (nI k))]) hx hb dX1_finds_139 rfl hl (by decide) rfl (fun ls hl => ?_)
            refine lv_iload_n hx hb dX1_finds_140 rfl (lv_at hl 3 rfl) ?_
            refine lv_iload hx hb dX1_finds_141 (lv_at hl 1 rfl) ?_
            refine lv_if_eq (tgt := 156) hx hb dX1_finds_143 (by decide) (fun c_143 => ?_) (fun c_143 => (absurd c_143 (by decide)))
            refine lv_iconst (v := 0) hx hb dX1_finds_156 (by decide) ?_
            refine lv_iadd hx hb dX1_finds_157 ?_
            refine lv_asi ((fnS I r (fnK I ((fnO I (cpJ I J) r).1 1) r 12) (fnO I (cpJ I J) r).2 (k + 1)).2) (congrArg Prod.snd (fnS_b d_91 c_108).symm) ?_
            refine lv_istore_n (lv' := [(1, .int ((fnS I r (fnK I ((fnO I (cpJ I J) r).1 1) r 12) (fnO I (cpJ I J) r).2 (k + 1)).2)), (3, .long ((fnS I r (fnK I ((fnO I (cpJ I J) r).1 1) r 12) (fnO I (cpJ I J) r).2 (k + 1)).1)), (6, .int 0), (0, .ref (a 0)), (2, .int (nI r)), (5, .int (nI k))]) hx hb dX1_finds_158 rfl hl (by decide) rfl (fun ls hl => ?_)
            refine lv_iinc (v := (nI (k + 1))) (lv' := [(5, .int (nI (k + 1))), (1, .int ((fnS I r (fnK I ((fnO I (cpJ I J) r).1 1) r 12) (fnO I (cpJ I J) r).2 (k + 1)).2)), (3, .long ((fnS I r (fnK I ((fnO I (cpJ I J) r).1 1) r 12) (fnO I (cpJ I J) r).2 (k + 1)).1)), (6, .int 0), (0, .ref (a 0)), (2, .int (nI r))]) hx hb dX1_finds_159 hl (k := 5) rfl (nI_inc _) (by decide) rfl (fun ls hl => ?_)
            refine lv_goto (tgt := 78) hx hb dX1_finds_162 (by decide) ?_
            exact ih_k () H locs ls (by omega) ⟨hP, hS, lv_sub hl [4, 1, 5, 2, 0] rfl⟩
          · refine lv_iconst (v := 1) hx hb dX1_finds_111 (by decide) ?_
            refine lv_goto (tgt := 116) hx hb dX1_finds_112 (by decide) ?_
            refine lv_istore (lv' := [(6, .int 1), (0, .ref (a 0)), (1, .int ((fnS I r (fnK I ((fnO I (cpJ I J) r).1 1) r 12) (fnO I (cpJ I J) r).2 k).2)), (2, .int (nI r)), (3, .long ((fnS I r (fnK I ((fnO I (cpJ I J) r).1 1) r 12) (fnO I (cpJ I J) r).2 k).1)), (5, .int (nI k))]) hx hb dX1_finds_116 hl (by decide) rfl (fun ls hl => ?_)
            refine lv_lload_n hx hb dX1_finds_118 rfl (lv_at hl 4 rfl) ?_
            refine lv_iload hx hb dX1_finds_119 (lv_at hl 0 rfl) ?_
            refine lv_if_eq (tgt := 130) hx hb dX1_finds_121 (by decide) (fun c_121 => (absurd c_121 (by decide))) (fun c_121 => ?_)
            refine lv_ldc2 (v := (-1)) hx hb hown (hts (.constantLong RX1 95 ((-1))) (by decide +kernel)) dX1_finds_124 ?_
            refine lv_goto (tgt := 138) hx hb dX1_finds_127 (by decide) ?_
            refine lv_land hx hb dX1_finds_138 ?_
            refine lv_asl ((fnS I r (fnK I ((fnO I (cpJ I J) r).1 1) r 12) (fnO I (cpJ I J) r).2 (k + 1)).1) (congrArg Prod.fst (fnS_c d_91 c_108).symm) ?_
            refine lv_lstore_n (lv' := [(3, .long ((fnS I r (fnK I ((fnO I (cpJ I J) r).1 1) r 12) (fnO I (cpJ I J) r).2 (k + 1)).1)), (6, .int 1), (0, .ref (a 0)), (1, .int ((fnS I r (fnK I ((fnO I (cpJ I J) r).1 1) r 12) (fnO I (cpJ I J) r).2 k).2)), (2, .int (nI r)), (5, .int (nI k))]) hx hb dX1_finds_139 rfl hl (by decide) rfl (fun ls hl => ?_)
            refine lv_iload_n hx hb dX1_finds_140 rfl (lv_at hl 3 rfl) ?_
            refine lv_iload hx hb dX1_finds_141 (lv_at hl 1 rfl) ?_
            refine lv_if_eq (tgt := 156) hx hb dX1_finds_143 (by decide) (fun c_143 => (absurd c_143 (by decide))) (fun c_143 => ?_)
            refine lv_aload_n hx hb dX1_finds_146 rfl (lv_at hl 2 rfl) ?_
            refine lv_iload_n hx hb dX1_finds_147 rfl (lv_at hl 4 rfl) ?_
            refine lv_iload hx hb dX1_finds_148 (lv_at hl 5 rfl) ?_
            refine w_pV (As := [.int (nI r), .int (nI k)]) (rest := [.int ((fnS I r (fnK I ((fnO I (cpJ I J) r).1 1) r 12) (fnO I (cpJ I J) r).2 k).2)]) ⟨hx, hb, hml, hown, hts⟩ (r_windOf l D a cI cL I ((fnO I (cpJ I J) r).1) r k (by omega)) (cwV 2 hts gX1_finds_X1_windOf rfl rfl rfl (by decide +kernel) ⟨Nat.le_of_ble_eq_true rfl, Nat.le_of_ble_eq_true rfl⟩) hK hP rfl rfl rc_at0 rfl hl.1 rfl (Nat.le_of_ble_eq_true rfl) dX1_finds_150 ⟨Nat.le_of_ble_eq_true rfl, Nat.le_of_ble_eq_true rfl⟩ ?_
            refine lv_goto (tgt := 157) hx hb dX1_finds_153 (by decide) ?_
            refine lv_iadd hx hb dX1_finds_157 ?_
            refine lv_asi ((fnS I r (fnK I ((fnO I (cpJ I J) r).1 1) r 12) (fnO I (cpJ I J) r).2 (k + 1)).2) (congrArg Prod.snd (fnS_c d_91 c_108).symm) ?_
            refine lv_istore_n (lv' := [(1, .int ((fnS I r (fnK I ((fnO I (cpJ I J) r).1 1) r 12) (fnO I (cpJ I J) r).2 (k + 1)).2)), (3, .long ((fnS I r (fnK I ((fnO I (cpJ I J) r).1 1) r 12) (fnO I (cpJ I J) r).2 (k + 1)).1)), (6, .int 1), (0, .ref (a 0)), (2, .int (nI r)), (5, .int (nI k))]) hx hb dX1_finds_158 rfl hl (by decide) rfl (fun ls hl => ?_)
            refine lv_iinc (v := (nI (k + 1))) (lv' := [(5, .int (nI (k + 1))), (1, .int ((fnS I r (fnK I ((fnO I (cpJ I J) r).1 1) r 12) (fnO I (cpJ I J) r).2 (k + 1)).2)), (3, .long ((fnS I r (fnK I ((fnO I (cpJ I J) r).1 1) r 12) (fnO I (cpJ I J) r).2 (k + 1)).1)), (6, .int 1), (0, .ref (a 0)), (2, .int (nI r))]) hx hb dX1_finds_159 hl (k := 5) rfl (nI_inc _) (by decide) rfl (fun ls hl => ?_)
            refine lv_goto (tgt := 78) hx hb dX1_finds_162 (by decide) ?_
            exact ih_k () H locs ls (by omega) ⟨hP, hS, lv_sub hl [4, 1, 5, 2, 0] rfl⟩
    · refine lv_lload_n hx hb dX1_finds_26 rfl (lv_at hl 3 rfl) ?_
      refine lv_aload_n hx hb dX1_finds_27 rfl (lv_at hl 0 rfl) ?_
      refine r_get (v := .int (I 20 1)) hx hb hts hin0 hown hK hP rc_at0 6 (by decide) (hts (.fieldLink RX1 75 "OrganBuilderModel" "drawn" "I") (by decide +kernel)) rfl dX1_finds_28 ?_
      refine lv_i2l hx hb dX1_finds_31 rfl ?_
      refine lv_iload hx hb dX1_finds_32 (lv_at hl 4 rfl) ?_
      refine w_pS (As := [.long ((I 20 1).toInt64), .int (nI n)]) (rest := [.long (fnK I ((fnO I (cpJ I J) r).1 1) r n)]) ⟨hx, hb, hml, hown, hts⟩ (r_has l ((I 20 1).toInt64) (nI n)) (va_cwS 2 hts gX1_finds_X1_has rfl rfl rfl (by decide +kernel) ⟨Nat.le_of_ble_eq_true rfl, Nat.le_of_ble_eq_true rfl⟩) rfl hl.1 rfl (Nat.le_of_ble_eq_true rfl) dX1_finds_34 ⟨Nat.le_of_ble_eq_true rfl, Nat.le_of_ble_eq_true rfl⟩ ?_
      refine lv_if_eq (tgt := 66) hx hb dX1_finds_37 (by decide) (fun c_37 => ?_) (fun c_37 => ?_)
      · have d_37 := bI_eq0 c_37
        refine lv_lconst (v := 0) hx hb dX1_finds_66 (by decide) ?_
        refine lv_lor hx hb dX1_finds_67 ?_
        refine lv_asl (fnK I ((fnO I (cpJ I J) r).1 1) r (n + 1)) ((ite_f d_37).symm) ?_
        refine lv_lstore_n (lv' := [(3, .long (fnK I ((fnO I (cpJ I J) r).1 1) r (n + 1))), (0, .ref (a 0)), (1, .int ((fnO I (cpJ I J) r).2)), (2, .int (nI r)), (5, .int (nI n))]) hx hb dX1_finds_68 rfl hl (by decide) rfl (fun ls hl => ?_)
        refine lv_iinc (v := (nI (n + 1))) (lv' := [(5, .int (nI (n + 1))), (3, .long (fnK I ((fnO I (cpJ I J) r).1 1) r (n + 1))), (0, .ref (a 0)), (1, .int ((fnO I (cpJ I J) r).2)), (2, .int (nI r))]) hx hb dX1_finds_69 hl (k := 4) rfl (nI_inc _) (by decide) rfl (fun ls hl => ?_)
        refine lv_goto (tgt := 19) hx hb dX1_finds_72 (by decide) ?_
        exact ih_n () H locs ls (by omega) ⟨hP, hS, lv_sub hl [2, 3, 4, 1, 0] rfl⟩
      · have d_37 := bI_ne0 c_37
        refine lv_aload_n hx hb dX1_finds_40 rfl (lv_at hl 0 rfl) ?_
        refine r_get (v := .ref (a 5)) hx hb hts hin0 hown hK hP rc_at0 5 (by decide) (hts (.fieldLink RX1 22 "OrganBuilderModel" "rank" "[I") (by decide +kernel)) rfl dX1_finds_41 ?_
        refine lv_iload hx hb dX1_finds_44 (lv_at hl 4 rfl) ?_
        refine w_ild hx hb hK hP rfl rc_at5 (by omega) (by decide) dX1_finds_46 ?_
        refine lv_iload_n hx hb dX1_finds_47 rfl (lv_at hl 2 rfl) ?_
        refine lv_icmp_ne (tgt := 66) hx hb dX1_finds_48 (by decide) (fun c_48 => ?_) (fun c_48 => ?_)
        · refine lv_lconst (v := 0) hx hb dX1_finds_66 (by decide) ?_
          refine lv_lor hx hb dX1_finds_67 ?_
          refine lv_asl (fnK I ((fnO I (cpJ I J) r).1 1) r (n + 1)) (((ite_t d_37).trans (if_neg c_48)).symm) ?_
          refine lv_lstore_n (lv' := [(3, .long (fnK I ((fnO I (cpJ I J) r).1 1) r (n + 1))), (0, .ref (a 0)), (1, .int ((fnO I (cpJ I J) r).2)), (2, .int (nI r)), (5, .int (nI n))]) hx hb dX1_finds_68 rfl hl (by decide) rfl (fun ls hl => ?_)
          refine lv_iinc (v := (nI (n + 1))) (lv' := [(5, .int (nI (n + 1))), (3, .long (fnK I ((fnO I (cpJ I J) r).1 1) r (n + 1))), (0, .ref (a 0)), (1, .int ((fnO I (cpJ I J) r).2)), (2, .int (nI r))]) hx hb dX1_finds_69 hl (k := 4) rfl (nI_inc _) (by decide) rfl (fun ls hl => ?_)
          refine lv_goto (tgt := 19) hx hb dX1_finds_72 (by decide) ?_
          exact ih_n () H locs ls (by omega) ⟨hP, hS, lv_sub hl [2, 3, 4, 1, 0] rfl⟩
        · refine lv_aload_n hx hb dX1_finds_51 rfl (lv_at hl 0 rfl) ?_
          refine r_get (v := .ref (a 12)) hx hb hts hin0 hown hK hP rc_at0 14 (by decide) (hts (.fieldLink RX1 48 "OrganBuilderModel" "on" "[J") (by decide +kernel)) rfl dX1_finds_52 ?_
          refine lv_aload_n hx hb dX1_finds_55 rfl (lv_at hl 0 rfl) ?_
          refine r_get (v := .ref (a 4)) hx hb hts hin0 hown hK hP rc_at0 4 (by decide) (hts (.fieldLink RX1 19 "OrganBuilderModel" "manual" "[I") (by decide +kernel)) rfl dX1_finds_56 ?_
          refine lv_iload hx hb dX1_finds_59 (lv_at hl 4 rfl) ?_
          refine w_ild hx hb hK hP rfl rc_at4 (by omega) (by decide) dX1_finds_61 ?_
          obtain ⟨j, hj, ej⟩ := hman n (by omega)
          refine lv_asi (nI j) (ej) ?_
          refine w_lld hx hb hK hP rfl rc_at12 (by omega) (by decide) dX1_finds_62 ?_
          refine lv_goto (tgt := 67) hx hb dX1_finds_63 (by decide) ?_
          refine lv_lor hx hb dX1_finds_67 ?_
          refine lv_asl (fnK I ((fnO I (cpJ I J) r).1 1) r (n + 1)) (by rw [fnK, if_pos d_37, if_pos c_48, ej, nI_clamp (by omega)]) ?_
          refine lv_lstore_n (lv' := [(3, .long (fnK I ((fnO I (cpJ I J) r).1 1) r (n + 1))), (0, .ref (a 0)), (1, .int ((fnO I (cpJ I J) r).2)), (2, .int (nI r)), (5, .int (nI n))]) hx hb dX1_finds_68 rfl hl (by decide) rfl (fun ls hl => ?_)
          refine lv_iinc (v := (nI (n + 1))) (lv' := [(5, .int (nI (n + 1))), (3, .long (fnK I ((fnO I (cpJ I J) r).1 1) r (n + 1))), (0, .ref (a 0)), (1, .int ((fnO I (cpJ I J) r).2)), (2, .int (nI r))]) hx hb dX1_finds_69 hl (k := 4) rfl (nI_inc _) (by decide) rfl (fun ls hl => ?_)
          refine lv_goto (tgt := 19) hx hb dX1_finds_72 (by decide) ?_
          exact ih_n () H locs ls (by omega) ⟨hP, hS, lv_sub hl [2, 3, 4, 1, 0] rfl⟩
set_option maxHeartbeats 4000000 in
set_option maxRecDepth 100000 in
theorem r_soundingNow (l : Launch) (D : va_G) (a : Nat → Nat) (cI cL : ClassId) (I : Nat → Nat → Int32) (J : Nat → Nat → Int64) (hman : okM I) : Met l yX1_soundingNow wsX1_soundingNow ({ frames := 2, cells := 0, slots := 0, locals := 50 } : Room) (va_Pc [.ref (a 0)] (mB D (rty cI cL) (rc a cI cL I J))) (mQi D (rc a cI cL I J) (rc a cI cL I (fnJ I J)) (csM (fnJ I J) 6)) 0 0 (wA (rc a cI cL I J)) := by
  refine Met.ofW (cc := cX1_soundingNow) (maxL := 4) (ret := (some .int)) (by decide) rfl ?_
  intro p e s m args below meth c s₁ B hml hv
  obtain ⟨rfl, hP, hK, hD0⟩ := hv
  have hx := B.exec
  have hb := B.bytes
  have hr := B.returns
  have hts := atoms_spec (ws := wsX1_soundingNow) B.pre
  have hown : s.vm.findClass RX1 = some m.cls := findClass_of_methodNamed B.named
  have hlocks := B.notSynchronized
  have hin0 : ∀ w ∈ u_ws RX1 TX1 16, w ∈ wsX1_soundingNow := by decide +kernel
  have hD := rc_D (wA_D hD0)
  have hS : va_S (wA (rc a cI cL I J)) s.heap s.heap [] := va_S.rf
  have hl := lv_entry ([.ref (a 0)]) (n := 4) (Nat.le_of_ble_eq_true rfl)
  rw [lg_entry_eq]
  generalize (lg_sl ([.ref (a 0)]) ++ List.replicate (4 - (lg_sl ([.ref (a 0)])).length) Slot.unset).toArray = ls at hl ⊢
  have hl : lv_has ls 4 [(0, .ref (a 0))] := hl
  refine lv_aload_n hx hb dX1_soundingNow_0 rfl (lv_at hl 0 rfl) ?_
  refine w_mVi (As := []) (rest := []) ⟨hx, hb, hml, hown, hts⟩ (r_finds l D a cI cL I J hman) (cwV 0 hts gX1_soundingNow_X1_finds rfl rfl rfl (by decide +kernel) ⟨Nat.le_of_ble_eq_true rfl, Nat.le_of_ble_eq_true rfl⟩) hK hP (hD _ _) hS rfl rfl rc_at0 rfl hl.1 rfl (Nat.le_of_ble_eq_true rfl) dX1_soundingNow_1 ⟨Nat.le_of_ble_eq_true rfl, Nat.le_of_ble_eq_true rfl⟩ (fun H locs hP hS => ?_)
  refine lv_istore_n (lv' := [(1, .int (fnN I J)), (0, .ref (a 0))]) hx hb dX1_soundingNow_4 rfl hl (by decide) rfl (fun ls hl => ?_)
  refine lv_iconst (v := 0) hx hb dX1_soundingNow_5 (by decide) ?_
  refine lv_istore_n (lv' := [(2, .int 0), (1, .int (fnN I J)), (0, .ref (a 0))]) hx hb dX1_soundingNow_6 rfl hl (by decide) rfl (fun ls hl => ?_)
  refine lv_iconst (v := 0) hx hb dX1_soundingNow_7 (by decide) ?_
  refine lv_istore_n (lv' := [(3, .int 0), (2, .int 0), (1, .int (fnN I J)), (0, .ref (a 0))]) hx hb dX1_soundingNow_8 rfl hl (by decide) rfl (fun ls hl => ?_)
  refine W_loopH (σ := Unit) 0 6 9 (fun r _ H locs ls => va_P D vwCl (rc a cI cL I (fnJ I J)) H ∧ va_S (wA (rc a cI cL I J)) s.heap H locs ∧ lv_has ls 4 [(0, .ref (a 0)), (2, .int (csM (fnJ I J) r)), (3, .int (nI r))]) (fun r _ H locs ls g_r h_r hI_r ih_r => ?_) () (by decide) ⟨hP, hS, lv_sub hl [3, 1, 0] rfl⟩
  obtain ⟨hP, hS, hl⟩ := hI_r
  refine lv_iload_n hx hb dX1_soundingNow_9 rfl (lv_at hl 2 rfl) ?_
  refine lv_bipush (v := 6) hx hb dX1_soundingNow_10 (by decide) ?_
  refine lo_ge (n := 6) (tgt := 33) hx hb rfl (by omega) (by omega) dX1_soundingNow_12 (by decide) (fun c_12 => ?_) (fun c_12 => ?_)
  · obtain rfl : r = 6 := by omega
    refine lv_iload_n hx hb dX1_soundingNow_33 rfl (lv_at hl 1 rfl) ?_
    exact e_mi hx hb hr rfl hlocks hP hS (rfl) (rfl) dX1_soundingNow_34
  · refine lv_iload_n hx hb dX1_soundingNow_15 rfl (lv_at hl 1 rfl) ?_
    refine lv_aload_n hx hb dX1_soundingNow_16 rfl (lv_at hl 0 rfl) ?_
    refine r_get (v := .ref (a 13)) hx hb hts hin0 hown hK hP rc_at0 15 (by decide) (hts (.fieldLink RX1 51 "OrganBuilderModel" "sounding" "[J") (by decide +kernel)) rfl dX1_soundingNow_17 ?_
    refine lv_iload_n hx hb dX1_soundingNow_20 rfl (lv_at hl 2 rfl) ?_
    refine w_lld hx hb hK hP rfl rc_at13 (by omega) (by decide) dX1_soundingNow_21 ?_
    refine w_pS (As := [.long ((fnJ I J) 2 r)]) (rest := [.int (csM (fnJ I J) r)]) ⟨hx, hb, hml, hown, hts⟩ (r_count l ((fnJ I J) 2 r)) (va_cwS 1 hts gX1_soundingNow_X1_count rfl rfl rfl (by decide +kernel) ⟨Nat.le_of_ble_eq_true rfl, Nat.le_of_ble_eq_true rfl⟩) rfl hl.1 rfl (Nat.le_of_ble_eq_true rfl) dX1_soundingNow_22 ⟨Nat.le_of_ble_eq_true rfl, Nat.le_of_ble_eq_true rfl⟩ ?_
    refine lv_iadd hx hb dX1_soundingNow_25 ?_
    refine lv_asi (csM (fnJ I J) (r + 1)) (rfl) ?_
    refine lv_istore_n (lv' := [(2, .int (csM (fnJ I J) (r + 1))), (0, .ref (a 0)), (3, .int (nI r))]) hx hb dX1_soundingNow_26 rfl hl (by decide) rfl (fun ls hl => ?_)
    refine lv_iinc (v := (nI (r + 1))) (lv' := [(3, .int (nI (r + 1))), (2, .int (csM (fnJ I J) (r + 1))), (0, .ref (a 0))]) hx hb dX1_soundingNow_27 hl (k := 2) rfl (nI_inc _) (by decide) rfl (fun ls hl => ?_)
    refine lv_goto (tgt := 9) hx hb dX1_soundingNow_30 (by decide) ?_
    exact ih_r () H locs ls (by omega) ⟨hP, hS, lv_sub hl [2, 1, 0] rfl⟩
set_option maxHeartbeats 4000000 in
set_option maxRecDepth 100000 in
theorem r_sound (l : Launch) (D : va_G) (a : Nat → Nat) (cI cL : ClassId) (I : Nat → Nat → Int32) (J : Nat → Nat → Int64) (p1 : Int32) (hman : okM I) : Met l yX1_sound wsX1_sound ({ frames := 3, cells := 0, slots := 0, locals := 73 } : Room) (va_Pc [.ref (a 0), .int p1] (mB D (rty cI cL) (rc a cI cL I J))) (mQi D (rc a cI cL I J) (rc a cI cL (rSndI I J p1) (rSndJ I J p1)) (aSnd I J p1)) 0 0 (wA (rc a cI cL I J)) := by
  refine Met.ofW (cc := cX1_sound) (maxL := 4) (ret := (some .int)) (by decide) rfl ?_
  intro p e s m args below meth c s₁ B hml hv
  obtain ⟨rfl, hP, hK, hD0⟩ := hv
  have hx := B.exec
  have hb := B.bytes
  have hr := B.returns
  have hts := atoms_spec (ws := wsX1_sound) B.pre
  have hown : s.vm.findClass RX1 = some m.cls := findClass_of_methodNamed B.named
  have hlocks := B.notSynchronized
  have hin0 : ∀ w ∈ u_ws RX1 TX1 16, w ∈ wsX1_sound := by decide +kernel
  have hD := rc_D (wA_D hD0)
  have hS : va_S (wA (rc a cI cL I J)) s.heap s.heap [] := va_S.rf
  have hl := lv_entry ([.ref (a 0), .int p1]) (n := 4) (Nat.le_of_ble_eq_true rfl)
  rw [lg_entry_eq]
  generalize (lg_sl ([.ref (a 0), .int p1]) ++ List.replicate (4 - (lg_sl ([.ref (a 0), .int p1])).length) Slot.unset).toArray = ls at hl ⊢
  have hl : lv_has ls 4 [(0, .ref (a 0)), (1, .int p1)] := hl
  refine lv_aload_n hx hb dX1_sound_0 rfl (lv_at hl 0 rfl) ?_
  refine lv_iload_n hx hb dX1_sound_1 rfl (lv_at hl 1 rfl) ?_
  refine lv_iconst (v := 1) hx hb dX1_sound_2 (by decide) ?_
  refine lv_bipush (v := 50) hx hb dX1_sound_3 (by decide) ?_
  refine w_pS (As := [.int p1, .int 1, .int 50]) (rest := [.ref (a 0)]) ⟨hx, hb, hml, hown, hts⟩ (r_isIn l p1 1 50) (va_cwS 3 hts gX1_sound_X1_isIn rfl rfl rfl (by decide +kernel) ⟨Nat.le_of_ble_eq_true rfl, Nat.le_of_ble_eq_true rfl⟩) rfl hl.1 rfl (Nat.le_of_ble_eq_true rfl) dX1_sound_5 ⟨Nat.le_of_ble_eq_true rfl, Nat.le_of_ble_eq_true rfl⟩ ?_
  refine lv_if_eq (tgt := 15) hx hb dX1_sound_8 (by decide) (fun c_8 => ?_) (fun c_8 => ?_)
  · have d_8 := bI_eq0 c_8
    refine lv_iconst (v := 1) hx hb dX1_sound_15 (by decide) ?_
    refine w_mVi (As := [.int 1]) (rest := []) ⟨hx, hb, hml, hown, hts⟩ (r_isFine l D a cI cL I J 1) (cwV 1 hts gX1_sound_X1_isFine rfl rfl rfl (by decide +kernel) ⟨Nat.le_of_ble_eq_true rfl, Nat.le_of_ble_eq_true rfl⟩) hK hP (hD _ _) hS rfl rfl rc_at0 rfl hl.1 rfl (Nat.le_of_ble_eq_true rfl) dX1_sound_16 ⟨Nat.le_of_ble_eq_true rfl, Nat.le_of_ble_eq_true rfl⟩ (fun H locs hP hS => ?_)
    refine lv_asi 0 (by decide) ?_
    refine lv_if_ne (tgt := 24) hx hb dX1_sound_19 (by decide) (fun c_19 => (absurd c_19 (by decide))) (fun c_19 => ?_)
    refine lv_iconst (v := 0) hx hb dX1_sound_22 (by decide) ?_
    exact e_mi hx hb hr rfl hlocks hP hS (by simp [rSndI, rSndJ, kSnd, d_8]) (by simp [aSnd, kSnd, d_8]) dX1_sound_23
  · have d_8 := bI_ne0 c_8
    refine lv_iconst (v := 0) hx hb dX1_sound_11 (by decide) ?_
    refine lv_goto (tgt := 16) hx hb dX1_sound_12 (by decide) ?_
    refine w_mVi (As := [.int 0]) (rest := []) ⟨hx, hb, hml, hown, hts⟩ (r_isFine l D a cI cL I J 0) (cwV 1 hts gX1_sound_X1_isFine rfl rfl rfl (by decide +kernel) ⟨Nat.le_of_ble_eq_true rfl, Nat.le_of_ble_eq_true rfl⟩) hK hP (hD _ _) hS rfl rfl rc_at0 rfl hl.1 rfl (Nat.le_of_ble_eq_true rfl) dX1_sound_16 ⟨Nat.le_of_ble_eq_true rfl, Nat.le_of_ble_eq_true rfl⟩ (fun H locs hP hS => ?_)
    refine lv_asi 1 (by decide) ?_
    refine lv_if_ne (tgt := 24) hx hb dX1_sound_19 (by decide) (fun c_19 => ?_) (fun c_19 => (absurd c_19 (by decide)))
    refine lv_aload_n hx hb dX1_sound_24 rfl (lv_at hl 0 rfl) ?_
    refine w_mVi (As := []) (rest := []) ⟨hx, hb, hml, hown, hts⟩ (r_soundingNow l D a cI cL (u2 I 20 0 0) J hman) (cwV 0 hts gX1_sound_X1_soundingNow rfl rfl rfl (by decide +kernel) ⟨Nat.le_of_ble_eq_true rfl, Nat.le_of_ble_eq_true rfl⟩) hK hP (hD _ _) hS rfl rfl rc_at0 rfl hl.1 rfl (Nat.le_of_ble_eq_true rfl) dX1_sound_25 ⟨Nat.le_of_ble_eq_true rfl, Nat.le_of_ble_eq_true rfl⟩ (fun H locs hP hS => ?_)
    refine lv_istore_n (lv' := [(2, .int (csM (fnJ (u2 I 20 0 0) J) 6)), (0, .ref (a 0)), (1, .int p1)]) hx hb dX1_sound_28 rfl hl (by decide) rfl (fun ls hl => ?_)
    refine lv_iconst (v := 0) hx hb dX1_sound_29 (by decide) ?_
    refine lv_istore_n (lv' := [(3, .int 0), (2, .int (csM (fnJ (u2 I 20 0 0) J) 6)), (0, .ref (a 0)), (1, .int p1)]) hx hb dX1_sound_30 rfl hl (by decide) rfl (fun ls hl => ?_)
    refine W_loopH (σ := Unit) 0 366 31 (fun k _ H locs ls => va_P D vwCl (rc a cI cL (mwF (fnJ (u2 I 20 0 0) J) p1 (u2 I 20 0 0) k) (fnJ (u2 I 20 0 0) J)) H ∧ va_S (wA (rc a cI cL I J)) s.heap H locs ∧ lv_has ls 4 [(0, .ref (a 0)), (1, .int p1), (2, .int (csM (fnJ (u2 I 20 0 0) J) 6)), (3, .int (nI k))]) (fun k _ H locs ls g_k h_k hI_k ih_k => ?_) () (by decide) ⟨hP, hS, lv_sub hl [2, 3, 1, 0] rfl⟩
    obtain ⟨hP, hS, hl⟩ := hI_k
    refine lv_iload_n hx hb dX1_sound_31 rfl (lv_at hl 3 rfl) ?_
    refine lv_sipush (v := 366) hx hb dX1_sound_32 (by decide) ?_
    refine lo_ge (n := 366) (tgt := 77) hx hb rfl (by omega) (by omega) dX1_sound_35 (by decide) (fun c_35 => ?_) (fun c_35 => ?_)
    · obtain rfl : k = 366 := by omega
      refine lv_iload_n hx hb dX1_sound_77 rfl (lv_at hl 2 rfl) ?_
      exact e_mi hx hb hr rfl hlocks hP hS (by rw [rSndI, rSndJ, if_pos (by simp [kSnd, d_8]), if_pos (by simp [kSnd, d_8])]) (by rw [aSnd, if_pos (by simp [kSnd, d_8])]) dX1_sound_78
    · refine lv_aload_n hx hb dX1_sound_38 rfl (lv_at hl 0 rfl) ?_
      refine r_get (v := .ref (a 11)) hx hb hts hin0 hown hK hP rc_at0 13 (by decide) (hts (.fieldLink RX1 45 "OrganBuilderModel" "wear" "[I") (by decide +kernel)) rfl dX1_sound_39 ?_
      refine lv_iload_n hx hb dX1_sound_42 rfl (lv_at hl 3 rfl) ?_
      refine lv_dup2_11 hx hb dX1_sound_43 rfl rfl ?_
      refine w_ild hx hb hK hP rfl rc_at11 (by omega) (by decide) dX1_sound_44 ?_
      refine lv_aload_n hx hb dX1_sound_45 rfl (lv_at hl 0 rfl) ?_
      refine r_get (v := .ref (a 13)) hx hb hts hin0 hown hK hP rc_at0 15 (by decide) (hts (.fieldLink RX1 51 "OrganBuilderModel" "sounding" "[J") (by decide +kernel)) rfl dX1_sound_46 ?_
      refine lv_iload_n hx hb dX1_sound_49 rfl (lv_at hl 3 rfl) ?_
      refine lv_bipush (v := (nI 61)) hx hb dX1_sound_50 (by decide) ?_
      refine lv_idiv hx hb dX1_sound_52 (by decide) ?_
      refine lv_asi (nI (k / 61)) (pk_div (by omega) (by decide) (by decide)) ?_
      refine w_lld hx hb hK hP rfl rc_at13 (by omega) (by decide) dX1_sound_53 ?_
      refine lv_iload_n hx hb dX1_sound_54 rfl (lv_at hl 3 rfl) ?_
      refine lv_bipush (v := (nI 61)) hx hb dX1_sound_55 (by decide) ?_
      refine lv_irem hx hb dX1_sound_57 (by decide) ?_
      refine lv_asi (nI (k % 61)) (pk_rem (by omega) (by decide) (by decide)) ?_
      refine w_pS (As := [.long ((fnJ (u2 I 20 0 0) J) 2 (k / 61)), .int (nI (k % 61))]) (rest := [.int ((mwF (fnJ (u2 I 20 0 0) J) p1 (u2 I 20 0 0) k) 9 k), .int (nI k), .ref (a 11)]) ⟨hx, hb, hml, hown, hts⟩ (r_has l ((fnJ (u2 I 20 0 0) J) 2 (k / 61)) (nI (k % 61))) (va_cwS 2 hts gX1_sound_X1_has rfl rfl rfl (by decide +kernel) ⟨Nat.le_of_ble_eq_true rfl, Nat.le_of_ble_eq_true rfl⟩) rfl hl.1 rfl (Nat.le_of_ble_eq_true rfl) dX1_sound_58 ⟨Nat.le_of_ble_eq_true rfl, Nat.le_of_ble_eq_true rfl⟩ ?_
      refine lv_if_eq (tgt := 68) hx hb dX1_sound_61 (by decide) (fun c_61 => ?_) (fun c_61 => ?_)
      · have d_61 := bI_eq0 c_61
        refine lv_iconst (v := 0) hx hb dX1_sound_68 (by decide) ?_
        refine lv_iadd hx hb dX1_sound_69 ?_
        refine w_ist hx hb hK hP (hD _ _) hS rfl rc_at11 (rc_set11 k (((mwF (fnJ (u2 I 20 0 0) J) p1 (u2 I 20 0 0) k) 9 k) + 0)) (by omega) (by decide) dX1_sound_70 (fun H locs hP hS => ?_)
        have hP : va_P D vwCl (rc a cI cL (mwF (fnJ (u2 I 20 0 0) J) p1 (u2 I 20 0 0) (k + 1)) (fnJ (u2 I 20 0 0) J)) H := by rw [show (mwF (fnJ (u2 I 20 0 0) J) p1 (u2 I 20 0 0) (k + 1)) = (u2 (mwF (fnJ (u2 I 20 0 0) J) p1 (u2 I 20 0 0) k) 9 k (((mwF (fnJ (u2 I 20 0 0) J) p1 (u2 I 20 0 0) k) 9 k) + 0)) from ite_f d_61]; exact hP
        refine lv_iinc (v := (nI (k + 1))) (lv' := [(3, .int (nI (k + 1))), (0, .ref (a 0)), (1, .int p1), (2, .int (csM (fnJ (u2 I 20 0 0) J) 6))]) hx hb dX1_sound_71 hl (k := 3) rfl (nI_inc _) (by decide) rfl (fun ls hl => ?_)
        refine lv_goto (tgt := 31) hx hb dX1_sound_74 (by decide) ?_
        exact ih_k () H locs ls (by omega) ⟨hP, hS, lv_sub hl [1, 2, 3, 0] rfl⟩
      · have d_61 := bI_ne0 c_61
        refine lv_iload_n hx hb dX1_sound_64 rfl (lv_at hl 1 rfl) ?_
        refine lv_goto (tgt := 69) hx hb dX1_sound_65 (by decide) ?_
        refine lv_iadd hx hb dX1_sound_69 ?_
        refine w_ist hx hb hK hP (hD _ _) hS rfl rc_at11 (rc_set11 k (((mwF (fnJ (u2 I 20 0 0) J) p1 (u2 I 20 0 0) k) 9 k) + p1)) (by omega) (by decide) dX1_sound_70 (fun H locs hP hS => ?_)
        have hP : va_P D vwCl (rc a cI cL (mwF (fnJ (u2 I 20 0 0) J) p1 (u2 I 20 0 0) (k + 1)) (fnJ (u2 I 20 0 0) J)) H := by rw [show (mwF (fnJ (u2 I 20 0 0) J) p1 (u2 I 20 0 0) (k + 1)) = (u2 (mwF (fnJ (u2 I 20 0 0) J) p1 (u2 I 20 0 0) k) 9 k (((mwF (fnJ (u2 I 20 0 0) J) p1 (u2 I 20 0 0) k) 9 k) + p1)) from ite_t d_61]; exact hP
        refine lv_iinc (v := (nI (k + 1))) (lv' := [(3, .int (nI (k + 1))), (0, .ref (a 0)), (1, .int p1), (2, .int (csM (fnJ (u2 I 20 0 0) J) 6))]) hx hb dX1_sound_71 hl (k := 3) rfl (nI_inc _) (by decide) rfl (fun ls hl => ?_)
        refine lv_goto (tgt := 31) hx hb dX1_sound_74 (by decide) ?_
        exact ih_k () H locs ls (by omega) ⟨hP, hS, lv_sub hl [1, 2, 3, 0] rfl⟩
set_option maxHeartbeats 4000000 in
set_option maxRecDepth 100000 in
theorem r_repair (l : Launch) (D : va_G) (a : Nat → Nat) (cI cL : ClassId) (I : Nat → Nat → Int32) (J : Nat → Nat → Int64) (p1 : Int32) : Met l yX1_repair wsX1_repair ({ frames := 2, cells := 0, slots := 0, locals := 42 } : Room) (va_Pc [.ref (a 0), .int p1] (mB D (rty cI cL) (rc a cI cL I J))) (mQi D (rc a cI cL I J) (rc a cI cL (rRep I p1) J) (aRep I p1)) 0 0 (wA (rc a cI cL I J)) := by
  refine Met.ofW (cc := cX1_repair) (maxL := 4) (ret := (some .int)) (by decide) rfl ?_
  intro p e s m args below meth c s₁ B hml hv
  obtain ⟨rfl, hP, hK, hD0⟩ := hv
  have hx := B.exec
  have hb := B.bytes
  have hr := B.returns
  have hts := atoms_spec (ws := wsX1_repair) B.pre
  have hown : s.vm.findClass RX1 = some m.cls := findClass_of_methodNamed B.named
  have hlocks := B.notSynchronized
  have hin0 : ∀ w ∈ u_ws RX1 TX1 16, w ∈ wsX1_repair := by decide +kernel
  have hD := rc_D (wA_D hD0)
  have hS : va_S (wA (rc a cI cL I J)) s.heap s.heap [] := va_S.rf
  have hl := lv_entry ([.ref (a 0), .int p1]) (n := 4) (Nat.le_of_ble_eq_true rfl)
  rw [lg_entry_eq]
  generalize (lg_sl ([.ref (a 0), .int p1]) ++ List.replicate (4 - (lg_sl ([.ref (a 0), .int p1])).length) Slot.unset).toArray = ls at hl ⊢
  have hl : lv_has ls 4 [(0, .ref (a 0)), (1, .int p1)] := hl
  refine lv_aload_n hx hb dX1_repair_0 rfl (lv_at hl 0 rfl) ?_
  refine lv_iload_n hx hb dX1_repair_1 rfl (lv_at hl 1 rfl) ?_
  refine w_pS (As := [.int p1]) (rest := [.ref (a 0)]) ⟨hx, hb, hml, hown, hts⟩ (r_isRank l p1) (va_cwS 1 hts gX1_repair_X1_isRank rfl rfl rfl (by decide +kernel) ⟨Nat.le_of_ble_eq_true rfl, Nat.le_of_ble_eq_true rfl⟩) rfl hl.1 rfl (Nat.le_of_ble_eq_true rfl) dX1_repair_2 ⟨Nat.le_of_ble_eq_true rfl, Nat.le_of_ble_eq_true rfl⟩ ?_
  refine lv_if_eq (tgt := 12) hx hb dX1_repair_5 (by decide) (fun c_5 => ?_) (fun c_5 => ?_)
  · have d_5 := bI_eq0 c_5
    refine lv_iconst (v := 1) hx hb dX1_repair_12 (by decide) ?_
    refine w_mVi (As := [.int 1]) (rest := []) ⟨hx, hb, hml, hown, hts⟩ (r_isFine l D a cI cL I J 1) (cwV 1 hts gX1_repair_X1_isFine rfl rfl rfl (by decide +kernel) ⟨Nat.le_of_ble_eq_true rfl, Nat.le_of_ble_eq_true rfl⟩) hK hP (hD _ _) hS rfl rfl rc_at0 rfl hl.1 rfl (Nat.le_of_ble_eq_true rfl) dX1_repair_13 ⟨Nat.le_of_ble_eq_true rfl, Nat.le_of_ble_eq_true rfl⟩ (fun H locs hP hS => ?_)
    refine lv_asi 0 (by decide) ?_
    refine lv_if_ne (tgt := 21) hx hb dX1_repair_16 (by decide) (fun c_16 => (absurd c_16 (by decide))) (fun c_16 => ?_)
    refine lv_iconst (v := 0) hx hb dX1_repair_19 (by decide) ?_
    exact e_mi hx hb hr rfl hlocks hP hS (by simp [rRep, kRk, d_5]) (by simp [aRep, kRk, d_5]) dX1_repair_20
  · have d_5 := bI_ne0 c_5
    refine lv_iconst (v := 0) hx hb dX1_repair_8 (by decide) ?_
    refine lv_goto (tgt := 13) hx hb dX1_repair_9 (by decide) ?_
    refine w_mVi (As := [.int 0]) (rest := []) ⟨hx, hb, hml, hown, hts⟩ (r_isFine l D a cI cL I J 0) (cwV 1 hts gX1_repair_X1_isFine rfl rfl rfl (by decide +kernel) ⟨Nat.le_of_ble_eq_true rfl, Nat.le_of_ble_eq_true rfl⟩) hK hP (hD _ _) hS rfl rfl rc_at0 rfl hl.1 rfl (Nat.le_of_ble_eq_true rfl) dX1_repair_13 ⟨Nat.le_of_ble_eq_true rfl, Nat.le_of_ble_eq_true rfl⟩ (fun H locs hP hS => ?_)
    refine lv_asi 1 (by decide) ?_
    refine lv_if_ne (tgt := 21) hx hb dX1_repair_16 (by decide) (fun c_16 => ?_) (fun c_16 => (absurd c_16 (by decide)))
    obtain ⟨r, br, rfl⟩ := rg_nat (n := 5) d_5 (by decide)
    refine lv_iconst (v := 0) hx hb dX1_repair_21 (by decide) ?_
    refine lv_istore_n (lv' := [(2, .int 0), (0, .ref (a 0)), (1, .int (nI r))]) hx hb dX1_repair_22 rfl hl (by decide) rfl (fun ls hl => ?_)
    refine lv_bipush (v := (nI 61)) hx hb dX1_repair_23 (by decide) ?_
    refine lv_iload_n hx hb dX1_repair_25 rfl (lv_at hl 2 rfl) ?_
    refine lv_imul hx hb dX1_repair_26 ?_
    refine lv_asi (nI (61 * r + 0)) (by rw [pk_mul]; rfl) ?_
    refine lv_istore_n (lv' := [(3, .int (nI (61 * r + 0))), (2, .int 0), (0, .ref (a 0)), (1, .int (nI r))]) hx hb dX1_repair_27 rfl hl (by decide) rfl (fun ls hl => ?_)
    refine W_loopH (σ := Unit) 0 61 28 (fun i _ H locs ls => va_P D vwCl (rc a cI cL (mrI (u2 I 20 0 0) r i) J) H ∧ va_S (wA (rc a cI cL I J)) s.heap H locs ∧ lv_has ls 4 [(0, .ref (a 0)), (1, .int (nI r)), (2, .int (mrA (u2 I 20 0 0) r i)), (3, .int (nI (61 * r + i)))]) (fun i _ H locs ls g_i h_i hI_i ih_i => ?_) () (by decide) ⟨hP, hS, lv_sub hl [2, 3, 1, 0] rfl⟩
    obtain ⟨hP, hS, hl⟩ := hI_i
    refine lv_iload_n hx hb dX1_repair_28 rfl (lv_at hl 3 rfl) ?_
    refine lv_bipush (v := (nI 61)) hx hb dX1_repair_29 (by decide) ?_
    refine lv_iload_n hx hb dX1_repair_31 rfl (lv_at hl 1 rfl) ?_
    refine lv_imul hx hb dX1_repair_32 ?_
    refine lv_bipush (v := 61) hx hb dX1_repair_33 (by decide) ?_
    refine lv_iadd hx hb dX1_repair_35 ?_
    refine lv_asi (nI (61 * r + 61)) (by rw [pk_mul, show (61 : Int32) = nI 61 from rfl, nI_add]) ?_
    refine lo_ge (n := (61 * r + 61)) (tgt := 71) hx hb rfl (by omega) (by omega) dX1_repair_36 (by decide) (fun c_36 => ?_) (fun c_36 => ?_)
    · obtain rfl : i = 61 := by omega
      refine lv_iload_n hx hb dX1_repair_71 rfl (lv_at hl 2 rfl) ?_
      exact e_mi hx hb hr rfl hlocks hP hS (by rw [rRep, if_pos (by simp [kRk, d_5]), nI_clamp (show r < 2 ^ 31 by omega)]) (by rw [aRep, if_pos (by simp [kRk, d_5]), nI_clamp (show r < 2 ^ 31 by omega)]) dX1_repair_72
    · refine lv_iload_n hx hb dX1_repair_39 rfl (lv_at hl 2 rfl) ?_
      refine lv_aload_n hx hb dX1_repair_40 rfl (lv_at hl 0 rfl) ?_
      refine r_get (v := .ref (a 11)) hx hb hts hin0 hown hK hP rc_at0 13 (by decide) (hts (.fieldLink RX1 45 "OrganBuilderModel" "wear" "[I") (by decide +kernel)) rfl dX1_repair_41 ?_
      refine lv_iload_n hx hb dX1_repair_44 rfl (lv_at hl 3 rfl) ?_
      refine w_ild hx hb hK hP rfl rc_at11 (by omega) (by decide) dX1_repair_45 ?_
      refine lv_bipush (v := 50) hx hb dX1_repair_46 (by decide) ?_
      refine lv_icmp_lt (tgt := 55) hx hb dX1_repair_48 (by decide) (fun c_48 => ?_) (fun c_48 => ?_)
      · refine lv_iconst (v := 0) hx hb dX1_repair_55 (by decide) ?_
        refine lv_iadd hx hb dX1_repair_56 ?_
        refine lv_asi (mrA (u2 I 20 0 0) r (i + 1)) ((if_pos c_48).symm) ?_
        refine lv_istore_n (lv' := [(2, .int (mrA (u2 I 20 0 0) r (i + 1))), (0, .ref (a 0)), (1, .int (nI r)), (3, .int (nI (61 * r + i)))]) hx hb dX1_repair_57 rfl hl (by decide) rfl (fun ls hl => ?_)
        refine lv_aload_n hx hb dX1_repair_58 rfl (lv_at hl 1 rfl) ?_
        refine r_get (v := .ref (a 11)) hx hb hts hin0 hown hK hP rc_at0 13 (by decide) (hts (.fieldLink RX1 45 "OrganBuilderModel" "wear" "[I") (by decide +kernel)) rfl dX1_repair_59 ?_
        refine lv_iload_n hx hb dX1_repair_62 rfl (lv_at hl 3 rfl) ?_
        refine lv_iconst (v := 0) hx hb dX1_repair_63 (by decide) ?_
        refine w_ist hx hb hK hP (hD _ _) hS rfl rc_at11 (rc_set11 (61 * r + i) 0) (by omega) (by decide) dX1_repair_64 (fun H locs hP hS => ?_)
        have hP : va_P D vwCl (rc a cI cL (mrI (u2 I 20 0 0) r (i + 1)) J) H := hP
        refine lv_iinc (v := (nI (61 * r + (i + 1)))) (lv' := [(3, .int (nI (61 * r + (i + 1)))), (2, .int (mrA (u2 I 20 0 0) r (i + 1))), (0, .ref (a 0)), (1, .int (nI r))]) hx hb dX1_repair_65 hl (k := 3) rfl (nI_inc (61 * r + i)) (by decide) rfl (fun ls hl => ?_)
        refine lv_goto (tgt := 28) hx hb dX1_repair_68 (by decide) ?_
        exact ih_i () H locs ls (by omega) ⟨hP, hS, lv_sub hl [2, 3, 1, 0] rfl⟩
      · refine lv_iconst (v := 1) hx hb dX1_repair_51 (by decide) ?_
        refine lv_goto (tgt := 56) hx hb dX1_repair_52 (by decide) ?_
        refine lv_iadd hx hb dX1_repair_56 ?_
        refine lv_asi (mrA (u2 I 20 0 0) r (i + 1)) ((if_neg c_48).symm) ?_
        refine lv_istore_n (lv' := [(2, .int (mrA (u2 I 20 0 0) r (i + 1))), (0, .ref (a 0)), (1, .int (nI r)), (3, .int (nI (61 * r + i)))]) hx hb dX1_repair_57 rfl hl (by decide) rfl (fun ls hl => ?_)
        refine lv_aload_n hx hb dX1_repair_58 rfl (lv_at hl 1 rfl) ?_
        refine r_get (v := .ref (a 11)) hx hb hts hin0 hown hK hP rc_at0 13 (by decide) (hts (.fieldLink RX1 45 "OrganBuilderModel" "wear" "[I") (by decide +kernel)) rfl dX1_repair_59 ?_
        refine lv_iload_n hx hb dX1_repair_62 rfl (lv_at hl 3 rfl) ?_
        refine lv_iconst (v := 0) hx hb dX1_repair_63 (by decide) ?_
        refine w_ist hx hb hK hP (hD _ _) hS rfl rc_at11 (rc_set11 (61 * r + i) 0) (by omega) (by decide) dX1_repair_64 (fun H locs hP hS => ?_)
        have hP : va_P D vwCl (rc a cI cL (mrI (u2 I 20 0 0) r (i + 1)) J) H := hP
        refine lv_iinc (v := (nI (61 * r + (i + 1)))) (lv' := [(3, .int (nI (61 * r + (i + 1)))), (2, .int (mrA (u2 I 20 0 0) r (i + 1))), (0, .ref (a 0)), (1, .int (nI r))]) hx hb dX1_repair_65 hl (k := 3) rfl (nI_inc (61 * r + i)) (by decide) rfl (fun ls hl => ?_)
        refine lv_goto (tgt := 28) hx hb dX1_repair_68 (by decide) ?_
        exact ih_i () H locs ls (by omega) ⟨hP, hS, lv_sub hl [2, 3, 1, 0] rfl⟩
set_option maxHeartbeats 4000000 in
set_option maxRecDepth 100000 in
theorem r_pipes (l : Launch) (D : va_G) (a : Nat → Nat) (cI cL : ClassId) (I : Nat → Nat → Int32) (J : Nat → Nat → Int64) (hman : okM I) : Met l yX1_pipes wsX1_pipes ({ frames := 3, cells := 0, slots := 0, locals := 73 } : Room) (va_Pc [.ref (a 0)] (mB D (rty cI cL) (rc a cI cL I J))) (mQi D (rc a cI cL I J) (rc a cI cL (tI I 0) (fnJ (tI I 0) J)) (csM (fnJ (tI I 0) J) 6)) 0 0 (wA (rc a cI cL I J)) := by
  refine Met.ofW (cc := cX1_pipes) (maxL := 1) (ret := (some .int)) (by decide) rfl ?_
  intro p e s m args below meth c s₁ B hml hv
  obtain ⟨rfl, hP, hK, hD0⟩ := hv
  have hx := B.exec
  have hb := B.bytes
  have hr := B.returns
  have hts := atoms_spec (ws := wsX1_pipes) B.pre
  have hown : s.vm.findClass RX1 = some m.cls := findClass_of_methodNamed B.named
  have hlocks := B.notSynchronized
  have hin0 : ∀ w ∈ u_ws RX1 TX1 16, w ∈ wsX1_pipes := by decide +kernel
  have hD := rc_D (wA_D hD0)
  have hS : va_S (wA (rc a cI cL I J)) s.heap s.heap [] := va_S.rf
  have hl := lv_entry ([.ref (a 0)]) (n := 1) (Nat.le_of_ble_eq_true rfl)
  rw [lg_entry_eq]
  generalize (lg_sl ([.ref (a 0)]) ++ List.replicate (1 - (lg_sl ([.ref (a 0)])).length) Slot.unset).toArray = ls at hl ⊢
  have hl : lv_has ls 1 [(0, .ref (a 0))] := hl
  refine lv_aload_n hx hb dX1_pipes_0 rfl (lv_at hl 0 rfl) ?_
  refine lv_iconst (v := 0) hx hb dX1_pipes_1 (by decide) ?_
  refine r_put hx hb hts hin0 hown hK hP (hD _ _) hS rc_at0 0 (by decide) (hts (.fieldLink RX1 54 "OrganBuilderModel" "thrown" "I") (by decide +kernel)) rfl (by decide +kernel) (by exact Nat.le_of_ble_eq_true rfl) (rc_putt 0) dX1_pipes_2 (fun H locs hP hS => ?_)
  refine lv_aload_n hx hb dX1_pipes_5 rfl (lv_at hl 0 rfl) ?_
  refine w_mVi (As := []) (rest := []) ⟨hx, hb, hml, hown, hts⟩ (r_soundingNow l D a cI cL (u2 I 20 0 0) J hman) (cwV 0 hts gX1_pipes_X1_soundingNow rfl rfl rfl (by decide +kernel) ⟨Nat.le_of_ble_eq_true rfl, Nat.le_of_ble_eq_true rfl⟩) hK hP (hD _ _) hS rfl rfl rc_at0 rfl hl.1 rfl (Nat.le_of_ble_eq_true rfl) dX1_pipes_6 ⟨Nat.le_of_ble_eq_true rfl, Nat.le_of_ble_eq_true rfl⟩ (fun H locs hP hS => ?_)
  exact e_mi hx hb hr rfl hlocks hP hS (rfl) (rfl) dX1_pipes_9
set_option maxHeartbeats 4000000 in
set_option maxRecDepth 100000 in
theorem r_need (l : Launch) (D : va_G) (a : Nat → Nat) (cI cL : ClassId) (I : Nat → Nat → Int32) (J : Nat → Nat → Int64) (hman : okM I) : Met l yX1_need wsX1_need ({ frames := 2, cells := 0, slots := 0, locals := 50 } : Room) (va_Pc [.ref (a 0)] (mB D (rty cI cL) (rc a cI cL I J))) (mQi D (rc a cI cL I J) (rc a cI cL (tI I 0) (fnJ (tI I 0) J)) (fnN (tI I 0) J)) 0 0 (wA (rc a cI cL I J)) := by
  refine Met.ofW (cc := cX1_need) (maxL := 1) (ret := (some .int)) (by decide) rfl ?_
  intro p e s m args below meth c s₁ B hml hv
  obtain ⟨rfl, hP, hK, hD0⟩ := hv
  have hx := B.exec
  have hb := B.bytes
  have hr := B.returns
  have hts := atoms_spec (ws := wsX1_need) B.pre
  have hown : s.vm.findClass RX1 = some m.cls := findClass_of_methodNamed B.named
  have hlocks := B.notSynchronized
  have hin0 : ∀ w ∈ u_ws RX1 TX1 16, w ∈ wsX1_need := by decide +kernel
  have hD := rc_D (wA_D hD0)
  have hS : va_S (wA (rc a cI cL I J)) s.heap s.heap [] := va_S.rf
  have hl := lv_entry ([.ref (a 0)]) (n := 1) (Nat.le_of_ble_eq_true rfl)
  rw [lg_entry_eq]
  generalize (lg_sl ([.ref (a 0)]) ++ List.replicate (1 - (lg_sl ([.ref (a 0)])).length) Slot.unset).toArray = ls at hl ⊢
  have hl : lv_has ls 1 [(0, .ref (a 0))] := hl
  refine lv_aload_n hx hb dX1_need_0 rfl (lv_at hl 0 rfl) ?_
  refine lv_iconst (v := 0) hx hb dX1_need_1 (by decide) ?_
  refine r_put hx hb hts hin0 hown hK hP (hD _ _) hS rc_at0 0 (by decide) (hts (.fieldLink RX1 54 "OrganBuilderModel" "thrown" "I") (by decide +kernel)) rfl (by decide +kernel) (by exact Nat.le_of_ble_eq_true rfl) (rc_putt 0) dX1_need_2 (fun H locs hP hS => ?_)
  refine lv_aload_n hx hb dX1_need_5 rfl (lv_at hl 0 rfl) ?_
  refine w_mVi (As := []) (rest := []) ⟨hx, hb, hml, hown, hts⟩ (r_finds l D a cI cL (u2 I 20 0 0) J hman) (cwV 0 hts gX1_need_X1_finds rfl rfl rfl (by decide +kernel) ⟨Nat.le_of_ble_eq_true rfl, Nat.le_of_ble_eq_true rfl⟩) hK hP (hD _ _) hS rfl rfl rc_at0 rfl hl.1 rfl (Nat.le_of_ble_eq_true rfl) dX1_need_6 ⟨Nat.le_of_ble_eq_true rfl, Nat.le_of_ble_eq_true rfl⟩ (fun H locs hP hS => ?_)
  exact e_mi hx hb hr rfl hlocks hP hS (rfl) (rfl) dX1_need_9
set_option maxHeartbeats 4000000 in
set_option maxRecDepth 100000 in
theorem r_sagStep (l : Launch) (D : va_G) (a : Nat → Nat) (cI cL : ClassId) (I : Nat → Nat → Int32) (J : Nat → Nat → Int64) (hman : okM I) (hsp : ¬ I 20 2 = 0) : Met l yX1_sagStep wsX1_sagStep ({ frames := 2, cells := 0, slots := 0, locals := 50 } : Room) (va_Pc [.ref (a 0)] (mB D (rty cI cL) (rc a cI cL I J))) (mQi D (rc a cI cL I J) (rc a cI cL (tI I 0) (fnJ (tI I 0) J)) (mst (fnN (tI I 0) J) (I 20 2))) 0 0 (wA (rc a cI cL I J)) := by
  refine Met.ofW (cc := cX1_sagStep) (maxL := 1) (ret := (some .int)) (by decide) rfl ?_
  intro p e s m args below meth c s₁ B hml hv
  obtain ⟨rfl, hP, hK, hD0⟩ := hv
  have hx := B.exec
  have hb := B.bytes
  have hr := B.returns
  have hts := atoms_spec (ws := wsX1_sagStep) B.pre
  have hown : s.vm.findClass RX1 = some m.cls := findClass_of_methodNamed B.named
  have hlocks := B.notSynchronized
  have hin0 : ∀ w ∈ u_ws RX1 TX1 16, w ∈ wsX1_sagStep := by decide +kernel
  have hD := rc_D (wA_D hD0)
  have hS : va_S (wA (rc a cI cL I J)) s.heap s.heap [] := va_S.rf
  have hl := lv_entry ([.ref (a 0)]) (n := 1) (Nat.le_of_ble_eq_true rfl)
  rw [lg_entry_eq]
  generalize (lg_sl ([.ref (a 0)]) ++ List.replicate (1 - (lg_sl ([.ref (a 0)])).length) Slot.unset).toArray = ls at hl ⊢
  have hl : lv_has ls 1 [(0, .ref (a 0))] := hl
  refine lv_aload_n hx hb dX1_sagStep_0 rfl (lv_at hl 0 rfl) ?_
  refine lv_iconst (v := 0) hx hb dX1_sagStep_1 (by decide) ?_
  refine r_put hx hb hts hin0 hown hK hP (hD _ _) hS rc_at0 0 (by decide) (hts (.fieldLink RX1 54 "OrganBuilderModel" "thrown" "I") (by decide +kernel)) rfl (by decide +kernel) (by exact Nat.le_of_ble_eq_true rfl) (rc_putt 0) dX1_sagStep_2 (fun H locs hP hS => ?_)
  refine lv_aload_n hx hb dX1_sagStep_5 rfl (lv_at hl 0 rfl) ?_
  refine lv_aload_n hx hb dX1_sagStep_6 rfl (lv_at hl 0 rfl) ?_
  refine w_mVi (As := []) (rest := [.ref (a 0)]) ⟨hx, hb, hml, hown, hts⟩ (r_finds l D a cI cL (u2 I 20 0 0) J hman) (cwV 0 hts gX1_sagStep_X1_finds rfl rfl rfl (by decide +kernel) ⟨Nat.le_of_ble_eq_true rfl, Nat.le_of_ble_eq_true rfl⟩) hK hP (hD _ _) hS rfl rfl rc_at0 rfl hl.1 rfl (Nat.le_of_ble_eq_true rfl) dX1_sagStep_7 ⟨Nat.le_of_ble_eq_true rfl, Nat.le_of_ble_eq_true rfl⟩ (fun H locs hP hS => ?_)
  refine w_pV (As := [.int (fnN (u2 I 20 0 0) J)]) (rest := []) ⟨hx, hb, hml, hown, hts⟩ (r_stepOf l D a cI cL (u2 I 20 0 0) (fnJ (u2 I 20 0 0) J) (fnN (u2 I 20 0 0) J) hsp) (cwV 1 hts gX1_sagStep_X1_stepOf rfl rfl rfl (by decide +kernel) ⟨Nat.le_of_ble_eq_true rfl, Nat.le_of_ble_eq_true rfl⟩) hK hP rfl rfl rc_at0 rfl hl.1 rfl (Nat.le_of_ble_eq_true rfl) dX1_sagStep_10 ⟨Nat.le_of_ble_eq_true rfl, Nat.le_of_ble_eq_true rfl⟩ ?_
  exact e_mi hx hb hr rfl hlocks hP hS (rfl) (rfl) dX1_sagStep_13
set_option maxHeartbeats 4000000 in
set_option maxRecDepth 100000 in
theorem r_sounds (l : Launch) (D : va_G) (a : Nat → Nat) (cI cL : ClassId) (I : Nat → Nat → Int32) (J : Nat → Nat → Int64) (p1 p2 : Int32) (hman : okM I) : Met l yX1_sounds wsX1_sounds ({ frames := 2, cells := 0, slots := 0, locals := 50 } : Room) (va_Pc [.ref (a 0), .int p1, .int p2] (mB D (rty cI cL) (rc a cI cL I J))) (mQi D (rc a cI cL I J) (rc a cI cL (tI I (kRK p1 p2)) (rSdsJ I J p1 p2)) (aSds I J p1 p2)) 0 0 (wA (rc a cI cL I J)) := by
  refine Met.ofW (cc := cX1_sounds) (maxL := 4) (ret := (some .boolean)) (by decide) rfl ?_
  intro p e s m args below meth c s₁ B hml hv
  obtain ⟨rfl, hP, hK, hD0⟩ := hv
  have hx := B.exec
  have hb := B.bytes
  have hr := B.returns
  have hts := atoms_spec (ws := wsX1_sounds) B.pre
  have hown : s.vm.findClass RX1 = some m.cls := findClass_of_methodNamed B.named
  have hlocks := B.notSynchronized
  have hin0 : ∀ w ∈ u_ws RX1 TX1 16, w ∈ wsX1_sounds := by decide +kernel
  have hD := rc_D (wA_D hD0)
  have hS : va_S (wA (rc a cI cL I J)) s.heap s.heap [] := va_S.rf
  have hl := lv_entry ([.ref (a 0), .int p1, .int p2]) (n := 4) (Nat.le_of_ble_eq_true rfl)
  rw [lg_entry_eq]
  generalize (lg_sl ([.ref (a 0), .int p1, .int p2]) ++ List.replicate (4 - (lg_sl ([.ref (a 0), .int p1, .int p2])).length) Slot.unset).toArray = ls at hl ⊢
  have hl : lv_has ls 4 [(0, .ref (a 0)), (1, .int p1), (2, .int p2)] := hl
  refine lv_aload_n hx hb dX1_sounds_0 rfl (lv_at hl 0 rfl) ?_
  refine lv_iload_n hx hb dX1_sounds_1 rfl (lv_at hl 1 rfl) ?_
  refine w_pS (As := [.int p1]) (rest := [.ref (a 0)]) ⟨hx, hb, hml, hown, hts⟩ (r_isRank l p1) (va_cwS 1 hts gX1_sounds_X1_isRank rfl rfl rfl (by decide +kernel) ⟨Nat.le_of_ble_eq_true rfl, Nat.le_of_ble_eq_true rfl⟩) rfl hl.1 rfl (Nat.le_of_ble_eq_true rfl) dX1_sounds_2 ⟨Nat.le_of_ble_eq_true rfl, Nat.le_of_ble_eq_true rfl⟩ ?_
  refine lv_if_eq (tgt := 19) hx hb dX1_sounds_5 (by decide) (fun c_5 => ?_) (fun c_5 => ?_)
  · have d_5 := bI_eq0 c_5
    refine lv_iconst (v := 1) hx hb dX1_sounds_19 (by decide) ?_
    refine w_mVi (As := [.int 1]) (rest := []) ⟨hx, hb, hml, hown, hts⟩ (r_isFine l D a cI cL I J 1) (cwV 1 hts gX1_sounds_X1_isFine rfl rfl rfl (by decide +kernel) ⟨Nat.le_of_ble_eq_true rfl, Nat.le_of_ble_eq_true rfl⟩) hK hP (hD _ _) hS rfl rfl rc_at0 rfl hl.1 rfl (Nat.le_of_ble_eq_true rfl) dX1_sounds_20 ⟨Nat.le_of_ble_eq_true rfl, Nat.le_of_ble_eq_true rfl⟩ (fun H locs hP hS => ?_)
    refine lv_asi 0 (by decide) ?_
    refine lv_if_ne (tgt := 28) hx hb dX1_sounds_23 (by decide) (fun c_23 => (absurd c_23 (by decide))) (fun c_23 => ?_)
    refine lv_iconst (v := 0) hx hb dX1_sounds_26 (by decide) ?_
    exact e_mi hx hb hr rfl hlocks hP hS (by simp [rSdsJ, kRK, d_5]) (by simp [aSds, kRK, d_5]) dX1_sounds_27
  · have d_5 := bI_ne0 c_5
    refine lv_iload_n hx hb dX1_sounds_8 rfl (lv_at hl 2 rfl) ?_
    refine w_pS (As := [.int p2]) (rest := [.ref (a 0)]) ⟨hx, hb, hml, hown, hts⟩ (r_isKey l p2) (va_cwS 1 hts gX1_sounds_X1_isKey rfl rfl rfl (by decide +kernel) ⟨Nat.le_of_ble_eq_true rfl, Nat.le_of_ble_eq_true rfl⟩) rfl hl.1 rfl (Nat.le_of_ble_eq_true rfl) dX1_sounds_9 ⟨Nat.le_of_ble_eq_true rfl, Nat.le_of_ble_eq_true rfl⟩ ?_
    refine lv_if_eq (tgt := 19) hx hb dX1_sounds_12 (by decide) (fun c_12 => ?_) (fun c_12 => ?_)
    · have d_12 := bI_eq0 c_12
      refine lv_iconst (v := 1) hx hb dX1_sounds_19 (by decide) ?_
      refine w_mVi (As := [.int 1]) (rest := []) ⟨hx, hb, hml, hown, hts⟩ (r_isFine l D a cI cL I J 1) (cwV 1 hts gX1_sounds_X1_isFine rfl rfl rfl (by decide +kernel) ⟨Nat.le_of_ble_eq_true rfl, Nat.le_of_ble_eq_true rfl⟩) hK hP (hD _ _) hS rfl rfl rc_at0 rfl hl.1 rfl (Nat.le_of_ble_eq_true rfl) dX1_sounds_20 ⟨Nat.le_of_ble_eq_true rfl, Nat.le_of_ble_eq_true rfl⟩ (fun H locs hP hS => ?_)
      refine lv_asi 0 (by decide) ?_
      refine lv_if_ne (tgt := 28) hx hb dX1_sounds_23 (by decide) (fun c_23 => (absurd c_23 (by decide))) (fun c_23 => ?_)
      refine lv_iconst (v := 0) hx hb dX1_sounds_26 (by decide) ?_
      exact e_mi hx hb hr rfl hlocks hP hS (by simp [rSdsJ, kRK, d_5, d_12]) (by simp [aSds, kRK, d_5, d_12]) dX1_sounds_27
    · have d_12 := bI_ne0 c_12
      refine lv_iconst (v := 0) hx hb dX1_sounds_15 (by decide) ?_
      refine lv_goto (tgt := 20) hx hb dX1_sounds_16 (by decide) ?_
      refine w_mVi (As := [.int 0]) (rest := []) ⟨hx, hb, hml, hown, hts⟩ (r_isFine l D a cI cL I J 0) (cwV 1 hts gX1_sounds_X1_isFine rfl rfl rfl (by decide +kernel) ⟨Nat.le_of_ble_eq_true rfl, Nat.le_of_ble_eq_true rfl⟩) hK hP (hD _ _) hS rfl rfl rc_at0 rfl hl.1 rfl (Nat.le_of_ble_eq_true rfl) dX1_sounds_20 ⟨Nat.le_of_ble_eq_true rfl, Nat.le_of_ble_eq_true rfl⟩ (fun H locs hP hS => ?_)
      refine lv_asi 1 (by decide) ?_
      refine lv_if_ne (tgt := 28) hx hb dX1_sounds_23 (by decide) (fun c_23 => ?_) (fun c_23 => (absurd c_23 (by decide)))
      obtain ⟨r, br, rfl⟩ := rg_nat (n := 5) d_5 (by decide)
      refine lv_aload_n hx hb dX1_sounds_28 rfl (lv_at hl 0 rfl) ?_
      refine w_mVi (As := []) (rest := []) ⟨hx, hb, hml, hown, hts⟩ (r_finds l D a cI cL (u2 I 20 0 0) J hman) (cwV 0 hts gX1_sounds_X1_finds rfl rfl rfl (by decide +kernel) ⟨Nat.le_of_ble_eq_true rfl, Nat.le_of_ble_eq_true rfl⟩) hK hP (hD _ _) hS rfl rfl rc_at0 rfl hl.1 rfl (Nat.le_of_ble_eq_true rfl) dX1_sounds_29 ⟨Nat.le_of_ble_eq_true rfl, Nat.le_of_ble_eq_true rfl⟩ (fun H locs hP hS => ?_)
      refine lv_istore_n (lv' := [(3, .int (fnN (u2 I 20 0 0) J)), (0, .ref (a 0)), (1, .int (nI r)), (2, .int p2)]) hx hb dX1_sounds_32 rfl hl (by decide) rfl (fun ls hl => ?_)
      refine lv_aload_n hx hb dX1_sounds_33 rfl (lv_at hl 1 rfl) ?_
      refine r_get (v := .ref (a 13)) hx hb hts hin0 hown hK hP rc_at0 15 (by decide) (hts (.fieldLink RX1 51 "OrganBuilderModel" "sounding" "[J") (by decide +kernel)) rfl dX1_sounds_34 ?_
      refine lv_iload_n hx hb dX1_sounds_37 rfl (lv_at hl 2 rfl) ?_
      refine w_lld hx hb hK hP rfl rc_at13 (by omega) (by decide) dX1_sounds_38 ?_
      refine lv_iload_n hx hb dX1_sounds_39 rfl (lv_at hl 3 rfl) ?_
      refine w_pS (As := [.long ((fnJ (u2 I 20 0 0) J) 2 r), .int p2]) (rest := []) ⟨hx, hb, hml, hown, hts⟩ (r_has l ((fnJ (u2 I 20 0 0) J) 2 r) p2) (va_cwS 2 hts gX1_sounds_X1_has rfl rfl rfl (by decide +kernel) ⟨Nat.le_of_ble_eq_true rfl, Nat.le_of_ble_eq_true rfl⟩) rfl hl.1 rfl (Nat.le_of_ble_eq_true rfl) dX1_sounds_40 ⟨Nat.le_of_ble_eq_true rfl, Nat.le_of_ble_eq_true rfl⟩ ?_
      exact e_mi hx hb hr (nar_bI _) hlocks hP hS (by rw [rSdsJ, if_pos (show kRK (nI r) p2 = 0 by simp [kRK, d_5, d_12]), show kRK (nI r) p2 = 0 by simp [kRK, d_5, d_12]]) (by rw [aSds, if_pos (show kRK (nI r) p2 = 0 by simp [kRK, d_5, d_12]), nI_clamp (show r < 2 ^ 31 by omega)]) dX1_sounds_43
set_option maxHeartbeats 4000000 in
set_option maxRecDepth 100000 in
theorem r_pitch (l : Launch) (D : va_G) (a : Nat → Nat) (cI cL : ClassId) (I : Nat → Nat → Int32) (J : Nat → Nat → Int64) (p1 p2 : Int32) (hman : okM I) (hsp : ¬ I 20 2 = 0) (st : Nat) (hst : st < 11) (est : mst (fnN I J) (I 20 2) = nI st) : Met l yX1_pitch wsX1_pitch ({ frames := 2, cells := 0, slots := 0, locals := 50 } : Room) (va_Pc [.ref (a 0), .int p1, .int p2] (mB D (rty cI cL) (rc a cI cL I J))) (mQi D (rc a cI cL I J) (rc a cI cL (tI I (qPit I J p1 p2)) (fnJ I J)) (aPit I J p1 p2)) 0 0 (wA (rc a cI cL I J)) := by
  refine Met.ofW (cc := cX1_pitch) (maxL := 5) (ret := (some .int)) (by decide) rfl ?_
  intro p e s m args below meth c s₁ B hml hv
  obtain ⟨rfl, hP, hK, hD0⟩ := hv
  have hx := B.exec
  have hb := B.bytes
  have hr := B.returns
  have hts := atoms_spec (ws := wsX1_pitch) B.pre
  have hown : s.vm.findClass RX1 = some m.cls := findClass_of_methodNamed B.named
  have hlocks := B.notSynchronized
  have hin0 : ∀ w ∈ u_ws RX1 TX1 16, w ∈ wsX1_pitch := by decide +kernel
  have hD := rc_D (wA_D hD0)
  have hS : va_S (wA (rc a cI cL I J)) s.heap s.heap [] := va_S.rf
  have hl := lv_entry ([.ref (a 0), .int p1, .int p2]) (n := 5) (Nat.le_of_ble_eq_true rfl)
  rw [lg_entry_eq]
  generalize (lg_sl ([.ref (a 0), .int p1, .int p2]) ++ List.replicate (5 - (lg_sl ([.ref (a 0), .int p1, .int p2])).length) Slot.unset).toArray = ls at hl ⊢
  have hl : lv_has ls 5 [(0, .ref (a 0)), (1, .int p1), (2, .int p2)] := hl
  refine lv_iload_n hx hb dX1_pitch_0 rfl (lv_at hl 1 rfl) ?_
  refine w_pS (As := [.int p1]) (rest := []) ⟨hx, hb, hml, hown, hts⟩ (r_isRank l p1) (va_cwS 1 hts gX1_pitch_X1_isRank rfl rfl rfl (by decide +kernel) ⟨Nat.le_of_ble_eq_true rfl, Nat.le_of_ble_eq_true rfl⟩) rfl hl.1 rfl (Nat.le_of_ble_eq_true rfl) dX1_pitch_1 ⟨Nat.le_of_ble_eq_true rfl, Nat.le_of_ble_eq_true rfl⟩ ?_
  refine lv_if_eq (tgt := 18) hx hb dX1_pitch_4 (by decide) (fun c_4 => ?_) (fun c_4 => ?_)
  · have d_4 := bI_eq0 c_4
    refine lv_iconst (v := 0) hx hb dX1_pitch_18 (by decide) ?_
    refine lv_istore_n (lv' := [(3, .int 0), (0, .ref (a 0)), (1, .int p1), (2, .int p2)]) hx hb dX1_pitch_19 rfl hl (by decide) rfl (fun ls hl => ?_)
    refine lv_aload_n hx hb dX1_pitch_20 rfl (lv_at hl 1 rfl) ?_
    refine w_mVi (As := []) (rest := []) ⟨hx, hb, hml, hown, hts⟩ (r_finds l D a cI cL I J hman) (cwV 0 hts gX1_pitch_X1_finds rfl rfl rfl (by decide +kernel) ⟨Nat.le_of_ble_eq_true rfl, Nat.le_of_ble_eq_true rfl⟩) hK hP (hD _ _) hS rfl rfl rc_at0 rfl hl.1 rfl (Nat.le_of_ble_eq_true rfl) dX1_pitch_21 ⟨Nat.le_of_ble_eq_true rfl, Nat.le_of_ble_eq_true rfl⟩ (fun H locs hP hS => ?_)
    refine lv_istore (lv' := [(4, .int (fnN I J)), (3, .int 0), (0, .ref (a 0)), (1, .int p1), (2, .int p2)]) hx hb dX1_pitch_24 hl (by decide) rfl (fun ls hl => ?_)
    refine lv_aload_n hx hb dX1_pitch_26 rfl (lv_at hl 2 rfl) ?_
    refine lv_iload_n hx hb dX1_pitch_27 rfl (lv_at hl 1 rfl) ?_
    refine lv_if_ne (tgt := 35) hx hb dX1_pitch_28 (by decide) (fun c_28 => (absurd c_28 (by decide))) (fun c_28 => ?_)
    refine lv_iconst (v := 1) hx hb dX1_pitch_31 (by decide) ?_
    refine lv_goto (tgt := 53) hx hb dX1_pitch_32 (by decide) ?_
    refine w_mVi (As := [.int 1]) (rest := []) ⟨hx, hb, hml, hown, hts⟩ (r_isFine l D a cI cL I (fnJ I J) 1) (cwV 1 hts gX1_pitch_X1_isFine rfl rfl rfl (by decide +kernel) ⟨Nat.le_of_ble_eq_true rfl, Nat.le_of_ble_eq_true rfl⟩) hK hP (hD _ _) hS rfl rfl rc_at0 rfl hl.1 rfl (Nat.le_of_ble_eq_true rfl) dX1_pitch_53 ⟨Nat.le_of_ble_eq_true rfl, Nat.le_of_ble_eq_true rfl⟩ (fun H locs hP hS => ?_)
    refine lv_asi 0 (by decide) ?_
    refine lv_if_eq (tgt := 74) hx hb dX1_pitch_56 (by decide) (fun c_56 => ?_) (fun c_56 => (absurd c_56 (by decide)))
    refine lv_iconst (v := 0) hx hb dX1_pitch_74 (by decide) ?_
    exact e_mi hx hb hr rfl hlocks hP hS (by simp [qPit, d_4]) (by simp [aPit, qPit, d_4]) dX1_pitch_75
  · have d_4 := bI_ne0 c_4
    refine lv_iload_n hx hb dX1_pitch_7 rfl (lv_at hl 2 rfl) ?_
    refine w_pS (As := [.int p2]) (rest := []) ⟨hx, hb, hml, hown, hts⟩ (r_isKey l p2) (va_cwS 1 hts gX1_pitch_X1_isKey rfl rfl rfl (by decide +kernel) ⟨Nat.le_of_ble_eq_true rfl, Nat.le_of_ble_eq_true rfl⟩) rfl hl.1 rfl (Nat.le_of_ble_eq_true rfl) dX1_pitch_8 ⟨Nat.le_of_ble_eq_true rfl, Nat.le_of_ble_eq_true rfl⟩ ?_
    refine lv_if_eq (tgt := 18) hx hb dX1_pitch_11 (by decide) (fun c_11 => ?_) (fun c_11 => ?_)
    · have d_11 := bI_eq0 c_11
      refine lv_iconst (v := 0) hx hb dX1_pitch_18 (by decide) ?_
      refine lv_istore_n (lv' := [(3, .int 0), (0, .ref (a 0)), (1, .int p1), (2, .int p2)]) hx hb dX1_pitch_19 rfl hl (by decide) rfl (fun ls hl => ?_)
      refine lv_aload_n hx hb dX1_pitch_20 rfl (lv_at hl 1 rfl) ?_
      refine w_mVi (As := []) (rest := []) ⟨hx, hb, hml, hown, hts⟩ (r_finds l D a cI cL I J hman) (cwV 0 hts gX1_pitch_X1_finds rfl rfl rfl (by decide +kernel) ⟨Nat.le_of_ble_eq_true rfl, Nat.le_of_ble_eq_true rfl⟩) hK hP (hD _ _) hS rfl rfl rc_at0 rfl hl.1 rfl (Nat.le_of_ble_eq_true rfl) dX1_pitch_21 ⟨Nat.le_of_ble_eq_true rfl, Nat.le_of_ble_eq_true rfl⟩ (fun H locs hP hS => ?_)
      refine lv_istore (lv' := [(4, .int (fnN I J)), (3, .int 0), (0, .ref (a 0)), (1, .int p1), (2, .int p2)]) hx hb dX1_pitch_24 hl (by decide) rfl (fun ls hl => ?_)
      refine lv_aload_n hx hb dX1_pitch_26 rfl (lv_at hl 2 rfl) ?_
      refine lv_iload_n hx hb dX1_pitch_27 rfl (lv_at hl 1 rfl) ?_
      refine lv_if_ne (tgt := 35) hx hb dX1_pitch_28 (by decide) (fun c_28 => (absurd c_28 (by decide))) (fun c_28 => ?_)
      refine lv_iconst (v := 1) hx hb dX1_pitch_31 (by decide) ?_
      refine lv_goto (tgt := 53) hx hb dX1_pitch_32 (by decide) ?_
      refine w_mVi (As := [.int 1]) (rest := []) ⟨hx, hb, hml, hown, hts⟩ (r_isFine l D a cI cL I (fnJ I J) 1) (cwV 1 hts gX1_pitch_X1_isFine rfl rfl rfl (by decide +kernel) ⟨Nat.le_of_ble_eq_true rfl, Nat.le_of_ble_eq_true rfl⟩) hK hP (hD _ _) hS rfl rfl rc_at0 rfl hl.1 rfl (Nat.le_of_ble_eq_true rfl) dX1_pitch_53 ⟨Nat.le_of_ble_eq_true rfl, Nat.le_of_ble_eq_true rfl⟩ (fun H locs hP hS => ?_)
      refine lv_asi 0 (by decide) ?_
      refine lv_if_eq (tgt := 74) hx hb dX1_pitch_56 (by decide) (fun c_56 => ?_) (fun c_56 => (absurd c_56 (by decide)))
      refine lv_iconst (v := 0) hx hb dX1_pitch_74 (by decide) ?_
      exact e_mi hx hb hr rfl hlocks hP hS (by simp [qPit, d_4, d_11]) (by simp [aPit, qPit, d_4, d_11]) dX1_pitch_75
    · have d_11 := bI_ne0 c_11
      refine lv_iconst (v := 1) hx hb dX1_pitch_14 (by decide) ?_
      refine lv_goto (tgt := 19) hx hb dX1_pitch_15 (by decide) ?_
      refine lv_istore_n (lv' := [(3, .int 1), (0, .ref (a 0)), (1, .int p1), (2, .int p2)]) hx hb dX1_pitch_19 rfl hl (by decide) rfl (fun ls hl => ?_)
      refine lv_aload_n hx hb dX1_pitch_20 rfl (lv_at hl 1 rfl) ?_
      refine w_mVi (As := []) (rest := []) ⟨hx, hb, hml, hown, hts⟩ (r_finds l D a cI cL I J hman) (cwV 0 hts gX1_pitch_X1_finds rfl rfl rfl (by decide +kernel) ⟨Nat.le_of_ble_eq_true rfl, Nat.le_of_ble_eq_true rfl⟩) hK hP (hD _ _) hS rfl rfl rc_at0 rfl hl.1 rfl (Nat.le_of_ble_eq_true rfl) dX1_pitch_21 ⟨Nat.le_of_ble_eq_true rfl, Nat.le_of_ble_eq_true rfl⟩ (fun H locs hP hS => ?_)
      refine lv_istore (lv' := [(4, .int (fnN I J)), (3, .int 1), (0, .ref (a 0)), (1, .int p1), (2, .int p2)]) hx hb dX1_pitch_24 hl (by decide) rfl (fun ls hl => ?_)
      refine lv_aload_n hx hb dX1_pitch_26 rfl (lv_at hl 2 rfl) ?_
      refine lv_iload_n hx hb dX1_pitch_27 rfl (lv_at hl 1 rfl) ?_
      refine lv_if_ne (tgt := 35) hx hb dX1_pitch_28 (by decide) (fun c_28 => ?_) (fun c_28 => (absurd c_28 (by decide)))
      obtain ⟨r, br, rfl⟩ := rg_nat (n := 5) d_4 (by decide)
      obtain ⟨k, bk, rfl⟩ := rg_nat (n := 60) d_11 (by decide)
      refine lv_aload_n hx hb dX1_pitch_35 rfl (lv_at hl 2 rfl) ?_
      refine r_get (v := .ref (a 13)) hx hb hts hin0 hown hK hP rc_at0 15 (by decide) (hts (.fieldLink RX1 51 "OrganBuilderModel" "sounding" "[J") (by decide +kernel)) rfl dX1_pitch_36 ?_
      refine lv_iload_n hx hb dX1_pitch_39 rfl (lv_at hl 3 rfl) ?_
      refine w_lld hx hb hK hP rfl rc_at13 (by omega) (by decide) dX1_pitch_40 ?_
      refine lv_iload_n hx hb dX1_pitch_41 rfl (lv_at hl 4 rfl) ?_
      refine w_pS (As := [.long ((fnJ I J) 2 r), .int (nI k)]) (rest := [.ref (a 0)]) ⟨hx, hb, hml, hown, hts⟩ (r_has l ((fnJ I J) 2 r) (nI k)) (va_cwS 2 hts gX1_pitch_X1_has rfl rfl rfl (by decide +kernel) ⟨Nat.le_of_ble_eq_true rfl, Nat.le_of_ble_eq_true rfl⟩) rfl hl.1 rfl (Nat.le_of_ble_eq_true rfl) dX1_pitch_42 ⟨Nat.le_of_ble_eq_true rfl, Nat.le_of_ble_eq_true rfl⟩ ?_
      refine lv_if_ne (tgt := 52) hx hb dX1_pitch_45 (by decide) (fun c_45 => ?_) (fun c_45 => ?_)
      · have d_45 := bI_ne0 c_45
        refine lv_iconst (v := 0) hx hb dX1_pitch_52 (by decide) ?_
        refine w_mVi (As := [.int 0]) (rest := []) ⟨hx, hb, hml, hown, hts⟩ (r_isFine l D a cI cL I (fnJ I J) 0) (cwV 1 hts gX1_pitch_X1_isFine rfl rfl rfl (by decide +kernel) ⟨Nat.le_of_ble_eq_true rfl, Nat.le_of_ble_eq_true rfl⟩) hK hP (hD _ _) hS rfl rfl rc_at0 rfl hl.1 rfl (Nat.le_of_ble_eq_true rfl) dX1_pitch_53 ⟨Nat.le_of_ble_eq_true rfl, Nat.le_of_ble_eq_true rfl⟩ (fun H locs hP hS => ?_)
        refine lv_asi 1 (by decide) ?_
        refine lv_if_eq (tgt := 74) hx hb dX1_pitch_56 (by decide) (fun c_56 => (absurd c_56 (by decide))) (fun c_56 => ?_)
        refine lv_aload_n hx hb dX1_pitch_59 rfl (lv_at hl 2 rfl) ?_
        refine lv_iload_n hx hb dX1_pitch_60 rfl (lv_at hl 3 rfl) ?_
        refine lv_iload_n hx hb dX1_pitch_61 rfl (lv_at hl 4 rfl) ?_
        refine lv_aload_n hx hb dX1_pitch_62 rfl (lv_at hl 2 rfl) ?_
        refine lv_iload hx hb dX1_pitch_63 (lv_at hl 0 rfl) ?_
        refine w_pV (As := [.int (fnN I J)]) (rest := [.int (nI k), .int (nI r), .ref (a 0)]) ⟨hx, hb, hml, hown, hts⟩ (r_stepOf l D a cI cL (u2 I 20 0 0) (fnJ I J) (fnN I J) hsp) (cwV 1 hts gX1_pitch_X1_stepOf rfl rfl rfl (by decide +kernel) ⟨Nat.le_of_ble_eq_true rfl, Nat.le_of_ble_eq_true rfl⟩) hK hP rfl rfl rc_at0 rfl hl.1 rfl (Nat.le_of_ble_eq_true rfl) dX1_pitch_65 ⟨Nat.le_of_ble_eq_true rfl, Nat.le_of_ble_eq_true rfl⟩ ?_
        have e9 : mst (fnN I J) (I 20 2) = nI st := est
        refine lv_asi (nI st) (est) ?_
        refine w_pV (As := [.int (nI r), .int (nI k), .int (nI st)]) (rest := []) ⟨hx, hb, hml, hown, hts⟩ (r_pitchOf l D a cI cL (u2 I 20 0 0) (fnJ I J) r k st (by omega) (by omega) (by omega)) (cwV 3 hts gX1_pitch_X1_pitchOf rfl rfl rfl (by decide +kernel) ⟨Nat.le_of_ble_eq_true rfl, Nat.le_of_ble_eq_true rfl⟩) hK hP rfl rfl rc_at0 rfl hl.1 rfl (Nat.le_of_ble_eq_true rfl) dX1_pitch_68 ⟨Nat.le_of_ble_eq_true rfl, Nat.le_of_ble_eq_true rfl⟩ ?_
        refine lv_goto (tgt := 75) hx hb dX1_pitch_71 (by decide) ?_
        exact e_mi hx hb hr rfl hlocks hP hS (by rw [show qPit I J (nI r) (nI k) = 0 by simp [qPit, d_4, d_11, nI_clamp (show r < 2 ^ 31 by omega), nI_clamp (show k < 2 ^ 31 by omega), d_45]]) (by rw [aPit, if_pos (show qPit I J (nI r) (nI k) = 0 by simp [qPit, d_4, d_11, nI_clamp (show r < 2 ^ 31 by omega), nI_clamp (show k < 2 ^ 31 by omega), d_45]), nI_clamp (show r < 2 ^ 31 by omega), nI_clamp (show k < 2 ^ 31 by omega), show mst (fnN I J) ((tI I 0) 20 2) = nI st from est, nI_clamp (by omega)]) dX1_pitch_75
      · have d_45 := bI_eq0 c_45
        refine lv_iconst (v := 2) hx hb dX1_pitch_48 (by decide) ?_
        refine lv_goto (tgt := 53) hx hb dX1_pitch_49 (by decide) ?_
        refine w_mVi (As := [.int 2]) (rest := []) ⟨hx, hb, hml, hown, hts⟩ (r_isFine l D a cI cL I (fnJ I J) 2) (cwV 1 hts gX1_pitch_X1_isFine rfl rfl rfl (by decide +kernel) ⟨Nat.le_of_ble_eq_true rfl, Nat.le_of_ble_eq_true rfl⟩) hK hP (hD _ _) hS rfl rfl rc_at0 rfl hl.1 rfl (Nat.le_of_ble_eq_true rfl) dX1_pitch_53 ⟨Nat.le_of_ble_eq_true rfl, Nat.le_of_ble_eq_true rfl⟩ (fun H locs hP hS => ?_)
        refine lv_asi 0 (by decide) ?_
        refine lv_if_eq (tgt := 74) hx hb dX1_pitch_56 (by decide) (fun c_56 => ?_) (fun c_56 => (absurd c_56 (by decide)))
        refine lv_iconst (v := 0) hx hb dX1_pitch_74 (by decide) ?_
        exact e_mi hx hb hr rfl hlocks hP hS (by simp [qPit, d_4, d_11, nI_clamp (show r < 2 ^ 31 by omega), nI_clamp (show k < 2 ^ 31 by omega), d_45]) (by simp [aPit, qPit, d_4, d_11, nI_clamp (show r < 2 ^ 31 by omega), nI_clamp (show k < 2 ^ 31 by omega), d_45]) dX1_pitch_75
set_option maxHeartbeats 4000000 in
set_option maxRecDepth 100000 in
theorem r_lowest (l : Launch) (D : va_G) (a : Nat → Nat) (cI cL : ClassId) (I : Nat → Nat → Int32) (J : Nat → Nat → Int64) (hman : okM I) (hsp : ¬ I 20 2 = 0) (st : Nat) (hst : st < 11) (est : mst (fnN (tI I 0) J) (I 20 2) = nI st) : Met l yX1_lowest wsX1_lowest ({ frames := 2, cells := 0, slots := 0, locals := 50 } : Room) (va_Pc [.ref (a 0)] (mB D (rty cI cL) (rc a cI cL I J))) (mQi D (rc a cI cL I J) (rc a cI cL (tI I 0) (fnJ (tI I 0) J)) ((mlo (tI I 0) (fnJ (tI I 0) J) st 366).2)) 0 0 (wA (rc a cI cL I J)) := by
  refine Met.ofW (cc := cX1_lowest) (maxL := 6) (ret := (some .int)) (by decide) rfl ?_
  intro p e s m args below meth c s₁ B hml hv
  obtain ⟨rfl, hP, hK, hD0⟩ := hv
  have hx := B.exec
  have hb := B.bytes
  have hr := B.returns
  have hts := atoms_spec (ws := wsX1_lowest) B.pre
  have hown : s.vm.findClass RX1 = some m.cls := findClass_of_methodNamed B.named
  have hlocks := B.notSynchronized
  have hin0 : ∀ w ∈ u_ws RX1 TX1 16, w ∈ wsX1_lowest := by decide +kernel
  have hD := rc_D (wA_D hD0)
  have hS : va_S (wA (rc a cI cL I J)) s.heap s.heap [] := va_S.rf
  have hl := lv_entry ([.ref (a 0)]) (n := 6) (Nat.le_of_ble_eq_true rfl)
  rw [lg_entry_eq]
  generalize (lg_sl ([.ref (a 0)]) ++ List.replicate (6 - (lg_sl ([.ref (a 0)])).length) Slot.unset).toArray = ls at hl ⊢
  have hl : lv_has ls 6 [(0, .ref (a 0))] := hl
  refine lv_aload_n hx hb dX1_lowest_0 rfl (lv_at hl 0 rfl) ?_
  refine lv_iconst (v := 0) hx hb dX1_lowest_1 (by decide) ?_
  refine r_put hx hb hts hin0 hown hK hP (hD _ _) hS rc_at0 0 (by decide) (hts (.fieldLink RX1 54 "OrganBuilderModel" "thrown" "I") (by decide +kernel)) rfl (by decide +kernel) (by exact Nat.le_of_ble_eq_true rfl) (rc_putt 0) dX1_lowest_2 (fun H locs hP hS => ?_)
  refine lv_aload_n hx hb dX1_lowest_5 rfl (lv_at hl 0 rfl) ?_
  refine lv_aload_n hx hb dX1_lowest_6 rfl (lv_at hl 0 rfl) ?_
  refine w_mVi (As := []) (rest := [.ref (a 0)]) ⟨hx, hb, hml, hown, hts⟩ (r_finds l D a cI cL (u2 I 20 0 0) J hman) (cwV 0 hts gX1_lowest_X1_finds rfl rfl rfl (by decide +kernel) ⟨Nat.le_of_ble_eq_true rfl, Nat.le_of_ble_eq_true rfl⟩) hK hP (hD _ _) hS rfl rfl rc_at0 rfl hl.1 rfl (Nat.le_of_ble_eq_true rfl) dX1_lowest_7 ⟨Nat.le_of_ble_eq_true rfl, Nat.le_of_ble_eq_true rfl⟩ (fun H locs hP hS => ?_)
  refine w_pV (As := [.int (fnN (u2 I 20 0 0) J)]) (rest := []) ⟨hx, hb, hml, hown, hts⟩ (r_stepOf l D a cI cL (u2 I 20 0 0) (fnJ (u2 I 20 0 0) J) (fnN (u2 I 20 0 0) J) hsp) (cwV 1 hts gX1_lowest_X1_stepOf rfl rfl rfl (by decide +kernel) ⟨Nat.le_of_ble_eq_true rfl, Nat.le_of_ble_eq_true rfl⟩) hK hP rfl rfl rc_at0 rfl hl.1 rfl (Nat.le_of_ble_eq_true rfl) dX1_lowest_10 ⟨Nat.le_of_ble_eq_true rfl, Nat.le_of_ble_eq_true rfl⟩ ?_
  refine lv_asi (nI st) (est) ?_
  refine lv_istore_n (lv' := [(1, .int (nI st)), (0, .ref (a 0))]) hx hb dX1_lowest_13 rfl hl (by decide) rfl (fun ls hl => ?_)
  refine lv_iconst (v := 1) hx hb dX1_lowest_14 (by decide) ?_
  refine lv_istore_n (lv' := [(2, .int 1), (1, .int (nI st)), (0, .ref (a 0))]) hx hb dX1_lowest_15 rfl hl (by decide) rfl (fun ls hl => ?_)
  refine lv_iconst (v := 0) hx hb dX1_lowest_16 (by decide) ?_
  refine lv_istore_n (lv' := [(3, .int 0), (2, .int 1), (1, .int (nI st)), (0, .ref (a 0))]) hx hb dX1_lowest_17 rfl hl (by decide) rfl (fun ls hl => ?_)
  refine lv_iconst (v := 0) hx hb dX1_lowest_18 (by decide) ?_
  have hl : lv_has ls 6 [(3, .int 0), (2, .int (bI (mlo (u2 I 20 0 0) (fnJ (u2 I 20 0 0) J) st 0).1)), (1, .int (nI st)), (0, .ref (a 0))] := hl
  have hl : lv_has ls 6 [(3, .int ((mlo (u2 I 20 0 0) (fnJ (u2 I 20 0 0) J) st 0).2)), (2, .int (bI (mlo (u2 I 20 0 0) (fnJ (u2 I 20 0 0) J) st 0).1)), (1, .int (nI st)), (0, .ref (a 0))] := hl
  refine lv_istore (lv' := [(4, .int 0), (3, .int ((mlo (u2 I 20 0 0) (fnJ (u2 I 20 0 0) J) st 0).2)), (2, .int (bI (mlo (u2 I 20 0 0) (fnJ (u2 I 20 0 0) J) st 0).1)), (1, .int (nI st)), (0, .ref (a 0))]) hx hb dX1_lowest_19 hl (by decide) rfl (fun ls hl => ?_)
  refine W_loopH (σ := Unit) 0 366 21 (fun k _ H locs ls => va_P D vwCl (rc a cI cL (u2 I 20 0 0) (fnJ (u2 I 20 0 0) J)) H ∧ va_S (wA (rc a cI cL I J)) s.heap H locs ∧ lv_has ls 6 [(0, .ref (a 0)), (1, .int (nI st)), (2, .int (bI (mlo (u2 I 20 0 0) (fnJ (u2 I 20 0 0) J) st k).1)), (3, .int ((mlo (u2 I 20 0 0) (fnJ (u2 I 20 0 0) J) st k).2)), (4, .int (nI k))]) (fun k _ H locs ls g_k h_k hI_k ih_k => ?_) () (by decide) ⟨hP, hS, lv_sub hl [4, 3, 2, 1, 0] rfl⟩
  obtain ⟨hP, hS, hl⟩ := hI_k
  refine lv_iload hx hb dX1_lowest_21 (lv_at hl 4 rfl) ?_
  refine lv_sipush (v := 366) hx hb dX1_lowest_23 (by decide) ?_
  refine lo_ge (n := 366) (tgt := 92) hx hb rfl (by omega) (by omega) dX1_lowest_26 (by decide) (fun c_26 => ?_) (fun c_26 => ?_)
  · obtain rfl : k = 366 := by omega
    refine lv_iload_n hx hb dX1_lowest_92 rfl (lv_at hl 3 rfl) ?_
    exact e_mi hx hb hr rfl hlocks hP hS (rfl) (rfl) dX1_lowest_93
  · refine lv_aload_n hx hb dX1_lowest_29 rfl (lv_at hl 0 rfl) ?_
    refine r_get (v := .ref (a 13)) hx hb hts hin0 hown hK hP rc_at0 15 (by decide) (hts (.fieldLink RX1 51 "OrganBuilderModel" "sounding" "[J") (by decide +kernel)) rfl dX1_lowest_30 ?_
    refine lv_iload hx hb dX1_lowest_33 (lv_at hl 4 rfl) ?_
    refine lv_bipush (v := (nI 61)) hx hb dX1_lowest_35 (by decide) ?_
    refine lv_idiv hx hb dX1_lowest_37 (by decide) ?_
    refine lv_asi (nI (k / 61)) (pk_div (by omega) (by decide) (by decide)) ?_
    refine w_lld hx hb hK hP rfl rc_at13 (by omega) (by decide) dX1_lowest_38 ?_
    refine lv_iload hx hb dX1_lowest_39 (lv_at hl 4 rfl) ?_
    refine lv_bipush (v := (nI 61)) hx hb dX1_lowest_41 (by decide) ?_
    refine lv_irem hx hb dX1_lowest_43 (by decide) ?_
    refine lv_asi (nI (k % 61)) (pk_rem (by omega) (by decide) (by decide)) ?_
    refine w_pS (As := [.long ((fnJ (u2 I 20 0 0) J) 2 (k / 61)), .int (nI (k % 61))]) (rest := []) ⟨hx, hb, hml, hown, hts⟩ (r_has l ((fnJ (u2 I 20 0 0) J) 2 (k / 61)) (nI (k % 61))) (va_cwS 2 hts gX1_lowest_X1_has rfl rfl rfl (by decide +kernel) ⟨Nat.le_of_ble_eq_true rfl, Nat.le_of_ble_eq_true rfl⟩) rfl hl.1 rfl (Nat.le_of_ble_eq_true rfl) dX1_lowest_44 ⟨Nat.le_of_ble_eq_true rfl, Nat.le_of_ble_eq_true rfl⟩ ?_
    refine lv_if_eq (tgt := 86) hx hb dX1_lowest_47 (by decide) (fun c_47 => ?_) (fun c_47 => ?_)
    · have d_47 := bI_eq0 c_47
      have hl := lv_re hl 2 (v' := .int (bI (mlo (u2 I 20 0 0) (fnJ (u2 I 20 0 0) J) st (k + 1)).1)) rfl (congrArg Value.int (by rw [mlo_n d_47]))
      have hl : lv_has ls 6 [(0, .ref (a 0)), (1, .int (nI st)), (2, .int (bI (mlo (u2 I 20 0 0) (fnJ (u2 I 20 0 0) J) st (k + 1)).1)), (3, .int ((mlo (u2 I 20 0 0) (fnJ (u2 I 20 0 0) J) st k).2)), (4, .int (nI k))] := hl
      have hl := lv_re hl 3 (v' := .int (mlo (u2 I 20 0 0) (fnJ (u2 I 20 0 0) J) st (k + 1)).2) rfl (congrArg Value.int (by rw [mlo_n d_47]))
      have hl : lv_has ls 6 [(0, .ref (a 0)), (1, .int (nI st)), (2, .int (bI (mlo (u2 I 20 0 0) (fnJ (u2 I 20 0 0) J) st (k + 1)).1)), (3, .int ((mlo (u2 I 20 0 0) (fnJ (u2 I 20 0 0) J) st (k + 1)).2)), (4, .int (nI k))] := hl
      refine lv_iinc (v := (nI (k + 1))) (lv' := [(4, .int (nI (k + 1))), (0, .ref (a 0)), (1, .int (nI st)), (2, .int (bI (mlo (u2 I 20 0 0) (fnJ (u2 I 20 0 0) J) st (k + 1)).1)), (3, .int ((mlo (u2 I 20 0 0) (fnJ (u2 I 20 0 0) J) st (k + 1)).2))]) hx hb dX1_lowest_86 hl (k := 4) rfl (nI_inc _) (by decide) rfl (fun ls hl => ?_)
      refine lv_goto (tgt := 21) hx hb dX1_lowest_89 (by decide) ?_
      exact ih_k () H locs ls (by omega) ⟨hP, hS, lv_sub hl [1, 2, 3, 4, 0] rfl⟩
    · have d_47 := bI_ne0 c_47
      refine lv_aload_n hx hb dX1_lowest_50 rfl (lv_at hl 0 rfl) ?_
      refine lv_iload hx hb dX1_lowest_51 (lv_at hl 4 rfl) ?_
      refine lv_bipush (v := (nI 61)) hx hb dX1_lowest_53 (by decide) ?_
      refine lv_idiv hx hb dX1_lowest_55 (by decide) ?_
      refine lv_asi (nI (k / 61)) (pk_div (by omega) (by decide) (by decide)) ?_
      refine lv_iload hx hb dX1_lowest_56 (lv_at hl 4 rfl) ?_
      refine lv_bipush (v := (nI 61)) hx hb dX1_lowest_58 (by decide) ?_
      refine lv_irem hx hb dX1_lowest_60 (by decide) ?_
      refine lv_asi (nI (k % 61)) (pk_rem (by omega) (by decide) (by decide)) ?_
      refine lv_iload_n hx hb dX1_lowest_61 rfl (lv_at hl 1 rfl) ?_
      refine w_pV (As := [.int (nI (k / 61)), .int (nI (k % 61)), .int (nI st)]) (rest := []) ⟨hx, hb, hml, hown, hts⟩ (r_pitchOf l D a cI cL (u2 I 20 0 0) (fnJ (u2 I 20 0 0) J) (k / 61) (k % 61) st (by omega) (by omega) (by omega)) (cwV 3 hts gX1_lowest_X1_pitchOf rfl rfl rfl (by decide +kernel) ⟨Nat.le_of_ble_eq_true rfl, Nat.le_of_ble_eq_true rfl⟩) hK hP rfl rfl rc_at0 rfl hl.1 rfl (Nat.le_of_ble_eq_true rfl) dX1_lowest_62 ⟨Nat.le_of_ble_eq_true rfl, Nat.le_of_ble_eq_true rfl⟩ ?_
      refine lv_istore (lv' := [(5, .int (mpt (u2 I 20 0 0) (k / 61) (k % 61) st)), (0, .ref (a 0)), (1, .int (nI st)), (2, .int (bI (mlo (u2 I 20 0 0) (fnJ (u2 I 20 0 0) J) st k).1)), (3, .int ((mlo (u2 I 20 0 0) (fnJ (u2 I 20 0 0) J) st k).2)), (4, .int (nI k))]) hx hb dX1_lowest_65 hl (by decide) rfl (fun ls hl => ?_)
      refine lv_iload_n hx hb dX1_lowest_67 rfl (lv_at hl 3 rfl) ?_
      refine lv_if_ne (tgt := 77) hx hb dX1_lowest_68 (by decide) (fun c_68 => ?_) (fun c_68 => ?_)
      · have d_68 := bI_ne0 c_68
        refine lv_iload hx hb dX1_lowest_77 (lv_at hl 0 rfl) ?_
        refine lv_goto (tgt := 83) hx hb dX1_lowest_79 (by decide) ?_
        refine lv_asi ((mlo (u2 I 20 0 0) (fnJ (u2 I 20 0 0) J) st (k + 1)).2) (mlo_1 d_47 d_68) ?_
        refine lv_istore_n (lv' := [(3, .int ((mlo (u2 I 20 0 0) (fnJ (u2 I 20 0 0) J) st (k + 1)).2)), (5, .int (mpt (u2 I 20 0 0) (k / 61) (k % 61) st)), (0, .ref (a 0)), (1, .int (nI st)), (2, .int (bI (mlo (u2 I 20 0 0) (fnJ (u2 I 20 0 0) J) st k).1)), (4, .int (nI k))]) hx hb dX1_lowest_83 rfl hl (by decide) rfl (fun ls hl => ?_)
        refine lv_iconst (v := 0) hx hb dX1_lowest_84 (by decide) ?_
        refine lv_asi (bI (mlo (u2 I 20 0 0) (fnJ (u2 I 20 0 0) J) st (k + 1)).1) (by rw [mlo_y d_47]; rfl) ?_
        refine lv_istore_n (lv' := [(2, .int (bI (mlo (u2 I 20 0 0) (fnJ (u2 I 20 0 0) J) st (k + 1)).1)), (3, .int ((mlo (u2 I 20 0 0) (fnJ (u2 I 20 0 0) J) st (k + 1)).2)), (5, .int (mpt (u2 I 20 0 0) (k / 61) (k % 61) st)), (0, .ref (a 0)), (1, .int (nI st)), (4, .int (nI k))]) hx hb dX1_lowest_85 rfl hl (by decide) rfl (fun ls hl => ?_)
        refine lv_iinc (v := (nI (k + 1))) (lv' := [(4, .int (nI (k + 1))), (2, .int (bI (mlo (u2 I 20 0 0) (fnJ (u2 I 20 0 0) J) st (k + 1)).1)), (3, .int ((mlo (u2 I 20 0 0) (fnJ (u2 I 20 0 0) J) st (k + 1)).2)), (5, .int (mpt (u2 I 20 0 0) (k / 61) (k % 61) st)), (0, .ref (a 0)), (1, .int (nI st))]) hx hb dX1_lowest_86 hl (k := 5) rfl (nI_inc _) (by decide) rfl (fun ls hl => ?_)
        refine lv_goto (tgt := 21) hx hb dX1_lowest_89 (by decide) ?_
        exact ih_k () H locs ls (by omega) ⟨hP, hS, lv_sub hl [4, 5, 1, 2, 0] rfl⟩
      · have d_68 := bI_eq0 c_68
        refine lv_iload hx hb dX1_lowest_71 (lv_at hl 0 rfl) ?_
        refine lv_iload_n hx hb dX1_lowest_73 rfl (lv_at hl 4 rfl) ?_
        refine lv_icmp_ge (tgt := 82) hx hb dX1_lowest_74 (by decide) (fun c_74 => ?_) (fun c_74 => ?_)
        · refine lv_iload_n hx hb dX1_lowest_82 rfl (lv_at hl 4 rfl) ?_
          refine lv_asi ((mlo (u2 I 20 0 0) (fnJ (u2 I 20 0 0) J) st (k + 1)).2) (mlo_2 d_47 d_68 c_74) ?_
          refine lv_istore_n (lv' := [(3, .int ((mlo (u2 I 20 0 0) (fnJ (u2 I 20 0 0) J) st (k + 1)).2)), (5, .int (mpt (u2 I 20 0 0) (k / 61) (k % 61) st)), (0, .ref (a 0)), (1, .int (nI st)), (2, .int (bI (mlo (u2 I 20 0 0) (fnJ (u2 I 20 0 0) J) st k).1)), (4, .int (nI k))]) hx hb dX1_lowest_83 rfl hl (by decide) rfl (fun ls hl => ?_)
          refine lv_iconst (v := 0) hx hb dX1_lowest_84 (by decide) ?_
          refine lv_asi (bI (mlo (u2 I 20 0 0) (fnJ (u2 I 20 0 0) J) st (k + 1)).1) (by rw [mlo_y d_47]; rfl) ?_
          refine lv_istore_n (lv' := [(2, .int (bI (mlo (u2 I 20 0 0) (fnJ (u2 I 20 0 0) J) st (k + 1)).1)), (3, .int ((mlo (u2 I 20 0 0) (fnJ (u2 I 20 0 0) J) st (k + 1)).2)), (5, .int (mpt (u2 I 20 0 0) (k / 61) (k % 61) st)), (0, .ref (a 0)), (1, .int (nI st)), (4, .int (nI k))]) hx hb dX1_lowest_85 rfl hl (by decide) rfl (fun ls hl => ?_)
          refine lv_iinc (v := (nI (k + 1))) (lv' := [(4, .int (nI (k + 1))), (2, .int (bI (mlo (u2 I 20 0 0) (fnJ (u2 I 20 0 0) J) st (k + 1)).1)), (3, .int ((mlo (u2 I 20 0 0) (fnJ (u2 I 20 0 0) J) st (k + 1)).2)), (5, .int (mpt (u2 I 20 0 0) (k / 61) (k % 61) st)), (0, .ref (a 0)), (1, .int (nI st))]) hx hb dX1_lowest_86 hl (k := 5) rfl (nI_inc _) (by decide) rfl (fun ls hl => ?_)
          refine lv_goto (tgt := 21) hx hb dX1_lowest_89 (by decide) ?_
          exact ih_k () H locs ls (by omega) ⟨hP, hS, lv_sub hl [4, 5, 1, 2, 0] rfl⟩
        · refine lv_iload hx hb dX1_lowest_77 (lv_at hl 0 rfl) ?_
          refine lv_goto (tgt := 83) hx hb dX1_lowest_79 (by decide) ?_
          refine lv_asi ((mlo (u2 I 20 0 0) (fnJ (u2 I 20 0 0) J) st (k + 1)).2) (mlo_3 d_47 d_68 c_74) ?_
          refine lv_istore_n (lv' := [(3, .int ((mlo (u2 I 20 0 0) (fnJ (u2 I 20 0 0) J) st (k + 1)).2)), (5, .int (mpt (u2 I 20 0 0) (k / 61) (k % 61) st)), (0, .ref (a 0)), (1, .int (nI st)), (2, .int (bI (mlo (u2 I 20 0 0) (fnJ (u2 I 20 0 0) J) st k).1)), (4, .int (nI k))]) hx hb dX1_lowest_83 rfl hl (by decide) rfl (fun ls hl => ?_)
          refine lv_iconst (v := 0) hx hb dX1_lowest_84 (by decide) ?_
          refine lv_asi (bI (mlo (u2 I 20 0 0) (fnJ (u2 I 20 0 0) J) st (k + 1)).1) (by rw [mlo_y d_47]; rfl) ?_
          refine lv_istore_n (lv' := [(2, .int (bI (mlo (u2 I 20 0 0) (fnJ (u2 I 20 0 0) J) st (k + 1)).1)), (3, .int ((mlo (u2 I 20 0 0) (fnJ (u2 I 20 0 0) J) st (k + 1)).2)), (5, .int (mpt (u2 I 20 0 0) (k / 61) (k % 61) st)), (0, .ref (a 0)), (1, .int (nI st)), (4, .int (nI k))]) hx hb dX1_lowest_85 rfl hl (by decide) rfl (fun ls hl => ?_)
          refine lv_iinc (v := (nI (k + 1))) (lv' := [(4, .int (nI (k + 1))), (2, .int (bI (mlo (u2 I 20 0 0) (fnJ (u2 I 20 0 0) J) st (k + 1)).1)), (3, .int ((mlo (u2 I 20 0 0) (fnJ (u2 I 20 0 0) J) st (k + 1)).2)), (5, .int (mpt (u2 I 20 0 0) (k / 61) (k % 61) st)), (0, .ref (a 0)), (1, .int (nI st))]) hx hb dX1_lowest_86 hl (k := 5) rfl (nI_inc _) (by decide) rfl (fun ls hl => ?_)
          refine lv_goto (tgt := 21) hx hb dX1_lowest_89 (by decide) ?_
          exact ih_k () H locs ls (by omega) ⟨hP, hS, lv_sub hl [4, 5, 1, 2, 0] rfl⟩
set_option maxHeartbeats 4000000 in
set_option maxRecDepth 100000 in
theorem r_wear (l : Launch) (D : va_G) (a : Nat → Nat) (cI cL : ClassId) (I : Nat → Nat → Int32) (J : Nat → Nat → Int64) (p1 p2 : Int32) : Met l yX1_wear wsX1_wear ({ frames := 2, cells := 0, slots := 0, locals := 42 } : Room) (va_Pc [.ref (a 0), .int p1, .int p2] (mB D (rty cI cL) (rc a cI cL I J))) (mQi D (rc a cI cL I J) (rc a cI cL (tI I (kRK p1 p2)) J) (aWear I p1 p2)) 0 0 (wA (rc a cI cL I J)) := by
  refine Met.ofW (cc := cX1_wear) (maxL := 3) (ret := (some .int)) (by decide) rfl ?_
  intro p e s m args below meth c s₁ B hml hv
  obtain ⟨rfl, hP, hK, hD0⟩ := hv
  have hx := B.exec
  have hb := B.bytes
  have hr := B.returns
  have hts := atoms_spec (ws := wsX1_wear) B.pre
  have hown : s.vm.findClass RX1 = some m.cls := findClass_of_methodNamed B.named
  have hlocks := B.notSynchronized
  have hin0 : ∀ w ∈ u_ws RX1 TX1 16, w ∈ wsX1_wear := by decide +kernel
  have hD := rc_D (wA_D hD0)
  have hS : va_S (wA (rc a cI cL I J)) s.heap s.heap [] := va_S.rf
  have hl := lv_entry ([.ref (a 0), .int p1, .int p2]) (n := 3) (Nat.le_of_ble_eq_true rfl)
  rw [lg_entry_eq]
  generalize (lg_sl ([.ref (a 0), .int p1, .int p2]) ++ List.replicate (3 - (lg_sl ([.ref (a 0), .int p1, .int p2])).length) Slot.unset).toArray = ls at hl ⊢
  have hl : lv_has ls 3 [(0, .ref (a 0)), (1, .int p1), (2, .int p2)] := hl
  refine lv_aload_n hx hb dX1_wear_0 rfl (lv_at hl 0 rfl) ?_
  refine lv_iload_n hx hb dX1_wear_1 rfl (lv_at hl 1 rfl) ?_
  refine w_pS (As := [.int p1]) (rest := [.ref (a 0)]) ⟨hx, hb, hml, hown, hts⟩ (r_isRank l p1) (va_cwS 1 hts gX1_wear_X1_isRank rfl rfl rfl (by decide +kernel) ⟨Nat.le_of_ble_eq_true rfl, Nat.le_of_ble_eq_true rfl⟩) rfl hl.1 rfl (Nat.le_of_ble_eq_true rfl) dX1_wear_2 ⟨Nat.le_of_ble_eq_true rfl, Nat.le_of_ble_eq_true rfl⟩ ?_
  refine lv_if_eq (tgt := 19) hx hb dX1_wear_5 (by decide) (fun c_5 => ?_) (fun c_5 => ?_)
  · have d_5 := bI_eq0 c_5
    refine lv_iconst (v := 1) hx hb dX1_wear_19 (by decide) ?_
    refine w_mVi (As := [.int 1]) (rest := []) ⟨hx, hb, hml, hown, hts⟩ (r_isFine l D a cI cL I J 1) (cwV 1 hts gX1_wear_X1_isFine rfl rfl rfl (by decide +kernel) ⟨Nat.le_of_ble_eq_true rfl, Nat.le_of_ble_eq_true rfl⟩) hK hP (hD _ _) hS rfl rfl rc_at0 rfl hl.1 rfl (Nat.le_of_ble_eq_true rfl) dX1_wear_20 ⟨Nat.le_of_ble_eq_true rfl, Nat.le_of_ble_eq_true rfl⟩ (fun H locs hP hS => ?_)
    refine lv_asi 0 (by decide) ?_
    refine lv_if_eq (tgt := 40) hx hb dX1_wear_23 (by decide) (fun c_23 => ?_) (fun c_23 => (absurd c_23 (by decide)))
    refine lv_iconst (v := 0) hx hb dX1_wear_40 (by decide) ?_
    exact e_mi hx hb hr rfl hlocks hP hS (by simp [kRK, d_5]) (by simp [aWear, kRK, d_5]) dX1_wear_41
  · have d_5 := bI_ne0 c_5
    refine lv_iload_n hx hb dX1_wear_8 rfl (lv_at hl 2 rfl) ?_
    refine w_pS (As := [.int p2]) (rest := [.ref (a 0)]) ⟨hx, hb, hml, hown, hts⟩ (r_isKey l p2) (va_cwS 1 hts gX1_wear_X1_isKey rfl rfl rfl (by decide +kernel) ⟨Nat.le_of_ble_eq_true rfl, Nat.le_of_ble_eq_true rfl⟩) rfl hl.1 rfl (Nat.le_of_ble_eq_true rfl) dX1_wear_9 ⟨Nat.le_of_ble_eq_true rfl, Nat.le_of_ble_eq_true rfl⟩ ?_
    refine lv_if_eq (tgt := 19) hx hb dX1_wear_12 (by decide) (fun c_12 => ?_) (fun c_12 => ?_)
    · have d_12 := bI_eq0 c_12
      refine lv_iconst (v := 1) hx hb dX1_wear_19 (by decide) ?_
      refine w_mVi (As := [.int 1]) (rest := []) ⟨hx, hb, hml, hown, hts⟩ (r_isFine l D a cI cL I J 1) (cwV 1 hts gX1_wear_X1_isFine rfl rfl rfl (by decide +kernel) ⟨Nat.le_of_ble_eq_true rfl, Nat.le_of_ble_eq_true rfl⟩) hK hP (hD _ _) hS rfl rfl rc_at0 rfl hl.1 rfl (Nat.le_of_ble_eq_true rfl) dX1_wear_20 ⟨Nat.le_of_ble_eq_true rfl, Nat.le_of_ble_eq_true rfl⟩ (fun H locs hP hS => ?_)
      refine lv_asi 0 (by decide) ?_
      refine lv_if_eq (tgt := 40) hx hb dX1_wear_23 (by decide) (fun c_23 => ?_) (fun c_23 => (absurd c_23 (by decide)))
      refine lv_iconst (v := 0) hx hb dX1_wear_40 (by decide) ?_
      exact e_mi hx hb hr rfl hlocks hP hS (by simp [kRK, d_5, d_12]) (by simp [aWear, kRK, d_5, d_12]) dX1_wear_41
    · have d_12 := bI_ne0 c_12
      refine lv_iconst (v := 0) hx hb dX1_wear_15 (by decide) ?_
      refine lv_goto (tgt := 20) hx hb dX1_wear_16 (by decide) ?_
      refine w_mVi (As := [.int 0]) (rest := []) ⟨hx, hb, hml, hown, hts⟩ (r_isFine l D a cI cL I J 0) (cwV 1 hts gX1_wear_X1_isFine rfl rfl rfl (by decide +kernel) ⟨Nat.le_of_ble_eq_true rfl, Nat.le_of_ble_eq_true rfl⟩) hK hP (hD _ _) hS rfl rfl rc_at0 rfl hl.1 rfl (Nat.le_of_ble_eq_true rfl) dX1_wear_20 ⟨Nat.le_of_ble_eq_true rfl, Nat.le_of_ble_eq_true rfl⟩ (fun H locs hP hS => ?_)
      refine lv_asi 1 (by decide) ?_
      refine lv_if_eq (tgt := 40) hx hb dX1_wear_23 (by decide) (fun c_23 => (absurd c_23 (by decide))) (fun c_23 => ?_)
      obtain ⟨r, br, rfl⟩ := rg_nat (n := 5) d_5 (by decide)
      obtain ⟨k, bk, rfl⟩ := rg_nat (n := 60) d_12 (by decide)
      refine lv_aload_n hx hb dX1_wear_26 rfl (lv_at hl 0 rfl) ?_
      refine r_get (v := .ref (a 11)) hx hb hts hin0 hown hK hP rc_at0 13 (by decide) (hts (.fieldLink RX1 45 "OrganBuilderModel" "wear" "[I") (by decide +kernel)) rfl dX1_wear_27 ?_
      refine lv_bipush (v := (nI 61)) hx hb dX1_wear_30 (by decide) ?_
      refine lv_iload_n hx hb dX1_wear_32 rfl (lv_at hl 1 rfl) ?_
      refine lv_imul hx hb dX1_wear_33 ?_
      refine lv_iload_n hx hb dX1_wear_34 rfl (lv_at hl 2 rfl) ?_
      refine lv_iadd hx hb dX1_wear_35 ?_
      refine lv_asi (nI (61 * r + k)) (ix61 r k) ?_
      refine w_ild hx hb hK hP rfl rc_at11 (by omega) (by decide) dX1_wear_36 ?_
      refine lv_goto (tgt := 41) hx hb dX1_wear_37 (by decide) ?_
      exact e_mi hx hb hr rfl hlocks hP hS (by rw [show kRK (nI r) (nI k) = 0 by simp [kRK, d_5, d_12]]) (by rw [aWear, if_pos (show kRK (nI r) (nI k) = 0 by simp [kRK, d_5, d_12]), nI_clamp (show r < 2 ^ 31 by omega), nI_clamp (show k < 2 ^ 31 by omega)]) dX1_wear_41
set_option maxHeartbeats 4000000 in
set_option maxRecDepth 100000 in
theorem r_more (l : Launch) (D : va_G) (a : Nat → Nat) (cI cL : ClassId) (I : Nat → Nat → Int32) (J : Nat → Nat → Int64) (p1 p2 : Int32) (hman : okM I) : Met l yX1_more wsX1_more ({ frames := 2, cells := 0, slots := 0, locals := 50 } : Room) (va_Pc [.ref (a 0), .int p1, .int p2] (mB D (rty cI cL) (rc a cI cL I J))) (mQi D (rc a cI cL I J) (rc a cI cL (tI I (kMK p1 p2)) (rMorJ I J p1 p2)) (aMor I J p1 p2)) 0 0 (wA (rc a cI cL I J)) := by
  refine Met.ofW (cc := cX1_more) (maxL := 5) (ret := (some .int)) (by decide) rfl ?_
  intro p e s m args below meth c s₁ B hml hv
  obtain ⟨rfl, hP, hK, hD0⟩ := hv
  have hx := B.exec
  have hb := B.bytes
  have hr := B.returns
  have hts := atoms_spec (ws := wsX1_more) B.pre
  have hown : s.vm.findClass RX1 = some m.cls := findClass_of_methodNamed B.named
  have hlocks := B.notSynchronized
  have hin0 : ∀ w ∈ u_ws RX1 TX1 16, w ∈ wsX1_more := by decide +kernel
  have hD := rc_D (wA_D hD0)
  have hS : va_S (wA (rc a cI cL I J)) s.heap s.heap [] := va_S.rf
  have hl := lv_entry ([.ref (a 0), .int p1, .int p2]) (n := 5) (Nat.le_of_ble_eq_true rfl)
  rw [lg_entry_eq]
  generalize (lg_sl ([.ref (a 0), .int p1, .int p2]) ++ List.replicate (5 - (lg_sl ([.ref (a 0), .int p1, .int p2])).length) Slot.unset).toArray = ls at hl ⊢
  have hl : lv_has ls 5 [(0, .ref (a 0)), (1, .int p1), (2, .int p2)] := hl
  refine lv_aload_n hx hb dX1_more_0 rfl (lv_at hl 0 rfl) ?_
  refine lv_iload_n hx hb dX1_more_1 rfl (lv_at hl 1 rfl) ?_
  refine w_pS (As := [.int p1]) (rest := [.ref (a 0)]) ⟨hx, hb, hml, hown, hts⟩ (r_isManual l p1) (va_cwS 1 hts gX1_more_X1_isManual rfl rfl rfl (by decide +kernel) ⟨Nat.le_of_ble_eq_true rfl, Nat.le_of_ble_eq_true rfl⟩) rfl hl.1 rfl (Nat.le_of_ble_eq_true rfl) dX1_more_2 ⟨Nat.le_of_ble_eq_true rfl, Nat.le_of_ble_eq_true rfl⟩ ?_
  refine lv_if_eq (tgt := 19) hx hb dX1_more_5 (by decide) (fun c_5 => ?_) (fun c_5 => ?_)
  · have d_5 := bI_eq0 c_5
    refine lv_iconst (v := 1) hx hb dX1_more_19 (by decide) ?_
    refine w_mVi (As := [.int 1]) (rest := []) ⟨hx, hb, hml, hown, hts⟩ (r_isFine l D a cI cL I J 1) (cwV 1 hts gX1_more_X1_isFine rfl rfl rfl (by decide +kernel) ⟨Nat.le_of_ble_eq_true rfl, Nat.le_of_ble_eq_true rfl⟩) hK hP (hD _ _) hS rfl rfl rc_at0 rfl hl.1 rfl (Nat.le_of_ble_eq_true rfl) dX1_more_20 ⟨Nat.le_of_ble_eq_true rfl, Nat.le_of_ble_eq_true rfl⟩ (fun H locs hP hS => ?_)
    refine lv_asi 0 (by decide) ?_
    refine lv_if_eq (tgt := 39) hx hb dX1_more_23 (by decide) (fun c_23 => ?_) (fun c_23 => (absurd c_23 (by decide)))
    refine lv_iconst (v := 0) hx hb dX1_more_39 (by decide) ?_
    exact e_mi hx hb hr rfl hlocks hP hS (by simp [kMK, rMorJ, qMore, d_5]) (by simp [aMor, qMore, kMK, d_5]) dX1_more_40
  · have d_5 := bI_ne0 c_5
    refine lv_iload_n hx hb dX1_more_8 rfl (lv_at hl 2 rfl) ?_
    refine w_pS (As := [.int p2]) (rest := [.ref (a 0)]) ⟨hx, hb, hml, hown, hts⟩ (r_isKey l p2) (va_cwS 1 hts gX1_more_X1_isKey rfl rfl rfl (by decide +kernel) ⟨Nat.le_of_ble_eq_true rfl, Nat.le_of_ble_eq_true rfl⟩) rfl hl.1 rfl (Nat.le_of_ble_eq_true rfl) dX1_more_9 ⟨Nat.le_of_ble_eq_true rfl, Nat.le_of_ble_eq_true rfl⟩ ?_
    refine lv_if_eq (tgt := 19) hx hb dX1_more_12 (by decide) (fun c_12 => ?_) (fun c_12 => ?_)
    · have d_12 := bI_eq0 c_12
      refine lv_iconst (v := 1) hx hb dX1_more_19 (by decide) ?_
      refine w_mVi (As := [.int 1]) (rest := []) ⟨hx, hb, hml, hown, hts⟩ (r_isFine l D a cI cL I J 1) (cwV 1 hts gX1_more_X1_isFine rfl rfl rfl (by decide +kernel) ⟨Nat.le_of_ble_eq_true rfl, Nat.le_of_ble_eq_true rfl⟩) hK hP (hD _ _) hS rfl rfl rc_at0 rfl hl.1 rfl (Nat.le_of_ble_eq_true rfl) dX1_more_20 ⟨Nat.le_of_ble_eq_true rfl, Nat.le_of_ble_eq_true rfl⟩ (fun H locs hP hS => ?_)
      refine lv_asi 0 (by decide) ?_
      refine lv_if_eq (tgt := 39) hx hb dX1_more_23 (by decide) (fun c_23 => ?_) (fun c_23 => (absurd c_23 (by decide)))
      refine lv_iconst (v := 0) hx hb dX1_more_39 (by decide) ?_
      exact e_mi hx hb hr rfl hlocks hP hS (by simp [kMK, rMorJ, qMore, d_5, d_12]) (by simp [aMor, qMore, kMK, d_5, d_12]) dX1_more_40
    · have d_12 := bI_ne0 c_12
      refine lv_iconst (v := 0) hx hb dX1_more_15 (by decide) ?_
      refine lv_goto (tgt := 20) hx hb dX1_more_16 (by decide) ?_
      refine w_mVi (As := [.int 0]) (rest := []) ⟨hx, hb, hml, hown, hts⟩ (r_isFine l D a cI cL I J 0) (cwV 1 hts gX1_more_X1_isFine rfl rfl rfl (by decide +kernel) ⟨Nat.le_of_ble_eq_true rfl, Nat.le_of_ble_eq_true rfl⟩) hK hP (hD _ _) hS rfl rfl rc_at0 rfl hl.1 rfl (Nat.le_of_ble_eq_true rfl) dX1_more_20 ⟨Nat.le_of_ble_eq_true rfl, Nat.le_of_ble_eq_true rfl⟩ (fun H locs hP hS => ?_)
      refine lv_asi 1 (by decide) ?_
      refine lv_if_eq (tgt := 39) hx hb dX1_more_23 (by decide) (fun c_23 => (absurd c_23 (by decide))) (fun c_23 => ?_)
      obtain ⟨mn, bmn, rfl⟩ := rg_nat (n := 2) d_5 (by decide)
      refine lv_aload_n hx hb dX1_more_26 rfl (lv_at hl 0 rfl) ?_
      refine r_get (v := .ref (a 10)) hx hb hts hin0 hown hK hP rc_at0 12 (by decide) (hts (.fieldLink RX1 41 "OrganBuilderModel" "held" "[J") (by decide +kernel)) rfl dX1_more_27 ?_
      refine lv_iload_n hx hb dX1_more_30 rfl (lv_at hl 1 rfl) ?_
      refine w_lld hx hb hK hP rfl rc_at10 (by omega) (by decide) dX1_more_31 ?_
      refine lv_iload_n hx hb dX1_more_32 rfl (lv_at hl 2 rfl) ?_
      refine w_pS (As := [.long (J 0 mn), .int p2]) (rest := []) ⟨hx, hb, hml, hown, hts⟩ (r_has l (J 0 mn) p2) (va_cwS 2 hts gX1_more_X1_has rfl rfl rfl (by decide +kernel) ⟨Nat.le_of_ble_eq_true rfl, Nat.le_of_ble_eq_true rfl⟩) rfl hl.1 rfl (Nat.le_of_ble_eq_true rfl) dX1_more_33 ⟨Nat.le_of_ble_eq_true rfl, Nat.le_of_ble_eq_true rfl⟩ ?_
      refine lv_if_eq (tgt := 41) hx hb dX1_more_36 (by decide) (fun c_36 => ?_) (fun c_36 => ?_)
      · have d_36 := bI_eq0 c_36
        refine lv_aload_n hx hb dX1_more_41 rfl (lv_at hl 0 rfl) ?_
        refine w_mVi (As := []) (rest := []) ⟨hx, hb, hml, hown, hts⟩ (r_finds l D a cI cL (u2 I 20 0 0) J hman) (cwV 0 hts gX1_more_X1_finds rfl rfl rfl (by decide +kernel) ⟨Nat.le_of_ble_eq_true rfl, Nat.le_of_ble_eq_true rfl⟩) hK hP (hD _ _) hS rfl rfl rc_at0 rfl hl.1 rfl (Nat.le_of_ble_eq_true rfl) dX1_more_42 ⟨Nat.le_of_ble_eq_true rfl, Nat.le_of_ble_eq_true rfl⟩ (fun H locs hP hS => ?_)
        refine lv_istore_n (lv' := [(3, .int (fnN (u2 I 20 0 0) J)), (0, .ref (a 0)), (1, .int (nI mn)), (2, .int p2)]) hx hb dX1_more_45 rfl hl (by decide) rfl (fun ls hl => ?_)
        refine lv_aload_n hx hb dX1_more_46 rfl (lv_at hl 1 rfl) ?_
        refine r_get (v := .ref (a 10)) hx hb hts hin0 hown hK hP rc_at0 12 (by decide) (hts (.fieldLink RX1 41 "OrganBuilderModel" "held" "[J") (by decide +kernel)) rfl dX1_more_47 ?_
        refine lv_iload_n hx hb dX1_more_50 rfl (lv_at hl 2 rfl) ?_
        refine lv_dup2_11 hx hb dX1_more_51 rfl rfl ?_
        refine w_lld hx hb hK hP rfl rc_at10 (by omega) (by decide) dX1_more_52 ?_
        refine lv_lconst (v := 1) hx hb dX1_more_53 (by decide) ?_
        refine lv_iload_n hx hb dX1_more_54 rfl (lv_at hl 3 rfl) ?_
        refine lv_lshl hx hb dX1_more_55 rfl ?_
        refine lv_lor hx hb dX1_more_56 ?_
        refine w_lst hx hb hK hP (hD _ _) hS rfl rc_at10 (rc_set10 mn (((fnJ (u2 I 20 0 0) J) 0 mn) ||| ((1 : Int64) <<< (p2.toInt64 &&& 63)))) (by omega) (by decide) dX1_more_57 (fun H locs hP hS => ?_)
        have hP : va_P D vwCl (rc a cI cL (u2 I 20 0 0) (mJ1 (tI I 0) J mn p2)) H := hP
        refine lv_aload_n hx hb dX1_more_58 rfl (lv_at hl 1 rfl) ?_
        refine w_mVi (As := []) (rest := []) ⟨hx, hb, hml, hown, hts⟩ (r_finds l D a cI cL (u2 I 20 0 0) (mJ1 (tI I 0) J mn p2) hman) (cwV 0 hts gX1_more_X1_finds rfl rfl rfl (by decide +kernel) ⟨Nat.le_of_ble_eq_true rfl, Nat.le_of_ble_eq_true rfl⟩) hK hP (hD _ _) hS rfl rfl rc_at0 rfl hl.1 rfl (Nat.le_of_ble_eq_true rfl) dX1_more_59 ⟨Nat.le_of_ble_eq_true rfl, Nat.le_of_ble_eq_true rfl⟩ (fun H locs hP hS => ?_)
        refine lv_istore (lv' := [(4, .int (fnN (u2 I 20 0 0) (mJ1 (tI I 0) J mn p2))), (3, .int (fnN (u2 I 20 0 0) J)), (0, .ref (a 0)), (1, .int (nI mn)), (2, .int p2)]) hx hb dX1_more_62 hl (by decide) rfl (fun ls hl => ?_)
        refine lv_aload_n hx hb dX1_more_64 rfl (lv_at hl 2 rfl) ?_
        refine r_get (v := .ref (a 10)) hx hb hts hin0 hown hK hP rc_at0 12 (by decide) (hts (.fieldLink RX1 41 "OrganBuilderModel" "held" "[J") (by decide +kernel)) rfl dX1_more_65 ?_
        refine lv_iload_n hx hb dX1_more_68 rfl (lv_at hl 3 rfl) ?_
        refine lv_dup2_11 hx hb dX1_more_69 rfl rfl ?_
        refine w_lld hx hb hK hP rfl rc_at10 (by omega) (by decide) dX1_more_70 ?_
        refine lv_lconst (v := 1) hx hb dX1_more_71 (by decide) ?_
        refine lv_iload_n hx hb dX1_more_72 rfl (lv_at hl 4 rfl) ?_
        refine lv_lshl hx hb dX1_more_73 rfl ?_
        refine lv_ldc2 (v := (-1)) hx hb hown (hts (.constantLong RX1 95 ((-1))) (by decide +kernel)) dX1_more_74 ?_
        refine lv_lxor hx hb dX1_more_77 ?_
        refine lv_land hx hb dX1_more_78 ?_
        refine w_lst hx hb hK hP (hD _ _) hS rfl rc_at10 (rc_set10 mn (((fnJ (u2 I 20 0 0) (mJ1 (tI I 0) J mn p2)) 0 mn) &&& (((1 : Int64) <<< (p2.toInt64 &&& 63)) ^^^ (-1)))) (by omega) (by decide) dX1_more_79 (fun H locs hP hS => ?_)
        refine lv_iload hx hb dX1_more_80 (lv_at hl 0 rfl) ?_
        refine lv_iload_n hx hb dX1_more_82 rfl (lv_at hl 1 rfl) ?_
        refine lv_isub hx hb dX1_more_83 ?_
        exact e_mi hx hb hr rfl hlocks hP hS (by rw [show kMK (nI mn) p2 = 0 by simp [kMK, d_5, d_12, nI_clamp (show mn < 2 ^ 31 by omega), d_36], rMorJ, if_pos (show qMore J (nI mn) p2 = true by simp [qMore, show kMK (nI mn) p2 = 0 by simp [kMK, d_5, d_12, nI_clamp (show mn < 2 ^ 31 by omega), d_36], d_5, d_12, nI_clamp (show mn < 2 ^ 31 by omega), d_36]), nI_clamp (show mn < 2 ^ 31 by omega)]; rfl) (by rw [aMor, if_pos (show qMore J (nI mn) p2 = true by simp [qMore, show kMK (nI mn) p2 = 0 by simp [kMK, d_5, d_12, nI_clamp (show mn < 2 ^ 31 by omega), d_36], d_5, d_12, nI_clamp (show mn < 2 ^ 31 by omega), d_36]), nI_clamp (show mn < 2 ^ 31 by omega)]) dX1_more_84
      · have d_36 := bI_ne0 c_36
        refine lv_iconst (v := 0) hx hb dX1_more_39 (by decide) ?_
        exact e_mi hx hb hr rfl hlocks hP hS (by rw [show kMK (nI mn) p2 = 0 by simp [kMK, d_5, d_12, nI_clamp (show mn < 2 ^ 31 by omega), d_36]]; simp [rMorJ, qMore, d_5, d_12, nI_clamp (show mn < 2 ^ 31 by omega), d_36]) (by simp [aMor, qMore, d_5, d_12, nI_clamp (show mn < 2 ^ 31 by omega), d_36]) dX1_more_40
