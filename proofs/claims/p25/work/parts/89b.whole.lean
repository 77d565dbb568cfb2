/-! ===== isWhole: its contract ===== -/
theorem pp_sm (I : Nat → Nat → Int32) (h : Nat → Nat) : sm (wt (sB I h) w1) 366 = pp I h := by
  unfold pp pN
  exact Eq.refl _
theorem nd_sm (I : Nat → Nat → Int32) (h : Nat → Nat) : sm (wt (sB I h) (wv (wd I))) 366 = nd I h := by
  unfold nd nN
  exact Eq.refl _
theorem low_v (I : Nat → Nat → Int32) (h : Nat → Nat) : (¬ pp I h = 0 → lowV I h = lwN (fall I h) (lf I (sB I h) 366)) ∧ (pp I h = 0 → lowV I h = 0) := by
  have q := lf_any (I := I) (b := sB I h) 366
  rw [pp_sm] at q
  unfold lowV lwN
  generalize lf I (sB I h) 366 = A at q
  refine ⟨fun z => ?_, fun z => ?_⟩
  · rcases q with q | q
    · rw [if_pos q.1, if_pos q.1]
    · exact absurd q.2 z
  · rcases q with q | q
    · exact absurd z (Nat.ne_of_gt q.2)
    · rw [if_neg (by rw [q.1]; exact Bool.false_ne_true)]
set_option maxHeartbeats 2000000 in
set_option maxRecDepth 100000 in
theorem iw_end {p : Program} {l : Launch} {e : Env} {s : State} {m : MethodId} {args : Array Value} {below : List Frame} {meth : Method} {c : Code} {Q : State → Prop} {D : va_G} {a : Nat → Nat} {q1 : Nat} {cI cL cO : ClassId} {I : Nat → Nat → Int32} {h : Nat → Nat} {W9 : Nat → Int32} {A : Nat → Prop} (hl0 : l.stackTraces = false) (S : CallFix p m c cL_isWhole 12 s args wsL_isWhole RL) (hK : va_K D vwCl (oty cI cL cO) s) (hD : ∀ (I : Nat → Nat → Int32) (J : Nat → Nat → Int64), va_D A (oc a cI cL cO I J ++ [(q1, .inl (cI, 6, .inl W9))])) (hES : eS s) (hEH : eH A s s.heap) (hA : ∀ z9 : Nat, s.heap.size ≤ z9 → A z9) (hG : GI I) (hW : ∀ r, r < 6 → W9 r = I 1 r) {n9 p9 s9 : Nat} {v9 : Int32} (hn9 : nd I h = n9) (hp9 : pp I h = p9) (hs9 : suN I = s9) (hv1 : ¬ p9 = 0 → lowV I h = v9) (hv0 : p9 = 0 → lowV I h = 0) (b1 : n9 ≤ 5124) (b2 : p9 ≤ 366) (u1 : 10 ≤ s9) (u2 : s9 ≤ 1000) {H : Heap} {locs : List Loc} {ls : Array Slot} {J : Nat → Nat → Int64} (hJ : gJ J h) (hP1 : va_P D vwCl (oc a cI cL cO I J) H) (hP2 : va_P D vwCl [(q1, .inl (cI, 6, .inl W9))] H) (hS : va_S A s.heap H locs) (hl : lv_has ls 12 [(7, .int (nI 366)), (6, .int (nI 1)), (5, .int v9), (4, .int (nI p9)), (3, .int (nI n9)), (0, .ref (a 0)), (1, .ref q1), (2, .int (nI s9))]) (kend : ∀ (H : Heap) (locs : List Loc) (ls : Array Slot) (J : Nat → Nat → Int64), gJ J h → va_P D vwCl (oc a cI cL cO I J) H → va_P D vwCl [(q1, .inl (cI, 6, .inl W9))] H → va_S A s.heap H locs → W p l e rmW s m args below meth c H locs 2562 15372 Q (F0 m 263 ls [.int 1])) : W p l e rmW s m args below meth c H locs 2562 15372 Q (F0 m 176 ls []) := by
  have hx := S.1
  have hb := S.2.1
  have hown := S.2.2.2.1
  have hts := S.2.2.2.2
  refine lv_iload_n hx hb dL_isWhole_176 rfl (lv_at hl 4 rfl) ?_
  refine lv_iload_n hx hb dL_isWhole_177 rfl (lv_at hl 7 rfl) ?_
  refine lv_icmp_gt (tgt := 185) hx hb dL_isWhole_178 (by decide) (fun c9 => ?_) (fun c9 => ?_)
  · have c8 := (nI_ltI (a := s9) (b := n9) (by omega) (by omega)).mp c9
    have hq9 : 10 * (n9 - s9) / s9 < 100000 := Nat.lt_of_le_of_lt (Nat.div_le_self _ _) (by omega)
    refine lv_iconst (v := (nI 1)) hx hb dL_isWhole_185 (by decide) ?_
    refine lv_bipush (v := (nI 10)) hx hb dL_isWhole_186 (by decide) ?_
    refine lv_iload_n hx hb dL_isWhole_188 rfl (lv_at hl 4 rfl) ?_
    refine lv_iload_n hx hb dL_isWhole_189 rfl (lv_at hl 7 rfl) ?_
    refine lv_isub hx hb dL_isWhole_190 ?_
    refine lv_asi (nI (n9 - s9)) (pk_sub (by omega)) ?_
    refine lv_imul hx hb dL_isWhole_191 ?_
    refine lv_asi (nI (10 * (n9 - s9))) (pk_mul _ _) ?_
    refine lv_iload_n hx hb dL_isWhole_192 rfl (lv_at hl 7 rfl) ?_
    refine lv_idiv hx hb dL_isWhole_193 (nI_ne0 (by omega) (by omega)) ?_
    refine lv_asi (nI ((10 * (n9 - s9)) / s9)) (pk_div (by omega) (by omega) (by omega)) ?_
    refine lv_iadd hx hb dL_isWhole_194 ?_
    refine lv_asi (nI (1 + ((10 * (n9 - s9)) / s9))) (nI_add _ _) ?_
    refine lv_istore (lv' := [(7, .int (nI (1 + ((10 * (n9 - s9)) / s9)))), (6, .int (nI 1)), (5, .int v9), (4, .int (nI p9)), (3, .int (nI n9)), (0, .ref (a 0)), (1, .ref q1), (2, .int (nI s9))]) hx hb dL_isWhole_195 hl (by decide) rfl (fun ls hl => ?_)
    refine lv_iload hx hb dL_isWhole_197 (lv_at hl 1 rfl) ?_
    obtain ⟨t9, ht9⟩ : ∃ t9, t9 = 1 + ((10 * (n9 - s9)) / s9) := ⟨_, rfl⟩
    have hl : lv_has ls 12 [(7, .int (nI t9)), (6, .int (nI 1)), (5, .int v9), (4, .int (nI p9)), (3, .int (nI n9)), (0, .ref (a 0)), (1, .ref q1), (2, .int (nI s9))] := by
      rw [ht9]
      exact hl
    have e9 : stN n9 s9 = if t9 < 10 then t9 else 10 := by
      rw [ht9]
      exact if_neg (Nat.not_le.mpr c8)
    have b9 : t9 < 200000 := by omega
    clear ht9
    refine lv_if_eq (tgt := 262) hx hb dL_isWhole_199 (by decide) (fun z => absurd ((nI_eq (a := 1) (b := 0) (by omega) (by omega)).mp z) (by omega)) (fun _ => ?_)
    refine lv_aload_n hx hb dL_isWhole_202 rfl (lv_at hl 5 rfl) ?_
    refine l_cls (As := []) (rest := []) S (n_need l D a cI cL cO hG hJ) (cwV 0 hts gL_isWhole_X0_need rfl rfl rfl (by decide +kernel) ⟨Nat.le_of_ble_eq_true rfl, Nat.le_of_ble_eq_true rfl⟩) hK hP1 hP2 (hD _ _) hS rfl rfl oc_at0 rfl hl.1 rfl (Nat.le_of_ble_eq_true rfl) dL_isWhole_203 ⟨by show _ ≤ 2562; omega, by show _ ≤ 15372; omega⟩ (fun H locs hP1 hP2 hS => ?_)
    have hJ := g_J hG hJ
    generalize fsW I J 0 0 = J at hJ hP1
    refine lv_asi (nI n9) (congrArg nI hn9) ?_
    refine lv_iload_n hx hb dL_isWhole_206 rfl (lv_at hl 4 rfl) ?_
    refine lv_icmp_ne (tgt := 262) hx hb dL_isWhole_207 (by decide) (fun z => absurd ((nI_eq (a := n9) (b := n9) (by omega) (by omega)).mpr (by omega)) z) (fun _ => ?_)
    refine lv_aload_n hx hb dL_isWhole_210 rfl (lv_at hl 5 rfl) ?_
    refine l_cls (As := []) (rest := []) S (n_pipes l D a cI cL cO hG hJ) (cwV 0 hts gL_isWhole_X0_pipes rfl rfl rfl (by decide +kernel) ⟨Nat.le_of_ble_eq_true rfl, Nat.le_of_ble_eq_true rfl⟩) hK hP1 hP2 (hD _ _) hS rfl rfl oc_at0 rfl hl.1 rfl (Nat.le_of_ble_eq_true rfl) dL_isWhole_211 ⟨by show _ ≤ 2562; omega, by show _ ≤ 15372; omega⟩ (fun H locs hP1 hP2 hS => ?_)
    have hJ := g_J hG hJ
    generalize fsW I J 0 0 = J at hJ hP1
    refine lv_asi (nI p9) (congrArg nI hp9) ?_
    refine lv_iload hx hb dL_isWhole_214 (lv_at hl 3 rfl) ?_
    refine lv_icmp_ne (tgt := 262) hx hb dL_isWhole_216 (by decide) (fun z => absurd ((nI_eq (a := p9) (b := p9) (by omega) (by omega)).mpr (by omega)) z) (fun _ => ?_)
    refine lv_aload_n hx hb dL_isWhole_219 rfl (lv_at hl 5 rfl) ?_
    refine l_cls (As := []) (rest := []) S (n_lowest l D a cI cL cO hG hJ) (cwV 0 hts gL_isWhole_X0_lowest rfl rfl rfl (by decide +kernel) ⟨Nat.le_of_ble_eq_true rfl, Nat.le_of_ble_eq_true rfl⟩) hK hP1 hP2 (hD _ _) hS rfl rfl oc_at0 rfl hl.1 rfl (Nat.le_of_ble_eq_true rfl) dL_isWhole_220 ⟨by show _ ≤ 2562; omega, by show _ ≤ 15372; omega⟩ (fun H locs hP1 hP2 hS => ?_)
    have hJ := g_J hG hJ
    generalize fsW I J 0 0 = J at hJ hP1
    refine lv_iload hx hb dL_isWhole_223 (lv_at hl 3 rfl) ?_
    refine lv_if_ne (tgt := 232) hx hb dL_isWhole_225 (by decide) (fun c7 => ?_) (fun c7 => ?_)
    · have c6 : ¬ p9 = 0 := fun q => c7 (by rw [q]; rfl)
      refine lv_iload hx hb dL_isWhole_232 (lv_at hl 2 rfl) ?_
      refine lv_icmp_ne (tgt := 262) hx hb dL_isWhole_234 (by decide) (fun z => absurd (hv1 c6) z) (fun _ => ?_)
      refine lv_aload_n hx hb dL_isWhole_237 rfl (lv_at hl 5 rfl) ?_
      refine l_cls (As := []) (rest := []) S (n_sagStep l D a cI cL cO hG hJ) (cwV 0 hts gL_isWhole_X0_sagStep rfl rfl rfl (by decide +kernel) ⟨Nat.le_of_ble_eq_true rfl, Nat.le_of_ble_eq_true rfl⟩) hK hP1 hP2 (hD _ _) hS rfl rfl oc_at0 rfl hl.1 rfl (Nat.le_of_ble_eq_true rfl) dL_isWhole_238 ⟨by show _ ≤ 2562; omega, by show _ ≤ 15372; omega⟩ (fun H locs hP1 hP2 hS => ?_)
      have hJ := g_J hG hJ
      generalize fsW I J 0 0 = J at hJ hP1
      refine lv_asi (nI (stN n9 s9)) (by rw [hn9, hs9]) ?_
      refine lv_iload hx hb dL_isWhole_241 (lv_at hl 0 rfl) ?_
      refine lv_bipush (v := (nI 10)) hx hb dL_isWhole_243 (by decide) ?_
      refine lv_icmp_le (tgt := 253) hx hb dL_isWhole_245 (by decide) (fun c4 => ?_) (fun c4 => ?_)
      · have c3 := (nI_leI (a := t9) (b := 10) (by omega) (by omega)).mp c4
        have e8 : stN n9 s9 = t9 := by
          rw [e9]
          split <;> omega
        refine lv_iload hx hb dL_isWhole_253 (lv_at hl 0 rfl) ?_
        refine lv_icmp_ne (tgt := 262) hx hb dL_isWhole_255 (by decide) (fun z => absurd (congrArg nI e8) z) (fun _ => ?_)
        refine lv_iconst (v := (nI 1)) hx hb dL_isWhole_258 (by decide) ?_
        refine lv_goto (tgt := 263) hx hb dL_isWhole_259 (by decide) ?_
        exact kend H _ ls J hJ hP1 hP2 hS
      · have c3 : ¬ t9 ≤ 10 := fun q => c4 ((nI_leI (a := t9) (b := 10) (by omega) (by omega)).mpr q)
        have e8 : stN n9 s9 = 10 := e9.trans (if_neg (by omega))
        refine lv_bipush (v := (nI 10)) hx hb dL_isWhole_248 (by decide) ?_
        refine lv_goto (tgt := 255) hx hb dL_isWhole_250 (by decide) ?_
        refine lv_icmp_ne (tgt := 262) hx hb dL_isWhole_255 (by decide) (fun z => absurd (congrArg nI e8) z) (fun _ => ?_)
        refine lv_iconst (v := (nI 1)) hx hb dL_isWhole_258 (by decide) ?_
        refine lv_goto (tgt := 263) hx hb dL_isWhole_259 (by decide) ?_
        exact kend H _ ls J hJ hP1 hP2 hS
    · have c6 : p9 = 0 := (nI_eq (a := p9) (b := 0) (by omega) (by omega)).mp c7
      refine lv_iconst (v := (nI 0)) hx hb dL_isWhole_228 (by decide) ?_
      refine lv_goto (tgt := 234) hx hb dL_isWhole_229 (by decide) ?_
      refine lv_icmp_ne (tgt := 262) hx hb dL_isWhole_234 (by decide) (fun z => absurd (hv0 c6) z) (fun _ => ?_)
      refine lv_aload_n hx hb dL_isWhole_237 rfl (lv_at hl 5 rfl) ?_
      refine l_cls (As := []) (rest := []) S (n_sagStep l D a cI cL cO hG hJ) (cwV 0 hts gL_isWhole_X0_sagStep rfl rfl rfl (by decide +kernel) ⟨Nat.le_of_ble_eq_true rfl, Nat.le_of_ble_eq_true rfl⟩) hK hP1 hP2 (hD _ _) hS rfl rfl oc_at0 rfl hl.1 rfl (Nat.le_of_ble_eq_true rfl) dL_isWhole_238 ⟨by show _ ≤ 2562; omega, by show _ ≤ 15372; omega⟩ (fun H locs hP1 hP2 hS => ?_)
      have hJ := g_J hG hJ
      generalize fsW I J 0 0 = J at hJ hP1
      refine lv_asi (nI (stN n9 s9)) (by rw [hn9, hs9]) ?_
      refine lv_iload hx hb dL_isWhole_241 (lv_at hl 0 rfl) ?_
      refine lv_bipush (v := (nI 10)) hx hb dL_isWhole_243 (by decide) ?_
      refine lv_icmp_le (tgt := 253) hx hb dL_isWhole_245 (by decide) (fun c4 => ?_) (fun c4 => ?_)
      · have c3 := (nI_leI (a := t9) (b := 10) (by omega) (by omega)).mp c4
        have e8 : stN n9 s9 = t9 := by
          rw [e9]
          split <;> omega
        refine lv_iload hx hb dL_isWhole_253 (lv_at hl 0 rfl) ?_
        refine lv_icmp_ne (tgt := 262) hx hb dL_isWhole_255 (by decide) (fun z => absurd (congrArg nI e8) z) (fun _ => ?_)
        refine lv_iconst (v := (nI 1)) hx hb dL_isWhole_258 (by decide) ?_
        refine lv_goto (tgt := 263) hx hb dL_isWhole_259 (by decide) ?_
        exact kend H _ ls J hJ hP1 hP2 hS
      · have c3 : ¬ t9 ≤ 10 := fun q => c4 ((nI_leI (a := t9) (b := 10) (by omega) (by omega)).mpr q)
        have e8 : stN n9 s9 = 10 := e9.trans (if_neg (by omega))
        refine lv_bipush (v := (nI 10)) hx hb dL_isWhole_248 (by decide) ?_
        refine lv_goto (tgt := 255) hx hb dL_isWhole_250 (by decide) ?_
        refine lv_icmp_ne (tgt := 262) hx hb dL_isWhole_255 (by decide) (fun z => absurd (congrArg nI e8) z) (fun _ => ?_)
        refine lv_iconst (v := (nI 1)) hx hb dL_isWhole_258 (by decide) ?_
        refine lv_goto (tgt := 263) hx hb dL_isWhole_259 (by decide) ?_
        exact kend H _ ls J hJ hP1 hP2 hS
  · have c8 := Nat.le_of_not_lt (fun q => c9 ((nI_ltI (a := s9) (b := n9) (by omega) (by omega)).mpr q))
    refine lv_iconst (v := (nI 0)) hx hb dL_isWhole_181 (by decide) ?_
    refine lv_goto (tgt := 195) hx hb dL_isWhole_182 (by decide) ?_
    refine lv_istore (lv' := [(7, .int (nI 0)), (6, .int (nI 1)), (5, .int v9), (4, .int (nI p9)), (3, .int (nI n9)), (0, .ref (a 0)), (1, .ref q1), (2, .int (nI s9))]) hx hb dL_isWhole_195 hl (by decide) rfl (fun ls hl => ?_)
    refine lv_iload hx hb dL_isWhole_197 (lv_at hl 1 rfl) ?_
    obtain ⟨t9, ht9⟩ : ∃ t9, t9 = 0 := ⟨_, rfl⟩
    have hl : lv_has ls 12 [(7, .int (nI t9)), (6, .int (nI 1)), (5, .int v9), (4, .int (nI p9)), (3, .int (nI n9)), (0, .ref (a 0)), (1, .ref q1), (2, .int (nI s9))] := by
      rw [ht9]
      exact hl
    have e9 : stN n9 s9 = if t9 < 10 then t9 else 10 := by
      rw [ht9]
      exact if_pos c8
    have b9 : t9 < 200000 := by omega
    clear ht9
    refine lv_if_eq (tgt := 262) hx hb dL_isWhole_199 (by decide) (fun z => absurd ((nI_eq (a := 1) (b := 0) (by omega) (by omega)).mp z) (by omega)) (fun _ => ?_)
    refine lv_aload_n hx hb dL_isWhole_202 rfl (lv_at hl 5 rfl) ?_
    refine l_cls (As := []) (rest := []) S (n_need l D a cI cL cO hG hJ) (cwV 0 hts gL_isWhole_X0_need rfl rfl rfl (by decide +kernel) ⟨Nat.le_of_ble_eq_true rfl, Nat.le_of_ble_eq_true rfl⟩) hK hP1 hP2 (hD _ _) hS rfl rfl oc_at0 rfl hl.1 rfl (Nat.le_of_ble_eq_true rfl) dL_isWhole_203 ⟨by show _ ≤ 2562; omega, by show _ ≤ 15372; omega⟩ (fun H locs hP1 hP2 hS => ?_)
    have hJ := g_J hG hJ
    generalize fsW I J 0 0 = J at hJ hP1
    refine lv_asi (nI n9) (congrArg nI hn9) ?_
    refine lv_iload_n hx hb dL_isWhole_206 rfl (lv_at hl 4 rfl) ?_
    refine lv_icmp_ne (tgt := 262) hx hb dL_isWhole_207 (by decide) (fun z => absurd ((nI_eq (a := n9) (b := n9) (by omega) (by omega)).mpr (by omega)) z) (fun _ => ?_)
    refine lv_aload_n hx hb dL_isWhole_210 rfl (lv_at hl 5 rfl) ?_
    refine l_cls (As := []) (rest := []) S (n_pipes l D a cI cL cO hG hJ) (cwV 0 hts gL_isWhole_X0_pipes rfl rfl rfl (by decide +kernel) ⟨Nat.le_of_ble_eq_true rfl, Nat.le_of_ble_eq_true rfl⟩) hK hP1 hP2 (hD _ _) hS rfl rfl oc_at0 rfl hl.1 rfl (Nat.le_of_ble_eq_true rfl) dL_isWhole_211 ⟨by show _ ≤ 2562; omega, by show _ ≤ 15372; omega⟩ (fun H locs hP1 hP2 hS => ?_)
    have hJ := g_J hG hJ
    generalize fsW I J 0 0 = J at hJ hP1
    refine lv_asi (nI p9) (congrArg nI hp9) ?_
    refine lv_iload hx hb dL_isWhole_214 (lv_at hl 3 rfl) ?_
    refine lv_icmp_ne (tgt := 262) hx hb dL_isWhole_216 (by decide) (fun z => absurd ((nI_eq (a := p9) (b := p9) (by omega) (by omega)).mpr (by omega)) z) (fun _ => ?_)
    refine lv_aload_n hx hb dL_isWhole_219 rfl (lv_at hl 5 rfl) ?_
    refine l_cls (As := []) (rest := []) S (n_lowest l D a cI cL cO hG hJ) (cwV 0 hts gL_isWhole_X0_lowest rfl rfl rfl (by decide +kernel) ⟨Nat.le_of_ble_eq_true rfl, Nat.le_of_ble_eq_true rfl⟩) hK hP1 hP2 (hD _ _) hS rfl rfl oc_at0 rfl hl.1 rfl (Nat.le_of_ble_eq_true rfl) dL_isWhole_220 ⟨by show _ ≤ 2562; omega, by show _ ≤ 15372; omega⟩ (fun H locs hP1 hP2 hS => ?_)
    have hJ := g_J hG hJ
    generalize fsW I J 0 0 = J at hJ hP1
    refine lv_iload hx hb dL_isWhole_223 (lv_at hl 3 rfl) ?_
    refine lv_if_ne (tgt := 232) hx hb dL_isWhole_225 (by decide) (fun c7 => ?_) (fun c7 => ?_)
    · have c6 : ¬ p9 = 0 := fun q => c7 (by rw [q]; rfl)
      refine lv_iload hx hb dL_isWhole_232 (lv_at hl 2 rfl) ?_
      refine lv_icmp_ne (tgt := 262) hx hb dL_isWhole_234 (by decide) (fun z => absurd (hv1 c6) z) (fun _ => ?_)
      refine lv_aload_n hx hb dL_isWhole_237 rfl (lv_at hl 5 rfl) ?_
      refine l_cls (As := []) (rest := []) S (n_sagStep l D a cI cL cO hG hJ) (cwV 0 hts gL_isWhole_X0_sagStep rfl rfl rfl (by decide +kernel) ⟨Nat.le_of_ble_eq_true rfl, Nat.le_of_ble_eq_true rfl⟩) hK hP1 hP2 (hD _ _) hS rfl rfl oc_at0 rfl hl.1 rfl (Nat.le_of_ble_eq_true rfl) dL_isWhole_238 ⟨by show _ ≤ 2562; omega, by show _ ≤ 15372; omega⟩ (fun H locs hP1 hP2 hS => ?_)
      have hJ := g_J hG hJ
      generalize fsW I J 0 0 = J at hJ hP1
      refine lv_asi (nI (stN n9 s9)) (by rw [hn9, hs9]) ?_
      refine lv_iload hx hb dL_isWhole_241 (lv_at hl 0 rfl) ?_
      refine lv_bipush (v := (nI 10)) hx hb dL_isWhole_243 (by decide) ?_
      refine lv_icmp_le (tgt := 253) hx hb dL_isWhole_245 (by decide) (fun c4 => ?_) (fun c4 => ?_)
      · have c3 := (nI_leI (a := t9) (b := 10) (by omega) (by omega)).mp c4
        have e8 : stN n9 s9 = t9 := by
          rw [e9]
          split <;> omega
        refine lv_iload hx hb dL_isWhole_253 (lv_at hl 0 rfl) ?_
        refine lv_icmp_ne (tgt := 262) hx hb dL_isWhole_255 (by decide) (fun z => absurd (congrArg nI e8) z) (fun _ => ?_)
        refine lv_iconst (v := (nI 1)) hx hb dL_isWhole_258 (by decide) ?_
        refine lv_goto (tgt := 263) hx hb dL_isWhole_259 (by decide) ?_
        exact kend H _ ls J hJ hP1 hP2 hS
      · have c3 : ¬ t9 ≤ 10 := fun q => c4 ((nI_leI (a := t9) (b := 10) (by omega) (by omega)).mpr q)
        have e8 : stN n9 s9 = 10 := e9.trans (if_neg (by omega))
        refine lv_bipush (v := (nI 10)) hx hb dL_isWhole_248 (by decide) ?_
        refine lv_goto (tgt := 255) hx hb dL_isWhole_250 (by decide) ?_
        refine lv_icmp_ne (tgt := 262) hx hb dL_isWhole_255 (by decide) (fun z => absurd (congrArg nI e8) z) (fun _ => ?_)
        refine lv_iconst (v := (nI 1)) hx hb dL_isWhole_258 (by decide) ?_
        refine lv_goto (tgt := 263) hx hb dL_isWhole_259 (by decide) ?_
        exact kend H _ ls J hJ hP1 hP2 hS
    · have c6 : p9 = 0 := (nI_eq (a := p9) (b := 0) (by omega) (by omega)).mp c7
      refine lv_iconst (v := (nI 0)) hx hb dL_isWhole_228 (by decide) ?_
      refine lv_goto (tgt := 234) hx hb dL_isWhole_229 (by decide) ?_
      refine lv_icmp_ne (tgt := 262) hx hb dL_isWhole_234 (by decide) (fun z => absurd (hv0 c6) z) (fun _ => ?_)
      refine lv_aload_n hx hb dL_isWhole_237 rfl (lv_at hl 5 rfl) ?_
      refine l_cls (As := []) (rest := []) S (n_sagStep l D a cI cL cO hG hJ) (cwV 0 hts gL_isWhole_X0_sagStep rfl rfl rfl (by decide +kernel) ⟨Nat.le_of_ble_eq_true rfl, Nat.le_of_ble_eq_true rfl⟩) hK hP1 hP2 (hD _ _) hS rfl rfl oc_at0 rfl hl.1 rfl (Nat.le_of_ble_eq_true rfl) dL_isWhole_238 ⟨by show _ ≤ 2562; omega, by show _ ≤ 15372; omega⟩ (fun H locs hP1 hP2 hS => ?_)
      have hJ := g_J hG hJ
      generalize fsW I J 0 0 = J at hJ hP1
      refine lv_asi (nI (stN n9 s9)) (by rw [hn9, hs9]) ?_
      refine lv_iload hx hb dL_isWhole_241 (lv_at hl 0 rfl) ?_
      refine lv_bipush (v := (nI 10)) hx hb dL_isWhole_243 (by decide) ?_
      refine lv_icmp_le (tgt := 253) hx hb dL_isWhole_245 (by decide) (fun c4 => ?_) (fun c4 => ?_)
      · have c3 := (nI_leI (a := t9) (b := 10) (by omega) (by omega)).mp c4
        have e8 : stN n9 s9 = t9 := by
          rw [e9]
          split <;> omega
        refine lv_iload hx hb dL_isWhole_253 (lv_at hl 0 rfl) ?_
        refine lv_icmp_ne (tgt := 262) hx hb dL_isWhole_255 (by decide) (fun z => absurd (congrArg nI e8) z) (fun _ => ?_)
        refine lv_iconst (v := (nI 1)) hx hb dL_isWhole_258 (by decide) ?_
        refine lv_goto (tgt := 263) hx hb dL_isWhole_259 (by decide) ?_
        exact kend H _ ls J hJ hP1 hP2 hS
      · have c3 : ¬ t9 ≤ 10 := fun q => c4 ((nI_leI (a := t9) (b := 10) (by omega) (by omega)).mpr q)
        have e8 : stN n9 s9 = 10 := e9.trans (if_neg (by omega))
        refine lv_bipush (v := (nI 10)) hx hb dL_isWhole_248 (by decide) ?_
        refine lv_goto (tgt := 255) hx hb dL_isWhole_250 (by decide) ?_
        refine lv_icmp_ne (tgt := 262) hx hb dL_isWhole_255 (by decide) (fun z => absurd (congrArg nI e8) z) (fun _ => ?_)
        refine lv_iconst (v := (nI 1)) hx hb dL_isWhole_258 (by decide) ?_
        refine lv_goto (tgt := 263) hx hb dL_isWhole_259 (by decide) ?_
        exact kend H _ ls J hJ hP1 hP2 hS
set_option maxHeartbeats 4000000 in
set_option maxRecDepth 100000 in
theorem n_isWhole (l : Launch) (hl0 : l.stackTraces = false) (D : va_G) (a : Nat → Nat) (cI cL cO : ClassId) (q1 : Nat) {I : Nat → Nat → Int32} {J : Nat → Nat → Int64} {h : Nat → Nat} {W9 : Nat → Int32} (hG : GI I) (hJ : gJ J h) (hW : ∀ r, r < 6 → W9 r = I 1 r) (sz : Nat) : Met l yL_isWhole wsL_isWhole rmW (va_Pc [.ref (a 0), .ref q1, .int (nI (suN I))] (tB D (oty cI cL cO) (oc a cI cL cO I J ++ [(q1, .inl (cI, 6, .inl W9))]) sz)) (gQ (oc a cI cL cO I J ++ [(q1, .inl (cI, 6, .inl W9))]) sz 1 (fun H => ∃ J2, gJ J2 h ∧ va_P D vwCl (oc a cI cL cO I J2 ++ [(q1, .inl (cI, 6, .inl W9))]) H)) 2562 15372 (tA (oc a cI cL cO I J ++ [(q1, .inl (cI, 6, .inl W9))]) sz) := by
  refine Met.ofW (cc := cL_isWhole) (maxL := 12) (ret := some .boolean) (by decide) rfl ?_
  intro p e s m args below meth c s₁ B hml hv
  obtain ⟨rfl, hsz, hP, hK, hD0, hES, hEH⟩ := hv
  subst hsz
  have hx := B.exec
  have hb := B.bytes
  have hr := B.returns
  have hts := atoms_spec (ws := wsL_isWhole) B.pre
  have hown : s.vm.findClass RL = some m.cls := findClass_of_methodNamed B.named
  have hlocks := B.notSynchronized
  have hDA := tA_D (sz := s.heap.size) hD0
  have hA : ∀ z9 : Nat, s.heap.size ≤ z9 → tA (oc a cI cL cO I J ++ [(q1, .inl (cI, 6, .inl W9))]) s.heap.size z9 := fun _ h => Or.inr h
  have hS : va_S (tA (oc a cI cL cO I J ++ [(q1, .inl (cI, 6, .inl W9))]) s.heap.size) s.heap s.heap [] := va_S.rf
  have hD : ∀ (I : Nat → Nat → Int32) (J : Nat → Nat → Int64), va_D _ (oc a cI cL cO I J ++ [(q1, .inl (cI, 6, .inl W9))]) := fun _ _ => wsD_addr hDA rfl
  have S : CallFix p m c cL_isWhole 12 s _ wsL_isWhole RL := ⟨hx, hb, hml, hown, hts⟩
  have hl := lv_entry ([.ref (a 0), .ref q1, .int (nI (suN I))]) (n := 12) (Nat.le_of_ble_eq_true rfl)
  rw [lg_entry_eq]
  generalize (lg_sl ([.ref (a 0), .ref q1, .int (nI (suN I))]) ++ List.replicate (12 - (lg_sl ([.ref (a 0), .ref q1, .int (nI (suN I))])).length) Slot.unset).toArray = ls at hl ⊢
  have hl : lv_has ls 12 [(0, .ref (a 0)), (1, .ref q1), (2, .int (nI (suN I)))] := hl
  have b1 : nd I h ≤ 5124 := nd_bd hG _
  have b2 : pp I h ≤ 366 := pp_bd _
  obtain ⟨-, u1, u2⟩ := gi_su hG
  refine lv_iconst (v := (nI 0)) hx hb dL_isWhole_0 (by decide) ?_
  refine lv_istore_n (lv' := [(3, .int (nI 0)), (0, .ref (a 0)), (1, .ref q1), (2, .int (nI (suN I)))]) hx hb dL_isWhole_1 rfl hl (by decide) rfl (fun ls hl => ?_)
  refine lv_iconst (v := (nI 0)) hx hb dL_isWhole_2 (by decide) ?_
  refine lv_istore (lv' := [(4, .int (nI 0)), (3, .int (nI 0)), (0, .ref (a 0)), (1, .ref q1), (2, .int (nI (suN I)))]) hx hb dL_isWhole_3 hl (by decide) rfl (fun ls hl => ?_)
  refine lv_ldc (v := 100000) hx hb hown (hts (.constant RL 26 100000) (by decide +kernel)) dL_isWhole_5 ?_
  refine lv_istore (lv' := [(5, .int 100000), (4, .int (nI 0)), (3, .int (nI 0)), (0, .ref (a 0)), (1, .ref q1), (2, .int (nI (suN I)))]) hx hb dL_isWhole_7 hl (by decide) rfl (fun ls hl => ?_)
  refine lv_iconst (v := (nI 1)) hx hb dL_isWhole_9 (by decide) ?_
  refine lv_istore (lv' := [(6, .int (nI 1)), (5, .int 100000), (4, .int (nI 0)), (3, .int (nI 0)), (0, .ref (a 0)), (1, .ref q1), (2, .int (nI (suN I)))]) hx hb dL_isWhole_10 hl (by decide) rfl (fun ls hl => ?_)
  refine lv_iconst (v := (nI 0)) hx hb dL_isWhole_12 (by decide) ?_
  refine lv_istore (lv' := [(7, .int (nI 0)), (6, .int (nI 1)), (5, .int 100000), (4, .int (nI 0)), (3, .int (nI 0)), (0, .ref (a 0)), (1, .ref q1), (2, .int (nI (suN I)))]) hx hb dL_isWhole_13 hl (by decide) rfl (fun ls hl => ?_)
  refine iw_loop hl0 S hK hD hES hEH hA hG hW (fun H locs ls J hJ hP1 hP2 hS hl => ?_) 366 0 rfl s.heap [] ls J hJ hP.fst hP.snd hS (lv_sub hl [0, 1, 2, 3, 4, 5, 6, 7] rfl)
  rw [pp_sm, nd_sm] at hl
  have lv9 := low_v I h
  refine iw_end hl0 S hK hD hES hEH hA hG hW rfl rfl rfl lv9.1 lv9.2 b1 b2 u1 u2 hJ hP1 hP2 hS hl (fun H locs ls J hJ hP1 hP2 hS => ?_)
  exact e_g hx hb hr (nar_bI true) hlocks ⟨J, hJ, va_P.app hP1 hP2⟩ hS rfl (Nat.le_of_ble_eq_true rfl) (Nat.le_of_ble_eq_true rfl) dL_isWhole_263
