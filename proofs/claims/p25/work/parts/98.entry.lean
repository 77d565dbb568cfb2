/-! ===== from the entry to the loop ===== -/
def wfN : Nat → Nat → Int32
  | 0 => fun _ => 0
  | i + 1 => upd (wfN i) i (nI 2)
theorem wf_6 : ∀ r, r < 6 → wfN 6 r = 2 := fun r hr => by
  rcases (show r = 0 ∨ r = 1 ∨ r = 2 ∨ r = 3 ∨ r = 4 ∨ r = 5 by omega) with rfl | rfl | rfl | rfl | rfl | rfl <;> rfl
theorem suN_new : suN inZ = 100 := by
  unfold suN
  rw [inZ_8]
  exact nI_clamp (n := 100) (by decide)
set_option maxHeartbeats 1000000 in
set_option maxRecDepth 100000 in
theorem whole_start {p : Program} {e : Env} {s : State} {m : MethodId} {below : List Frame} {meth : Method} {c : Code} (l : Launch) (hflags : l.flags = flags0) {b L : Nat} {xs : Nat → Int32} (hL : L ≤ 260) (C0 : lw_At p s m meth c b L xs) : W p l e room_1 s m #[Value.ref b] below meth c s.heap [] 0 0 (lw_Z below #[Value.ref b] s) (entryFrame m ([Value.ref b] : List Value).toArray 22) := by
  obtain ⟨hx, hb, hr, hml, hown, hts0, hX, hbl, hlocks, hgv⟩ := C0
  have hb : c.code = cL_law := hb
  have hown : s.vm.findClass RL = some m.cls := hown
  have hl0 : l.stackTraces = false := by
    unfold Launch.stackTraces
    rw [hflags]
    decide +kernel
  have hts : ∀ w ∈ wsL_law, w.before #[Value.ref b] s = true := fun w h => hts0 w (wsL_law_in w h)
  have hES := law_eS hts0 hgv
  have hEH := law_eH hts0 hgv
  obtain ⟨D, cI, cL, cO, hK, hao⟩ := law_K hts0
  have S : CallFix p m c cL_law 22 s #[Value.ref b] wsL_law RL := ⟨hx, hb, hml, hown, hts⟩
  have hl := lv_entry ([.ref b]) (n := 22) (Nat.le_of_ble_eq_true rfl)
  rw [lg_entry_eq]
  generalize (lg_sl ([.ref b]) ++ List.replicate (22 - (lg_sl ([.ref b])).length) Slot.unset).toArray = ls at hl ⊢
  have hl : lv_has ls 22 [(0, .ref b)] := hl
  have hP : va_P D vwCl [] s.heap := fun k x hk => by cases hk
  have hD : va_D (fr s) [] := ⟨fun i j x y hi => (by cases hi), fun k x hk => (by cases hk)⟩
  have hS : va_S (fr s) s.heap s.heap [] := va_S.rf
  have hA : ∀ x : Nat, s.heap.size ≤ x → fr s x := fun _ h => h
  refine va_new (own := RL) (C := RX0) (T := TX0) (N := 15) (ci := 0) (fs := [.null, .null, .null, .null, .null, .null, .int 0, .null, .null, .null, .int 0, .null, .null, .null, .null]) hx hb hts0 (by decide +kernel) tyX0 tyX0_ok hown (hts0 (.classLink RL 8 RX0) (by decide +kernel)) (hts0 (.instantiable RX0 15) (by decide +kernel)) (hts0 (.initialized RX0) (by decide +kernel)) hK hP hD hS hA rfl (by decide) (Nat.le_of_ble_eq_true rfl) (Nat.le_of_ble_eq_true rfl) dL_law_0 (fun g0 H hP hD hS => ?_)
  have hP : va_P D vwCl [(g0, .inr (0, [.null, .null, .null, .null, .null, .null, .int 0, .null, .null, .null, .int 0, .null, .null, .null, .null]))] H := hP
  have hD : va_D (fr s) [(g0, .inr (0, [.null, .null, .null, .null, .null, .null, .int 0, .null, .null, .null, .int 0, .null, .null, .null, .null]))] := hD
  refine lv_dup hx hb dL_law_3 rfl ?_
  generalize hw0 : ([(g0, .inr (0, [.null, .null, .null, .null, .null, .null, .int 0, .null, .null, .null, .int 0, .null, .null, .null, .null]))] : va_W) = w0 at hP hD
  have hAA : ∀ x, tA w0 H.size x → fr s x := fun x h => h.elim (wA_in hD x) (fun z => Nat.le_trans hS.1 z)
  have cw0 := cwI (R := room_1) (s := s) (args := #[Value.ref b]) (own := RL) (index := 52) (maxL := 3) (mc := 22) (ms := 469) (y := yX0_init) (bytes := cX0_init) (rm := ({ frames := 1, cells := 22, slots := 469, locals := 12 } : Room)) 0 hts gL_law_X0_init rfl rfl rfl (hts0 (.initialized RX0) (by decide +kernel)) (hts0 (.methodLink RL 52 yX0_init) (by decide +kernel)) (hts0 (.instanceMethod yX0_init) (by decide +kernel)) rfl (by decide +kernel) ⟨Nat.le_of_ble_eq_true rfl, Nat.le_of_ble_eq_true rfl⟩
  refine va_callv (va_runI (As := []) (b := g0) (rest := [.ref g0]) S (c_X0init l D g0 cI cL cO H.size) cw0 ⟨fun a U g mk z => ⟨z.1, z.2.1, z.2.2.1, va_K.moved (u := U) (U := U.calling g mk a) (Vm.Alike.refl U.vm) z.2.2.2.1, z.2.2.2.2.1, z.2.2.2.2.2.1.moved (u := U) (U := U.calling g mk a) (Vm.Alike.refl U.vm), z.2.2.2.2.2.2.at (U := U.calling g mk a) (Vm.Alike.refl U.vm) (fun _ _ _ => rfl) (fun _ h => h)⟩, fun U hU hWm => ⟨rfl, by rw [hU], by rw [hU, hw0]; exact hP, va_K.moved hWm.alike hK, by rw [hw0]; exact hD.weaken (fun _ _ _ _ => trivial), hao.moved hWm.alike, by rw [hU, hw0]; exact hEH.at hWm.alike hS.2.1 hAA⟩⟩ rfl rfl hl.1 rfl (lv_room (Nat.le_of_ble_eq_true rfl)) dL_law_4 ⟨Nat.le_of_ble_eq_true rfl, Nat.le_of_ble_eq_true rfl⟩) hS (fun x _ h => hAA x (by rw [← hw0]; exact h)) (fun x h => hAA x (by rw [← hw0]; exact h)) ?_
  intro a t H1 locs1 ht _ ha hB hz hk hS
  obtain ⟨hP1, hD1⟩ := hB
  rw [ht] at hP1
  have hDn : va_D (fr s) (oc a cI cL cO inZ zJ) := hD1.weaken (fun _ x _ h => hAA x.1 (by rw [← hw0]; exact h))
  clear hD1
  clear hk hz
  clear hP hD
  refine lv_astore_n (lv' := [(1, .ref g0), (0, .ref b)]) hx hb dL_law_7 rfl hl (by decide) rfl (fun ls hl => ?_)
  subst ha
  refine lv_bipush (v := nI 6) hx hb dL_law_8 (by decide) ?_
  refine n_int (N := 6) hx hb (hts0 (.arrayClass .int) (by decide +kernel)) rfl hK hP1 hDn hS hA (by decide) (by decide) (by decide) (Nat.le_of_ble_eq_true rfl) (Nat.le_of_ble_eq_true rfl) dL_law_10 (fun q1 H hP hD hS => ?_)
  refine lv_astore_n (lv' := [(2, .ref q1), (1, .ref (a 0)), (0, .ref b)]) hx hb dL_law_12 rfl hl (by decide) rfl (fun ls hl => ?_)
  refine lv_bipush (v := nI 12) hx hb dL_law_13 (by decide) ?_
  refine n_int (N := 12) hx hb (hts0 (.arrayClass .int) (by decide +kernel)) rfl hK hP hD hS hA (by decide) (by decide) (by decide) (Nat.le_of_ble_eq_true rfl) (Nat.le_of_ble_eq_true rfl) dL_law_15 (fun q2 H hP hD hS => ?_)
  refine lv_astore_n (lv' := [(3, .ref q2), (2, .ref q1), (1, .ref (a 0)), (0, .ref b)]) hx hb dL_law_17 rfl hl (by decide) rfl (fun ls hl => ?_)
  have hD0 : va_D (fr s) (oc a cI cL cO inZ zJ ++ la cI q1 q2 (fun _ => 0) (fun _ => 0)) := by
    rw [List.append_assoc] at hD
    exact hD
  have hD : ∀ (I : Nat → Nat → Int32) (J : Nat → Nat → Int64) (W9 Dn : Nat → Int32), va_D (fr s) (oc a cI cL cO I J ++ la cI q1 q2 W9 Dn) := fun _ _ _ _ => wsD_addr hD0 rfl
  have hPq : va_P D vwCl (oc a cI cL cO inZ zJ ++ la cI q1 q2 (fun _ => 0) (fun _ => 0)) H := by
    rw [List.append_assoc] at hP
    exact hP
  have hP1 := hPq.fst
  have hP2 : va_P D vwCl (la cI q1 q2 (wfN 0) (fun _ => 0)) H := hPq.snd
  have C : LC p l s m c D a q1 q2 b cI cL cO L xs := ⟨hl0, S, hK, wsD_addr hD0 rfl, hES, hEH, hX, hbl, hL⟩
  refine lv_bipush (v := (nI 100)) hx hb dL_law_18 (by decide) ?_
  refine lv_istore (lv' := [(4, .int (nI 100)), (3, .ref q2), (2, .ref q1), (1, .ref (a 0)), (0, .ref b)]) hx hb dL_law_20 hl (by decide) rfl (fun ls hl => ?_)
  refine lv_iconst (v := (nI 0)) hx hb dL_law_22 (by decide) ?_
  refine lv_istore (lv' := [(5, .int (nI 0)), (4, .int (nI 100)), (3, .ref q2), (2, .ref q1), (1, .ref (a 0)), (0, .ref b)]) hx hb dL_law_23 hl (by decide) rfl (fun ls hl => ?_)
  refine lv_iconst (v := (nI 0)) hx hb dL_law_25 (by decide) ?_
  refine lv_istore (lv' := [(6, .int (nI 0)), (5, .int (nI 0)), (4, .int (nI 100)), (3, .ref q2), (2, .ref q1), (1, .ref (a 0)), (0, .ref b)]) hx hb dL_law_26 hl (by decide) rfl (fun ls hl => ?_)
  refine lv_iconst (v := (nI 0)) hx hb dL_law_28 (by decide) ?_
  refine lv_istore (lv' := [(7, .int (nI 0)), (6, .int (nI 0)), (5, .int (nI 0)), (4, .int (nI 100)), (3, .ref q2), (2, .ref q1), (1, .ref (a 0)), (0, .ref b)]) hx hb dL_law_29 hl (by decide) rfl (fun ls hl => ?_)
  refine W_loopH (σ := Unit) 0 6 31 (fun i9 _ H locs ls => va_P D vwCl (oc a cI cL cO inZ zJ) H ∧ va_P D vwCl (la cI q1 q2 (wfN i9) (fun _ => 0)) H ∧ va_S (fr s) s.heap H locs ∧ lv_has ls 22 [(7, .int (nI i9)), (6, .int (nI 0)), (5, .int (nI 0)), (4, .int (nI 100)), (3, .ref q2), (2, .ref q1), (1, .ref (a 0)), (0, .ref b)]) (fun i9 _ H locs ls g_i h_i hI ih_i => ?_) () (by decide) ⟨hP1, hP2, hS, lv_sub hl [0, 1, 2, 3, 4, 5, 6, 7] rfl⟩
  obtain ⟨hP1, hP2, hS, hl⟩ := hI
  refine lv_iload hx hb dL_law_31 (lv_at hl 0 rfl) ?_
  refine lv_bipush (v := (nI 6)) hx hb dL_law_33 (by decide) ?_
  refine lv_icmp_ge (tgt := 49) hx hb dL_law_35 (by decide) (fun c1 => ?_) (fun c1 => ?_)
  · have c2 := (nI_leI (a := 6) (b := i9) (by omega) (by omega)).mp c1
    obtain rfl : i9 = 6 := by omega
    refine lv_aload_n hx hb dL_law_49 rfl (lv_at hl 6 rfl) ?_
    refine lv_aload_n hx hb dL_law_50 rfl (lv_at hl 5 rfl) ?_
    refine lv_iload hx hb dL_law_51 (lv_at hl 3 rfl) ?_
    have q9 := n_isWhole l hl0 D a cI cL cO q1 GI_new gJ_new (W9 := wfN 6) (fun r hr => (wf_6 r hr).trans (new_1 r hr).symm) H.size
    rw [suN_new] at q9
    have hD9 : va_D (fr s) ((oc a cI cL cO inZ zJ ++ [(q1, .inl (cI, 6, .inl (wfN 6)))]) ++ [(q2, .inl (cI, 12, .inl (fun _ => 0)))]) := by
      rw [List.append_assoc]
      exact hD inZ zJ (wfN 6) (fun _ => 0)
    have hPw := va_P.fst (w1 := [(q1, .inl (cI, 6, .inl (wfN 6)))]) (w2 := [(q2, .inl (cI, 12, .inl (fun _ => 0)))]) hP2
    have hPd := va_P.snd (w1 := [(q1, .inl (cI, 6, .inl (wfN 6)))]) (w2 := [(q2, .inl (cI, 12, .inl (fun _ => 0)))]) hP2
    refine l_hs (As := [.ref (a 0), .ref q1, .int (nI 100)]) (rest := []) S q9 (va_cwS 3 hts gL_law_L_isWhole rfl rfl rfl (by decide +kernel) ⟨Nat.le_of_ble_eq_true rfl, Nat.le_of_ble_eq_true rfl⟩) hK (va_P.app hP1 hPw) hPd hD9 hES hEH hS hA rfl hl.1 rfl (Nat.le_of_ble_eq_true rfl) dL_law_53 ⟨Nat.le_of_ble_eq_true rfl, Nat.le_of_ble_eq_true rfl⟩ (fun H locs hP1 hPd hS => ?_)
    obtain ⟨J, hJ, hP⟩ := hP1
    have hP1 := hP.fst
    have hP2 : va_P D vwCl (la cI q1 q2 (wfN 6) (fun _ => 0)) H := va_P.app hP.snd hPd
    have hLI : LI inZ J h0 (wfN 6) (fun _ => 0) 100 0 0 := ⟨GI_new, hJ, (LI_new wf_6).2.2⟩
    refine lv_asi (nI 1) rfl ?_
    refine lv_istore (lv' := [(7, .int (nI 1)), (6, .int (nI 0)), (5, .int (nI 0)), (4, .int (nI 100)), (3, .ref q2), (2, .ref q1), (1, .ref (a 0)), (0, .ref b)]) hx hb dL_law_56 hl (by decide) rfl (fun ls hl => ?_)
    refine lv_aload_n hx hb dL_law_58 rfl (lv_at hl 7 rfl) ?_
    refine va_slen hx hb hX hbl (fun z => Nat.not_lt.mpr z hbl) hS dL_law_59 ?_
    refine lv_asi (nI L) rfl ?_
    refine lv_bipush (v := (nI 40)) hx hb dL_law_60 (by decide) ?_
    refine lv_icmp_ge (tgt := 71) hx hb dL_law_62 (by decide) (fun c3 => ?_) (fun c3 => ?_)
    · refine lv_aload_n hx hb dL_law_71 rfl (lv_at hl 7 rfl) ?_
      refine va_slen hx hb hX hbl (fun z => Nat.not_lt.mpr z hbl) hS dL_law_72 ?_
      refine lv_asi (nI L) rfl ?_
      refine lv_bipush (v := (nI 80)) hx hb dL_law_73 (by decide) ?_
      refine lv_icmp_ge (tgt := 85) hx hb dL_law_75 (by decide) (fun c4 => ?_) (fun c4 => ?_)
      · skip
        refine lv_sipush (v := (nI 240)) hx hb dL_law_85 (by decide) ?_
        refine lv_istore (lv' := [(8, .int (nI 240)), (7, .int (nI 1)), (6, .int (nI 0)), (5, .int (nI 0)), (4, .int (nI 100)), (3, .ref q2), (2, .ref q1), (1, .ref (a 0)), (0, .ref b)]) hx hb dL_law_88 hl (by decide) rfl (fun ls hl => ?_)
        refine lv_iconst (v := (nI 0)) hx hb dL_law_90 (by decide) ?_
        refine lv_istore (lv' := [(9, .int (nI 0)), (8, .int (nI 240)), (7, .int (nI 1)), (6, .int (nI 0)), (5, .int (nI 0)), (4, .int (nI 100)), (3, .ref q2), (2, .ref q1), (1, .ref (a 0)), (0, .ref b)]) hx hb dL_law_91 hl (by decide) rfl (fun ls hl => ?_)
        refine W.widen (k := 2800 + 2800 * 0) (n := 17000 + 17000 * 0) (Nat.le_of_ble_eq_true rfl) (Nat.le_of_ble_eq_true rfl) ?_
        refine law_loop (T := 240) C (by omega) (fun H locs ls hS hl => ?_) (240) 0 rfl H _ ls inZ J h0 (wfN 6) (fun _ => 0) 100 0 0 hLI hP1 hP2 hS (lv_sub hl [2, 9, 8, 7, 6, 5, 4, 3, 1, 0] rfl)
        refine lv_iload hx hb dL_law_1606 (lv_at hl 0 rfl) ?_
        refine va_forget (fun x hx9 => hS.2.2 x hx9) ?_
        refine W.widen (k := 683036) (n := 7052515) (by omega) (by omega) ?_
        exact lw_ret hx hb hr hlocks dL_law_1608
      · have c5 : L < 80 := Nat.lt_of_not_le (fun q => c4 ((nI_leI (a := 80) (b := L) (by omega) (by omega)).mpr q))
        refine lv_iconst (v := (nI 3)) hx hb dL_law_78 (by decide) ?_
        refine lv_aload_n hx hb dL_law_79 rfl (lv_at hl 7 rfl) ?_
        refine va_slen hx hb hX hbl (fun z => Nat.not_lt.mpr z hbl) hS dL_law_80 ?_
        refine lv_asi (nI L) rfl ?_
        refine lv_imul hx hb dL_law_81 ?_
        refine lv_asi (nI (3 * L)) (pk_mul _ _) ?_
        refine lv_goto (tgt := 88) hx hb dL_law_82 (by decide) ?_
        refine lv_istore (lv' := [(8, .int (nI (3 * L))), (7, .int (nI 1)), (6, .int (nI 0)), (5, .int (nI 0)), (4, .int (nI 100)), (3, .ref q2), (2, .ref q1), (1, .ref (a 0)), (0, .ref b)]) hx hb dL_law_88 hl (by decide) rfl (fun ls hl => ?_)
        refine lv_iconst (v := (nI 0)) hx hb dL_law_90 (by decide) ?_
        refine lv_istore (lv' := [(9, .int (nI 0)), (8, .int (nI (3 * L))), (7, .int (nI 1)), (6, .int (nI 0)), (5, .int (nI 0)), (4, .int (nI 100)), (3, .ref q2), (2, .ref q1), (1, .ref (a 0)), (0, .ref b)]) hx hb dL_law_91 hl (by decide) rfl (fun ls hl => ?_)
        refine W.widen (k := 2800 + 2800 * 0) (n := 17000 + 17000 * 0) (Nat.le_of_ble_eq_true rfl) (Nat.le_of_ble_eq_true rfl) ?_
        refine law_loop (T := 3 * L) C (by omega) (fun H locs ls hS hl => ?_) (3 * L) 0 rfl H _ ls inZ J h0 (wfN 6) (fun _ => 0) 100 0 0 hLI hP1 hP2 hS (lv_sub hl [2, 9, 8, 7, 6, 5, 4, 3, 1, 0] rfl)
        refine lv_iload hx hb dL_law_1606 (lv_at hl 0 rfl) ?_
        refine va_forget (fun x hx9 => hS.2.2 x hx9) ?_
        refine W.widen (k := 683036) (n := 7052515) (by omega) (by omega) ?_
        exact lw_ret hx hb hr hlocks dL_law_1608
    · skip
      refine lv_sipush (v := (nI 130)) hx hb dL_law_65 (by decide) ?_
      refine lv_goto (tgt := 88) hx hb dL_law_68 (by decide) ?_
      refine lv_istore (lv' := [(8, .int (nI 130)), (7, .int (nI 1)), (6, .int (nI 0)), (5, .int (nI 0)), (4, .int (nI 100)), (3, .ref q2), (2, .ref q1), (1, .ref (a 0)), (0, .ref b)]) hx hb dL_law_88 hl (by decide) rfl (fun ls hl => ?_)
      refine lv_iconst (v := (nI 0)) hx hb dL_law_90 (by decide) ?_
      refine lv_istore (lv' := [(9, .int (nI 0)), (8, .int (nI 130)), (7, .int (nI 1)), (6, .int (nI 0)), (5, .int (nI 0)), (4, .int (nI 100)), (3, .ref q2), (2, .ref q1), (1, .ref (a 0)), (0, .ref b)]) hx hb dL_law_91 hl (by decide) rfl (fun ls hl => ?_)
      refine W.widen (k := 2800 + 2800 * 0) (n := 17000 + 17000 * 0) (Nat.le_of_ble_eq_true rfl) (Nat.le_of_ble_eq_true rfl) ?_
      refine law_loop (T := 130) C (by omega) (fun H locs ls hS hl => ?_) (130) 0 rfl H _ ls inZ J h0 (wfN 6) (fun _ => 0) 100 0 0 hLI hP1 hP2 hS (lv_sub hl [2, 9, 8, 7, 6, 5, 4, 3, 1, 0] rfl)
      refine lv_iload hx hb dL_law_1606 (lv_at hl 0 rfl) ?_
      refine va_forget (fun x hx9 => hS.2.2 x hx9) ?_
      refine W.widen (k := 683036) (n := 7052515) (by omega) (by omega) ?_
      exact lw_ret hx hb hr hlocks dL_law_1608
  · have c2 : i9 < 6 := Nat.lt_of_not_le (fun q => c1 ((nI_leI (a := 6) (b := i9) (by omega) (by omega)).mpr q))
    refine lv_aload_n hx hb dL_law_38 rfl (lv_at hl 5 rfl) ?_
    refine lv_iload hx hb dL_law_39 (lv_at hl 0 rfl) ?_
    refine lv_iconst (v := (nI 2)) hx hb dL_law_41 (by decide) ?_
    refine w_ist (w' := oc a cI cL cO inZ zJ ++ la cI q1 q2 (wfN (i9 + 1)) (fun _ => 0)) hx hb hK (va_P.app hP1 hP2) (hD _ _ _ _) hS rfl (q0 := 23) rfl rfl c2 (by decide) dL_law_42 (fun H locs hP hS => ?_)
    refine lv_iinc (v := (nI (i9 + 1))) (lv' := [(7, .int (nI (i9 + 1))), (6, .int (nI 0)), (5, .int (nI 0)), (4, .int (nI 100)), (3, .ref q2), (2, .ref q1), (1, .ref (a 0)), (0, .ref b)]) hx hb dL_law_43 hl (k := 0) rfl (nI_inc _) (by decide) rfl (fun ls hl => ?_)
    refine lv_goto (tgt := 31) hx hb dL_law_46 (by decide) ?_
    exact ih_i () H locs ls (by omega) ⟨hP.fst, hP.snd, hS, lv_sub hl [0, 1, 2, 3, 4, 5, 6, 7] rfl⟩
