/-! ===== from the entry to the loop ===== -/
set_option maxHeartbeats 4000000 in
set_option maxRecDepth 100000 in
theorem whole_start {p : Program} {e : Env} {s : State} {m : MethodId} {below : List Frame} {meth : Method} {c : Code} (l : Launch) (hflags : l.flags = flags0) {b L : Nat} {xs : Nat → Int32} (hL : L ≤ 2560) (C0 : lw_At p s m meth c b L xs) : W p l e room_1 s m #[Value.ref b] below meth c s.heap [] 0 0 (lw_Z below #[Value.ref b] s) (entryFrame m ([Value.ref b] : List Value).toArray 7) := by
  obtain ⟨hx, hb, hr, hml, hown, hts0, hX, hbl, hlocks, hgv⟩ := C0
  have hb : c.code = cL_law := hb
  have hown : s.vm.findClass RL = some m.cls := hown
  have hl0 : l.stackTraces = false := by
    unfold Launch.stackTraces
    rw [hflags]
    decide +kernel
  have hts : ∀ w ∈ wsL_law, w.before #[Value.ref b] s = true := fun w h => hts0 w (wsL_law_in w h)
  have hES := law_eS hts0 hgv
  have hEH := law_eH hts0 hgv
  obtain ⟨D, cI, cL, cO, hK, hao⟩ := law_K hts0
  have S : CallFix p m c cL_law 7 s #[Value.ref b] wsL_law RL := ⟨hx, hb, hml, hown, hts⟩
  have hl := lv_entry ([.ref b]) (n := 7) (Nat.le_of_ble_eq_true rfl)
  rw [lg_entry_eq]
  generalize (lg_sl ([.ref b]) ++ List.replicate (7 - (lg_sl ([.ref b])).length) Slot.unset).toArray = ls at hl ⊢
  have hl : lv_has ls 7 [(0, .ref b)] := hl
  have hP : va_P D vwCl [] s.heap := fun k x hk => by cases hk
  have hD : va_D (fr s) [] := ⟨fun i j x y hi => (by cases hi), fun k x hk => (by cases hk)⟩
  have hS : va_S (fr s) s.heap s.heap [] := va_S.rf
  have hA : ∀ x : Nat, s.heap.size ≤ x → fr s x := fun _ h => h
  refine va_new (own := RL) (C := RX0) (T := TX0) (N := 15) (ci := 0) (fs := [.null, .null, .null, .null, .null, .null, .int 0, .null, .null, .null, .int 0, .null, .null, .null, .null]) hx hb hts0 (by decide +kernel) tyX0 tyX0_ok hown (hts0 (.classLink RL 8 RX0) (by decide +kernel)) (hts0 (.instantiable RX0 15) (by decide +kernel)) (hts0 (.initialized RX0) (by decide +kernel)) hK hP hD hS hA rfl (by decide) (Nat.le_of_ble_eq_true rfl) (Nat.le_of_ble_eq_true rfl) dL_law_0 (fun h0 H hP hD hS => ?_)
  have hP : va_P D vwCl [(h0, .inr (0, [.null, .null, .null, .null, .null, .null, .int 0, .null, .null, .null, .int 0, .null, .null, .null, .null]))] H := hP
  have hD : va_D (fr s) [(h0, .inr (0, [.null, .null, .null, .null, .null, .null, .int 0, .null, .null, .null, .int 0, .null, .null, .null, .null]))] := hD
  refine lv_dup hx hb dL_law_3 rfl ?_
  generalize hw0 : ([(h0, .inr (0, [.null, .null, .null, .null, .null, .null, .int 0, .null, .null, .null, .int 0, .null, .null, .null, .null]))] : va_W) = w0 at hP hD
  have hAA : ∀ x, tA w0 H.size x → fr s x := fun x h => h.elim (wA_in hD x) (fun z => Nat.le_trans hS.1 z)
  have cw0 := cwI (R := room_1) (s := s) (args := #[Value.ref b]) (own := RL) (index := 72) (maxL := 3) (mc := 22) (ms := 469) (y := yX0_init) (bytes := cX0_init) (rm := ({ frames := 1, cells := 22, slots := 469, locals := 12 } : Room)) 0 hts gL_law_X0_init rfl rfl rfl (hts0 (.initialized RX0) (by decide +kernel)) (hts0 (.methodLink RL 72 yX0_init) (by decide +kernel)) (hts0 (.instanceMethod yX0_init) (by decide +kernel)) rfl (by decide +kernel) ⟨Nat.le_of_ble_eq_true rfl, Nat.le_of_ble_eq_true rfl⟩
  refine va_callv (va_runI (As := []) (b := h0) (rest := [.ref h0]) S (c_X0init l D h0 cI cL cO H.size) cw0 ⟨fun a U g mk z => ⟨z.1, z.2.1, z.2.2.1, va_K.moved (u := U) (U := U.calling g mk a) (Vm.Alike.refl U.vm) z.2.2.2.1, z.2.2.2.2.1, z.2.2.2.2.2.1.moved (u := U) (U := U.calling g mk a) (Vm.Alike.refl U.vm), z.2.2.2.2.2.2.at (U := U.calling g mk a) (Vm.Alike.refl U.vm) (fun _ _ _ => rfl) (fun _ h => h)⟩, fun U hU hWm => ⟨rfl, by rw [hU], by rw [hU, hw0]; exact hP, va_K.moved hWm.alike hK, by rw [hw0]; exact hD.weaken (fun _ _ _ _ => trivial), hao.moved hWm.alike, by rw [hU, hw0]; exact hEH.at hWm.alike hS.2.1 hAA⟩⟩ rfl rfl hl.1 rfl (lv_room (Nat.le_of_ble_eq_true rfl)) dL_law_4 ⟨Nat.le_of_ble_eq_true rfl, Nat.le_of_ble_eq_true rfl⟩) hS (fun x _ h => hAA x (by rw [← hw0]; exact h)) (fun x h => hAA x (by rw [← hw0]; exact h)) ?_
  intro a t H1 locs1 ht _ ha hB hz hk hS
  obtain ⟨hP1, hD1⟩ := hB
  rw [ht] at hP1
  have hDn : va_D (fr s) (oc a cI cL cO inZ zJ) := hD1.weaken (fun _ x _ h => hAA x.1 (by rw [← hw0]; exact h))
  clear hD1
  clear hk hz
  refine lv_astore_n (lv' := [(1, .ref h0), (0, .ref b)]) hx hb dL_law_7 rfl hl (by decide) rfl (fun ls hl => ?_)
  subst ha
  refine va_new (own := RL) (C := RX1) (T := TX1) (N := 16) (ci := 1) (fs := [.int 0, .null, .null, .null, .null, .null, .int 0, .null, .int 0, .null, .null, .null, .null, .null, .null, .null]) hx hb hts0 (by decide +kernel) tyX1 tyX1_ok hown (hts0 (.classLink RL 73 RX1) (by decide +kernel)) (hts0 (.instantiable RX1 16) (by decide +kernel)) (hts0 (.initialized RX1) (by decide +kernel)) hK hP1 hDn hS hA rfl (by decide) (Nat.le_of_ble_eq_true rfl) (Nat.le_of_ble_eq_true rfl) dL_law_8 (fun g0 H hP2 hD2 hS => ?_)
  refine lv_dup hx hb dL_law_11 rfl ?_
  have hPg := hP2.snd
  have hDg := hD2.snd
  have hP1 := hP2.fst
  have hne := hD2.ne
  generalize hw1 : ([(g0, .inr (1, [.int 0, .null, .null, .null, .null, .null, .int 0, .null, .int 0, .null, .null, .null, .null, .null, .null, .null]))] : va_W) = w1 at hPg hDg hne hD2
  have hAA : ∀ x, tA w1 H.size x → fr s x := fun x h => h.elim (wA_in hDg x) (fun z => Nat.le_trans hS.1 z)
  have cw1 := cwI (R := room_1) (s := s) (args := #[Value.ref b]) (own := RL) (index := 75) (maxL := 2) (mc := 13) (ms := 460) (y := yX1_init) (bytes := cX1_init) (rm := ({ frames := 1, cells := 13, slots := 460, locals := 12 } : Room)) 0 hts gL_law_X1_init rfl rfl rfl (hts0 (.initialized RX1) (by decide +kernel)) (hts0 (.methodLink RL 75 yX1_init) (by decide +kernel)) (hts0 (.instanceMethod yX1_init) (by decide +kernel)) rfl (by decide +kernel) ⟨Nat.le_of_ble_eq_true rfl, Nat.le_of_ble_eq_true rfl⟩
  refine va_callv (va_runI (As := []) (b := g0) (rest := [.ref g0]) S (c_X1init l D g0 cI cL H.size) cw1 ⟨fun a U g mk z => ⟨z.1, z.2.1, z.2.2.1, va_K.moved (u := U) (U := U.calling g mk a) (Vm.Alike.refl U.vm) z.2.2.2.1, z.2.2.2.2.1, trivial⟩, fun U hU hWm => ⟨rfl, by rw [hU], by rw [hU, hw1]; exact hPg, va_K.moved hWm.alike hK.oI, by rw [hw1]; exact hDg.weaken (fun _ _ _ _ => trivial), trivial⟩⟩ rfl rfl hl.1 rfl (lv_room (Nat.le_of_ble_eq_true rfl)) dL_law_12 ⟨Nat.le_of_ble_eq_true rfl, Nat.le_of_ble_eq_true rfl⟩) hS (fun x _ h => hAA x (by rw [← hw1]; exact h)) (fun x h => hAA x (by rw [← hw1]; exact h)) ?_
  intro g t H1 locs1 ht _ hg hB hz hk hS
  obtain ⟨hPm, hDm⟩ := hB
  rw [ht] at hPm
  rw [hw1] at hDm hk
  have hP1' : va_P D vwCl (oc a cI cL cO inZ zJ) H1 := va_P.beside2 hD2 hP1 (fun x h1 h2 => hk x h1 (fun z => z.elim h2 (fun z => Nat.not_lt.mpr z h1)))
  have hDD : va_D (fr s) (oc a cI cL cO inZ zJ ++ rc g cI cL rnZ zJ) := by
    refine va_D.app9 hD2.fst (hDm.weaken (fun _ x _ h => hAA x.1 h)) (fun i j x y hi hj hxy => ?_)
    rcases hDm.2 j y hj with ⟨z, hz1, hz2⟩ | hz2
    · obtain ⟨k9, hk9⟩ := List.getElem?_of_mem hz1
      exact hne i k9 x z hi hk9 (hxy.trans hz2.symm)
    · have := (hP1 i x hi).lt
      omega
  have hPP := va_P.app hP1' hPm
  clear hk hz
  refine lv_astore_n (lv' := [(2, .ref g0), (1, .ref (a 0)), (0, .ref b)]) hx hb dL_law_15 rfl hl (by decide) rfl (fun ls hl => ?_)
  subst hg
  refine lv_iconst (v := 1) hx hb dL_law_16 (by decide) ?_
  refine n_long (N := 1) hx hb (hts0 (.arrayClass .long) (by decide +kernel)) rfl hK hPP hDD hS hA (by decide) (by decide) (by decide) (Nat.le_of_ble_eq_true rfl) (Nat.le_of_ble_eq_true rfl) dL_law_17 (fun q H hP hD hS => ?_)
  refine lv_astore_n (lv' := [(3, .ref q), (2, .ref (g 0)), (1, .ref (a 0)), (0, .ref b)]) hx hb dL_law_19 rfl hl (by decide) rfl (fun ls hl => ?_)
  refine lv_iconst (v := nI (5 * 0)) hx hb dL_law_20 (by decide) ?_
  refine lv_istore (lv' := [(4, .int (nI (5 * 0))), (3, .ref q), (2, .ref (g 0)), (1, .ref (a 0)), (0, .ref b)]) hx hb dL_law_21 hl (by decide) rfl (fun ls hl => ?_)
  have hDf : va_D (fr s) (cwL cI cL cO a q inZ zJ (fun _ => 0) ++ rc g cI cL rnZ zJ) := by
    have n1 := hD.ne
    have n2 := hD.fst.ne
    refine va_D.app9 (va_D.app9 hD.fst.fst hD.snd (fun i j x y hi hj => n1 i j x y (by rw [List.getElem?_append_left (List.getElem?_eq_some_iff.mp hi).1]; exact hi) hj)) hD.fst.snd (fun i j x y hi hj hxy => ?_)
    by_cases hlt : i < (oc a cI cL cO inZ zJ).length
    · rw [List.getElem?_append_left hlt] at hi
      exact n2 i j x y hi hj hxy
    · rw [List.getElem?_append_right (by omega)] at hi
      exact n1 _ _ y x (by rw [List.getElem?_append_right (Nat.le_add_right (oc a cI cL cO inZ zJ).length j), Nat.add_sub_cancel_left]; exact hj) hi hxy.symm
  have C : LC p l s m c D a g q b cI cL cO L xs := ⟨hl0, S, hK, wsD_addr hDf rfl, hES, hEH, hX, hbl, hL⟩
  refine W.widen (k := 100 + 4 * 0) (n := 2500 + 24 * 0) (Nat.le_of_ble_eq_true rfl) (Nat.le_of_ble_eq_true rfl) ?_
  refine law_loop C (fun H locs ls j hj hS => ?_) 512 0 (by omega) (by omega) H _ ls inZ rnZ zJ zJ (fun _ => 0) RI_new RJ_new (va_P.app hP.fst.fst hP.snd) hP.fst.snd hS (lv_sub hl [4, 3, 2, 1, 0] rfl)
  refine lv_iconst (v := 1) hx hb dL_law_1387 (by decide) ?_
  refine va_forget (fun x hx9 => hS.2.2 x hx9) ?_
  refine W.widen (k := 617672) (n := 7243089) (by omega) (by omega) ?_
  exact lw_ret hx hb hr hlocks dL_law_1388
