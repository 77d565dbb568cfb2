/-! ===== the start ===== -/
theorem va_D.app9 {A : Nat → Prop} {w1 w2 : va_W} (h1 : va_D A w1) (h2 : va_D A w2) (hne : ∀ (i j : Nat) (x y : Nat × va_E), w1[i]? = some x → w2[j]? = some y → ¬ x.1 = y.1) : va_D A (w1 ++ w2) := by
  refine ⟨fun i j x y hi hj he => ?_, fun k x hk => ?_⟩
  · by_cases a : i < w1.length
    · rw [List.getElem?_append_left a] at hi
      by_cases b : j < w1.length
      · rw [List.getElem?_append_left b] at hj
        exact h1.1 i j x y hi hj he
      · rw [List.getElem?_append_right (by omega)] at hj
        exact absurd he (hne _ _ x y hi hj)
    · rw [List.getElem?_append_right (by omega)] at hi
      by_cases b : j < w1.length
      · rw [List.getElem?_append_left b] at hj
        exact absurd he.symm (hne _ _ y x hj hi)
      · rw [List.getElem?_append_right (by omega)] at hj
        have := h2.1 _ _ x y hi hj he
        omega
  · by_cases a : k < w1.length
    · rw [List.getElem?_append_left a] at hk
      exact h1.2 k x hk
    · rw [List.getElem?_append_right (by omega)] at hk
      exact h2.2 _ x hk
theorem va_D.ne {A : Nat → Prop} {w1 w2 : va_W} (h : va_D A (w1 ++ w2)) : ∀ (i j : Nat) (x y : Nat × va_E), w1[i]? = some x → w2[j]? = some y → ¬ x.1 = y.1 := by
  intro i j x y hi hj he
  have li := (List.getElem?_eq_some_iff.mp hi).1
  have e1 : (w1 ++ w2)[i]? = some x := by rw [List.getElem?_append_left li]; exact hi
  have e2 : (w1 ++ w2)[w1.length + j]? = some y := by rw [List.getElem?_append_right (by omega), Nat.add_sub_cancel_left]; exact hj
  have := h.1 _ _ x y e1 e2 he
  omega
theorem va_D.one {A : Nat → Prop} {x : Nat × va_E} (h : A x.1) : va_D A [x] := by
  refine ⟨fun i j p q hi hj _ => ?_, fun k q hk => ?_⟩
  · have a := (List.getElem?_eq_some_iff.mp hi).1
    have b := (List.getElem?_eq_some_iff.mp hj).1
    simp at a b
    omega
  · have a := (List.getElem?_eq_some_iff.mp hk).1
    simp at a
    subst a
    cases hk
    exact h
section LS
variable {s : State} {b : Nat}
theorem fr_no : ∀ a : Nat, a < s.heap.size → ¬ fr s a := fun _ h z => Nat.not_lt.mpr z h
theorem law_str {k : Nat} {tx : String} (h1 : (Cond.stringRef RX0 k tx).before #[Value.ref b] s = true) (h2 : (Cond.exactly (.string RX0 k) "java/lang/String").before #[Value.ref b] s = true) : ∃ q, vk_R RX0 k tx q s := by
  obtain ⟨q, -, -, -, hq, -⟩ := Cond.exactly_spec h2
  exact ⟨q, vk_R.of h1 hq⟩
set_option maxRecDepth 100000 in
theorem law_eS (hts0 : ∀ w ∈ lw_tbl, w.before #[Value.ref b] s = true) (hgv : (Jvm.Cond.and given_1 narrow_1).before #[Value.ref b] s = true) : eS s := by
  have hn := flat_of_before _ hgv
  refine ⟨⟨law_str (hts0 _ (by decide +kernel)) (hn _ (by decide +kernel)), law_str (hts0 _ (by decide +kernel)) (hn _ (by decide +kernel)), law_str (hts0 _ (by decide +kernel)) (hn _ (by decide +kernel)), law_str (hts0 _ (by decide +kernel)) (hn _ (by decide +kernel)), law_str (hts0 _ (by decide +kernel)) (hn _ (by decide +kernel)), law_str (hts0 _ (by decide +kernel)) (hn _ (by decide +kernel))⟩, ?_, ?_, ?_, ?_, ?_, ?_, ?_⟩
  · exact va_Nw.of rfl (hts0 (.castable nIAE nIAE) (by decide +kernel))
  · exact va_Nw.of rfl (hts0 (.castable nISE nISE) (by decide +kernel))
  · exact va_Nc.of (hn (.not (.castable nISE nIAE)) (by decide +kernel))
  · exact va_Nc.of (hn (.not (.castable nIAE nISE)) (by decide +kernel))
  · exact va_Nw.of rfl (hts0 (.declares (Bundle.initS "java/lang/RuntimeException")) (by decide +kernel))
  · exact va_Nw.of rfl (hts0 (.declares (Bundle.initS "java/lang/Exception")) (by decide +kernel))
  · exact va_Nw.of rfl (hts0 (.declares (Bundle.initS Bundle.tN)) (by decide +kernel))
set_option maxRecDepth 100000 in
theorem law_eH (hts0 : ∀ w ∈ lw_tbl, w.before #[Value.ref b] s = true) (hgv : (Jvm.Cond.and given_1 narrow_1).before #[Value.ref b] s = true) : eH (fr s) s s.heap := by
  have hn := flat_of_before _ hgv
  refine ⟨vx_Zqof (hts0 (.laysStatic Bundle.tN "UNASSIGNED_STACK" Bundle.steD) (by decide +kernel)) (hts0 (.initialized Bundle.tN) (by decide +kernel)) (hn (.isRef (.static Bundle.tN "UNASSIGNED_STACK" Bundle.steD)) (by decide +kernel)) fr_no, vx_Zqof (hts0 (.laysStatic Bundle.tN "SUPPRESSED_SENTINEL" Bundle.listD) (by decide +kernel)) (hts0 (.initialized Bundle.tN) (by decide +kernel)) (hn (.isRef (.static Bundle.tN "SUPPRESSED_SENTINEL" Bundle.listD)) (by decide +kernel)) fr_no, ?_⟩
  obtain ⟨t, ht, hT⟩ := va_Tof (args := #[Value.ref b]) (s := s) (tm := .static "OrganBuilder" "HALF_TONES_OF_KINDS" "[I") (ty := .int) (N := 4) (f := fun j => .int (htv j)) (A := fr s) (by decide) (hn (.arrayOf (.static "OrganBuilder" "HALF_TONES_OF_KINDS" "[I") .int) (by decide +kernel)) (va_eqt (hn (.eq (.length (.static "OrganBuilder" "HALF_TONES_OF_KINDS" "[I")) (.int 4)) (by decide +kernel))) (fun j hj => by
    rcases (show j = 0 ∨ j = 1 ∨ j = 2 ∨ j = 3 by omega) with rfl | rfl | rfl | rfl
    · exact va_eqt (hn (.eq (.elem (.static "OrganBuilder" "HALF_TONES_OF_KINDS" "[I") (.int 0)) (.int (-12))) (by decide +kernel))
    · exact va_eqt (hn (.eq (.elem (.static "OrganBuilder" "HALF_TONES_OF_KINDS" "[I") (.int 1)) (.int 0)) (by decide +kernel))
    · exact va_eqt (hn (.eq (.elem (.static "OrganBuilder" "HALF_TONES_OF_KINDS" "[I") (.int 2)) (.int 12)) (by decide +kernel))
    · exact va_eqt (hn (.eq (.elem (.static "OrganBuilder" "HALF_TONES_OF_KINDS" "[I") (.int 3)) (.int 19)) (by decide +kernel))) fr_no
  exact ⟨t, va_Zref (hts0 (.laysStatic "OrganBuilder" "HALF_TONES_OF_KINDS" "[I") (by decide +kernel)) (hts0 (.initialized "OrganBuilder") (by decide +kernel)) ht fr_no, hT⟩
theorem law_ar {ty : FieldType} {args : Array Value} (h : (Cond.arrayClass ty).before args s = true) : ∃ cA : ClassId, ArrOfT s cA ty ∧ s.vm.findClass ("[" ++ ty.toString) = some cA := by
  obtain ⟨cA, k, comp, h1, h2, h3⟩ := Cond.arrayClass_spec h
  exact ⟨cA, fun n z => ⟨fun q hq => (by cases hq), k, h2, comp, h3⟩, h1⟩
set_option maxRecDepth 100000 in
theorem law_K (hts0 : ∀ w ∈ lw_tbl, w.before #[Value.ref b] s = true) : ∃ (D : va_G) (cI cL cO : ClassId), va_K D vwCl (oty cI cL cO) s ∧ aoI s := by
  obtain ⟨c0, i0, k0⟩ := u_known (C := RX0) (T := TX0) (N := 15) hts0 (by decide +kernel) (hts0 (.instantiable RX0 15) (by decide +kernel))
  have ha : aoI s := by
    have h9 := hts0 (.arrayOver (.array .int)) (by decide +kernel)
    unfold Cond.before Cond.holds at h9
    unfold aoI Cond.before Cond.holds
    exact h9
  obtain ⟨cI, aI, nI9⟩ := law_ar (hts0 (.arrayClass .int) (by decide +kernel))
  obtain ⟨cL, aL, nL9⟩ := law_ar (hts0 (.arrayClass .long) (by decide +kernel))
  obtain ⟨cO, aO9, nO9⟩ := aoI_cls ha
  refine ⟨(fun _ => c0, fun _ => i0), cI, cL, cO, ⟨fun c x hx => ?_, fun k x hx => ?_⟩, ha⟩
  · match c, hx with
    | 0, hx => cases hx; exact k0
    | n + 1, hx => cases hx
  · match k, hx with
    | 0, hx => cases hx; exact ⟨aI, nI9⟩
    | 1, hx => cases hx; exact ⟨aL, nL9⟩
    | 2, hx => cases hx; exact ⟨aO9, nO9⟩
    | n + 3, hx => cases hx
end LS
