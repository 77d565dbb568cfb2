/-! ===== the new object; the loop of the turns ===== -/
theorem inA_ne {I : Nat → Nat → Int32} : ∀ n i, ¬ i = 0 → ¬ i = 1 → inA I n i = I i
  | 0, _, _, _ => rfl
  | n + 1, i, h, h2 => by
    show u2 (u2 (inA I n) 0 n (htv 1)) 1 n 2 i = I i
    rw [u2_ne h2, u2_ne h]
    exact inA_ne n i h h2
theorem inB_ne {I : Nat → Nat → Int32} : ∀ n i, ¬ i = 3 → ¬ i = 4 → inB I n i = I i
  | 0, _, _, _ => rfl
  | n + 1, i, h, h2 => by
    show u2 (u2 (inB I n) 3 n (nI (n % 3))) 4 n (nI (n / 2)) i = I i
    rw [u2_ne h2, u2_ne h]
    exact inB_ne n i h h2
theorem inCi_ne {I : Nat → Nat → Int32} {f : Nat} : ∀ n i, ¬ i = 20 + f → inCi I f n i = I i
  | 0, _, _ => rfl
  | n + 1, i, h => by
    show u2 (inCi I f n) (20 + f) n 1 i = I i
    rw [u2_ne h]
    exact inCi_ne n i h
theorem inC_ne {I : Nat → Nat → Int32} : ∀ n i, i < 20 → inC I n i = I i
  | 0, _, _ => rfl
  | n + 1, i, h => by
    show inCi (inC I n) n 3 i = I i
    rw [inCi_ne 3 i (by omega)]
    exact inC_ne n i h
theorem inD_ne {I : Nat → Nat → Int32} : ∀ n i, ¬ i = 6 → inD I n i = I i
  | 0, _, _ => rfl
  | n + 1, i, h => by
    show u2 (inD I n) 6 (n + 1) (5 * nI (n + 1)) i = I i
    rw [u2_ne h]
    exact inD_ne n i h
theorem inZ_0 {i : Nat} (h : i = 0 ∨ i = 1) : inZ i = inA zI 6 i := by
  unfold inZ
  rw [u2_ne (by omega), inD_ne _ _ (by omega), inC_ne _ _ (by omega), inB_ne _ _ (by omega) (by omega)]
theorem inZ_3 {i : Nat} (h : i = 3 ∨ i = 4) : inZ i = inB (inA zI 6) 12 i := by
  unfold inZ
  rw [u2_ne (by omega), inD_ne _ _ (by omega), inC_ne _ _ (by omega)]
theorem inZ_20 {f : Nat} : inZ (20 + f) = inC (inB (inA zI 6) 12) 3 (20 + f) := by
  unfold inZ
  rw [u2_ne (by omega), inD_ne _ _ (by omega)]
theorem inZ_6 : inZ 6 = inD (inC (inB (inA zI 6) 12) 3) 10 6 := by
  unfold inZ
  rw [u2_ne (by decide)]
theorem inZ_z {i : Nat} (h : i = 2 ∨ i = 5 ∨ i = 7 ∨ (10 ≤ i ∧ i < 20)) : inZ i = zI i := by
  unfold inZ
  rw [u2_ne (by omega), inD_ne _ _ (by omega), inC_ne _ _ (by omega), inB_ne _ _ (by omega) (by omega), inA_ne _ _ (by omega) (by omega)]
theorem inZ_8 : inZ 8 = upd (zI 8) 1 100 := by
  unfold inZ
  rw [u2_same, inD_ne _ _ (by decide), inC_ne _ _ (by decide), inB_ne _ _ (by decide) (by decide), inA_ne _ _ (by decide) (by decide)]
theorem inB_at {I : Nat → Nat → Int32} : ∀ n s, s < n → inB I n 3 s = nI (s % 3) ∧ inB I n 4 s = nI (s / 2)
  | 0, s, h => absurd h (Nat.not_lt_zero s)
  | n + 1, s, h => by
    show upd (inB I n 3) n (nI (n % 3)) s = nI (s % 3) ∧ upd (inB I n 4) n (nI (n / 2)) s = nI (s / 2)
    by_cases e : s = n
    · subst e
      rw [upd_at, upd_at]
      exact ⟨rfl, rfl⟩
    · rw [upd_ne e, upd_ne e]
      exact inB_at n s (by omega)
theorem inCi_at {I : Nat → Nat → Int32} {f : Nat} : ∀ n t, t < n → inCi I f n (20 + f) t = 1
  | 0, s, h => absurd h (Nat.not_lt_zero s)
  | n + 1, t, h => by
    show u2 (inCi I f n) (20 + f) n 1 (20 + f) t = 1
    rw [u2_same]
    by_cases e : t = n
    · subst e
      rw [upd_at]
    · rw [upd_ne e]
      exact inCi_at n t (by omega)
theorem inC_at {I : Nat → Nat → Int32} : ∀ n f t, f < n → t < 3 → inC I n (20 + f) t = 1
  | 0, f, _, h, _ => absurd h (Nat.not_lt_zero f)
  | n + 1, f, t, h, ht => by
    show inCi (inC I n) n 3 (20 + f) t = 1
    by_cases e : f = n
    · subst e
      exact inCi_at 3 t ht
    · rw [inCi_ne 3 (20 + f) (by omega)]
      exact inC_at n f t (by omega) ht
theorem inD_at {I : Nat → Nat → Int32} : ∀ n k, inD I n 6 k = if 1 ≤ k ∧ k ≤ n then 5 * nI k else I 6 k
  | 0, k => by rw [if_neg (by omega)]; rfl
  | n + 1, k => by
    show upd (inD I n 6) (n + 1) (5 * nI (n + 1)) k = _
    by_cases e : k = n + 1
    · subst e
      rw [upd_at, if_pos (by omega)]
    · rw [upd_ne e, inD_at n k]
      exact ifc (by omega)
theorem new_20 : ∀ f t, f < 3 → t < 3 → inZ (20 + f) t = 1 := fun f t hf ht => by
  rw [inZ_20]
  exact inC_at 3 f t hf ht
theorem new_cpd : ∀ f t, f < 3 → t < 3 → cpd inZ f t = false := fun f t hf ht => by
  unfold cpd
  rw [new_20 f t hf ht]
  rfl
theorem new_1 : ∀ r, r < 6 → inZ 1 r = 2 := fun r hr => by
  rw [inZ_0 (Or.inr rfl)]
  rcases (show r = 0 ∨ r = 1 ∨ r = 2 ∨ r = 3 ∨ r = 4 ∨ r = 5 by omega) with rfl | rfl | rfl | rfl | rfl | rfl <;> rfl
theorem GI_new : GI inZ := by
  refine ⟨fun r hr => ⟨⟨1, by decide, ?_⟩, ⟨2, by decide, by decide, new_1 r hr⟩, ?_⟩, fun s hs12 => ?_, ⟨0, by decide, ?_⟩, ⟨fun f t hf ht => Or.inl (new_20 f t hf ht), fun f t hf ht z => ?_⟩, ⟨100, by decide, by decide, ?_⟩, fun k hk => ?_, fun k hk => ?_, fun r hr => ?_, fun r k hr hk61 => ?_⟩
  · rw [inZ_0 (Or.inl rfl)]
    rcases (show r = 0 ∨ r = 1 ∨ r = 2 ∨ r = 3 ∨ r = 4 ∨ r = 5 by omega) with rfl | rfl | rfl | rfl | rfl | rfl <;> rfl
  · rw [inZ_z (Or.inl rfl)]
    exact (by decide : rg 0 (-50) 50 = true)
  · rw [inZ_3 (Or.inl rfl), (inB_at 12 s hs12).1]
    exact ⟨s % 3, Nat.mod_lt _ (by decide), rfl⟩
  · rw [inZ_8]; rfl
  · rw [new_cpd f t hf ht] at z
    cases z
  · rw [inZ_8]; rfl
  · have e1 : inZ 6 k = if 1 ≤ k ∧ k ≤ 10 then 5 * nI k else 0 := by
      rw [inZ_6, inD_at, inC_ne _ _ (by decide), inB_ne _ _ (by decide) (by decide), inA_ne _ _ (by decide) (by decide)]
      rfl
    rw [e1]
    by_cases q : 1 ≤ k ∧ k ≤ 10
    · rw [if_pos q]
      exact ⟨5 * k, by omega, pk_mul 5 k⟩
    · rw [if_neg q]
      exact ⟨0, by decide, rfl⟩
  · rw [inZ_z (by omega)]
    exact (by decide : rg 0 (-50) 50 = true)
  · rw [inZ_z (by omega)]
    exact ⟨0, by decide, rfl⟩
  · rw [inZ_z (by omega)]
    exact ⟨0, by decide, rfl⟩
theorem gJ_new : gJ zJ h0 := fun _ _ => ⟨rfl, by show 0 < 2 ^ 61; decide⟩
theorem LI_new {W9 : Nat → Int32} (hW : ∀ r, r < 6 → W9 r = 2) : LI inZ zJ h0 W9 (fun _ => 0) 100 0 0 := by
  refine ⟨GI_new, gJ_new, fun r hr => (hW r hr).trans (new_1 r hr).symm, fun k hk => ?_, ?_, ?_, hc_0⟩
  · have e : inZ 8 0 = nI 0 := by rw [inZ_8]; rfl
    rw [e, dr_bit hk, Nat.zero_testBit]
    rfl
  · unfold suN
    rw [inZ_8]
    exact nI_clamp (n := 100) (by decide)
  · unfold ccN
    rw [new_cpd 0 0 (by decide) (by decide), new_cpd 0 1 (by decide) (by decide), new_cpd 0 2 (by decide) (by decide), new_cpd 1 0 (by decide) (by decide), new_cpd 1 1 (by decide) (by decide), new_cpd 1 2 (by decide) (by decide), new_cpd 2 0 (by decide) (by decide), new_cpd 2 1 (by decide) (by decide), new_cpd 2 2 (by decide) (by decide)]
    rfl
set_option maxHeartbeats 1000000 in
set_option maxRecDepth 100000 in
theorem law_loop {p : Program} {l : Launch} {e : Env} {s : State} {m : MethodId} {below : List Frame} {meth : Method} {c : Code} {Q : State → Prop} {D : va_G} {a : Nat → Nat} {q1 q2 b L T : Nat} {cI cL cO : ClassId} {xs : Nat → Int32} (C : LC p l s m c D a q1 q2 b cI cL cO L xs) (hT : T ≤ 240) (kend : ∀ (H : Heap) (locs : List Loc) (ls : Array Slot), va_S (fr s) s.heap H locs → lv_has ls 22 [(7, .int (nI 1))] → W p l e room_1 s m #[Value.ref b] below meth c H locs (2800 + 2800 * T) (17000 + 17000 * T) Q (F0 m 1606 ls [])) : ∀ d t, d + t = T → ∀ (H : Heap) (locs : List Loc) (ls : Array Slot) (I : Nat → Nat → Int32) (J : Nat → Nat → Int64) (h : Nat → Nat) (W9 Dn : Nat → Int32) (su cp he : Nat), LI I J h W9 Dn su cp he → va_P D vwCl (oc a cI cL cO I J) H → va_P D vwCl (la cI q1 q2 W9 Dn) H → va_S (fr s) s.heap H locs → lv_has ls 22 (lvT a q1 q2 b su cp he T t) → W p l e room_1 s m #[Value.ref b] below meth c H locs (2800 + 2800 * t) (17000 + 17000 * t) Q (F0 m 93 ls []) := by
  have hX := C.2.2.2.2.2.2.1
  have hbl := C.2.2.2.2.2.2.2.1
  have hL := C.2.2.2.2.2.2.2.2
  have hx := C.2.1.1
  have hb := C.2.1.2.1
  have hown := C.2.1.2.2.2.1
  have hts := C.2.1.2.2.2.2
  intro d
  induction d with
  | zero =>
    intro t hd H locs ls I J h W9 Dn su cp he hLI hP1 hP2 hS hl
    obtain rfl : t = T := by omega
    refine lv_iload hx hb dL_law_93 (lv_at hl 9 rfl) ?_
    refine lv_iload hx hb dL_law_95 (lv_at hl 8 rfl) ?_
    refine lv_icmp_ge (tgt := 1606) hx hb dL_law_97 (by decide) (fun _ => ?_) (fun z => absurd ((nI_leI (a := t) (b := t) (by omega) (by omega)).mpr (by omega)) z)
    exact kend H locs ls hS (lv_sub hl [0] rfl)
  | succ d ih =>
    intro t hd H locs ls I J h W9 Dn su cp he hLI hP1 hP2 hS hl
    have ht : t < 240 := by omega
    have hR : 2800 + 2800 * t + 2800 ≤ 683036 ∧ 17000 + 17000 * t + 17000 ≤ 7052515 := ⟨by omega, by omega⟩
    have KN : LN p l e s m below meth c Q D a q1 q2 b cI cL cO T t (2800 + 2800 * t) (17000 + 17000 * t) := fun H locs ls I J h W9 Dn su cp he hLI hP1 hP2 hS hl => W.widen (k := 2800 + 2800 * (t + 1)) (n := 17000 + 17000 * (t + 1)) (by omega) (by omega) (ih (t + 1) (by omega) H locs ls I J h W9 Dn su cp he hLI hP1 hP2 hS hl)
    have K : LK p l e s m below meth c Q D a q1 q2 b cI cL cO T t (2800 + 2800 * t) (17000 + 17000 * t) := fun H locs ls I J h W9 Dn su cp he hLI hP1 hP2 hS hl => end_a C hLI hP1 hP2 hS (by omega) hR KN hl
    refine lv_iload hx hb dL_law_93 (lv_at hl 9 rfl) ?_
    refine lv_iload hx hb dL_law_95 (lv_at hl 8 rfl) ?_
    refine lv_icmp_ge (tgt := 1606) hx hb dL_law_97 (by decide) (fun z => absurd ((nI_leI (a := T) (b := t) (by omega) (by omega)).mp z) (by omega)) (fun _ => ?_)
    refine lv_iload hx hb dL_law_100 (lv_at hl 0 rfl) ?_
    refine lv_if_eq (tgt := 1606) hx hb dL_law_102 (by decide) (fun z => absurd ((nI_eq (a := 1) (b := 0) (by omega) (by omega)).mp z) (by omega)) (fun _ => ?_)
    refine lv_iload hx hb dL_law_105 (lv_at hl 9 rfl) ?_
    refine lv_aload_n hx hb dL_law_107 rfl (lv_at hl 1 rfl) ?_
    refine va_slen hx hb hX hbl (fun z => Nat.not_lt.mpr z hbl) hS dL_law_108 ?_
    refine lv_asi (nI L) rfl ?_
    refine lv_icmp_ge (tgt := 119) hx hb dL_law_109 (by decide) (fun c1 => ?_) (fun c1 => ?_)
    · refine lv_ldc (v := 2070017) hx hb hown (hts (.constant RL 57 2070017) (by decide +kernel)) dL_law_119 ?_
      refine lv_iload hx hb dL_law_121 (lv_at hl 9 rfl) ?_
      refine lv_imul hx hb dL_law_123 ?_
      refine lv_iload hx hb dL_law_124 (lv_at hl 9 rfl) ?_
      refine lv_imul hx hb dL_law_126 ?_
      refine lv_ldc (v := 69011) hx hb hown (hts (.constant RL 58 69011) (by decide +kernel)) dL_law_127 ?_
      refine lv_iload hx hb dL_law_129 (lv_at hl 9 rfl) ?_
      refine lv_imul hx hb dL_law_131 ?_
      refine lv_iadd hx hb dL_law_132 ?_
      refine lv_bipush (v := (nI 107)) hx hb dL_law_133 (by decide) ?_
      refine lv_iadd hx hb dL_law_135 ?_
      exact turn_x C hLI hP1 hP2 hS (by omega) hR K hl
    · have c2 : t < L := Nat.lt_of_not_le (fun q => c1 ((nI_leI (a := L) (b := t) (by omega) (by omega)).mpr q))
      refine lv_aload_n hx hb dL_law_112 rfl (lv_at hl 1 rfl) ?_
      refine lv_iload hx hb dL_law_113 (lv_at hl 9 rfl) ?_
      refine va_sld hx hb hX hbl (fun z => Nat.not_lt.mpr z hbl) hS (nI_in c2 (by omega)) dL_law_115 ?_
      refine lv_goto (tgt := 136) hx hb dL_law_116 (by decide) ?_
      exact turn_x C hLI hP1 hP2 hS (by omega) hR K hl
