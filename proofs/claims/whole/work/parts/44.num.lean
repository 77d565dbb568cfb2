/-! ===== counts, need, sag, pitch, least, wear, of both sides ===== -/
theorem ifc {α : Type} {p q : Prop} [Decidable p] [Decidable q] {x y : α} (h : p ↔ q) : (if p then x else y) = (if q then x else y) := by
  by_cases hp : p
  · rw [if_pos hp, if_pos (h.mp hp)]
  · rw [if_neg hp, if_neg (fun z => hp (h.mpr z))]
theorem cs_eq {FS FN : Nat → Nat → Int64} : ∀ r, (∀ q, q < r → ∃ S, S < 2 ^ 61 ∧ FS 2 q = lN S ∧ FN 2 q = lN S) → csF FS r = csM FN r
  | 0, _ => rfl
  | r + 1, h => by
    obtain ⟨S, hS, e1, e2⟩ := h r (by omega)
    show csF FS r + bcL (FS 2 r) = csM FN r + cnF (FN 2 r) 61
    rw [cs_eq r (fun q hq => h q (by omega)), e1, e2, bc_cn hS]
theorem lgJ_row (J : Nat → Nat → Int64) : ∀ n i, n ≤ i → lgJ J n 0 i = J 0 i
  | 0, _, _ => rfl
  | n + 1, i, h => by
    show u2L (lgJ J n) 0 n 0 0 i = J 0 i
    rw [u2L_same, updL_ne (by omega)]
    exact lgJ_row J n i (by omega)
theorem lgJ_zero (J : Nat → Nat → Int64) : ∀ n i, i < n → lgJ J n 0 i = 0
  | 0, i, h => absurd h (Nat.not_lt_zero i)
  | n + 1, i, h => by
    show u2L (lgJ J n) 0 n 0 0 i = 0
    rw [u2L_same]
    by_cases e : i = n
    · subst e
      rw [updL_at]
    · rw [updL_ne e]
      exact lgJ_zero J n i (by omega)
theorem lg_eq {J N : Nat → Nat → Int64} (h : RJ J N) : ∀ n, n ≤ 3 → lgA J n = mlA N n
  | 0, _ => rfl
  | n + 1, hn => by
    obtain ⟨x, hx, e1, e2⟩ := h n (by omega)
    show lgA J n + bcL (lgJ J n 0 n) = mlA N n + cnF (lgJ N n 0 n) 61
    rw [lg_eq h n (by omega), lgJ_row J n n (Nat.le_refl _), lgJ_row N n n (Nat.le_refl _), e1, e2, bc_cn hx]
theorem lg_RJ (J N : Nat → Nat → Int64) : RJ (lgJ J 3) (lgJ N 3) := fun m hm => ⟨0, by decide, lgJ_zero J 3 m hm, lgJ_zero N 3 m hm⟩
theorem w12 : ∀ k, k < 61 → (60 - nI k) / 12 = nI ((60 - k) / 12) := by
  intro k hk
  have e : (60 : Int32) - nI k = nI (60 - k) := by
    rw [show (60 : Int32) = nI (60 - k + k) by rw [Nat.sub_add_cancel (by omega)]; rfl, ← nI_add]
    simp
  rw [e]
  exact pk_div (d := 12) (by omega) (by decide) (by decide)
theorem wsI_b {w S : Nat} (hw : w ≤ 9) : ∀ k, k ≤ 61 → ∀ acc, ∃ n, n ≤ acc + 14 * k ∧ wsI (nI w) (lN S) (nI acc) k = nI n
  | 0, _, acc => ⟨acc, by omega, rfl⟩
  | k + 1, hk61, acc => by
    obtain ⟨n, hn, e⟩ := wsI_b (S := S) hw k (by omega) acc
    unfold wsI
    by_cases h : hk (lN S) (nI k) = true
    · rw [if_pos h, e, w12 k (by omega), nI_add, nI_add]
      exact ⟨_, by omega, rfl⟩
    · rw [if_neg h, e]
      exact ⟨n, by omega, rfl⟩
theorem wsO_b {I M : Nat → Nat → Int32} (hR : riR I M) {FS FN : Nat → Nat → Int64} (h : ∀ q, q < 6 → ∃ S, S < 2 ^ 61 ∧ FS 2 q = lN S ∧ FN 2 q = lN S) : ∀ r, r ≤ 6 → ∃ n, n ≤ 854 * r ∧ wsO I FS r = nI n
  | 0, _ => ⟨0, by omega, rfl⟩
  | r + 1, hr => by
    obtain ⟨n, hn, e⟩ := wsO_b hR h r (by omega)
    obtain ⟨-, ⟨w, hw, w1, w2⟩, -⟩ := hR r (by omega)
    obtain ⟨S, hS, e1, -⟩ := h r (by omega)
    obtain ⟨n2, hn2, e2⟩ := wsI_b (S := S) hw 61 (by omega) n
    refine ⟨n2, by omega, ?_⟩
    show wsI (I 1 r) (FS 2 r) (wsO I FS r) 61 = nI n2
    rw [w2, e1, e, e2]
theorem stp_n {n s : Nat} (hn : n ≤ 6000) (h1 : 10 ≤ s) (h2 : s ≤ 1000) : ∃ st, st < 11 ∧ mst (nI n) (nI s) = nI st ∧ stS (nI n) (nI s) = nI st := by
  by_cases h : n ≤ s
  · refine ⟨0, by decide, ?_, ?_⟩
    · unfold mst
      rw [if_neg (by rw [nI_ltI (by omega) (by omega)]; omega)]
      rfl
    · unfold stS
      rw [if_pos (by rw [nI_leI (by omega) (by omega)]; omega)]
      rfl
  · have e : nI n - nI s = nI (n - s) := by
      rw [show nI n = nI (n - s + s) by rw [Nat.sub_add_cancel (by omega)], ← nI_add]
      simp
    have e2 : 1 + 10 * (nI n - nI s) / nI s = nI (1 + 10 * (n - s) / s) := by
      rw [e, show (10 : Int32) = nI 10 from rfl, pk_mul, pk_div (by omega) (by omega) (by omega), show (1 : Int32) = nI 1 from rfl, nI_add]
    have hb : 10 * (n - s) / s < 100000 := Nat.lt_of_le_of_lt (Nat.div_le_self _ _) (by omega)
    have c1 : ¬ nI n ≤ nI s := by rw [nI_leI (by omega) (by omega)]; omega
    have c2 : nI s < nI n := by rw [nI_ltI (by omega) (by omega)]; omega
    have c3 : (10 : Int32) ≤ nI s := by rw [show (10 : Int32) = nI 10 from rfl, nI_leI (by omega) (by omega)]; omega
    generalize 10 * (n - s) / s = q at e2 hb
    unfold mst stS
    rw [if_neg c1, if_pos c2, if_pos c3, e2]
    by_cases h3 : 1 + q < 10
    · have d1 : nI (1 + q) < 10 := by rw [show (10 : Int32) = nI 10 from rfl, nI_ltI (by omega) (by omega)]; omega
      have d2 : nI (1 + q) ≤ 10 := by rw [show (10 : Int32) = nI 10 from rfl, nI_leI (by omega) (by omega)]; omega
      rw [if_pos d1, if_pos d2]
      exact ⟨1 + q, by omega, rfl, rfl⟩
    · have d1 : ¬ nI (1 + q) < 10 := by rw [show (10 : Int32) = nI 10 from rfl, nI_ltI (by omega) (by omega)]; omega
      rw [if_neg d1]
      refine ⟨10, by decide, ?_, rfl⟩
      split
      · rename_i h5
        rw [show (10 : Int32) = nI 10 from rfl, nI_leI (by omega) (by omega)] at h5
        rw [show 1 + q = 10 by omega]
      · rfl
theorem sag_eq {I M : Nat → Nat → Int32} (hI : RI I M) {J N FS FN : Nat → Nat → Int64} {n : Int32} (h : Snd I M J N FS FN n) : ∃ st, st < 11 ∧ mst n (M 20 2) = nI st ∧ stS n (I 8 1) = nI st ∧ ∃ f, f ≤ 100 ∧ M 6 st = nI f ∧ fls I FS = nI f := by
  obtain ⟨s, h1, h2, s1, s2⟩ := hI.2.2.2.2.1
  obtain ⟨a, ha, e⟩ := wsO_b hI.1 h.1 6 (Nat.le_refl _)
  obtain ⟨st, hst, e1, e2⟩ := stp_n (n := a) (s := s) (by omega) h1 h2
  have en : n = nI a := by rw [← h.2.1, e]
  obtain ⟨f, hf, f1, f2⟩ := hI.2.2.2.2.2.1 st hst
  refine ⟨st, hst, by rw [en, s1, e1], by rw [en, s2, e2], f, hf, f1, ?_⟩
  unfold fls
  rw [e, s2, e2, if_neg (nI_pos (by omega)), if_neg (by rw [show (10 : Int32) = nI 10 from rfl, nI_ltI (by omega) (by omega)]; omega), nI_clamp (by omega), f2]
theorem htv_b : ∀ q, q < 4 → mtn (nI q) = htv q ∧ -12 ≤ (htv q).toInt ∧ (htv q).toInt ≤ 19 := by
  intro q hq
  rcases (show q = 0 ∨ q = 1 ∨ q = 2 ∨ q = 3 by omega) with rfl | rfl | rfl | rfl <;> decide
theorem rg50 {v : Int32} (h : rg v (-50) 50 = true) : -50 ≤ v.toInt ∧ v.toInt ≤ 50 := by
  simp only [rg, Bool.and_eq_true, decide_eq_true_eq, Int32.le_iff_toInt_le] at h
  exact h
theorem pws_eq {I M : Nat → Nat → Int32} (hI : RI I M) {r k st : Nat} (hr : r < 6) : mpt M r k st = pws I r k - M 6 st := by
  obtain ⟨⟨q, hq, q1, q2⟩, -, d, -⟩ := hI.1 r hr
  obtain ⟨o, -⟩ := hI.2.2.2.2.2.2.1 (k % 12) (Nat.mod_lt _ (by decide))
  unfold mpt pws
  rw [q1, q2, (htv_b q hq).1, o, d]
theorem pws_b {I M : Nat → Nat → Int32} (hI : RI I M) {r k : Nat} (hr : r < 6) (hk : k < 61) : -1300 ≤ (pws I r k).toInt ∧ (pws I r k).toInt ≤ 8000 := by
  obtain ⟨⟨q, hq, q1, q2⟩, -, d, db⟩ := hI.1 r hr
  obtain ⟨o, ob⟩ := hI.2.2.2.2.2.2.1 (k % 12) (Nat.mod_lt _ (by decide))
  have hh := (htv_b q hq).2
  have h1 := rg50 db
  have h2 := rg50 ob
  rw [← d] at h1
  rw [← o] at h2
  have k1 : (nI k).toInt = (k : Int) := nI_toInt (by omega)
  unfold pws
  rw [q2]
  have a1 : (nI k + htv q).toInt = k + (htv q).toInt := by rw [fb_addI (by omega) (by omega), k1]
  have a2 : (100 * (nI k + htv q) : Int32).toInt = 100 * (k + (htv q).toInt) := by
    have e100 : (100 : Int32).toInt = 100 := by decide
    rw [fb_mulI (by rw [e100, a1]; omega) (by rw [e100, a1]; omega), e100, a1]
  have a3 : (100 * (nI k + htv q) + I 7 (k % 12) : Int32).toInt = 100 * (k + (htv q).toInt) + (I 7 (k % 12)).toInt := by rw [fb_addI (by rw [a2]; omega) (by rw [a2]; omega), a2]
  rw [fb_addI (by rw [a3]; omega) (by rw [a3]; omega), a3]
  omega
theorem sub_le {x y f : Int32} (hx : -1300 ≤ x.toInt ∧ x.toInt ≤ 8000) (hy : -1300 ≤ y.toInt ∧ y.toInt ≤ 8000) (hf : 0 ≤ f.toInt ∧ f.toInt ≤ 100) : (x - f ≤ y - f) ↔ ¬ y < x := by
  rw [Int32.le_iff_toInt_le, Int32.lt_iff_toInt_lt, fb_subI (by omega) (by omega), fb_subI (by omega) (by omega)]
  omega
/-- the least so far, of both sides -/
def lor (f : Int32) (a b : Bool × Int32) : Prop := (a.1 = true ∧ b.1 = false ∧ b.2 = a.2 - f ∧ -1300 ≤ a.2.toInt ∧ a.2.toInt ≤ 8000) ∨ (a.1 = false ∧ b.1 = true ∧ b.2 = 0)
theorem lo_in {I M : Nat → Nat → Int32} (hI : RI I M) {FS FN : Nat → Nat → Int64} (h : ∀ q, q < 6 → ∃ S, S < 2 ^ 61 ∧ FS 2 q = lN S ∧ FN 2 q = lN S) {st f : Nat} (hf : f ≤ 100) (ef : M 6 st = nI f) {r : Nat} (hr : r < 6) {acc : Bool × Int32} (h0 : lor (nI f) acc (mlo M FN st (61 * r))) : ∀ k, k ≤ 61 → lor (nI f) (loI I FS r acc k) (mlo M FN st (61 * r + k)) := by
  intro k
  induction k with
  | zero => intro _; exact h0
  | succ k ih =>
    intro hk61
    have i1 := ih (by omega)
    obtain ⟨S, hS, e1, e2⟩ := h r hr
    have d1 : (61 * r + k) / 61 = r := by omega
    have d2 : (61 * r + k) % 61 = k := by omega
    have b1 : hk (FS 2 r) (nI k) = S.testBit k := by rw [e1, hk_lN (by omega)]
    have b2 : hs (FN 2 r) (nI k) = S.testBit k := by rw [e2, hs_lN hS (by omega)]
    have pb := pws_b hI hr (show k < 61 by omega)
    have pe := pws_eq hI (k := k) (st := st) hr
    have hff : 0 ≤ (nI f).toInt ∧ (nI f).toInt ≤ 100 := by rw [nI_toInt (by omega)]; omega
    show lor (nI f) (loI I FS r acc (k + 1)) (mlo M FN st (61 * r + k + 1))
    cases hb : S.testBit k with
    | false =>
      have c1 : loI I FS r acc (k + 1) = loI I FS r acc k := by rw [loI, b1, hb]; rfl
      rw [c1, mlo_n (by rw [d1, d2, b2, hb])]
      exact i1
    | true =>
      have c1 : loI I FS r acc (k + 1) = (true, if (loI I FS r acc k).1 = true then (if pws I r k < (loI I FS r acc k).2 then pws I r k else (loI I FS r acc k).2) else pws I r k) := by rw [loI, b1, hb]; rfl
      rw [c1, mlo_y (by rw [d1, d2, b2, hb]), d1, d2, pe, ef]
      generalize loI I FS r acc k = A at i1
      generalize mlo M FN st (61 * r + k) = B at i1
      obtain ⟨A1, A2⟩ := A
      obtain ⟨B1, B2⟩ := B
      rcases i1 with ⟨x1, x2, x3, x4⟩ | ⟨x1, x2, x3⟩
      · simp only at x1 x2 x3 x4
        subst x1 x2 x3
        have hle := sub_le (f := nI f) x4 pb hff
        refine Or.inl ⟨rfl, rfl, ?_, ?_⟩
        · show (if false = true then pws I r k - nI f else if A2 - nI f ≤ pws I r k - nI f then A2 - nI f else pws I r k - nI f) = (if true = true then (if pws I r k < A2 then pws I r k else A2) else pws I r k) - nI f
          rw [if_neg Bool.false_ne_true, if_pos rfl]
          by_cases q : pws I r k < A2
          · rw [if_pos q, if_neg (fun z => hle.mp z q)]
          · rw [if_neg q, if_pos (hle.mpr q)]
        · show -1300 ≤ (if true = true then (if pws I r k < A2 then pws I r k else A2) else pws I r k).toInt ∧ (if true = true then (if pws I r k < A2 then pws I r k else A2) else pws I r k).toInt ≤ 8000
          rw [if_pos rfl]
          split
          · exact pb
          · exact x4
      · simp only at x1 x2 x3
        subst x1 x2 x3
        exact Or.inl ⟨rfl, rfl, rfl, pb⟩
theorem lo_out {I M : Nat → Nat → Int32} (hI : RI I M) {FS FN : Nat → Nat → Int64} (h : ∀ q, q < 6 → ∃ S, S < 2 ^ 61 ∧ FS 2 q = lN S ∧ FN 2 q = lN S) {st f : Nat} (hf : f ≤ 100) (ef : M 6 st = nI f) : ∀ r, r ≤ 6 → lor (nI f) (loO I FS r) (mlo M FN st (61 * r))
  | 0, _ => Or.inr ⟨rfl, rfl, rfl⟩
  | r + 1, hr => lo_in hI h hf ef (by omega) (lo_out hI h hf ef r (by omega)) 61 (Nat.le_refl _)
theorem lw_eq {I M : Nat → Nat → Int32} (hI : RI I M) {FS FN : Nat → Nat → Int64} (h : ∀ q, q < 6 → ∃ S, S < 2 ^ 61 ∧ FS 2 q = lN S ∧ FN 2 q = lN S) {st f : Nat} (hf : f ≤ 100) (ef : M 6 st = nI f) (ec : fls I FS = nI f) : lwF I FS = (mlo M FN st 366).2 := by
  have e : lor (nI f) (loO I FS 6) (mlo M FN st 366) := lo_out hI h hf ef 6 (Nat.le_refl _)
  unfold lwF
  rw [ec]
  rcases e with ⟨x1, -, x3, -⟩ | ⟨x1, -, x3⟩
  · rw [if_pos x1, x3]
  · rw [x1, x3]
    rfl
/-! wear -/
theorem wo_in {S : Int64} {r : Nat} {tm : Int32} {I : Nat → Nat → Int32} : ∀ n, (∀ k, woF S r tm I n (10 + r) k = if k < n ∧ hk S (nI k) = true then I (10 + r) k + tm else I (10 + r) k) ∧ ∀ i, ¬ i = 10 + r → woF S r tm I n i = I i := by
  intro n
  induction n with
  | zero => exact ⟨fun k => by rw [if_neg (fun h => Nat.not_lt_zero k h.1)]; rfl, fun _ _ => rfl⟩
  | succ n ih =>
    by_cases h : hk S (nI n) = true
    · have e : woF S r tm I (n + 1) = u2 (woF S r tm I n) (10 + r) n (woF S r tm I n (10 + r) n + tm) := if_pos h
      rw [e]
      refine ⟨fun k => ?_, fun i hi => by rw [u2_ne hi]; exact ih.2 i hi⟩
      rw [u2_same]
      by_cases q : k = n
      · subst q
        rw [upd_at, ih.1 k, if_neg (fun z => Nat.lt_irrefl k z.1), if_pos ⟨Nat.lt_succ_self k, h⟩]
      · rw [upd_ne q, ih.1 k]
        exact ifc ⟨fun z => ⟨by omega, z.2⟩, fun z => ⟨by omega, z.2⟩⟩
    · have e : woF S r tm I (n + 1) = woF S r tm I n := if_neg h
      rw [e]
      refine ⟨fun k => ?_, ih.2⟩
      rw [ih.1 k]
      refine ifc ⟨fun z => ⟨by omega, z.2⟩, fun z => ⟨?_, z.2⟩⟩
      have : ¬ k = n := fun q => h (q ▸ z.2)
      omega
theorem wo_out {J : Nat → Nat → Int64} {tm : Int32} {I : Nat → Nat → Int32} : ∀ n, (∀ r, r < n → ∀ k, woR J tm I n (10 + r) k = if k < 61 ∧ hk (J 2 r) (nI k) = true then I (10 + r) k + tm else I (10 + r) k) ∧ ∀ i, (∀ r, r < n → ¬ i = 10 + r) → woR J tm I n i = I i := by
  intro n
  induction n with
  | zero => exact ⟨fun r h => absurd h (Nat.not_lt_zero r), fun _ _ => rfl⟩
  | succ n ih =>
    have w := wo_in (S := J 2 n) (r := n) (tm := tm) (I := woR J tm I n) 61
    refine ⟨fun r hr k => ?_, fun i hi => ?_⟩
    · show woF (J 2 n) n tm (woR J tm I n) 61 (10 + r) k = _
      by_cases q : r = n
      · subst q
        rw [w.1 k, ih.2 (10 + r) (fun r' h' => by omega)]
      · rw [w.2 (10 + r) (by omega)]
        exact ih.1 r (by omega) k
    · show woF (J 2 n) n tm (woR J tm I n) 61 i = _
      rw [w.2 i (hi n (Nat.lt_succ_self n))]
      exact ih.2 i (fun r hr => hi r (by omega))
theorem mw_at {J : Nat → Nat → Int64} {tm : Int32} {M : Nat → Nat → Int32} : ∀ n, (∀ j, mwF J tm M n 9 j = if j < n ∧ hs (J 2 (j / 61)) (nI (j % 61)) = true then M 9 j + tm else M 9 j) ∧ ∀ i, ¬ i = 9 → mwF J tm M n i = M i := by
  intro n
  induction n with
  | zero => exact ⟨fun k => by rw [if_neg (fun h => Nat.not_lt_zero k h.1)]; rfl, fun _ _ => rfl⟩
  | succ n ih =>
    by_cases h : hs (J 2 (n / 61)) (nI (n % 61)) = true
    · have e : mwF J tm M (n + 1) = u2 (mwF J tm M n) 9 n (mwF J tm M n 9 n + tm) := if_pos h
      rw [e]
      refine ⟨fun k => ?_, fun i hi => by rw [u2_ne hi]; exact ih.2 i hi⟩
      rw [u2_same]
      by_cases q : k = n
      · subst q
        rw [upd_at, ih.1 k, if_neg (fun z => Nat.lt_irrefl k z.1), if_pos ⟨Nat.lt_succ_self k, h⟩]
      · rw [upd_ne q, ih.1 k]
        exact ifc ⟨fun z => ⟨by omega, z.2⟩, fun z => ⟨by omega, z.2⟩⟩
    · have e : mwF J tm M (n + 1) = u2 (mwF J tm M n) 9 n (mwF J tm M n 9 n + 0) := if_neg h
      rw [e]
      refine ⟨fun k => ?_, fun i hi => by rw [u2_ne hi]; exact ih.2 i hi⟩
      rw [u2_same]
      by_cases q : k = n
      · subst q
        rw [upd_at, ih.1 k, if_neg (fun z => Nat.lt_irrefl k z.1), if_neg (fun z => h z.2)]
        simp
      · rw [upd_ne q, ih.1 k]
        exact ifc ⟨fun z => ⟨by omega, z.2⟩, fun z => ⟨by omega, z.2⟩⟩
theorem wear_eq {I M : Nat → Nat → Int32} (hW : riW I M) {FS FN : Nat → Nat → Int64} (h : ∀ q, q < 6 → ∃ S, S < 2 ^ 61 ∧ FS 2 q = lN S ∧ FN 2 q = lN S) (tm : Int32) : riW (woR FS tm I 6) (mwF FN tm M 366) := by
  intro r k hr hk61
  obtain ⟨S, hS, e1, e2⟩ := h r hr
  have d1 : (61 * r + k) / 61 = r := by omega
  have d2 : (61 * r + k) % 61 = k := by omega
  rw [(wo_out 6).1 r hr k, (mw_at 366).1 (61 * r + k), d1, d2, e1, e2, hk_lN hk61, hs_lN hS hk61, hW r k hr hk61]
  exact ifc ⟨fun z => ⟨by omega, z.2⟩, fun z => ⟨hk61, z.2⟩⟩
/-! repair -/
theorem rp_at {I : Nat → Nat → Int32} {r : Nat} : ∀ n, (∀ k, rpI I r n (10 + r) k = if k < n then 0 else I (10 + r) k) ∧ ∀ i, ¬ i = 10 + r → rpI I r n i = I i := by
  intro n
  induction n with
  | zero => exact ⟨fun k => rfl, fun _ _ => rfl⟩
  | succ n ih =>
    refine ⟨fun k => ?_, fun i hi => ?_⟩
    · show u2 (rpI I r n) (10 + r) n 0 (10 + r) k = _
      rw [u2_same]
      by_cases q : k = n
      · subst q
        rw [upd_at, if_pos (Nat.lt_succ_self k)]
      · rw [upd_ne q, ih.1 k]
        exact ifc (by omega)
    · show u2 (rpI I r n) (10 + r) n 0 i = I i
      rw [u2_ne hi]
      exact ih.2 i hi
theorem mr_at {M : Nat → Nat → Int32} {r : Nat} : ∀ n, (∀ j, mrI M r n 9 j = if 61 * r ≤ j ∧ j < 61 * r + n then 0 else M 9 j) ∧ ∀ i, ¬ i = 9 → mrI M r n i = M i := by
  intro n
  induction n with
  | zero => exact ⟨fun k => by rw [if_neg (by omega)]; rfl, fun _ _ => rfl⟩
  | succ n ih =>
    refine ⟨fun k => ?_, fun i hi => ?_⟩
    · show u2 (mrI M r n) 9 (61 * r + n) 0 9 k = _
      rw [u2_same]
      by_cases q : k = 61 * r + n
      · subst q
        rw [upd_at, if_pos (by omega)]
      · rw [upd_ne q, ih.1 k]
        exact ifc (by omega)
    · show u2 (mrI M r n) 9 (61 * r + n) 0 i = M i
      rw [u2_ne hi]
      exact ih.2 i hi
theorem rep_W {I M : Nat → Nat → Int32} (hW : riW I M) (r0 : Nat) : riW (rpI I r0 61) (mrI M r0 61) := by
  intro r k hr hk61
  rw [(mr_at 61).1]
  by_cases q : r = r0
  · subst q
    rw [(rp_at 61).1 k, if_pos hk61, if_pos (by omega)]
  · rw [(rp_at 61).2 (10 + r) (by omega), hW r k hr hk61, if_neg (by omega)]
theorem rep_n {I M : Nat → Nat → Int32} (hW : riW I M) {r : Nat} (hr : r < 6) {m : Nat} (hm : ∀ i, m.testBit i = (decide (i < 61) && !decide (I (10 + r) i < 50))) : ∀ n, n ≤ 61 → mrA M r n = nI (pcN m n)
  | 0, _ => rfl
  | n + 1, hn => by
    have e : mrI M r n 9 (61 * r + n) = I (10 + r) n := by rw [(mr_at n).1, if_neg (by omega), hW r n hr (by omega)]
    unfold mrA pcN
    rw [e, rep_n hW hr hm n (by omega), hm n]
    by_cases h : I (10 + r) n < 50
    · simp [h]
    · rw [if_neg h]
      simp [h, show n < 61 by omega]
      exact nI_1 _
theorem rep_eq {I M : Nat → Nat → Int32} (hW : riW I M) {r : Nat} (hr : r < 6) : bcL (muF (I (10 + r)) 61) = mrA M r 61 := by
  obtain ⟨m, m1, m2⟩ := mu_bits (I (10 + r)) 61 (Nat.le_refl _)
  rw [m1, bcL_pc (lt_bits (fun i hi => by rw [m2]; simp; omega)), rep_n hW hr m2 61 (Nat.le_refl _)]
