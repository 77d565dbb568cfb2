/-! ===== the relation of both states; what sounds is the same ===== -/
def riR (I M : Nat → Nat → Int32) : Prop := ∀ r, r < 6 → (∃ q, q < 4 ∧ M 0 r = nI q ∧ I 0 r = htv q) ∧ (∃ w, w ≤ 9 ∧ M 1 r = nI w ∧ I 1 r = nI w) ∧ I 2 r = M 2 r ∧ rg (M 2 r) (-50) 50 = true
def riS (I M : Nat → Nat → Int32) : Prop := ∀ s, s < 12 → ∃ j, j < 3 ∧ M 3 s = nI j ∧ I 3 s = nI j ∧ I 4 s = M 4 s
def riD (I M : Nat → Nat → Int32) : Prop := ∃ d, d < 4096 ∧ M 20 1 = nI d ∧ I 8 0 = nI d
def riC (I M : Nat → Nat → Int32) : Prop := ∀ f t, f < 3 → t < 3 → cod (I (20 + f) t) (M 5 (3 * f + t))
def riU (I M : Nat → Nat → Int32) : Prop := ∃ s, 10 ≤ s ∧ s ≤ 1000 ∧ M 20 2 = nI s ∧ I 8 1 = nI s
def riF (I M : Nat → Nat → Int32) : Prop := ∀ k, k < 11 → ∃ n, n ≤ 100 ∧ M 6 k = nI n ∧ I 6 k = nI n
def riO (I M : Nat → Nat → Int32) : Prop := ∀ k, k < 12 → I 7 k = M 7 k ∧ rg (M 7 k) (-50) 50 = true
def riG (I M : Nat → Nat → Int32) : Prop := ∀ r, r < 8 → ∃ d, d < 4096 ∧ M 8 r = nI d ∧ I 5 r = nI d
def riW (I M : Nat → Nat → Int32) : Prop := ∀ r k, r < 6 → k < 61 → I (10 + r) k = M 9 (61 * r + k)
def RI (I M : Nat → Nat → Int32) : Prop := riR I M ∧ riS I M ∧ riD I M ∧ (riC I M ∧ acy I) ∧ riU I M ∧ riF I M ∧ riO I M ∧ riG I M ∧ riW I M
def RJ (J N : Nat → Nat → Int64) : Prop := ∀ m, m < 3 → ∃ h, h < 2 ^ 61 ∧ J 0 m = lN h ∧ N 0 m = lN h
theorem ones : (-1 : Int64) = lN (2 ^ 64 - 1) := rfl
theorem ones_bit (i : Nat) : (2 ^ 64 - 1).testBit i = decide (i < 64) := Nat.testBit_two_pow_sub_one 64 i
theorem notL (m : Nat) : lN m ^^^ (-1) = lN (m ^^^ (2 ^ 64 - 1)) := by rw [ones, fb_xorL]
theorem hi_bit {n i : Nat} (h : n < 2 ^ 61) (hi : 61 ≤ i) : n.testBit i = false := Nat.testBit_lt_two_pow (Nat.lt_of_lt_of_le h (Nat.pow_le_pow_right (by decide) hi))
theorem lt_bits {n : Nat} (h : ∀ i, 61 ≤ i → n.testBit i = false) : n < 2 ^ 61 := Nat.lt_pow_two_of_testBit n (fun i hi => h i hi)
theorem mu_bits (f : Nat → Int32) : ∀ n, n ≤ 61 → ∃ m, muF f n = lN m ∧ ∀ i, m.testBit i = (decide (i < n) && !decide (f i < 50)) := by
  intro n
  induction n with
  | zero => intro _; exact ⟨0, rfl, fun i => by simp⟩
  | succ n ih =>
    intro hn
    obtain ⟨m, e, b⟩ := ih (by omega)
    by_cases h : f n < 50
    · refine ⟨m, by rw [muF, if_pos h, e], fun i => ?_⟩
      rw [b i]
      by_cases q : i = n
      · subst q
        simp [h]
      · rw [show decide (i < n + 1) = decide (i < n) from decide_eq_decide.mpr (by omega)]
    · refine ⟨m ||| 2 ^ n, by rw [muF, if_neg h, e, kb_lN (by omega), fb_orL], fun i => ?_⟩
      rw [fb_bit_set, b i]
      by_cases q : i = n
      · subst q
        simp [h]
      · rw [show decide (i < n + 1) = decide (i < n) from decide_eq_decide.mpr (by omega)]
        simp [q]
theorem dr_bit {d n : Nat} (hn : n < 12) : dr (nI d) (nI n) = d.testBit n := by
  unfold dr
  have e : ((1 : Int32) <<< ((nI n) &&& 31)) = nI (2 ^ n) := by
    rcases (show n = 0 ∨ n = 1 ∨ n = 2 ∨ n = 3 ∨ n = 4 ∨ n = 5 ∨ n = 6 ∨ n = 7 ∨ n = 8 ∨ n = 9 ∨ n = 10 ∨ n = 11 by omega) with rfl | rfl | rfl | rfl | rfl | rfl | rfl | rfl | rfl | rfl | rfl | rfl <;> rfl
  rw [e, fa_andN]
  have h2 : d &&& 2 ^ n < 2 ^ 32 := Nat.lt_of_le_of_lt Nat.and_le_right (Nat.pow_lt_pow_right (by decide) (by omega))
  have k : nI (d &&& 2 ^ n) = 0 ↔ d &&& 2 ^ n = 0 := by
    constructor
    · intro h
      have h3 := congrArg (fun x : Int32 => x.toBitVec.toNat) h
      have h4 : (d &&& 2 ^ n) % 2 ^ 32 = 0 := h3
      rwa [Nat.mod_eq_of_lt h2] at h4
    · intro h
      rw [h]
      rfl
  have k2 := fb_bit_nat d n
  cases hb : d.testBit n with
  | true => simp [k, k2, hb]
  | false => simp [k, k2, hb]
theorem wide_lN {d : Nat} (h : d < 4096) : (nI d).toInt64 = lN d := by
  have e : (nI d).toInt = (d : Int) := nI_toInt (by omega)
  apply Int64.toInt_inj.mp
  rw [Int32.toInt_toInt64, e, pf_lI (by omega)]
theorem hs_wide {d n : Nat} (hd : d < 4096) (hn : n < 61) : hs (nI d).toInt64 (nI n) = d.testBit n := by
  rw [wide_lN hd, hs_lN (by omega) hn]
theorem kr_at {R : Nat → Int64} {j : Nat} (h : j < 3) : krF (nI j) R 3 = R j := by
  rcases (show j = 0 ∨ j = 1 ∨ j = 2 by omega) with rfl | rfl | rfl <;> rfl
theorem kd_eq {I M : Nat → Nat → Int32} (hS : riS I M) (hD : riD I M) {R R' : Nat → Int64} {T : Nat → Nat} (h : ∀ t, t < 3 → R t = lN (T t) ∧ T t < 2 ^ 61) (h' : ∀ t, t < 3 → R' t = lN (T t) ∧ T t < 2 ^ 61) (r : Nat) : ∀ n, n ≤ 12 → ∃ K, K < 2 ^ 61 ∧ kdF I R r n = lN K ∧ fnK M R' r n = lN K := by
  obtain ⟨d, hd, eM, eI⟩ := hD
  intro n
  induction n with
  | zero => intro _; exact ⟨0, by decide, rfl, rfl⟩
  | succ n ih =>
    intro hn
    obtain ⟨K, hK, e1, e2⟩ := ih (by omega)
    obtain ⟨j, hj, j1, j2, j3⟩ := hS n (by omega)
    have d1 : dr (I 8 0) (nI n) = d.testBit n := by rw [eI, dr_bit (by omega)]
    have d2 : hs (M 20 1).toInt64 (nI n) = d.testBit n := by rw [eM, hs_wide hd (by omega)]
    unfold kdF fnK
    rw [d1, d2, e1, e2, j1, j2, j3, kr_at hj, nI_clamp (by omega), (h j hj).1, (h' j hj).1, show (0 : Int64) = lN 0 from rfl]
    simp only [fb_orL, Nat.or_zero]
    by_cases hb : d.testBit n = true
    · rw [if_pos hb]
      by_cases hr : M 4 n = nI r
      · rw [if_pos hr]
        exact ⟨_, Nat.or_lt_two_pow hK (h j hj).2, rfl, rfl⟩
      · rw [if_neg hr]
        exact ⟨K, hK, rfl, rfl⟩
    · rw [if_neg hb]
      exact ⟨K, hK, rfl, rfl⟩
theorem ge50 (x : Int32) : (50 ≤ x) ↔ ¬ x < 50 := by
  rw [Int32.le_iff_toInt_le, Int32.lt_iff_toInt_lt]
  omega
theorem fnS_eq {M : Nat → Nat → Int32} {r : Nat} {wv : Int32} (hw : M 1 r = wv) {K S : Nat} (hK : K < 2 ^ 61) (hS : ∀ i, S.testBit i = (K.testBit i && decide (M 9 (61 * r + i) < 50))) (acc : Int32) : ∀ k, k ≤ 61 → ∃ X, X < 2 ^ 61 ∧ fnS M r (lN K) acc k = (lN X, wsI wv (lN S) acc k) ∧ ∀ i, X.testBit i = (K.testBit i && (decide (k ≤ i) || decide (M 9 (61 * r + i) < 50))) := by
  intro k
  induction k with
  | zero => intro _; exact ⟨K, hK, rfl, fun i => by simp⟩
  | succ k ih =>
    intro hk61
    obtain ⟨X, hX, e, b⟩ := ih (by omega)
    have hb : hs (lN X) (nI k) = K.testBit k := by
      rw [hs_lN hX (by omega), b k]
      simp
    have hc : hk (lN S) (nI k) = (K.testBit k && decide (M 9 (61 * r + k) < 50)) := by rw [hk_lN (by omega), hS]
    have off : lN X &&& (kb (nI k) ^^^ (-1)) = lN (X &&& (2 ^ k ^^^ (2 ^ 64 - 1))) := by rw [kb_lN (by omega), notL, fb_andL]
    have on : lN X &&& (-1) = lN (X &&& (2 ^ 64 - 1)) := by rw [ones, fb_andL]
    have bit0 : ∀ i, (X &&& (2 ^ k ^^^ (2 ^ 64 - 1))).testBit i = (X.testBit i && !decide (i = k)) := by
      intro i
      rw [Nat.testBit_and, Nat.testBit_xor, ones_bit, Nat.testBit_two_pow]
      by_cases q : i < 61
      · by_cases q2 : k = i
        · subst q2
          simp [show k < 64 by omega]
        · have q3 : ¬ i = k := fun h => q2 h.symm
          simp [q2, q3]
          omega
      · rw [hi_bit hX (by omega)]
        simp
    have bit1 : ∀ i, (X &&& (2 ^ 64 - 1)).testBit i = X.testBit i := by
      intro i
      rw [Nat.testBit_and, ones_bit]
      by_cases q : i < 61
      · simp
        omega
      · rw [hi_bit hX (by omega)]
        simp
    have lt0 : X &&& (2 ^ k ^^^ (2 ^ 64 - 1)) < 2 ^ 61 := Nat.lt_of_le_of_lt Nat.and_le_left hX
    have lt1 : X &&& (2 ^ 64 - 1) < 2 ^ 61 := Nat.lt_of_le_of_lt Nat.and_le_left hX
    have st : ∀ i, ¬ i = k → decide (k + 1 ≤ i) = decide (k ≤ i) := fun i q => decide_eq_decide.mpr (by omega)
    cases hKb : K.testBit k with
    | false =>
      refine ⟨_, lt0, ?_, fun i => ?_⟩
      · rw [fnS_a (by rw [e]; rw [hb, hKb]), e, off, wsI, hc, hKb]
        simp
      · rw [bit0, b i]
        by_cases q : i = k
        · subst q
          simp [hKb]
        · rw [st i q]
          simp [q]
    | true =>
      by_cases h5 : M 9 (61 * r + k) < 50
      · refine ⟨_, lt1, ?_, fun i => ?_⟩
        · rw [fnS_c (by rw [e]; rw [hb, hKb]) (by rw [ge50]; exact fun q => q h5), e, on, wsI, hc, hKb, hw]
          simp [h5]
        · rw [bit1, b i]
          by_cases q : i = k
          · subst q
            simp [h5]
          · rw [st i q]
      · refine ⟨_, lt0, ?_, fun i => ?_⟩
        · rw [fnS_b (by rw [e]; rw [hb, hKb]) (by rw [ge50]; exact h5), e, off, wsI, hc, hKb]
          simp [h5]
        · rw [bit0, b i]
          by_cases q : i = k
          · subst q
            simp [h5]
          · rw [st i q]
            simp [q]
theorem fsA_row (I : Nat → Nat → Int32) (J : Nat → Nat → Int64) : ∀ r k, ¬ k = 2 → fsA I J r k = J k
  | 0, _, _ => rfl
  | r + 1, k, h => by
    show u2L (fsA I J r) 2 r _ k = J k
    rw [u2L_ne h]
    exact fsA_row I J r k h
theorem fnO_row (M : Nat → Nat → Int32) (N : Nat → Nat → Int64) : ∀ r k, ¬ k = 2 → (fnO M N r).1 k = N k
  | 0, _, _ => rfl
  | r + 1, k, h => by
    show u2L (fnO M N r).1 2 r _ k = N k
    rw [u2L_ne h]
    exact fnO_row M N r k h
theorem fs_eq {I M : Nat → Nat → Int32} (hI : RI I M) {J N : Nat → Nat → Int64} {T : Nat → Nat} (h : ∀ t, t < 3 → J 1 t = lN (T t) ∧ T t < 2 ^ 61) (h' : ∀ t, t < 3 → N 1 t = lN (T t) ∧ T t < 2 ^ 61) : ∀ r, r ≤ 6 → (∀ q, q < r → ∃ S, S < 2 ^ 61 ∧ fsA I J r 2 q = lN S ∧ (fnO M N r).1 2 q = lN S) ∧ ∀ J2 : Nat → Nat → Int64, (∀ q, q < r → J2 2 q = fsA I J r 2 q) → wsO I J2 r = (fnO M N r).2 := by
  obtain ⟨hR, hS, hD, -, -, -, -, -, hW⟩ := hI
  intro r
  induction r with
  | zero => intro _; exact ⟨fun q hq => absurd hq (Nat.not_lt_zero q), fun _ _ => rfl⟩
  | succ r ih =>
    intro hr
    obtain ⟨i1, i2⟩ := ih (by omega)
    obtain ⟨-, ⟨w, -, w1, w2⟩, -⟩ := hR r (by omega)
    obtain ⟨K, hK, k1, k2⟩ := kd_eq hS hD (R := fsA I J r 1) (R' := (fnO M N r).1 1) (by rw [fsA_row I J r 1 (by decide)]; exact h) (by rw [fnO_row M N r 1 (by decide)]; exact h') r 12 (Nat.le_refl _)
    obtain ⟨m, m1, m2⟩ := mu_bits (I (10 + r)) 61 (Nat.le_refl _)
    have eC : kdF I (fsA I J r 1) r 12 &&& (muF (I (10 + r)) 61 ^^^ (-1)) = lN (K &&& (m ^^^ (2 ^ 64 - 1))) := by rw [k1, m1, notL, fb_andL]
    have hSb : ∀ i, (K &&& (m ^^^ (2 ^ 64 - 1))).testBit i = (K.testBit i && decide (M 9 (61 * r + i) < 50)) := by
      intro i
      rw [Nat.testBit_and, Nat.testBit_xor, ones_bit, m2]
      by_cases q : i < 61
      · rw [hW r i (by omega) q]
        simp [q, show i < 64 by omega]
      · rw [hi_bit hK (by omega)]
        simp
    obtain ⟨X, hX, e, b⟩ := fnS_eq (wv := I 1 r) (by rw [w1, w2]) hK hSb (fnO M N r).2 61 (Nat.le_refl _)
    have eX : X = K &&& (m ^^^ (2 ^ 64 - 1)) := by
      apply Nat.eq_of_testBit_eq
      intro i
      rw [b i, hSb i]
      by_cases q : 61 ≤ i
      · rw [hi_bit hK q]
        simp
      · simp [q]
    have hM : fnS M r (fnK M ((fnO M N r).1 1) r 12) (fnO M N r).2 61 = (lN (K &&& (m ^^^ (2 ^ 64 - 1))), wsI (I 1 r) (lN (K &&& (m ^^^ (2 ^ 64 - 1)))) (fnO M N r).2 61) := by rw [k2, e, eX]
    refine ⟨fun q hq => ?_, fun J2 hJ => ?_⟩
    · show ∃ S, S < 2 ^ 61 ∧ u2L (fsA I J r) 2 r (kdF I (fsA I J r 1) r 12 &&& (muF (I (10 + r)) 61 ^^^ (-1))) 2 q = lN S ∧ u2L (fnO M N r).1 2 r (fnS M r (fnK M ((fnO M N r).1 1) r 12) (fnO M N r).2 61).1 2 q = lN S
      rw [u2L_same, u2L_same, eC, hM]
      by_cases e2 : q = r
      · subst e2
        rw [updL_at, updL_at]
        exact ⟨_, eX ▸ hX, rfl, rfl⟩
      · rw [updL_ne e2, updL_ne e2]
        exact i1 q (by omega)
    · have e0 := i2 J2 (fun q hq => by
        rw [hJ q (by omega)]
        show u2L (fsA I J r) 2 r _ 2 q = _
        rw [u2L_same, updL_ne (by omega)])
      have e1 : J2 2 r = lN (K &&& (m ^^^ (2 ^ 64 - 1))) := by
        rw [hJ r (by omega)]
        show u2L (fsA I J r) 2 r (kdF I (fsA I J r 1) r 12 &&& (muF (I (10 + r)) 61 ^^^ (-1))) 2 r = _
        rw [u2L_same, updL_at, eC]
      show wsI (I 1 r) (J2 2 r) (wsO I J2 r) 61 = (fnS M r (fnK M ((fnO M N r).1 1) r 12) (fnO M N r).2 61).2
      rw [hM, e0, e1]
/-- what sounds, and the need, when the class holds x more on the manual mn -/
def Snd (I M : Nat → Nat → Int32) (J N FS FN : Nat → Nat → Int64) (n : Int32) : Prop := (∀ q, q < 6 → ∃ S, S < 2 ^ 61 ∧ FS 2 q = lN S ∧ FN 2 q = lN S) ∧ wsO I FS 6 = n ∧ FS 0 = J 0 ∧ FN 0 = N 0
theorem snd_eq {I M : Nat → Nat → Int32} (hI : RI I M) {J N : Nat → Nat → Int64} {R : Nat → Nat} {mn x : Nat} (hmn : mn < 3) (hx : x < 2 ^ 61) (hJ : ∀ t, t < 3 → J 0 t = lN (R t) ∧ R t < 2 ^ 61) (hN : ∀ t, t < 3 → N 0 t = lN (if t = mn then R t ||| x else R t)) : Snd I M J N (fsW I J mn (lN x)) (fnJ M N) (fnN M N) := by
  obtain ⟨T, a, b⟩ := reach hI.2.2.2.1.1 hI.2.2.2.1.2 hmn hx hJ hN
  obtain ⟨s, w⟩ := fs_eq hI a.1 b.1 6 (Nat.le_refl _)
  refine ⟨s, w _ (fun _ _ => rfl), ?_, ?_⟩
  · show fsA I (frD I J mn (lN x)) 6 0 = J 0
    rw [fsA_row I _ 6 0 (by decide), a.2 0 (by decide)]
  · show (fnO M (cpJ M N) 6).1 0 = N 0
    rw [fnO_row M _ 6 0 (by decide), b.2 0 (by decide)]
theorem snd_now {I M : Nat → Nat → Int32} (hI : RI I M) {J N : Nat → Nat → Int64} (hJ : RJ J N) : Snd I M J N (fsW I J 0 0) (fnJ M N) (fnN M N) := by
  obtain ⟨r0, b0, c0, d0⟩ := hJ 0 (by decide)
  obtain ⟨r1, b1, c1, d1⟩ := hJ 1 (by decide)
  obtain ⟨r2, b2, c2, d2⟩ := hJ 2 (by decide)
  refine snd_eq (R := fun t => if t = 0 then r0 else if t = 1 then r1 else r2) (x := 0) hI (by decide) (by decide) (fun t ht => ?_) (fun t ht => ?_)
  · rcases (show t = 0 ∨ t = 1 ∨ t = 2 by omega) with rfl | rfl | rfl
    · exact ⟨c0, b0⟩
    · exact ⟨c1, b1⟩
    · exact ⟨c2, b2⟩
  · rcases (show t = 0 ∨ t = 1 ∨ t = 2 by omega) with rfl | rfl | rfl
    · exact d0.trans (congrArg lN (Nat.or_zero r0).symm)
    · exact d1
    · exact d2
