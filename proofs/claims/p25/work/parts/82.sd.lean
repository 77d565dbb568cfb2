/-! ===== what sounds, as numbers: sets reached, drawn, not mute ===== -/
theorem u2L_same (J : Nat → Nat → Int64) (k j : Nat) (x : Int64) : u2L J k j x k = vp_updL (J k) j x := if_pos rfl
theorem u2L_ne {J : Nat → Nat → Int64} {k i : Nat} (h : ¬ i = k) (j : Nat) (x : Int64) : u2L J k j x i = J i := if_neg h
theorem u2_same (I : Nat → Nat → Int32) (k j : Nat) (x : Int32) : u2 I k j x k = upd (I k) j x := if_pos rfl
theorem u2_ne {I : Nat → Nat → Int32} {k i : Nat} (h : ¬ i = k) (j : Nat) (x : Int32) : u2 I k j x i = I i := if_neg h
theorem updL_at (f : Nat → Int64) (j : Nat) (x : Int64) : vp_updL f j x j = x := if_pos rfl
theorem updL_ne {f : Nat → Int64} {j i : Nat} (h : ¬ i = j) (x : Int64) : vp_updL f j x i = f i := if_neg h
theorem upd_at (f : Nat → Int32) (j : Nat) (x : Int32) : upd f j x j = x := if_pos rfl
theorem upd_ne {f : Nat → Int32} {j i : Nat} (h : ¬ i = j) (x : Int32) : upd f j x i = f i := if_neg h
def gst (S : Nat → Nat → Nat → Nat) (R : Nat → Nat) (f t : Nat) : Nat → Nat := fun k => if k = t then R t ||| S f t (R f) else R k
def gpass (S : Nat → Nat → Nat → Nat) (R : Nat → Nat) : Nat → Nat := gst S (gst S (gst S (gst S (gst S (gst S (gst S (gst S (gst S R 0 0) 0 1) 0 2) 1 0) 1 1) 1 2) 2 0) 2 1) 2 2
theorem shl12 (x : Nat) : (lN x <<< ((12 : Int32).toInt64 &&& 63)) &&& 2305843009213693951 = lN ((x * 2 ^ 12) % 2 ^ 61) := by
  have e : lN x <<< ((12 : Int32).toInt64 &&& 63) = lN (x * 2 ^ 12) := wb_shl x (k := 12) (by decide)
  rw [e, show (2305843009213693951 : Int64) = lN (2 ^ 61 - 1) from rfl, fb_andL, Nat.and_two_pow_sub_one_eq_mod]
def HR (J0 J : Nat → Nat → Int64) (R : Nat → Nat) : Prop := (∀ t, t < 3 → J 1 t = lN (R t) ∧ R t < 2 ^ 61) ∧ ∀ k, ¬ k = 1 → J k = J0 k
theorem HR_step {J0 J : Nat → Nat → Int64} {R : Nat → Nat} {S : Nat → Nat → Nat → Nat} {f t : Nat} {v : Int64} (h : HR J0 J R) (ht : t < 3) (hv : v = lN (S f t (R f))) (hS : S f t (R f) < 2 ^ 61) : HR J0 (u2L J 1 t (J 1 t ||| v)) (gst S R f t) := by
  refine ⟨fun k hk => ?_, fun k hk => by rw [u2L_ne hk]; exact h.2 k hk⟩
  rw [u2L_same]
  by_cases e : k = t
  · subst e
    rw [updL_at]
    unfold gst
    rw [if_pos rfl, hv, (h.1 k hk).1, fb_orL]
    exact ⟨rfl, Nat.or_lt_two_pow (h.1 k hk).2 hS⟩
  · rw [updL_ne e]
    unfold gst
    rw [if_neg e]
    exact h.1 k hk
theorem HR_same {J0 J : Nat → Nat → Int64} {R R' : Nat → Nat} (h : HR J0 J R) (e : ∀ k, k < 3 → R' k = R k) : HR J0 J R' := ⟨fun k hk => by rw [e k hk]; exact h.1 k hk, h.2⟩
def acy (I : Nat → Nat → Int32) : Prop := ∀ f t, f < 3 → t < 3 → cpd I f t = true → ldt I t f = false
theorem acy_six {c : Nat → Nat → Bool} (h : ∀ f t, f < 3 → t < 3 → c f t = true → (c t f || (c t 0 && c 0 f) || (c t 1 && c 1 f) || (c t 2 && c 2 f)) = false) : (c 0 0 = false ∧ c 1 1 = false ∧ c 2 2 = false) ∧ ((c 1 0 = false ∧ c 2 0 = false ∧ c 2 1 = false) ∨ (c 1 0 = false ∧ c 2 0 = false ∧ c 1 2 = false) ∨ (c 0 1 = false ∧ c 2 1 = false ∧ c 2 0 = false) ∨ (c 0 1 = false ∧ c 2 1 = false ∧ c 0 2 = false) ∨ (c 0 2 = false ∧ c 1 2 = false ∧ c 1 0 = false) ∨ (c 0 2 = false ∧ c 1 2 = false ∧ c 0 1 = false)) := by
  have a00 := h 0 0 (by decide) (by decide)
  have a01 := h 0 1 (by decide) (by decide)
  have a02 := h 0 2 (by decide) (by decide)
  have a10 := h 1 0 (by decide) (by decide)
  have a11 := h 1 1 (by decide) (by decide)
  have a12 := h 1 2 (by decide) (by decide)
  have a20 := h 2 0 (by decide) (by decide)
  have a21 := h 2 1 (by decide) (by decide)
  have a22 := h 2 2 (by decide) (by decide)
  clear h
  generalize c 0 0 = x00 at *
  generalize c 0 1 = x01 at *
  generalize c 0 2 = x02 at *
  generalize c 1 0 = x10 at *
  generalize c 1 1 = x11 at *
  generalize c 1 2 = x12 at *
  generalize c 2 0 = x20 at *
  generalize c 2 1 = x21 at *
  generalize c 2 2 = x22 at *
  cases x00
  · cases x11
    · cases x22
      · refine ⟨⟨rfl, rfl, rfl⟩, ?_⟩
        cases x01 <;> cases x02 <;> cases x10 <;> cases x12 <;> cases x20 <;> cases x21 <;> simp_all
      · exact absurd (a22 rfl) (by simp)
    · exact absurd (a11 rfl) (by simp)
  · exact absurd (a00 rfl) (by simp)
theorem frA_row (J : Nat → Nat → Int64) : (∀ t, t < 3 → frA J 3 1 t = J 0 t) ∧ ∀ k, ¬ k = 1 → frA J 3 k = J k := by
  have e : ∀ n, (∀ k, ¬ k = 1 → frA J n k = J k) ∧ ∀ t, t < n → frA J n 1 t = J 0 t := by
    intro n
    induction n with
    | zero => exact ⟨fun _ _ => rfl, fun t h => absurd h (Nat.not_lt_zero t)⟩
    | succ n ih =>
      refine ⟨fun k hk => ?_, fun t ht => ?_⟩
      · show u2L (frA J n) 1 n (frA J n 0 n) k = J k
        rw [u2L_ne hk]
        exact ih.1 k hk
      · show u2L (frA J n) 1 n (frA J n 0 n) 1 t = J 0 t
        rw [u2L_same]
        by_cases q : t = n
        · subst q
          rw [updL_at, ih.1 0 (by decide)]
        · rw [updL_ne q]
          exact ih.2 t (by omega)
  exact ⟨(e 3).2, (e 3).1⟩
theorem ones : (-1 : Int64) = lN (2 ^ 64 - 1) := rfl
theorem ones_bit (i : Nat) : (2 ^ 64 - 1).testBit i = decide (i < 64) := Nat.testBit_two_pow_sub_one 64 i
theorem notL (m : Nat) : lN m ^^^ (-1) = lN (m ^^^ (2 ^ 64 - 1)) := by rw [ones, fb_xorL]
theorem hi_bit {n i : Nat} (h : n < 2 ^ 61) (hi : 61 ≤ i) : n.testBit i = false := Nat.testBit_lt_two_pow (Nat.lt_of_lt_of_le h (Nat.pow_le_pow_right (by decide) hi))
theorem lt_bits {n : Nat} (h : ∀ i, 61 ≤ i → n.testBit i = false) : n < 2 ^ 61 := Nat.lt_pow_two_of_testBit n (fun i hi => h i hi)
theorem mu_bits (f : Nat → Int32) : ∀ n, n ≤ 61 → ∃ m, muF f n = lN m ∧ ∀ i, m.testBit i = (decide (i < n) && !decide (f i < 50)) := by
  intro n
  induction n with
  | zero => intro _; exact ⟨0, rfl, fun i => by simp⟩
  | succ n ih =>
    intro hn
    obtain ⟨m, e, b⟩ := ih (by omega)
    by_cases h : f n < 50
    · refine ⟨m, by rw [muF, if_pos h, e], fun i => ?_⟩
      rw [b i]
      by_cases q : i = n
      · subst q
        simp [h]
      · rw [show decide (i < n + 1) = decide (i < n) from decide_eq_decide.mpr (by omega)]
    · refine ⟨m ||| 2 ^ n, by rw [muF, if_neg h, e, kb_lN (by omega), fb_orL], fun i => ?_⟩
      rw [fb_bit_set, b i]
      by_cases q : i = n
      · subst q
        simp [h]
      · rw [show decide (i < n + 1) = decide (i < n) from decide_eq_decide.mpr (by omega)]
        simp [q]
theorem dr_bit {d n : Nat} (hn : n < 12) : dr (nI d) (nI n) = d.testBit n := by
  unfold dr
  have e : ((1 : Int32) <<< ((nI n) &&& 31)) = nI (2 ^ n) := by
    rcases (show n = 0 ∨ n = 1 ∨ n = 2 ∨ n = 3 ∨ n = 4 ∨ n = 5 ∨ n = 6 ∨ n = 7 ∨ n = 8 ∨ n = 9 ∨ n = 10 ∨ n = 11 by omega) with rfl | rfl | rfl | rfl | rfl | rfl | rfl | rfl | rfl | rfl | rfl | rfl <;> rfl
  rw [e, fa_andN]
  have h2 : d &&& 2 ^ n < 2 ^ 32 := Nat.lt_of_le_of_lt Nat.and_le_right (Nat.pow_lt_pow_right (by decide) (by omega))
  have k : nI (d &&& 2 ^ n) = 0 ↔ d &&& 2 ^ n = 0 := by
    constructor
    · intro h
      have h3 := congrArg (fun x : Int32 => x.toBitVec.toNat) h
      have h4 : (d &&& 2 ^ n) % 2 ^ 32 = 0 := h3
      rwa [Nat.mod_eq_of_lt h2] at h4
    · intro h
      rw [h]
      rfl
  have k2 := fb_bit_nat d n
  cases hb : d.testBit n with
  | true => simp [k, k2, hb]
  | false => simp [k, k2, hb]
theorem kr_at {R : Nat → Int64} {j : Nat} (h : j < 3) : krF (nI j) R 3 = R j := by
  rcases (show j = 0 ∨ j = 1 ∨ j = 2 by omega) with rfl | rfl | rfl <;> rfl
theorem fsA_row (I : Nat → Nat → Int32) (J : Nat → Nat → Int64) : ∀ r k, ¬ k = 2 → fsA I J r k = J k
  | 0, _, _ => rfl
  | r + 1, k, h => by
    show u2L (fsA I J r) 2 r _ k = J k
    rw [u2L_ne h]
    exact fsA_row I J r k h
theorem ifc {α : Type} {p q : Prop} [Decidable p] [Decidable q] {x y : α} (h : p ↔ q) : (if p then x else y) = (if q then x else y) := by
  by_cases hp : p
  · rw [if_pos hp, if_pos (h.mp hp)]
  · rw [if_neg hp, if_neg (fun z => hp (h.mpr z))]
theorem lgJ_row (J : Nat → Nat → Int64) : ∀ n i, n ≤ i → lgJ J n 0 i = J 0 i
  | 0, _, _ => rfl
  | n + 1, i, h => by
    show u2L (lgJ J n) 0 n 0 0 i = J 0 i
    rw [u2L_same, updL_ne (by omega)]
    exact lgJ_row J n i (by omega)
theorem lgJ_zero (J : Nat → Nat → Int64) : ∀ n i, i < n → lgJ J n 0 i = 0
  | 0, i, h => absurd h (Nat.not_lt_zero i)
  | n + 1, i, h => by
    show u2L (lgJ J n) 0 n 0 0 i = 0
    rw [u2L_same]
    by_cases e : i = n
    · subst e
      rw [updL_at]
    · rw [updL_ne e]
      exact lgJ_zero J n i (by omega)
theorem w12 : ∀ k, k < 61 → (60 - nI k) / 12 = nI ((60 - k) / 12) := by
  intro k hk
  have e : (60 : Int32) - nI k = nI (60 - k) := by
    rw [show (60 : Int32) = nI (60 - k + k) by rw [Nat.sub_add_cancel (by omega)]; rfl, ← nI_add]
    simp
  rw [e]
  exact pk_div (d := 12) (by omega) (by decide) (by decide)
theorem rg50 {v : Int32} (h : rg v (-50) 50 = true) : -50 ≤ v.toInt ∧ v.toInt ≤ 50 := by
  simp only [rg, Bool.and_eq_true, decide_eq_true_eq, Int32.le_iff_toInt_le] at h
  exact h
theorem wo_in {S : Int64} {r : Nat} {tm : Int32} {I : Nat → Nat → Int32} : ∀ n, (∀ k, woF S r tm I n (10 + r) k = if k < n ∧ hk S (nI k) = true then I (10 + r) k + tm else I (10 + r) k) ∧ ∀ i, ¬ i = 10 + r → woF S r tm I n i = I i := by
  intro n
  induction n with
  | zero => exact ⟨fun k => by rw [if_neg (fun h => Nat.not_lt_zero k h.1)]; rfl, fun _ _ => rfl⟩
  | succ n ih =>
    by_cases h : hk S (nI n) = true
    · have e : woF S r tm I (n + 1) = u2 (woF S r tm I n) (10 + r) n (woF S r tm I n (10 + r) n + tm) := if_pos h
      rw [e]
      refine ⟨fun k => ?_, fun i hi => by rw [u2_ne hi]; exact ih.2 i hi⟩
      rw [u2_same]
      by_cases q : k = n
      · subst q
        rw [upd_at, ih.1 k, if_neg (fun z => Nat.lt_irrefl k z.1), if_pos ⟨Nat.lt_succ_self k, h⟩]
      · rw [upd_ne q, ih.1 k]
        exact ifc ⟨fun z => ⟨by omega, z.2⟩, fun z => ⟨by omega, z.2⟩⟩
    · have e : woF S r tm I (n + 1) = woF S r tm I n := if_neg h
      rw [e]
      refine ⟨fun k => ?_, ih.2⟩
      rw [ih.1 k]
      refine ifc ⟨fun z => ⟨by omega, z.2⟩, fun z => ⟨?_, z.2⟩⟩
      have : ¬ k = n := fun q => h (q ▸ z.2)
      omega
theorem wo_out {J : Nat → Nat → Int64} {tm : Int32} {I : Nat → Nat → Int32} : ∀ n, (∀ r, r < n → ∀ k, woR J tm I n (10 + r) k = if k < 61 ∧ hk (J 2 r) (nI k) = true then I (10 + r) k + tm else I (10 + r) k) ∧ ∀ i, (∀ r, r < n → ¬ i = 10 + r) → woR J tm I n i = I i := by
  intro n
  induction n with
  | zero => exact ⟨fun r h => absurd h (Nat.not_lt_zero r), fun _ _ => rfl⟩
  | succ n ih =>
    have w := wo_in (S := J 2 n) (r := n) (tm := tm) (I := woR J tm I n) 61
    refine ⟨fun r hr k => ?_, fun i hi => ?_⟩
    · show woF (J 2 n) n tm (woR J tm I n) 61 (10 + r) k = _
      by_cases q : r = n
      · subst q
        rw [w.1 k, ih.2 (10 + r) (fun r' h' => by omega)]
      · rw [w.2 (10 + r) (by omega)]
        exact ih.1 r (by omega) k
    · show woF (J 2 n) n tm (woR J tm I n) 61 i = _
      rw [w.2 i (hi n (Nat.lt_succ_self n))]
      exact ih.2 i (fun r hr => hi r (by omega))
theorem rp_at {I : Nat → Nat → Int32} {r : Nat} : ∀ n, (∀ k, rpI I r n (10 + r) k = if k < n then 0 else I (10 + r) k) ∧ ∀ i, ¬ i = 10 + r → rpI I r n i = I i := by
  intro n
  induction n with
  | zero => exact ⟨fun k => rfl, fun _ _ => rfl⟩
  | succ n ih =>
    refine ⟨fun k => ?_, fun i hi => ?_⟩
    · show u2 (rpI I r n) (10 + r) n 0 (10 + r) k = _
      rw [u2_same]
      by_cases q : k = n
      · subst q
        rw [upd_at, if_pos (Nat.lt_succ_self k)]
      · rw [upd_ne q, ih.1 k]
        exact ifc (by omega)
    · show u2 (rpI I r n) (10 + r) n 0 i = I i
      rw [u2_ne hi]
      exact ih.2 i hi
theorem orI (a b : Nat) : nI a ||| nI b = nI (a ||| b) := by
  apply Int32.toBitVec_inj.mp
  apply BitVec.eq_of_getLsbD_eq
  intro i hi
  show ((BitVec.ofNat 32 a) ||| (BitVec.ofNat 32 b)).getLsbD i = (BitVec.ofNat 32 (a ||| b)).getLsbD i
  rw [BitVec.getLsbD_or, BitVec.getLsbD_ofNat, BitVec.getLsbD_ofNat, BitVec.getLsbD_ofNat, Nat.testBit_or]
  simp [hi]
theorem sh12 {n : Nat} (hn : n < 12) : ((1 : Int32) <<< ((nI n) &&& 31)) = nI (2 ^ n) := by
  rcases (show n = 0 ∨ n = 1 ∨ n = 2 ∨ n = 3 ∨ n = 4 ∨ n = 5 ∨ n = 6 ∨ n = 7 ∨ n = 8 ∨ n = 9 ∨ n = 10 ∨ n = 11 by omega) with rfl | rfl | rfl | rfl | rfl | rfl | rfl | rfl | rfl | rfl | rfl | rfl <;> rfl
theorem bset {d s W : Nat} (hd : d < 2 ^ W) {t : Bool} (ht : d.testBit s = t) : d &&& (2 ^ s ^^^ (2 ^ W - 1)) = (if t = false then d else d ^^^ 2 ^ s) ∧ d ||| 2 ^ s = (if t = true then d else d ^^^ 2 ^ s) := by
  have top : ∀ i, d.testBit i = true → i < W := fun i hi => by
    apply Classical.byContradiction
    intro q
    have := Nat.testBit_lt_two_pow (Nat.lt_of_lt_of_le hd (Nat.pow_le_pow_right (by decide) (show W ≤ i by omega)))
    rw [this] at hi
    cases hi
  constructor
  · apply Nat.eq_of_testBit_eq
    intro i
    rw [Nat.testBit_and, Nat.testBit_xor, Nat.testBit_two_pow, Nat.testBit_two_pow_sub_one]
    cases hb : d.testBit i with
    | false =>
      cases t with
      | false => rw [if_pos rfl, hb]; rfl
      | true =>
        have : ¬ s = i := fun q => by rw [q, hb] at ht; cases ht
        rw [if_neg (by decide), fb_bit_flip, hb]
        simp [show ¬ i = s from fun q => this q.symm]
    | true =>
      have hi := top i hb
      cases t with
      | false =>
        have : ¬ s = i := fun q => by rw [q, hb] at ht; cases ht
        rw [if_pos rfl, hb]
        simp [this, hi]
      | true =>
        rw [if_neg (by decide), fb_bit_flip, hb]
        by_cases q : s = i
        · subst q
          simp [hi]
        · simp [q, hi, show ¬ i = s from fun z => q z.symm]
  · apply Nat.eq_of_testBit_eq
    intro i
    rw [fb_bit_set]
    cases t with
    | true =>
      rw [if_pos rfl]
      by_cases q : i = s
      · subst q
        rw [ht]
        rfl
      · simp [q]
    | false =>
      rw [if_neg (by decide), fb_bit_flip]
      by_cases q : i = s
      · subst q
        rw [ht]
        simp
      · simp [q]
theorem cci_s (I : Nat → Nat → Int32) (f : Nat) (acc : Int32) (t : Nat) : ccI I f acc (t + 1) = ccI I f acc t + bI (cpd I f t) := by
  show (if cpd I f t = true then ccI I f acc t + 1 else ccI I f acc t) = ccI I f acc t + bI (cpd I f t)
  cases cpd I f t
  · exact (Int32.add_zero _).symm
  · rfl
def vsh (i : Int32) : Prop := i = 1 ∨ i = -12 ∨ i = 0 ∨ i = 12
def shN (i : Int32) (x : Nat) : Nat := if i = 1 then 0 else if i = -12 then x / 2 ^ 12 else if i = 12 then (x * 2 ^ 12) % 2 ^ 61 else x
theorem shN_lt (i : Int32) {x : Nat} (h : x < 2 ^ 61) : shN i x < 2 ^ 61 := by
  unfold shN
  split
  · decide
  · split
    · exact Nat.lt_of_le_of_lt (Nat.div_le_self _ _) h
    · split
      · exact Nat.mod_lt _ (by decide)
      · exact h
theorem shf_shN {i : Int32} {x : Nat} (hc : vsh i) (h0 : ¬ i = 1) (h : x < 2 ^ 61) : shf (lN x) i = lN (shN i x) := by
  rcases hc with h1 | rfl | rfl | rfl
  · exact absurd h1 h0
  · have e := wb_shr (n := x) (by omega) (k := 12) (by decide)
    exact e
  · have e := wb_shr (n := x) (by omega) (k := 0) (by decide)
    rw [show x / 2 ^ 0 = x by simp] at e
    exact e
  · exact shl12 x
def sI (I : Nat → Nat → Int32) : Nat → Nat → Nat → Nat := fun f t => shN (I (20 + f) t)
theorem fd_pass {I : Nat → Nat → Int32} (hc : ∀ f t, f < 3 → t < 3 → vsh (I (20 + f) t)) {J0 J : Nat → Nat → Int64} {R : Nat → Nat} (h : HR J0 J R) : HR J0 (fcO I J 3) (gpass (sI I) R) := by
  have key : ∀ (f t : Nat) (J : Nat → Nat → Int64) (R : Nat → Nat), f < 3 → t < 3 → HR J0 J R → HR J0 (if cpd I f t = true then u2L J 1 t (J 1 t ||| shf (J 1 f) (I (20 + f) t)) else J) (gst (sI I) R f t) := by
    intro f t J R hf ht hR
    have hcc := hc f t hf ht
    by_cases h1 : I (20 + f) t = 1
    · have e : cpd I f t = false := by simp [cpd, h1]
      rw [ite_f e]
      refine HR_same hR (fun k hk => ?_)
      unfold gst
      have e2 : sI I f t (R f) = 0 := if_pos h1
      by_cases ek : k = t
      · subst ek
        show (if k = k then R k ||| sI I f k (R f) else R k) = R k
        rw [if_pos rfl, e2, Nat.or_zero]
      · rw [if_neg ek]
    · have e : cpd I f t = true := by simp [cpd, h1]
      rw [ite_t e]
      exact HR_step hR ht (by rw [(hR.1 f hf).1, shf_shN hcc h1 (hR.1 f hf).2]; rfl) (shN_lt _ (hR.1 f hf).2)
  have h0 : HR J0 (fcI I 0 (fcO I J 0) 1) _ := key 0 0 _ _ (by decide) (by decide) h
  have h1 : HR J0 (fcI I 0 (fcO I J 0) 2) _ := key 0 1 _ _ (by decide) (by decide) h0
  have h2 : HR J0 (fcO I J 1) _ := key 0 2 _ _ (by decide) (by decide) h1
  have h3 : HR J0 (fcI I 1 (fcO I J 1) 1) _ := key 1 0 _ _ (by decide) (by decide) h2
  have h4 : HR J0 (fcI I 1 (fcO I J 1) 2) _ := key 1 1 _ _ (by decide) (by decide) h3
  have h5 : HR J0 (fcO I J 2) _ := key 1 2 _ _ (by decide) (by decide) h4
  have h6 : HR J0 (fcI I 2 (fcO I J 2) 1) _ := key 2 0 _ _ (by decide) (by decide) h5
  have h7 : HR J0 (fcI I 2 (fcO I J 2) 2) _ := key 2 1 _ _ (by decide) (by decide) h6
  exact key 2 2 _ _ (by decide) (by decide) h7
def tT (I : Nat → Nat → Int32) (R : Nat → Nat) : Nat → Nat := gpass (sI I) (gpass (sI I) R)
def rA (h : Nat → Nat) (mn x : Nat) : Nat → Nat := fun t => if t = mn then h t ||| x else h t
/-- the keys held -/
def gJ (J : Nat → Nat → Int64) (h : Nat → Nat) : Prop := ∀ t, t < 3 → J 0 t = lN (h t) ∧ h t < 2 ^ 61
theorem reach1 {I : Nat → Nat → Int32} (hc : ∀ f t, f < 3 → t < 3 → vsh (I (20 + f) t)) {J : Nat → Nat → Int64} {h : Nat → Nat} {mn x : Nat} (hmn : mn < 3) (hx : x < 2 ^ 61) (hJ : gJ J h) : HR J (frD I J mn (lN x)) (tT I (rA h mn x)) := by
  have hR0 : HR J (frB J mn (lN x)) (rA h mn x) := by
    have hA := frA_row J
    refine ⟨fun t ht => ?_, fun k hk => ?_⟩
    · show u2L (frA J 3) 1 mn (frA J 3 1 mn ||| lN x) 1 t = _ ∧ _
      rw [u2L_same]
      by_cases q : t = mn
      · subst q
        rw [updL_at, hA.1 t ht, (hJ t ht).1, fb_orL]
        show _ = lN (if t = t then h t ||| x else h t) ∧ (if t = t then h t ||| x else h t) < 2 ^ 61
        rw [if_pos rfl]
        exact ⟨rfl, Nat.or_lt_two_pow (hJ t ht).2 hx⟩
      · rw [updL_ne q, hA.1 t ht]
        show _ = lN (if t = mn then h t ||| x else h t) ∧ (if t = mn then h t ||| x else h t) < 2 ^ 61
        rw [if_neg q]
        exact hJ t ht
    · show u2L (frA J 3) 1 mn (frA J 3 1 mn ||| lN x) k = J k
      rw [u2L_ne hk]
      exact hA.2 k hk
  exact fd_pass hc (fd_pass hc hR0)
/-! subsets -/
def ble (a b : Nat) : Prop := ∀ i, a.testBit i = true → b.testBit i = true
theorem ble_rf (a : Nat) : ble a a := fun _ h => h
theorem ble_0 (b : Nat) : ble 0 b := fun i h => by rw [Nat.zero_testBit] at h; cases h
theorem ble_or {a b c d : Nat} (h : ble a c) (h2 : ble b d) : ble (a ||| b) (c ||| d) := fun i q => by
  rw [Nat.testBit_or, Bool.or_eq_true] at q ⊢
  exact q.elim (fun z => Or.inl (h i z)) (fun z => Or.inr (h2 i z))
theorem ble_orl (a b : Nat) : ble a (a ||| b) := fun i h => by rw [Nat.testBit_or, h]; rfl
theorem ble_sh (i : Int32) {x y : Nat} (h : ble x y) : ble (shN i x) (shN i y) := by
  unfold shN
  split
  · exact ble_rf _
  · split
    · intro j q
      rw [Nat.testBit_div_two_pow] at q ⊢
      exact h _ q
    · split
      · intro j q
        rw [Nat.testBit_mod_two_pow, Nat.testBit_mul_two_pow, Bool.and_eq_true, Bool.and_eq_true] at q ⊢
        exact ⟨q.1, q.2.1, h _ q.2.2⟩
      · exact h
theorem gst_le {S S' : Nat → Nat → Nat → Nat} {R R' : Nat → Nat} {f t : Nat} (hS : ∀ x y, ble x y → ble (S f t x) (S' f t y)) (hR : ∀ k, ble (R k) (R' k)) : ∀ k, ble (gst S R f t k) (gst S' R' f t k) := by
  intro k
  unfold gst
  by_cases e : k = t
  · rw [if_pos e, if_pos e]
    exact ble_or (hR t) (hS _ _ (hR f))
  · rw [if_neg e, if_neg e]
    exact hR k
theorem gpass_le {S S' : Nat → Nat → Nat → Nat} {R R' : Nat → Nat} (hS : ∀ f t, f < 3 → t < 3 → ∀ x y, ble x y → ble (S f t x) (S' f t y)) (hR : ∀ k, ble (R k) (R' k)) : ∀ k, ble (gpass S R k) (gpass S' R' k) := by
  unfold gpass
  exact gst_le (hS 2 2 (by decide) (by decide)) (gst_le (hS 2 1 (by decide) (by decide)) (gst_le (hS 2 0 (by decide) (by decide)) (gst_le (hS 1 2 (by decide) (by decide)) (gst_le (hS 1 1 (by decide) (by decide)) (gst_le (hS 1 0 (by decide) (by decide)) (gst_le (hS 0 2 (by decide) (by decide)) (gst_le (hS 0 1 (by decide) (by decide)) (gst_le (hS 0 0 (by decide) (by decide)) hR))))))))
/-- fewer couplers -/
def leC (I I' : Nat → Nat → Int32) : Prop := ∀ f t, f < 3 → t < 3 → I (20 + f) t = 1 ∨ I (20 + f) t = I' (20 + f) t
theorem tT_le {I I' : Nat → Nat → Int32} {R R' : Nat → Nat} (hC : leC I I') (hR : ∀ k, ble (R k) (R' k)) : ∀ k, ble (tT I R k) (tT I' R' k) := by
  have hS : ∀ f t, f < 3 → t < 3 → ∀ x y, ble x y → ble (sI I f t x) (sI I' f t y) := by
    intro f t hf ht x y h
    rcases hC f t hf ht with e | e
    · have e0 : sI I f t x = 0 := if_pos e
      rw [e0]
      exact ble_0 _
    · show ble (shN (I (20 + f) t) x) (shN (I' (20 + f) t) y)
      rw [e]
      exact ble_sh _ h
  exact gpass_le hS (gpass_le hS hR)
def kdN (I : Nat → Nat → Int32) (T : Nat → Nat) (r : Nat) : Nat → Nat
  | 0 => 0
  | n + 1 => if dr (I 8 0) (nI n) = true then (if I 4 n = nI r then kdN I T r n ||| T (I 3 n).toNatClampNeg else kdN I T r n) else kdN I T r n
theorem kd_kdN {I : Nat → Nat → Int32} (hS : ∀ s, s < 12 → ∃ j, j < 3 ∧ I 3 s = nI j) {R : Nat → Int64} {T : Nat → Nat} (h : ∀ t, t < 3 → R t = lN (T t) ∧ T t < 2 ^ 61) (r : Nat) : ∀ n, n ≤ 12 → kdF I R r n = lN (kdN I T r n) ∧ kdN I T r n < 2 ^ 61 := by
  intro n
  induction n with
  | zero => intro _; exact ⟨rfl, by show 0 < 2 ^ 61; decide⟩
  | succ n ih =>
    intro hn
    obtain ⟨e, hlt⟩ := ih (by omega)
    obtain ⟨j, hj, j1⟩ := hS n (by omega)
    show (if dr (I 8 0) (nI n) = true then (if I 4 n = nI r then kdF I R r n ||| krF (I 3 n) R 3 else kdF I R r n) else kdF I R r n) = lN (if dr (I 8 0) (nI n) = true then (if I 4 n = nI r then kdN I T r n ||| T (I 3 n).toNatClampNeg else kdN I T r n) else kdN I T r n) ∧ (if dr (I 8 0) (nI n) = true then (if I 4 n = nI r then kdN I T r n ||| T (I 3 n).toNatClampNeg else kdN I T r n) else kdN I T r n) < 2 ^ 61
    rw [j1, kr_at hj, nI_clamp (show j < 2 ^ 31 by omega), (h j hj).1, e]
    by_cases hb : dr (I 8 0) (nI n) = true
    · rw [if_pos hb, if_pos hb]
      by_cases hr : I 4 n = nI r
      · rw [if_pos hr, if_pos hr, fb_orL]
        exact ⟨rfl, Nat.or_lt_two_pow hlt (h j hj).2⟩
      · rw [if_neg hr, if_neg hr]
        exact ⟨rfl, hlt⟩
    · rw [if_neg hb, if_neg hb]
      exact ⟨rfl, hlt⟩
theorem kdN_le {I I' : Nat → Nat → Int32} {T T' : Nat → Nat} (hd : ∀ n, n < 12 → dr (I 8 0) (nI n) = true → dr (I' 8 0) (nI n) = true ∧ I' 3 n = I 3 n ∧ I' 4 n = I 4 n) (hT : ∀ k, ble (T k) (T' k)) (r : Nat) : ∀ n, n ≤ 12 → ble (kdN I T r n) (kdN I' T' r n) := by
  intro n
  induction n with
  | zero => intro _; exact ble_rf _
  | succ n ih =>
    intro hn
    have i := ih (by omega)
    show ble (if dr (I 8 0) (nI n) = true then (if I 4 n = nI r then kdN I T r n ||| T (I 3 n).toNatClampNeg else kdN I T r n) else kdN I T r n) (if dr (I' 8 0) (nI n) = true then (if I' 4 n = nI r then kdN I' T' r n ||| T' (I' 3 n).toNatClampNeg else kdN I' T' r n) else kdN I' T' r n)
    by_cases hb : dr (I 8 0) (nI n) = true
    · obtain ⟨a, b, c⟩ := hd n (by omega) hb
      rw [if_pos hb, if_pos a, b, c]
      by_cases hr : I 4 n = nI r
      · rw [if_pos hr, if_pos hr]
        exact ble_or i (hT _)
      · rw [if_neg hr, if_neg hr]
        exact i
    · rw [if_neg hb]
      intro j q
      have q2 := i j q
      split
      · split
        · rw [Nat.testBit_or, q2]
          rfl
        · exact q2
      · exact q2
/-- the pipe sounds -/
def sB (I : Nat → Nat → Int32) (h : Nat → Nat) (r k : Nat) : Bool := (kdN I (tT I h) r 12).testBit k && decide (I (10 + r) k < 50)
/-- what sounds here sounds there -/
def leS (I I' : Nat → Nat → Int32) (h h' : Nat → Nat) : Prop := leC I I' ∧ (∀ k, ble (h k) (h' k)) ∧ (∀ n, n < 12 → dr (I 8 0) (nI n) = true → dr (I' 8 0) (nI n) = true ∧ I' 3 n = I 3 n ∧ I' 4 n = I 4 n) ∧ ∀ r k, r < 6 → k < 61 → I (10 + r) k < 50 → I' (10 + r) k < 50
theorem sB_le {I I' : Nat → Nat → Int32} {h h' : Nat → Nat} (hle : leS I I' h h') : ∀ r k, r < 6 → k < 61 → sB I h r k = true → sB I' h' r k = true := by
  intro r k hr hk q
  unfold sB at q ⊢
  rw [Bool.and_eq_true, decide_eq_true_eq] at q ⊢
  exact ⟨kdN_le hle.2.2.1 (tT_le hle.1 hle.2.1) r 12 (Nat.le_refl _) k q.1, hle.2.2.2 r k hr hk q.2⟩
theorem sB_eq {I I' : Nat → Nat → Int32} {h h' : Nat → Nat} (hle : leS I I' h h') (hge : leS I' I h' h) : ∀ r k, r < 6 → k < 61 → sB I h r k = sB I' h' r k := by
  intro r k hr hk
  have a := sB_le hle r k hr hk
  have b := sB_le hge r k hr hk
  cases x : sB I h r k
  · cases y : sB I' h' r k
    · rfl
    · exact absurd (b y) (by rw [x]; exact Bool.false_ne_true)
  · exact (a x).symm
/-- the sets that sound, as bits -/
def SS (FS : Nat → Nat → Int64) (b : Nat → Nat → Bool) : Prop := ∀ q, q < 6 → ∃ S, S < 2 ^ 61 ∧ FS 2 q = lN S ∧ ∀ k, k < 61 → S.testBit k = b q k
theorem ss_fs {I : Nat → Nat → Int32} (hS : ∀ s, s < 12 → ∃ j, j < 3 ∧ I 3 s = nI j) {J : Nat → Nat → Int64} {T : Nat → Nat} (h : ∀ t, t < 3 → J 1 t = lN (T t) ∧ T t < 2 ^ 61) : ∀ r, r ≤ 6 → ∀ q, q < r → ∃ S, S < 2 ^ 61 ∧ fsA I J r 2 q = lN S ∧ ∀ k, k < 61 → S.testBit k = ((kdN I T q 12).testBit k && decide (I (10 + q) k < 50)) := by
  intro r
  induction r with
  | zero => intro _ q hq; exact absurd hq (Nat.not_lt_zero q)
  | succ r ih =>
    intro hr q hq
    show ∃ S, S < 2 ^ 61 ∧ u2L (fsA I J r) 2 r (kdF I (fsA I J r 1) r 12 &&& (muF (I (10 + r)) 61 ^^^ (-1))) 2 q = lN S ∧ ∀ k, k < 61 → S.testBit k = ((kdN I T q 12).testBit k && decide (I (10 + q) k < 50))
    rw [u2L_same]
    by_cases e : q = r
    · subst e
      rw [updL_at]
      obtain ⟨k1, k2⟩ := kd_kdN hS (R := fsA I J q 1) (T := T) (by rw [fsA_row I J q 1 (by decide)]; exact h) q 12 (Nat.le_refl _)
      obtain ⟨m, m1, m2⟩ := mu_bits (I (10 + q)) 61 (Nat.le_refl _)
      refine ⟨kdN I T q 12 &&& (m ^^^ (2 ^ 64 - 1)), Nat.lt_of_le_of_lt Nat.and_le_left k2, by rw [k1, m1, notL, fb_andL], fun k hk => ?_⟩
      rw [Nat.testBit_and, Nat.testBit_xor, ones_bit, m2]
      simp [hk, show k < 64 by omega]
    · rw [updL_ne e]
      exact ih (by omega) q (by omega)
theorem ss_of {I : Nat → Nat → Int32} (hC : ∀ f t, f < 3 → t < 3 → vsh (I (20 + f) t)) (hS : ∀ s, s < 12 → ∃ j, j < 3 ∧ I 3 s = nI j) {J : Nat → Nat → Int64} {h : Nat → Nat} (hJ : gJ J h) {mn x : Nat} (hmn : mn < 3) (hx : x < 2 ^ 61) : SS (fsW I J mn (lN x)) (sB I (rA h mn x)) ∧ fsW I J mn (lN x) 0 = J 0 := by
  have c := reach1 hC hmn hx hJ
  refine ⟨fun q hq => ss_fs hS c.1 6 (Nat.le_refl _) q hq, ?_⟩
  show fsA I (frD I J mn (lN x)) 6 0 = J 0
  rw [fsA_row I _ 6 0 (by decide), c.2 0 (by decide)]
theorem rA_0 (h : Nat → Nat) : rA h 0 0 = h := funext fun t => by
  unfold rA
  split
  · exact Nat.or_zero _
  · rfl
theorem ss_now {I : Nat → Nat → Int32} (hC : ∀ f t, f < 3 → t < 3 → vsh (I (20 + f) t)) (hS : ∀ s, s < 12 → ∃ j, j < 3 ∧ I 3 s = nI j) {J : Nat → Nat → Int64} {h : Nat → Nat} (hJ : gJ J h) : SS (fsW I J 0 0) (sB I h) ∧ fsW I J 0 0 0 = J 0 := by
  have e := ss_of hC hS hJ (mn := 0) (x := 0) (by decide) (by decide)
  rw [rA_0] at e
  exact e
