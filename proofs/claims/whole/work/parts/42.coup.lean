/-! ===== couplers: the passes of both sides; two passes do ===== -/
theorem u2L_same (J : Nat → Nat → Int64) (k j : Nat) (x : Int64) : u2L J k j x k = vp_updL (J k) j x := if_pos rfl
theorem u2L_ne {J : Nat → Nat → Int64} {k i : Nat} (h : ¬ i = k) (j : Nat) (x : Int64) : u2L J k j x i = J i := if_neg h
theorem u2_same (I : Nat → Nat → Int32) (k j : Nat) (x : Int32) : u2 I k j x k = upd (I k) j x := if_pos rfl
theorem u2_ne {I : Nat → Nat → Int32} {k i : Nat} (h : ¬ i = k) (j : Nat) (x : Int32) : u2 I k j x i = I i := if_neg h
theorem updL_at (f : Nat → Int64) (j : Nat) (x : Int64) : vp_updL f j x j = x := if_pos rfl
theorem updL_ne {f : Nat → Int64} {j i : Nat} (h : ¬ i = j) (x : Int64) : vp_updL f j x i = f i := if_neg h
theorem upd_at (f : Nat → Int32) (j : Nat) (x : Int32) : upd f j x j = x := if_pos rfl
theorem upd_ne {f : Nat → Int32} {j i : Nat} (h : ¬ i = j) (x : Int32) : upd f j x i = f i := if_neg h
/-- three sets of keys, a step from f to t by S f t -/
def gst (S : Nat → Nat → Nat → Nat) (R : Nat → Nat) (f t : Nat) : Nat → Nat := fun k => if k = t then R t ||| S f t (R f) else R k
def gpass (S : Nat → Nat → Nat → Nat) (R : Nat → Nat) : Nat → Nat := gst S (gst S (gst S (gst S (gst S (gst S (gst S (gst S (gst S R 0 0) 0 1) 0 2) 1 0) 1 1) 1 2) 2 0) 2 1) 2 2
theorem or_self_l (a b : Nat) : a ||| (a ||| b) = a ||| b := by rw [← Nat.or_assoc, Nat.or_self]
theorem or_lc (a b c : Nat) : a ||| (b ||| c) = b ||| (a ||| c) := by rw [← Nat.or_assoc, Nat.or_comm a b, Nat.or_assoc]
/-- a step that distributes -/
def Dst (S : Nat → Nat → Nat → Nat) : Prop := ∀ f t x y, S f t (x ||| y) = S f t x ||| S f t y
theorem gp0 (S : Nat → Nat → Nat → Nat) (hz : ∀ f, f < 3 → ∀ x, S f f x = 0) (R : Nat → Nat) : gpass S R 0 = (R 0 ||| S 1 0 (R 1 ||| S 0 1 (R 0))) ||| S 2 0 ((R 2 ||| S 0 2 (R 0)) ||| S 1 2 (R 1 ||| S 0 1 (R 0))) := by simp [gpass, gst, hz 0 (by decide), hz 1 (by decide), hz 2 (by decide)]
theorem gp1 (S : Nat → Nat → Nat → Nat) (hz : ∀ f, f < 3 → ∀ x, S f f x = 0) (R : Nat → Nat) : gpass S R 1 = (R 1 ||| S 0 1 (R 0)) ||| S 2 1 ((R 2 ||| S 0 2 (R 0)) ||| S 1 2 (R 1 ||| S 0 1 (R 0))) := by simp [gpass, gst, hz 0 (by decide), hz 1 (by decide), hz 2 (by decide)]
theorem gp2 (S : Nat → Nat → Nat → Nat) (hz : ∀ f, f < 3 → ∀ x, S f f x = 0) (R : Nat → Nat) : gpass S R 2 = (R 2 ||| S 0 2 (R 0)) ||| S 1 2 (R 1 ||| S 0 1 (R 0)) := by simp [gpass, gst, hz 0 (by decide), hz 1 (by decide), hz 2 (by decide)]
theorem g_perm (S : Nat → Nat → Nat → Nat) (hd : Dst S) (hz : ∀ f, f < 3 → ∀ x, S f f x = 0) (R : Nat → Nat) (h : (∀ x, S 1 0 x = 0 ∧ S 2 0 x = 0 ∧ S 2 1 x = 0) ∨ (∀ x, S 1 0 x = 0 ∧ S 2 0 x = 0 ∧ S 1 2 x = 0) ∨ (∀ x, S 0 1 x = 0 ∧ S 2 1 x = 0 ∧ S 2 0 x = 0) ∨ (∀ x, S 0 1 x = 0 ∧ S 2 1 x = 0 ∧ S 0 2 x = 0) ∨ (∀ x, S 0 2 x = 0 ∧ S 1 2 x = 0 ∧ S 1 0 x = 0) ∨ (∀ x, S 0 2 x = 0 ∧ S 1 2 x = 0 ∧ S 0 1 x = 0)) : ∀ k, k < 3 → gpass S (gpass S (gpass S R)) k = gpass S (gpass S R) k := by
  intro k hk
  have hd' := hd
  unfold Dst at hd'
  rcases h with h | h | h | h | h | h <;>
    (have z := fun x => (h x).1
     have z2 := fun x => (h x).2.1
     have z3 := fun x => (h x).2.2
     rcases (show k = 0 ∨ k = 1 ∨ k = 2 by omega) with rfl | rfl | rfl <;>
       simp only [gp0 S hz, gp1 S hz, gp2 S hz, z, z2, z3, hd', Nat.or_zero, Nat.zero_or, Nat.or_assoc, Nat.or_self, or_self_l, or_lc, Nat.or_comm])
/-- the step of the model's coupler c -/
def sN (c : Int32) (x : Nat) : Nat := if c = 0 then 0 else if c = 1 then x / 2 ^ 12 else if c = 3 then (x * 2 ^ 12) % 2 ^ 61 else x
theorem div_or (x y : Nat) : (x ||| y) / 2 ^ 12 = x / 2 ^ 12 ||| y / 2 ^ 12 := by
  apply Nat.eq_of_testBit_eq
  intro i
  simp only [Nat.testBit_or, Nat.testBit_div_two_pow]
theorem mul_or (x y : Nat) : ((x ||| y) * 2 ^ 12) % 2 ^ 61 = (x * 2 ^ 12) % 2 ^ 61 ||| (y * 2 ^ 12) % 2 ^ 61 := by
  apply Nat.eq_of_testBit_eq
  intro i
  simp only [Nat.testBit_or, Nat.testBit_mod_two_pow, Nat.testBit_mul_two_pow]
  cases decide (i < 61) <;> cases decide (12 ≤ i) <;> simp
theorem sN_or (c : Int32) (x y : Nat) : sN c (x ||| y) = sN c x ||| sN c y := by
  unfold sN
  split
  · rfl
  · split
    · exact div_or x y
    · split
      · exact mul_or x y
      · rfl
theorem sN_lt (c : Int32) {x : Nat} (h : x < 2 ^ 61) : sN c x < 2 ^ 61 := by
  unfold sN
  split
  · decide
  · split
    · exact Nat.lt_of_le_of_lt (Nat.div_le_self _ _) h
    · split
      · exact Nat.mod_lt _ (by decide)
      · exact h
theorem shr12 {x : Nat} (h : x < 2 ^ 61) : lN x >>> ((12 : Int32).toInt64 &&& 63) = lN (x / 2 ^ 12) := by
  have e1 : (((12 : Int32).toInt64 &&& 63).toBitVec.smod 64).toNat = 12 := by decide
  exact pf_shr e1 (by omega)
theorem shl12 (x : Nat) : (lN x <<< ((12 : Int32).toInt64 &&& 63)) &&& 2305843009213693951 = lN ((x * 2 ^ 12) % 2 ^ 61) := by
  have e : lN x <<< ((12 : Int32).toInt64 &&& 63) = lN (x * 2 ^ 12) := wb_shl x (k := 12) (by decide)
  rw [e, show (2305843009213693951 : Int64) = lN (2 ^ 61 - 1) from rfl, fb_andL, Nat.and_two_pow_sub_one_eq_mod]
theorem ovF_lN (c : Int32) {x : Nat} (h : x < 2 ^ 61) : ovF c (lN x) = lN (sN c x) := by
  unfold ovF kvF sN
  split
  · rfl
  · split
    · exact shr12 h
    · split
      · exact shl12 x
      · rfl
/-- how a shift of the class stands for a coupler of the model -/
def cod (i c : Int32) : Prop := (i = 1 ∧ c = 0) ∨ (i = -12 ∧ c = 1) ∨ (i = 0 ∧ c = 2) ∨ (i = 12 ∧ c = 3)
theorem shf_lN {i c : Int32} {x : Nat} (hc : cod i c) (h0 : ¬ i = 1) (h : x < 2 ^ 61) : shf (lN x) i = lN (sN c x) := by
  rcases hc with ⟨h1, -⟩ | ⟨rfl, rfl⟩ | ⟨rfl, rfl⟩ | ⟨rfl, rfl⟩
  · exact absurd h1 h0
  · have e := wb_shr (n := x) (by omega) (k := 12) (by decide)
    exact e
  · have e := wb_shr (n := x) (by omega) (k := 0) (by decide)
    rw [show x / 2 ^ 0 = x by simp] at e
    exact e
  · exact shl12 x
theorem cod_c {i c : Int32} (h : cod i c) : (i = 1 ↔ c = 0) := by
  rcases h with ⟨rfl, rfl⟩ | ⟨rfl, rfl⟩ | ⟨rfl, rfl⟩ | ⟨rfl, rfl⟩ <;> decide
theorem cod_le {i c : Int32} (h : cod i c) : (!decide (i = 1)) = !decide (c ≤ 0) := by
  rcases h with ⟨rfl, rfl⟩ | ⟨rfl, rfl⟩ | ⟨rfl, rfl⟩ | ⟨rfl, rfl⟩ <;> decide
/-- the row 1 of a state is the sets R; the other rows are those of J0 -/
def HR (J0 J : Nat → Nat → Int64) (R : Nat → Nat) : Prop := (∀ t, t < 3 → J 1 t = lN (R t) ∧ R t < 2 ^ 61) ∧ ∀ k, ¬ k = 1 → J k = J0 k
theorem HR_step {J0 J : Nat → Nat → Int64} {R : Nat → Nat} {S : Nat → Nat → Nat → Nat} {f t : Nat} {v : Int64} (h : HR J0 J R) (ht : t < 3) (hv : v = lN (S f t (R f))) (hS : S f t (R f) < 2 ^ 61) : HR J0 (u2L J 1 t (J 1 t ||| v)) (gst S R f t) := by
  refine ⟨fun k hk => ?_, fun k hk => by rw [u2L_ne hk]; exact h.2 k hk⟩
  rw [u2L_same]
  by_cases e : k = t
  · subst e
    rw [updL_at]
    unfold gst
    rw [if_pos rfl, hv, (h.1 k hk).1, fb_orL]
    exact ⟨rfl, Nat.or_lt_two_pow (h.1 k hk).2 hS⟩
  · rw [updL_ne e]
    unfold gst
    rw [if_neg e]
    exact h.1 k hk
theorem HR_same {J0 J : Nat → Nat → Int64} {R R' : Nat → Nat} (h : HR J0 J R) (e : ∀ k, k < 3 → R' k = R k) : HR J0 J R' := ⟨fun k hk => by rw [e k hk]; exact h.1 k hk, h.2⟩
theorem rq_pass {I : Nat → Nat → Int32} {J0 J : Nat → Nat → Int64} {R : Nat → Nat} (h : HR J0 J R) : HR J0 (rqI I J 9) (gpass (fun f t => sN (I 5 (3 * f + t))) R) := by
  have key : ∀ (k f t : Nat) (J : Nat → Nat → Int64) (R : Nat → Nat), f < 3 → t < 3 → k = 3 * f + t → HR J0 J R → HR J0 (u2L J 1 t (J 1 t ||| ovF (I 5 k) (J 1 f))) (gst (fun f t => sN (I 5 (3 * f + t))) R f t) := by
    intro k f t J R hf ht e hR
    subst e
    exact HR_step hR ht (by rw [(hR.1 f hf).1, ovF_lN _ (hR.1 f hf).2]) (sN_lt _ (hR.1 f hf).2)
  have h0 : HR J0 (rqI I J 1) _ := key 0 0 0 _ _ (by decide) (by decide) rfl h
  have h1 : HR J0 (rqI I J 2) _ := key 1 0 1 _ _ (by decide) (by decide) rfl h0
  have h2 : HR J0 (rqI I J 3) _ := key 2 0 2 _ _ (by decide) (by decide) rfl h1
  have h3 : HR J0 (rqI I J 4) _ := key 3 1 0 _ _ (by decide) (by decide) rfl h2
  have h4 : HR J0 (rqI I J 5) _ := key 4 1 1 _ _ (by decide) (by decide) rfl h3
  have h5 : HR J0 (rqI I J 6) _ := key 5 1 2 _ _ (by decide) (by decide) rfl h4
  have h6 : HR J0 (rqI I J 7) _ := key 6 2 0 _ _ (by decide) (by decide) rfl h5
  have h7 : HR J0 (rqI I J 8) _ := key 7 2 1 _ _ (by decide) (by decide) rfl h6
  exact key 8 2 2 _ _ (by decide) (by decide) rfl h7
theorem fc_pass {I M : Nat → Nat → Int32} (hc : ∀ f t, f < 3 → t < 3 → cod (I (20 + f) t) (M 5 (3 * f + t))) {J0 J : Nat → Nat → Int64} {R : Nat → Nat} (h : HR J0 J R) : HR J0 (fcO I J 3) (gpass (fun f t => sN (M 5 (3 * f + t))) R) := by
  have key : ∀ (f t : Nat) (J : Nat → Nat → Int64) (R : Nat → Nat), f < 3 → t < 3 → HR J0 J R → HR J0 (if cpd I f t = true then u2L J 1 t (J 1 t ||| shf (J 1 f) (I (20 + f) t)) else J) (gst (fun f t => sN (M 5 (3 * f + t))) R f t) := by
    intro f t J R hf ht hR
    have hcc := hc f t hf ht
    by_cases h1 : I (20 + f) t = 1
    · have e : cpd I f t = false := by simp [cpd, h1]
      rw [ite_f e]
      refine HR_same hR (fun k hk => ?_)
      unfold gst
      have e2 : sN (M 5 (3 * f + t)) (R f) = 0 := by
        unfold sN
        rw [if_pos ((cod_c hcc).mp h1)]
      by_cases ek : k = t
      · subst ek
        show (if k = k then R k ||| sN (M 5 (3 * f + k)) (R f) else R k) = R k
        rw [if_pos rfl, e2, Nat.or_zero]
      · rw [if_neg ek]
    · have e : cpd I f t = true := by simp [cpd, h1]
      rw [ite_t e]
      exact HR_step hR ht (by rw [(hR.1 f hf).1, shf_lN hcc h1 (hR.1 f hf).2]) (sN_lt _ (hR.1 f hf).2)
  have h0 : HR J0 (fcI I 0 (fcO I J 0) 1) _ := key 0 0 _ _ (by decide) (by decide) h
  have h1 : HR J0 (fcI I 0 (fcO I J 0) 2) _ := key 0 1 _ _ (by decide) (by decide) h0
  have h2 : HR J0 (fcO I J 1) _ := key 0 2 _ _ (by decide) (by decide) h1
  have h3 : HR J0 (fcI I 1 (fcO I J 1) 1) _ := key 1 0 _ _ (by decide) (by decide) h2
  have h4 : HR J0 (fcI I 1 (fcO I J 1) 2) _ := key 1 1 _ _ (by decide) (by decide) h3
  have h5 : HR J0 (fcO I J 2) _ := key 1 2 _ _ (by decide) (by decide) h4
  have h6 : HR J0 (fcI I 2 (fcO I J 2) 1) _ := key 2 0 _ _ (by decide) (by decide) h5
  have h7 : HR J0 (fcI I 2 (fcO I J 2) 2) _ := key 2 1 _ _ (by decide) (by decide) h6
  exact key 2 2 _ _ (by decide) (by decide) h7
/-- no ring -/
def acy (I : Nat → Nat → Int32) : Prop := ∀ f t, f < 3 → t < 3 → cpd I f t = true → ldt I t f = false
theorem acy_six {c : Nat → Nat → Bool} (h : ∀ f t, f < 3 → t < 3 → c f t = true → (c t f || (c t 0 && c 0 f) || (c t 1 && c 1 f) || (c t 2 && c 2 f)) = false) : (c 0 0 = false ∧ c 1 1 = false ∧ c 2 2 = false) ∧ ((c 1 0 = false ∧ c 2 0 = false ∧ c 2 1 = false) ∨ (c 1 0 = false ∧ c 2 0 = false ∧ c 1 2 = false) ∨ (c 0 1 = false ∧ c 2 1 = false ∧ c 2 0 = false) ∨ (c 0 1 = false ∧ c 2 1 = false ∧ c 0 2 = false) ∨ (c 0 2 = false ∧ c 1 2 = false ∧ c 1 0 = false) ∨ (c 0 2 = false ∧ c 1 2 = false ∧ c 0 1 = false)) := by
  have a00 := h 0 0 (by decide) (by decide)
  have a01 := h 0 1 (by decide) (by decide)
  have a02 := h 0 2 (by decide) (by decide)
  have a10 := h 1 0 (by decide) (by decide)
  have a11 := h 1 1 (by decide) (by decide)
  have a12 := h 1 2 (by decide) (by decide)
  have a20 := h 2 0 (by decide) (by decide)
  have a21 := h 2 1 (by decide) (by decide)
  have a22 := h 2 2 (by decide) (by decide)
  clear h
  generalize c 0 0 = x00 at *
  generalize c 0 1 = x01 at *
  generalize c 0 2 = x02 at *
  generalize c 1 0 = x10 at *
  generalize c 1 1 = x11 at *
  generalize c 1 2 = x12 at *
  generalize c 2 0 = x20 at *
  generalize c 2 1 = x21 at *
  generalize c 2 2 = x22 at *
  cases x00
  · cases x11
    · cases x22
      · refine ⟨⟨rfl, rfl, rfl⟩, ?_⟩
        cases x01 <;> cases x02 <;> cases x10 <;> cases x12 <;> cases x20 <;> cases x21 <;> simp_all
      · exact absurd (a22 rfl) (by simp)
    · exact absurd (a11 rfl) (by simp)
  · exact absurd (a00 rfl) (by simp)
theorem frA_row (J : Nat → Nat → Int64) : (∀ t, t < 3 → frA J 3 1 t = J 0 t) ∧ ∀ k, ¬ k = 1 → frA J 3 k = J k := by
  have e : ∀ n, (∀ k, ¬ k = 1 → frA J n k = J k) ∧ ∀ t, t < n → frA J n 1 t = J 0 t := by
    intro n
    induction n with
    | zero => exact ⟨fun _ _ => rfl, fun t h => absurd h (Nat.not_lt_zero t)⟩
    | succ n ih =>
      refine ⟨fun k hk => ?_, fun t ht => ?_⟩
      · show u2L (frA J n) 1 n (frA J n 0 n) k = J k
        rw [u2L_ne hk]
        exact ih.1 k hk
      · show u2L (frA J n) 1 n (frA J n 0 n) 1 t = J 0 t
        rw [u2L_same]
        by_cases q : t = n
        · subst q
          rw [updL_at, ih.1 0 (by decide)]
        · rw [updL_ne q]
          exact ih.2 t (by omega)
  exact ⟨(e 3).2, (e 3).1⟩
/-- the class reaches what the model reaches: the sets by the sets held -/
theorem reach {I M : Nat → Nat → Int32} (hc : ∀ f t, f < 3 → t < 3 → cod (I (20 + f) t) (M 5 (3 * f + t))) (ha : acy I) {J N : Nat → Nat → Int64} {R : Nat → Nat} {mn x : Nat} (hmn : mn < 3) (hx : x < 2 ^ 61) (hJ : ∀ t, t < 3 → J 0 t = lN (R t) ∧ R t < 2 ^ 61) (hN : ∀ t, t < 3 → N 0 t = lN (if t = mn then R t ||| x else R t)) :
    ∃ T : Nat → Nat, HR J (frD I J mn (lN x)) T ∧ HR N (cpJ M N) T := by
  have hR0 : HR J (frB J mn (lN x)) (fun t => if t = mn then R t ||| x else R t) := by
    have hA := frA_row J
    refine ⟨fun t ht => ?_, fun k hk => ?_⟩
    · show u2L (frA J 3) 1 mn (frA J 3 1 mn ||| lN x) 1 t = _ ∧ _
      rw [u2L_same]
      by_cases q : t = mn
      · subst q
        rw [updL_at, hA.1 t ht, (hJ t ht).1, fb_orL]
        show _ = lN (if t = t then R t ||| x else R t) ∧ (if t = t then R t ||| x else R t) < 2 ^ 61
        rw [if_pos rfl]
        exact ⟨rfl, Nat.or_lt_two_pow (hJ t ht).2 hx⟩
      · rw [updL_ne q, hA.1 t ht]
        show _ = lN (if t = mn then R t ||| x else R t) ∧ (if t = mn then R t ||| x else R t) < 2 ^ 61
        rw [if_neg q]
        exact hJ t ht
    · show u2L (frA J 3) 1 mn (frA J 3 1 mn ||| lN x) k = J k
      rw [u2L_ne hk]
      exact hA.2 k hk
  have hN0 : HR N (frA N 3) (fun t => if t = mn then R t ||| x else R t) := by
    have hA := frA_row N
    refine ⟨fun t ht => ?_, hA.2⟩
    rw [hA.1 t ht]
    refine ⟨hN t ht, ?_⟩
    show (if t = mn then R t ||| x else R t) < 2 ^ 61
    split
    · exact Nat.or_lt_two_pow (hJ t ht).2 hx
    · exact (hJ t ht).2
  generalize hRR : (fun t => if t = mn then R t ||| x else R t) = R0 at hR0 hN0
  have c1 := fc_pass hc hR0
  have c2 := fc_pass hc c1
  have m1 : HR N (rqO M (frA N 3) 1) _ := rq_pass hN0
  have m2 : HR N (rqO M (frA N 3) 2) _ := rq_pass m1
  have m3 : HR N (rqO M (frA N 3) 3) _ := rq_pass m2
  refine ⟨_, c2, HR_same m3 (fun k hk => (g_perm _ (fun f t a b => sN_or _ a b) ?_ R0 ?_ k hk).symm)⟩
  · intro f hf xx
    have h3 := (acy_six (c := cpd I) ha).1
    have h0 : cpd I f f = false := by
      rcases (show f = 0 ∨ f = 1 ∨ f = 2 by omega) with rfl | rfl | rfl
      · exact h3.1
      · exact h3.2.1
      · exact h3.2.2
    have e := hc f f hf hf
    have e1 : I (20 + f) f = 1 := by simpa [cpd] using h0
    show sN (M 5 (3 * f + f)) xx = 0
    unfold sN
    rw [if_pos ((cod_c e).mp e1)]
  · have key : ∀ f t, f < 3 → t < 3 → cpd I f t = false → ∀ xx, sN (M 5 (3 * f + t)) xx = 0 := by
      intro f t hf ht h0 xx
      have e1 : I (20 + f) t = 1 := by simpa [cpd] using h0
      unfold sN
      rw [if_pos ((cod_c (hc f t hf ht)).mp e1)]
    rcases (acy_six (c := cpd I) ha).2 with h | h | h | h | h | h
    · exact Or.inl fun xx => ⟨key 1 0 (by decide) (by decide) h.1 xx, key 2 0 (by decide) (by decide) h.2.1 xx, key 2 1 (by decide) (by decide) h.2.2 xx⟩
    · exact Or.inr (Or.inl fun xx => ⟨key 1 0 (by decide) (by decide) h.1 xx, key 2 0 (by decide) (by decide) h.2.1 xx, key 1 2 (by decide) (by decide) h.2.2 xx⟩)
    · exact Or.inr (Or.inr (Or.inl fun xx => ⟨key 0 1 (by decide) (by decide) h.1 xx, key 2 1 (by decide) (by decide) h.2.1 xx, key 2 0 (by decide) (by decide) h.2.2 xx⟩))
    · exact Or.inr (Or.inr (Or.inr (Or.inl fun xx => ⟨key 0 1 (by decide) (by decide) h.1 xx, key 2 1 (by decide) (by decide) h.2.1 xx, key 0 2 (by decide) (by decide) h.2.2 xx⟩)))
    · exact Or.inr (Or.inr (Or.inr (Or.inr (Or.inl fun xx => ⟨key 0 2 (by decide) (by decide) h.1 xx, key 1 2 (by decide) (by decide) h.2.1 xx, key 1 0 (by decide) (by decide) h.2.2 xx⟩))))
    · exact Or.inr (Or.inr (Or.inr (Or.inr (Or.inr fun xx => ⟨key 0 2 (by decide) (by decide) h.1 xx, key 1 2 (by decide) (by decide) h.2.1 xx, key 0 1 (by decide) (by decide) h.2.2 xx⟩))))
