/-! ===== sums over the pipes; need, step, least ===== -/
def sm (f : Nat → Nat) : Nat → Nat
  | 0 => 0
  | n + 1 => sm f n + f n
theorem sm_le {f g : Nat → Nat} : ∀ n, (∀ i, i < n → f i ≤ g i) → sm f n ≤ sm g n
  | 0, _ => Nat.le_refl 0
  | n + 1, h => Nat.add_le_add (sm_le n (fun i hi => h i (by omega))) (h n (Nat.lt_succ_self n))
theorem sm_cg {f g : Nat → Nat} : ∀ n, (∀ i, i < n → f i = g i) → sm f n = sm g n
  | 0, _ => rfl
  | n + 1, h => by
    show sm f n + f n = sm g n + g n
    rw [sm_cg n (fun i hi => h i (by omega)), h n (Nat.lt_succ_self n)]
theorem sm_bd {f : Nat → Nat} {c : Nat} : ∀ n, (∀ i, i < n → f i ≤ c) → sm f n ≤ c * n
  | 0, _ => Nat.zero_le _
  | n + 1, h => by
    have a := sm_bd n (fun i hi => h i (by omega))
    have b := h n (Nat.lt_succ_self n)
    show sm f n + f n ≤ c * (n + 1)
    rw [Nat.mul_succ]
    omega
theorem sm_0 {f : Nat → Nat} : ∀ n, (∀ i, i < n → f i = 0) → sm f n = 0
  | 0, _ => rfl
  | n + 1, h => by
    show sm f n + f n = 0
    rw [sm_0 n (fun i hi => h i (by omega)), h n (Nat.lt_succ_self n)]
def wt (b : Nat → Nat → Bool) (w : Nat → Nat → Nat) (p : Nat) : Nat := if b (p / 61) (p % 61) = true then w (p / 61) (p % 61) else 0
def w1 : Nat → Nat → Nat := fun _ _ => 1
def wv (wd : Nat → Nat) : Nat → Nat → Nat := fun r k => wd r + (60 - k) / 12
def pN (b : Nat → Nat → Bool) : Nat := sm (wt b w1) 366
def nN (wd : Nat → Nat) (b : Nat → Nat → Bool) : Nat := sm (wt b (wv wd)) 366
theorem wt_at (b : Nat → Nat → Bool) (w : Nat → Nat → Nat) (r : Nat) {k : Nat} (hk : k < 61) : wt b w (61 * r + k) = if b r k = true then w r k else 0 := by
  unfold wt
  rw [show (61 * r + k) / 61 = r by omega, show (61 * r + k) % 61 = k by omega]
theorem wt_le {b b' : Nat → Nat → Bool} {w w' : Nat → Nat → Nat} (h : ∀ r k, r < 6 → k < 61 → b r k = true → b' r k = true) (hw : ∀ r k, r < 6 → k < 61 → w r k ≤ w' r k) : ∀ p, p < 366 → wt b w p ≤ wt b' w' p := by
  intro p hp
  unfold wt
  by_cases q : b (p / 61) (p % 61) = true
  · rw [if_pos q, if_pos (h _ _ (by omega) (Nat.mod_lt _ (by decide)) q)]
    exact hw _ _ (by omega) (Nat.mod_lt _ (by decide))
  · rw [if_neg q]
    exact Nat.zero_le _
theorem wt_cg {b b' : Nat → Nat → Bool} {w w' : Nat → Nat → Nat} (h : ∀ r k, r < 6 → k < 61 → b r k = b' r k) (hw : ∀ r k, r < 6 → k < 61 → w r k = w' r k) : ∀ p, p < 366 → wt b w p = wt b' w' p := by
  intro p hp
  unfold wt
  rw [h _ _ (by omega) (Nat.mod_lt _ (by decide)), hw _ _ (by omega) (Nat.mod_lt _ (by decide))]
theorem pN_le {b b' : Nat → Nat → Bool} (h : ∀ r k, r < 6 → k < 61 → b r k = true → b' r k = true) : pN b ≤ pN b' := sm_le 366 (wt_le h (fun _ _ _ _ => Nat.le_refl _))
theorem pN_cg {b b' : Nat → Nat → Bool} (h : ∀ r k, r < 6 → k < 61 → b r k = b' r k) : pN b = pN b' := sm_cg 366 (wt_cg h (fun _ _ _ _ => rfl))
theorem pN_0 {b : Nat → Nat → Bool} (h : ∀ r k, r < 6 → k < 61 → b r k = false) : pN b = 0 := sm_0 366 (fun p hp => by
  unfold wt
  rw [h _ _ (by omega) (Nat.mod_lt _ (by decide)), if_neg Bool.false_ne_true])
theorem wv_cg {wd wd' : Nat → Nat} (h : ∀ r, r < 6 → wd r = wd' r) : ∀ r k, r < 6 → k < 61 → wv wd r k = wv wd' r k := fun r k hr _ => by
  unfold wv
  rw [h r hr]
theorem nN_le {wd : Nat → Nat} {b b' : Nat → Nat → Bool} (h : ∀ r k, r < 6 → k < 61 → b r k = true → b' r k = true) : nN wd b ≤ nN wd b' := sm_le 366 (wt_le h (fun _ _ _ _ => Nat.le_refl _))
theorem nN_cg {wd wd' : Nat → Nat} {b b' : Nat → Nat → Bool} (h : ∀ r k, r < 6 → k < 61 → b r k = b' r k) (hw : ∀ r, r < 6 → wd r = wd' r) : nN wd b = nN wd' b' := sm_cg 366 (wt_cg h (wv_cg hw))
theorem wt_1 (b : Nat → Nat → Bool) (p : Nat) : wt b w1 p ≤ 1 := by
  unfold wt w1
  split
  · exact Nat.le_refl _
  · exact Nat.zero_le _
theorem pN_bd (b : Nat → Nat → Bool) (n : Nat) : sm (wt b w1) n ≤ n := by
  have := sm_bd (f := wt b w1) (c := 1) n (fun i _ => wt_1 b i)
  omega
theorem wt_14 {wd : Nat → Nat} (hw : ∀ r, r < 6 → wd r ≤ 9) (b : Nat → Nat → Bool) {p : Nat} (hp : p < 366) : wt b (wv wd) p ≤ 14 := by
  have h := hw (p / 61) (by omega)
  have h2 : (60 - p % 61) / 12 ≤ 5 := by omega
  unfold wt wv
  split
  · omega
  · exact Nat.zero_le _
theorem nN_bd {wd : Nat → Nat} (hw : ∀ r, r < 6 → wd r ≤ 9) (b : Nat → Nat → Bool) {n : Nat} (hn : n ≤ 366) : sm (wt b (wv wd)) n ≤ 14 * n := sm_bd n (fun _ hi => wt_14 hw b (by omega))
theorem pc_sm {b : Nat → Nat → Bool} {S r : Nat} (hS : ∀ k, k < 61 → S.testBit k = b r k) : ∀ k, k ≤ 61 → sm (wt b w1) (61 * r) + pcN S k = sm (wt b w1) (61 * r + k)
  | 0, _ => rfl
  | k + 1, h => by
    show sm (wt b w1) (61 * r) + (pcN S k + (if S.testBit k = true then 1 else 0)) = sm (wt b w1) (61 * r + k) + wt b w1 (61 * r + k)
    rw [hS k (by omega), wt_at b w1 r (by omega), ← pc_sm hS k (by omega), Nat.add_assoc]
    rfl
theorem cs_pN {FS : Nat → Nat → Int64} {b : Nat → Nat → Bool} (h : SS FS b) : ∀ r, r ≤ 6 → csF FS r = nI (sm (wt b w1) (61 * r))
  | 0, _ => rfl
  | r + 1, hr => by
    obtain ⟨S, hS, e, hb⟩ := h r (by omega)
    show csF FS r + bcL (FS 2 r) = nI (sm (wt b w1) (61 * r + 61))
    rw [cs_pN h r (by omega), e, bcL_pc hS, nI_add, pc_sm hb 61 (Nat.le_refl _)]
theorem ws_in {b : Nat → Nat → Bool} {wd : Nat → Nat} {S r : Nat} (hS : ∀ k, k < 61 → S.testBit k = b r k) : ∀ k, k ≤ 61 → wsI (nI (wd r)) (lN S) (nI (sm (wt b (wv wd)) (61 * r))) k = nI (sm (wt b (wv wd)) (61 * r + k))
  | 0, _ => rfl
  | k + 1, h => by
    have i := ws_in (wd := wd) hS k (by omega)
    show (if hk (lN S) (nI k) = true then wsI (nI (wd r)) (lN S) (nI (sm (wt b (wv wd)) (61 * r))) k + (nI (wd r) + (60 - nI k) / 12) else wsI (nI (wd r)) (lN S) (nI (sm (wt b (wv wd)) (61 * r))) k) = nI (sm (wt b (wv wd)) (61 * r + k) + wt b (wv wd) (61 * r + k))
    rw [i, hk_lN (by omega), hS k (by omega), wt_at b (wv wd) r (by omega), w12 k (by omega)]
    by_cases q : b r k = true
    · rw [if_pos q, if_pos q, nI_add, nI_add]
      rfl
    · rw [if_neg q, if_neg q, Nat.add_zero]
theorem ws_nN {I : Nat → Nat → Int32} {FS : Nat → Nat → Int64} {b : Nat → Nat → Bool} {wd : Nat → Nat} (hw : ∀ r, r < 6 → I 1 r = nI (wd r)) (h : SS FS b) : ∀ r, r ≤ 6 → wsO I FS r = nI (sm (wt b (wv wd)) (61 * r))
  | 0, _ => rfl
  | r + 1, hr => by
    obtain ⟨S, hS, e, hb⟩ := h r (by omega)
    show wsI (I 1 r) (FS 2 r) (wsO I FS r) 61 = nI (sm (wt b (wv wd)) (61 * r + 61))
    rw [ws_nN hw h r (by omega), e, hw r (by omega), ws_in hb 61 (Nat.le_refl _)]
/-- the step of the sag -/
def stN (n s : Nat) : Nat := if n ≤ s then 0 else if 1 + 10 * (n - s) / s < 10 then 1 + 10 * (n - s) / s else 10
theorem stN_lt (n s : Nat) : stN n s < 11 := by
  unfold stN
  split
  · decide
  · split
    · omega
    · decide
theorem sag_e {n s : Nat} (hn : n ≤ 6000) (h1 : 10 ≤ s) (h2 : s ≤ 1000) (h : s ≤ n) : (1 + 10 * (nI n - nI s) / nI s : Int32) = nI (1 + 10 * (n - s) / s) ∧ 10 * (n - s) / s < 100000 := by
  refine ⟨?_, Nat.lt_of_le_of_lt (Nat.div_le_self _ _) (by omega)⟩
  rw [pk_sub h, show (10 : Int32) = nI 10 from rfl, pk_mul, pk_div (by omega) (by omega) (by omega), show (1 : Int32) = nI 1 from rfl, nI_add]
theorem stS_stN {n s : Nat} (hn : n ≤ 6000) (h1 : 10 ≤ s) (h2 : s ≤ 1000) : stS (nI n) (nI s) = nI (stN n s) := by
  unfold stN stS
  by_cases h : n ≤ s
  · rw [if_pos h, if_pos (by rw [nI_leI (by omega) (by omega)]; omega)]
    rfl
  · obtain ⟨e2, hb⟩ := sag_e hn h1 h2 (by omega)
    have c1 : ¬ nI n ≤ nI s := by rw [nI_leI (by omega) (by omega)]; omega
    have c3 : (10 : Int32) ≤ nI s := by rw [show (10 : Int32) = nI 10 from rfl, nI_leI (by omega) (by omega)]; omega
    rw [if_neg c1, if_pos c3, if_neg h, e2]
    generalize 10 * (n - s) / s = q at hb
    by_cases h3 : 1 + q < 10
    · rw [if_pos h3, if_pos (by rw [show (10 : Int32) = nI 10 from rfl, nI_ltI (by omega) (by omega)]; omega)]
    · rw [if_neg h3, if_neg (by rw [show (10 : Int32) = nI 10 from rfl, nI_ltI (by omega) (by omega)]; omega)]
      rfl
/-- the law's own way to the step -/
theorem stN_law {n s : Nat} (h1 : 10 ≤ s) : (¬ n ≤ s → s ≤ n - s → stN n s = 10) ∧ (¬ n ≤ s → ¬ s ≤ n - s → stN n s = 1 + 10 * (n - s) / s) := by
  refine ⟨fun a b => ?_, fun a b => ?_⟩
  · have : 10 ≤ 10 * (n - s) / s := (Nat.le_div_iff_mul_le (by omega)).mpr (Nat.mul_le_mul_left 10 b)
    unfold stN
    rw [if_neg a, if_neg (by omega)]
  · have : 10 * (n - s) / s < 10 := (Nat.div_lt_iff_lt_mul (by omega)).mpr (by omega)
    unfold stN
    rw [if_neg a]
    split
    · rfl
    · omega
/-! the least pitch -/
def lf (I : Nat → Nat → Int32) (b : Nat → Nat → Bool) : Nat → Bool × Int32
  | 0 => (false, 0)
  | p + 1 => if b (p / 61) (p % 61) = true then (true, if (lf I b p).1 = true then (if pws I (p / 61) (p % 61) < (lf I b p).2 then pws I (p / 61) (p % 61) else (lf I b p).2) else pws I (p / 61) (p % 61)) else lf I b p
theorem lf_in {I : Nat → Nat → Int32} {FS : Nat → Nat → Int64} {b : Nat → Nat → Bool} (h : SS FS b) {r : Nat} (hr : r < 6) : ∀ k, k ≤ 61 → loI I FS r (lf I b (61 * r)) k = lf I b (61 * r + k)
  | 0, _ => rfl
  | k + 1, hk61 => by
    obtain ⟨S, hS, e, hb⟩ := h r hr
    have i := lf_in (I := I) h hr k (by omega)
    show (if hk (FS 2 r) (nI k) = true then (true, if (loI I FS r (lf I b (61 * r)) k).1 = true then (if pws I r k < (loI I FS r (lf I b (61 * r)) k).2 then pws I r k else (loI I FS r (lf I b (61 * r)) k).2) else pws I r k) else loI I FS r (lf I b (61 * r)) k) = (if b ((61 * r + k) / 61) ((61 * r + k) % 61) = true then (true, if (lf I b (61 * r + k)).1 = true then (if pws I ((61 * r + k) / 61) ((61 * r + k) % 61) < (lf I b (61 * r + k)).2 then pws I ((61 * r + k) / 61) ((61 * r + k) % 61) else (lf I b (61 * r + k)).2) else pws I ((61 * r + k) / 61) ((61 * r + k) % 61)) else lf I b (61 * r + k))
    rw [i, show (61 * r + k) / 61 = r by omega, show (61 * r + k) % 61 = k by omega, e, hk_lN (by omega), hb k (by omega)]
theorem lf_out {I : Nat → Nat → Int32} {FS : Nat → Nat → Int64} {b : Nat → Nat → Bool} (h : SS FS b) : ∀ r, r ≤ 6 → loO I FS r = lf I b (61 * r)
  | 0, _ => rfl
  | r + 1, hr => by
    show loI I FS r (loO I FS r) 61 = lf I b (61 * r + 61)
    rw [lf_out h r (by omega), lf_in h (by omega) 61 (Nat.le_refl _)]
theorem lf_cg {I I' : Nat → Nat → Int32} {b b' : Nat → Nat → Bool} (h : ∀ r k, r < 6 → k < 61 → b r k = b' r k) (hp : ∀ r k, r < 6 → k < 61 → pws I r k = pws I' r k) : ∀ p, p ≤ 366 → lf I b p = lf I' b' p
  | 0, _ => rfl
  | p + 1, hp6 => by
    have i := lf_cg h hp p (by omega)
    have m : p % 61 < 61 := Nat.mod_lt _ (by decide)
    show (if b (p / 61) (p % 61) = true then (true, if (lf I b p).1 = true then (if pws I (p / 61) (p % 61) < (lf I b p).2 then pws I (p / 61) (p % 61) else (lf I b p).2) else pws I (p / 61) (p % 61)) else lf I b p) = (if b' (p / 61) (p % 61) = true then (true, if (lf I' b' p).1 = true then (if pws I' (p / 61) (p % 61) < (lf I' b' p).2 then pws I' (p / 61) (p % 61) else (lf I' b' p).2) else pws I' (p / 61) (p % 61)) else lf I' b' p)
    rw [i, h _ _ (by omega) m, hp _ _ (by omega) m]
theorem lf_any {I : Nat → Nat → Int32} {b : Nat → Nat → Bool} : ∀ p, ((lf I b p).1 = true ∧ 0 < sm (wt b w1) p) ∨ ((lf I b p).1 = false ∧ sm (wt b w1) p = 0)
  | 0 => Or.inr ⟨rfl, rfl⟩
  | p + 1 => by
    have i := lf_any (I := I) (b := b) p
    have e : sm (wt b w1) (p + 1) = sm (wt b w1) p + (if b (p / 61) (p % 61) = true then 1 else 0) := rfl
    by_cases q : b (p / 61) (p % 61) = true
    · rw [if_pos q] at e
      refine Or.inl ⟨?_, by omega⟩
      show (if b (p / 61) (p % 61) = true then _ else _ : Bool × Int32).1 = true
      rw [if_pos q]
    · rw [if_neg q] at e
      have e2 : lf I b (p + 1) = lf I b p := if_neg q
      rw [e2, e, Nat.add_zero]
      exact i
theorem lf_b {I : Nat → Nat → Int32} {b : Nat → Nat → Bool} (hp : ∀ r k, r < 6 → k < 61 → -1300 ≤ (pws I r k).toInt ∧ (pws I r k).toInt ≤ 8000) : ∀ p, p ≤ 366 → (lf I b p).1 = true → -1300 ≤ (lf I b p).2.toInt ∧ (lf I b p).2.toInt ≤ 8000
  | 0, _, h => by cases h
  | p + 1, hp6, h => by
    have i := lf_b (b := b) hp p (by omega)
    have m := hp (p / 61) (p % 61) (by omega) (Nat.mod_lt _ (by decide))
    by_cases q : b (p / 61) (p % 61) = true
    · have e2 : lf I b (p + 1) = (true, if (lf I b p).1 = true then (if pws I (p / 61) (p % 61) < (lf I b p).2 then pws I (p / 61) (p % 61) else (lf I b p).2) else pws I (p / 61) (p % 61)) := if_pos q
      rw [e2]
      show -1300 ≤ (if (lf I b p).1 = true then (if pws I (p / 61) (p % 61) < (lf I b p).2 then pws I (p / 61) (p % 61) else (lf I b p).2) else pws I (p / 61) (p % 61)).toInt ∧ (if (lf I b p).1 = true then (if pws I (p / 61) (p % 61) < (lf I b p).2 then pws I (p / 61) (p % 61) else (lf I b p).2) else pws I (p / 61) (p % 61)).toInt ≤ 8000
      split
      · split
        · exact m
        · rename_i z _
          exact i z
      · exact m
    · have e2 : lf I b (p + 1) = lf I b p := if_neg q
      rw [e2] at h ⊢
      exact i h
/-- the law's own least so far, the sag's fall f taken off -/
def lwN (f : Int32) (x : Bool × Int32) : Int32 := if x.1 = true then x.2 - f else 100000
theorem lwN_n {I : Nat → Nat → Int32} {b : Nat → Nat → Bool} (f : Int32) {p : Nat} (h : b (p / 61) (p % 61) = false) : lwN f (lf I b (p + 1)) = lwN f (lf I b p) := by
  have e2 : lf I b (p + 1) = lf I b p := if_neg (by rw [h]; exact Bool.false_ne_true)
  rw [e2]
theorem lwN_y {I : Nat → Nat → Int32} {b : Nat → Nat → Bool} {f : Int32} {p : Nat} (hf : 0 ≤ f.toInt ∧ f.toInt ≤ 100) (hp : ∀ r k, r < 6 → k < 61 → -1300 ≤ (pws I r k).toInt ∧ (pws I r k).toInt ≤ 8000) (hp6 : p < 366) (h : b (p / 61) (p % 61) = true) : lwN f (lf I b (p + 1)) = if lwN f (lf I b p) ≤ pws I (p / 61) (p % 61) - f then lwN f (lf I b p) else pws I (p / 61) (p % 61) - f := by
  have e2 : lf I b (p + 1) = (true, if (lf I b p).1 = true then (if pws I (p / 61) (p % 61) < (lf I b p).2 then pws I (p / 61) (p % 61) else (lf I b p).2) else pws I (p / 61) (p % 61)) := if_pos h
  have hb := lf_b (b := b) hp p (by omega)
  have m := hp (p / 61) (p % 61) (by omega) (Nat.mod_lt _ (by decide))
  rw [e2]
  generalize lf I b p = A at hb
  obtain ⟨A1, A2⟩ := A
  generalize pws I (p / 61) (p % 61) = x at m
  have ex : (x - f).toInt = x.toInt - f.toInt := fb_subI (by omega) (by omega)
  cases A1 with
  | true =>
    have hA := hb rfl
    have hA : -1300 ≤ A2.toInt ∧ A2.toInt ≤ 8000 := hA
    have ea : (A2 - f).toInt = A2.toInt - f.toInt := fb_subI (by omega) (by omega)
    show (if x < A2 then x else A2) - f = if A2 - f ≤ x - f then A2 - f else x - f
    by_cases q : x < A2
    · have q2 := Int32.lt_iff_toInt_lt.mp q
      rw [if_pos q, if_neg (fun z => by rw [Int32.le_iff_toInt_le] at z; omega)]
    · have q2 : ¬ x.toInt < A2.toInt := fun z => q (Int32.lt_iff_toInt_lt.mpr z)
      rw [if_neg q, if_pos (by rw [Int32.le_iff_toInt_le]; omega)]
  | false =>
    have e5 : (100000 : Int32).toInt = 100000 := by decide
    show x - f = if (100000 : Int32) ≤ x - f then 100000 else x - f
    rw [if_neg (fun z => by rw [Int32.le_iff_toInt_le] at z; omega)]
theorem pN_pos {b : Nat → Nat → Bool} {r k : Nat} (hr : r < 6) (hk : k < 61) (h : b r k = true) : ¬ pN b = 0 := by
  intro z
  have key : ∀ n i, i < n → wt b w1 i ≤ sm (wt b w1) n := by
    intro n
    induction n with
    | zero => intro i hi; exact absurd hi (Nat.not_lt_zero i)
    | succ n ih =>
      intro i hi
      show wt b w1 i ≤ sm (wt b w1) n + wt b w1 n
      by_cases e : i = n
      · subst e
        omega
      · have := ih i (by omega)
        omega
  have h1 := key 366 (61 * r + k) (by omega)
  rw [wt_at b w1 r hk, if_pos h] at h1
  have h2 : sm (wt b w1) 366 = 0 := z
  rw [h2] at h1
  exact absurd h1 (by show ¬ 1 ≤ 0; decide)
/-! mute pipes of a rank -/
def mcN (f : Nat → Int32) : Nat → Nat
  | 0 => 0
  | k + 1 => mcN f k + (if f k < 50 then 0 else 1)
theorem mc_pc {f : Nat → Int32} {m : Nat} (hm : ∀ i, m.testBit i = (decide (i < 61) && !decide (f i < 50))) : ∀ n, n ≤ 61 → pcN m n = mcN f n
  | 0, _ => rfl
  | n + 1, hn => by
    show pcN m n + (if m.testBit n = true then 1 else 0) = mcN f n + (if f n < 50 then 0 else 1)
    rw [mc_pc hm n (by omega), hm n]
    by_cases h : f n < 50
    · simp [h]
    · simp [h, show n < 61 by omega]
theorem mu_mc (f : Nat → Int32) : bcL (muF f 61) = nI (mcN f 61) := by
  obtain ⟨m, m1, m2⟩ := mu_bits f 61 (Nat.le_refl _)
  rw [m1, bcL_pc (lt_bits (fun i hi => by rw [m2]; simp; omega)), mc_pc m2 61 (Nat.le_refl _)]
theorem mc_0 {f : Nat → Int32} : ∀ n, (∀ k, k < n → f k = 0) → mcN f n = 0
  | 0, _ => rfl
  | n + 1, h => by
    show mcN f n + (if f n < 50 then 0 else 1) = 0
    rw [mc_0 n (fun k hk => h k (by omega)), h n (Nat.lt_succ_self n)]
    rfl
theorem mc_le {f : Nat → Int32} : ∀ n, mcN f n ≤ n
  | 0 => Nat.le_refl 0
  | n + 1 => by
    have := mc_le (f := f) n
    show mcN f n + (if f n < 50 then 0 else 1) ≤ n + 1
    split <;> omega
