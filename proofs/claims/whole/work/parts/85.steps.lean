/-! ===== one step of each call, of both sides ===== -/
theorem RI.t {I M : Nat → Nat → Int32} {k : Int32} (h : RI I M) : RI I (tI M k) := h
/-- k: how the call ends; then the states and the answers -/
def Stq (I : Nat → Nat → Int32) (k : Int32) (I2 : Nat → Nat → Int32) (J2 JX : Nat → Nat → Int64) (M2 : Nat → Nat → Int32) (N2 : Nat → Nat → Int64) (E A : Int32) : Prop := M2 20 0 = k ∧ (k = 0 → E = A ∧ RI I2 M2 ∧ RJ J2 N2) ∧ (¬ k = 0 → RI I M2 ∧ RJ JX N2)
theorem stp_bad {I M I2 M2 : Nat → Nat → Int32} {J2 JX N2 : Nat → Nat → Int64} {k E A : Int32} (hk : ¬ k = 0) (hI : RI I M) (hM : M2 = tI M k) (hX : RJ JX N2) : Stq I k I2 J2 JX M2 N2 E A := ⟨by rw [hM]; rfl, fun h => absurd h hk, fun _ => ⟨by rw [hM]; exact hI.t, hX⟩⟩
theorem stp_ok {I I2 M2 : Nat → Nat → Int32} {J2 JX N2 : Nat → Nat → Int64} {k E A : Int32} (hk : k = 0) (h0 : M2 20 0 = 0) (hE : E = A) (hI : RI I2 M2) (hJ : RJ J2 N2) : Stq I k I2 J2 JX M2 N2 E A := ⟨h0.trans hk.symm, fun _ => ⟨hE, hI, hJ⟩, fun h => absurd hk h⟩
theorem k01 (b : Bool) : ((if b = true then (0 : Int32) else 1) = 0 ∧ b = true) ∨ ((if b = true then (0 : Int32) else 1) = 1 ∧ b = false) := by
  cases b
  · exact Or.inr ⟨rfl, rfl⟩
  · exact Or.inl ⟨rfl, rfl⟩
theorem n10 : ¬ (1 : Int32) = 0 := by decide
theorem RJ.of {J N J2 N2 : Nat → Nat → Int64} (h : RJ J N) (e : J2 0 = J 0) (e2 : N2 0 = N 0) : RJ J2 N2 := fun m hm => by
  rw [e, e2]
  exact h m hm
theorem riR_set {I M I2 M2 : Nat → Nat → Int32} {r q w : Nat} {p4 : Int32} (h : riR I M) (hq : q < 4) (hw : w ≤ 9) (h4 : rg p4 (-50) 50 = true) (a0 : I2 0 = upd (I 0) r (htv q)) (a1 : I2 1 = upd (I 1) r (nI w)) (a2 : I2 2 = upd (I 2) r p4) (b0 : M2 0 = upd (M 0) r (nI q)) (b1 : M2 1 = upd (M 1) r (nI w)) (b2 : M2 2 = upd (M 2) r p4) : riR I2 M2 := by
  intro r2 hr2
  rw [a0, a1, a2, b0, b1, b2]
  by_cases e : r2 = r
  · subst e
    simp only [upd_at]
    exact ⟨⟨q, hq, rfl, rfl⟩, ⟨w, hw, rfl, rfl⟩, trivial, h4⟩
  · simp only [upd_ne e]
    exact h r2 hr2
theorem riW_same {I M I2 M2 : Nat → Nat → Int32} (h : riW I M) (e : ∀ r, r < 6 → I2 (10 + r) = I (10 + r)) (e2 : M2 9 = M 9) : riW I2 M2 := fun r k hr hk61 => by
  rw [e r hr, e2]
  exact h r k hr hk61
theorem acy_mono {I I2 : Nat → Nat → Int32} (h : acy I) (e : ∀ f t, f < 3 → t < 3 → cpd I2 f t = true → cpd I f t = true) : acy I2 := by
  intro f t hf ht hc
  have h1 := h f t hf ht (e f t hf ht hc)
  have key : ∀ b, b < 3 → (cpd I2 t b && cpd I2 b f) = true → (cpd I t b && cpd I b f) = true := fun b hb z => by
    rw [Bool.and_eq_true] at z ⊢
    exact ⟨e t b ht hb z.1, e b f hb hf z.2⟩
  cases hl : ldt I2 t f with
  | false => rfl
  | true =>
    exfalso
    unfold ldt at hl h1
    simp only [Bool.or_eq_true] at hl
    have e1 : ldt I t f = true := by
      unfold ldt
      simp only [Bool.or_eq_true]
      rcases hl with ((x | x) | x) | x
      · exact Or.inl (Or.inl (Or.inl (e t f ht hf x)))
      · exact Or.inl (Or.inl (Or.inr (key 0 (by decide) x)))
      · exact Or.inl (Or.inr (key 1 (by decide) x))
      · exact Or.inr (key 2 (by decide) x)
    unfold ldt at e1
    rw [h1] at e1
    cases e1
theorem riC_same {I M I2 M2 : Nat → Nat → Int32} (h : riC I M ∧ acy I) (e : ∀ f, f < 3 → I2 (20 + f) = I (20 + f)) (e2 : M2 5 = M 5) : riC I2 M2 ∧ acy I2 := ⟨fun f t hf ht => by
  rw [e f hf, e2]
  exact h.1 f t hf ht, acy_mono h.2 (fun f t hf ht z => by
    unfold cpd at z ⊢
    rw [e f hf] at z
    exact z)⟩
theorem s_setRank {I M : Nat → Nat → Int32} {J N : Nat → Nat → Int64} (hI : RI I M) (hJ : RJ J N) (p1 p2 p3 p4 : Int32) : Stq I (kRank p1 p2 p3 p4) (u2 (u2 (u2 I 0 p1.toNatClampNeg (htv p2.toNatClampNeg)) 1 p1.toNatClampNeg p3) 2 p1.toNatClampNeg p4) J J (rRank M p1 p2 p3 p4) N 0 0 := by
  have hk : (kRank p1 p2 p3 p4 = 0 ∧ (rg p1 0 5 && rg p2 0 3 && rg p3 1 9 && rg p4 (-50) 50) = true) ∨ (kRank p1 p2 p3 p4 = 1 ∧ _) := k01 _
  rcases hk with ⟨e, h⟩ | ⟨e, -⟩
  · have e2 : rRank M p1 p2 p3 p4 = u2 (u2 (u2 (tI M 0) 0 p1.toNatClampNeg p2) 1 p1.toNatClampNeg p3) 2 p1.toNatClampNeg p4 := if_pos e
    simp only [Bool.and_eq_true] at h
    obtain ⟨⟨⟨h1, h2⟩, h3⟩, h4⟩ := h
    obtain ⟨r, hr, rfl⟩ := rg_nat (n := 5) h1 (by decide)
    obtain ⟨q, hq, rfl⟩ := rg_nat (n := 3) h2 (by decide)
    obtain ⟨w, hw, rfl⟩ := rg_nat1 (n := 9) h3 (by decide)
    rw [e2, nI_clamp (show r < 2 ^ 31 by omega), nI_clamp (show q < 2 ^ 31 by omega)]
    obtain ⟨i1, i2, i3, i4, i5, i6, i7, i8, i9⟩ := hI
    exact stp_ok e rfl rfl ⟨riR_set i1 hq (by omega) h4 rfl rfl rfl rfl rfl rfl, i2, i3, riC_same i4 (fun f hf => by rw [u2_ne (by omega), u2_ne (by omega), u2_ne (by omega)]) rfl, i5, i6, i7, i8, riW_same i9 (fun f hf => by rw [u2_ne (by omega), u2_ne (by omega), u2_ne (by omega)]) rfl⟩ hJ
  · rw [e]
    exact stp_bad n10 hI (if_neg (by rw [e]; exact n10)) hJ
theorem kk {b c : Bool} (h : (if b = true then (if c = true then (2 : Int32) else 0) else 1) = 0) : b = true ∧ c = false := by
  revert h
  cases b <;> cases c <;> decide
theorem dr_hs {I M : Nat → Nat → Int32} (h : riD I M) {s : Nat} (hs12 : s < 12) : dr (I 8 0) (nI s) = hs (M 20 1).toInt64 (nI s) := by
  obtain ⟨d, hd, e1, e2⟩ := h
  rw [e1, e2, dr_bit hs12, hs_wide hd (by omega)]
theorem kStop_eq {I M : Nat → Nat → Int32} (h : riD I M) (p1 p2 p3 : Int32) : kStop I p1 p2 p3 = qStop M p1 p2 p3 := by
  unfold kStop qStop
  cases h1 : rg p1 0 11 with
  | false => simp
  | true =>
    obtain ⟨s, hs12, rfl⟩ := rg_nat (n := 11) h1 (by decide)
    rw [dr_hs h hs12]
theorem s_setStop {I M : Nat → Nat → Int32} {J N : Nat → Nat → Int64} (hI : RI I M) (hJ : RJ J N) (p1 p2 p3 : Int32) : Stq I (kStop I p1 p2 p3) (u2 (u2 I 3 p1.toNatClampNeg p2) 4 p1.toNatClampNeg p3) J J (rStop M p1 p2 p3) N 0 0 := by
  have eq := kStop_eq hI.2.2.1 p1 p2 p3
  by_cases e : kStop I p1 p2 p3 = 0
  · have e2 : rStop M p1 p2 p3 = u2 (u2 (tI M 0) 3 p1.toNatClampNeg p2) 4 p1.toNatClampNeg p3 := if_pos (by rw [← eq]; exact e)
    have h := (kk e).1
    simp only [Bool.and_eq_true] at h
    obtain ⟨⟨h1, h2⟩, h3⟩ := h
    obtain ⟨s, hs12, rfl⟩ := rg_nat (n := 11) h1 (by decide)
    obtain ⟨j, hj, rfl⟩ := rg_nat (n := 2) h2 (by decide)
    rw [e2, nI_clamp (show s < 2 ^ 31 by omega)]
    obtain ⟨i1, i2, i3, i4, i5, i6, i7, i8, i9⟩ := hI
    refine stp_ok e rfl rfl ⟨i1, ?_, i3, riC_same i4 (fun f hf => by rw [u2_ne (by omega), u2_ne (by omega)]) rfl, i5, i6, i7, i8, riW_same i9 (fun f hf => by rw [u2_ne (by omega), u2_ne (by omega)]) rfl⟩ hJ
    intro s2 hs2
    show ∃ j2, j2 < 3 ∧ upd (M 3) s (nI j) s2 = nI j2 ∧ upd (I 3) s (nI j) s2 = nI j2 ∧ upd (I 4) s p3 s2 = upd (M 4) s p3 s2
    by_cases es : s2 = s
    · subst es
      simp only [upd_at]
      exact ⟨j, hj, rfl, rfl, trivial⟩
    · simp only [upd_ne es]
      exact i2 s2 hs2
  · exact stp_bad e hI (by rw [eq]; exact if_neg (by rw [← eq]; exact e)) hJ
theorem cp_eq {I M : Nat → Nat → Int32} (h : riC I M) {f t : Nat} (hf : f < 3) (ht : t < 3) : cpd I f t = rcp M f t := cod_le (h f t hf ht)
theorem acy_d {I : Nat → Nat → Int32} (h : acy I) {f : Nat} (hf : f < 3) : cpd I f f = false := by
  have h3 := (acy_six (c := cpd I) h).1
  rcases (show f = 0 ∨ f = 1 ∨ f = 2 by omega) with rfl | rfl | rfl
  · exact h3.1
  · exact h3.2.1
  · exact h3.2.2
theorem ld_eq {I M : Nat → Nat → Int32} (h : riC I M ∧ acy I) {f t : Nat} (hf : f < 3) (ht : t < 3) (hne : ¬ f = t) : ldt I f t = rcm M f t := by
  have c := fun (x y : Nat) (hx : x < 3) (hy : y < 3) => cp_eq h.1 hx hy
  have a0 := acy_d h.2 (f := 0) (by decide)
  have a1 := acy_d h.2 (f := 1) (by decide)
  have a2 := acy_d h.2 (f := 2) (by decide)
  unfold ldt rcm
  rw [← c f t hf ht]
  rcases (show f = 0 ∨ f = 1 ∨ f = 2 by omega) with rfl | rfl | rfl <;> rcases (show t = 0 ∨ t = 1 ∨ t = 2 by omega) with rfl | rfl | rfl <;> first | (exact absurd rfl hne) | simp [a0, a1, a2, ← c 0 1 (by decide) (by decide), ← c 0 2 (by decide) (by decide), ← c 1 0 (by decide) (by decide), ← c 1 2 (by decide) (by decide), ← c 2 0 (by decide) (by decide), ← c 2 1 (by decide) (by decide)]
theorem kCpl_eq {I M : Nat → Nat → Int32} (h : riC I M ∧ acy I) (p1 p2 p3 : Int32) : kCpl I p1 p2 p3 = qCpl M p1 p2 p3 := by
  unfold kCpl qCpl
  cases h1 : rg p1 0 2 with
  | false => simp
  | true =>
    cases h2 : rg p2 0 2 with
    | false => simp
    | true =>
      obtain ⟨f, hf, rfl⟩ := rg_nat (n := 2) h1 (by decide)
      obtain ⟨t, ht, rfl⟩ := rg_nat (n := 2) h2 (by decide)
      by_cases e : f = t
      · subst e
        simp
      · rw [nI_clamp (show f < 2 ^ 31 by omega), nI_clamp (show t < 2 ^ 31 by omega), ld_eq h (f := t) (t := f) ht hf (fun q => e q.symm)]
theorem cci_s (I : Nat → Nat → Int32) (f : Nat) (acc : Int32) (t : Nat) : ccI I f acc (t + 1) = ccI I f acc t + bI (cpd I f t) := by
  show (if cpd I f t = true then ccI I f acc t + 1 else ccI I f acc t) = ccI I f acc t + bI (cpd I f t)
  cases cpd I f t
  · exact (Int32.add_zero _).symm
  · rfl
theorem cc_eq {I M : Nat → Nat → Int32} (h : riC I M) : ccO I 3 = rccF M 9 := by
  have c := fun (x y : Nat) (hx : x < 3) (hy : y < 3) => cp_eq h hx hy
  have e : ccO I 3 = ((((((((0 + bI (cpd I 0 0)) + bI (cpd I 0 1)) + bI (cpd I 0 2)) + bI (cpd I 1 0)) + bI (cpd I 1 1)) + bI (cpd I 1 2)) + bI (cpd I 2 0)) + bI (cpd I 2 1)) + bI (cpd I 2 2) := by
    show ccI I 2 (ccI I 1 (ccI I 0 0 3) 3) 3 = _
    simp only [cci_s]
    rfl
  rw [e, c 0 0 (by decide) (by decide), c 0 1 (by decide) (by decide), c 0 2 (by decide) (by decide), c 1 0 (by decide) (by decide), c 1 1 (by decide) (by decide), c 1 2 (by decide) (by decide), c 2 0 (by decide) (by decide), c 2 1 (by decide) (by decide), c 2 2 (by decide) (by decide)]
  rfl
theorem row_cpl {I : Nat → Nat → Int32} {f t : Nat} {x : Int32} (f2 t2 : Nat) : u2 I (20 + f) t x (20 + f2) t2 = if f2 = f ∧ t2 = t then x else I (20 + f2) t2 := by
  by_cases e : f2 = f
  · subst e
    rw [u2_same]
    by_cases e2 : t2 = t
    · subst e2
      rw [upd_at, if_pos ⟨rfl, rfl⟩]
    · rw [upd_ne e2, if_neg (fun z => e2 z.2)]
  · rw [u2_ne (by omega), if_neg (fun z => e z.1)]
theorem row_cplM {M : Nat → Nat → Int32} {f t : Nat} {x : Int32} (ht : t < 3) (f2 t2 : Nat) (ht2 : t2 < 3) : upd (M 5) (3 * f + t) x (3 * f2 + t2) = if f2 = f ∧ t2 = t then x else M 5 (3 * f2 + t2) := by
  by_cases e : f2 = f ∧ t2 = t
  · obtain ⟨rfl, rfl⟩ := e
    rw [upd_at, if_pos ⟨rfl, rfl⟩]
  · rw [upd_ne (by omega), if_neg e]
theorem riC_set {I M M2 : Nat → Nat → Int32} (h : riC I M) {f t : Nat} {x y : Int32} (ht : t < 3) (hc : cod x y) (e : M2 5 = upd (M 5) (3 * f + t) y) : riC (u2 I (20 + f) t x) M2 := by
  intro f2 t2 hf2 ht2
  rw [e, row_cpl, row_cplM ht f2 t2 ht2]
  by_cases q : f2 = f ∧ t2 = t
  · rw [if_pos q, if_pos q]
    exact hc
  · rw [if_neg q, if_neg q]
    exact h f2 t2 hf2 ht2
theorem cpd_set {I : Nat → Nat → Int32} {f t : Nat} {x : Int32} (f2 t2 : Nat) : cpd (u2 I (20 + f) t x) f2 t2 = if f2 = f ∧ t2 = t then !decide (x = 1) else cpd I f2 t2 := by
  unfold cpd
  rw [row_cpl]
  split <;> rfl
def acB (x01 x02 x10 x12 x20 x21 : Bool) : Bool := !(x01 && x10) && !(x02 && x20) && !(x12 && x21) && !(x01 && x12 && x20) && !(x02 && x21 && x10)
theorem acB_6 : ∀ x01 x02 x10 x12 x20 x21 : Bool, acB x01 x02 x10 x12 x20 x21 = true → (x01 = true → (x10 || (x12 && x20)) = false) ∧ (x02 = true → (x20 || (x21 && x10)) = false) ∧ (x10 = true → (x01 || (x02 && x21)) = false) ∧ (x12 = true → (x21 || (x20 && x01)) = false) ∧ (x20 = true → (x02 || (x01 && x12)) = false) ∧ (x21 = true → (x12 || (x10 && x02)) = false) := by
  intro a b c d e f
  cases a <;> cases b <;> cases c <;> cases d <;> cases e <;> cases f <;> decide
theorem acB_7 : ∀ x01 x02 x10 x12 x20 x21 : Bool, (x01 = true → (x10 || (x12 && x20)) = false) → (x02 = true → (x20 || (x21 && x10)) = false) → (x12 = true → (x21 || (x20 && x01)) = false) → acB x01 x02 x10 x12 x20 x21 = true := by
  intro a b c d e f
  cases a <;> cases b <;> cases c <;> cases d <;> cases e <;> cases f <;> decide
theorem ld_6 {I : Nat → Nat → Int32} (a0 : cpd I 0 0 = false) (a1 : cpd I 1 1 = false) (a2 : cpd I 2 2 = false) : ldt I 0 1 = (cpd I 0 1 || (cpd I 0 2 && cpd I 2 1)) ∧ ldt I 0 2 = (cpd I 0 2 || (cpd I 0 1 && cpd I 1 2)) ∧ ldt I 1 0 = (cpd I 1 0 || (cpd I 1 2 && cpd I 2 0)) ∧ ldt I 1 2 = (cpd I 1 2 || (cpd I 1 0 && cpd I 0 2)) ∧ ldt I 2 0 = (cpd I 2 0 || (cpd I 2 1 && cpd I 1 0)) ∧ ldt I 2 1 = (cpd I 2 1 || (cpd I 2 0 && cpd I 0 1)) := by
  unfold ldt
  rw [a0, a1, a2]
  simp
theorem acy_B {I : Nat → Nat → Int32} (h : acy I) : acB (cpd I 0 1) (cpd I 0 2) (cpd I 1 0) (cpd I 1 2) (cpd I 2 0) (cpd I 2 1) = true := by
  obtain ⟨l01, l02, l10, l12, l20, l21⟩ := ld_6 (acy_d h (f := 0) (by decide)) (acy_d h (f := 1) (by decide)) (acy_d h (f := 2) (by decide))
  exact acB_7 _ _ _ _ _ _ (fun z => by rw [← l10]; exact h 0 1 (by decide) (by decide) z) (fun z => by rw [← l20]; exact h 0 2 (by decide) (by decide) z) (fun z => by rw [← l21]; exact h 1 2 (by decide) (by decide) z)
theorem B_acy {I : Nat → Nat → Int32} (a0 : cpd I 0 0 = false) (a1 : cpd I 1 1 = false) (a2 : cpd I 2 2 = false) (h : acB (cpd I 0 1) (cpd I 0 2) (cpd I 1 0) (cpd I 1 2) (cpd I 2 0) (cpd I 2 1) = true) : acy I := by
  obtain ⟨l01, l02, l10, l12, l20, l21⟩ := ld_6 a0 a1 a2
  obtain ⟨h01, h02, h10, h12, h20, h21⟩ := acB_6 _ _ _ _ _ _ h
  intro f t hf ht z
  rcases (show f = 0 ∨ f = 1 ∨ f = 2 by omega) with rfl | rfl | rfl <;> rcases (show t = 0 ∨ t = 1 ∨ t = 2 by omega) with rfl | rfl | rfl
  · rw [a0] at z; cases z
  · rw [l10]; exact h01 z
  · rw [l20]; exact h02 z
  · rw [l01]; exact h10 z
  · rw [a1] at z; cases z
  · rw [l21]; exact h12 z
  · rw [l02]; exact h20 z
  · rw [l12]; exact h21 z
  · rw [a2] at z; cases z
theorem acB_u : ∀ x01 x02 x10 x12 x20 x21 v : Bool, acB x01 x02 x10 x12 x20 x21 = true → ((x10 || (x12 && x20)) = false → acB v x02 x10 x12 x20 x21 = true) ∧ ((x20 || (x21 && x10)) = false → acB x01 v x10 x12 x20 x21 = true) ∧ ((x01 || (x02 && x21)) = false → acB x01 x02 v x12 x20 x21 = true) ∧ ((x21 || (x20 && x01)) = false → acB x01 x02 x10 v x20 x21 = true) ∧ ((x02 || (x01 && x12)) = false → acB x01 x02 x10 x12 v x21 = true) ∧ ((x12 || (x10 && x02)) = false → acB x01 x02 x10 x12 x20 v = true) := by
  intro a b c d e f v
  cases a <;> cases b <;> cases c <;> cases d <;> cases e <;> cases f <;> cases v <;> decide
theorem acy_add {I : Nat → Nat → Int32} (h : acy I) {f t : Nat} (hf : f < 3) (ht : t < 3) (hne : ¬ f = t) {x : Int32} (hl : ldt I t f = false) : acy (u2 I (20 + f) t x) := by
  have a0 := acy_d h (f := 0) (by decide)
  have a1 := acy_d h (f := 1) (by decide)
  have a2 := acy_d h (f := 2) (by decide)
  obtain ⟨l01, l02, l10, l12, l20, l21⟩ := ld_6 a0 a1 a2
  have u := acB_u _ _ _ _ _ _ (!decide (x = 1)) (acy_B h)
  have dg : ∀ g, g < 3 → cpd (u2 I (20 + f) t x) g g = false := fun g hg => by
    rw [cpd_set, if_neg (fun z => hne (z.1.symm.trans z.2))]
    exact acy_d h hg
  apply B_acy (dg 0 (by decide)) (dg 1 (by decide)) (dg 2 (by decide))
  simp only [cpd_set]
  rcases (show f = 0 ∨ f = 1 ∨ f = 2 by omega) with rfl | rfl | rfl <;> rcases (show t = 0 ∨ t = 1 ∨ t = 2 by omega) with rfl | rfl | rfl
  · exact absurd rfl hne
  · exact u.1 (l10 ▸ hl)
  · exact u.2.1 (l20 ▸ hl)
  · exact u.2.2.1 (l01 ▸ hl)
  · exact absurd rfl hne
  · exact u.2.2.2.1 (l21 ▸ hl)
  · exact u.2.2.2.2.1 (l02 ▸ hl)
  · exact u.2.2.2.2.2 (l12 ▸ hl)
  · exact absurd rfl hne
theorem s_couple {I M : Nat → Nat → Int32} {J N : Nat → Nat → Int64} (hI : RI I M) (hJ : RJ J N) (p1 p2 p3 : Int32) : Stq I (kCpl I p1 p2 p3) (u2 I (20 + p1.toNatClampNeg) p2.toNatClampNeg p3) J J (rCpl M p1 p2 p3) N (ccO (u2 I (20 + p1.toNatClampNeg) p2.toNatClampNeg p3) 3) (aCpl M p1 p2 p3) := by
  have eq := kCpl_eq hI.2.2.2.1 p1 p2 p3
  by_cases e : kCpl I p1 p2 p3 = 0
  · have e2 : rCpl M p1 p2 p3 = rCplI M p1 p2 p3 := if_pos (by rw [← eq]; exact e)
    have e3 : aCpl M p1 p2 p3 = rccF (rCplI M p1 p2 p3) 9 := if_pos (by rw [← eq]; exact e)
    obtain ⟨h, hl⟩ := kk e
    simp only [Bool.and_eq_true, Bool.or_eq_true, Bool.not_eq_true', decide_eq_true_eq, decide_eq_false_iff_not] at h
    obtain ⟨⟨⟨h1, h2⟩, h3⟩, h4⟩ := h
    obtain ⟨f, hf, rfl⟩ := rg_nat (n := 2) h1 (by decide)
    obtain ⟨t, ht, rfl⟩ := rg_nat (n := 2) h2 (by decide)
    have hne : ¬ f = t := fun q => h3 (by rw [q])
    have hc : cod p3 (p3 / 12 + 2) := by
      rcases h4 with (rfl | rfl) | rfl
      · exact Or.inr (Or.inr (Or.inl ⟨rfl, by decide⟩))
      · exact Or.inr (Or.inr (Or.inr ⟨rfl, by decide⟩))
      · exact Or.inr (Or.inl ⟨rfl, by decide⟩)
    rw [nI_clamp (show f < 2 ^ 31 by omega), nI_clamp (show t < 2 ^ 31 by omega)] at hl
    unfold rCplI at e2 e3
    rw [nI_clamp (show f < 2 ^ 31 by omega), nI_clamp (show t < 2 ^ 31 by omega)] at e2 e3
    rw [e2, e3, nI_clamp (show f < 2 ^ 31 by omega), nI_clamp (show t < 2 ^ 31 by omega)]
    obtain ⟨i1, i2, i3, i4, i5, i6, i7, i8, i9⟩ := hI
    have c1 : riC (u2 I (20 + f) t p3) (u2 (tI M 0) 5 (3 * f + t) (p3 / 12 + 2)) := riC_set i4.1 ht hc rfl
    have n : ∀ i, i < 20 → u2 I (20 + f) t p3 i = I i := fun i hi => u2_ne (by omega) _ _
    refine stp_ok e rfl (cc_eq c1) ⟨?_, ?_, ?_, ⟨c1, acy_add i4.2 hf ht hne hl⟩, ?_, ?_, ?_, ?_, riW_same i9 (fun r hr => u2_ne (by omega) _ _) rfl⟩ hJ
    · unfold riR
      rw [n 0 (by decide), n 1 (by decide), n 2 (by decide)]
      exact i1
    · unfold riS
      rw [n 3 (by decide), n 4 (by decide)]
      exact i2
    · unfold riD
      rw [n 8 (by decide)]
      exact i3
    · unfold riU
      rw [n 8 (by decide)]
      exact i5
    · unfold riF
      rw [n 6 (by decide)]
      exact i6
    · unfold riO
      rw [n 7 (by decide)]
      exact i7
    · unfold riG
      rw [n 5 (by decide)]
      exact i8
  · exact stp_bad e hI (by rw [eq]; exact if_neg (by rw [← eq]; exact e)) hJ
theorem s_uncouple {I M : Nat → Nat → Int32} {J N : Nat → Nat → Int64} (hI : RI I M) (hJ : RJ J N) (p1 p2 : Int32) : Stq I (kUnc p1 p2) (u2 I (20 + p1.toNatClampNeg) p2.toNatClampNeg 1) J J (rUnc M p1 p2) N (bI (cpd I p1.toNatClampNeg p2.toNatClampNeg)) (aUnc M p1 p2) := by
  have hk : (kUnc p1 p2 = 0 ∧ (rg p1 0 2 && rg p2 0 2) = true) ∨ (kUnc p1 p2 = 1 ∧ _) := k01 _
  rcases hk with ⟨e, h⟩ | ⟨e, -⟩
  · have e2 : rUnc M p1 p2 = u2 (tI M 0) 5 (3 * p1.toNatClampNeg + p2.toNatClampNeg) 0 := if_pos e
    have e3 : aUnc M p1 p2 = bI (rcp (tI M 0) p1.toNatClampNeg p2.toNatClampNeg) := if_pos e
    simp only [Bool.and_eq_true] at h
    obtain ⟨f, hf, rfl⟩ := rg_nat (n := 2) h.1 (by decide)
    obtain ⟨t, ht, rfl⟩ := rg_nat (n := 2) h.2 (by decide)
    rw [e2, e3, nI_clamp (show f < 2 ^ 31 by omega), nI_clamp (show t < 2 ^ 31 by omega)]
    obtain ⟨i1, i2, i3, i4, i5, i6, i7, i8, i9⟩ := hI
    have c1 : riC (u2 I (20 + f) t 1) (u2 (tI M 0) 5 (3 * f + t) 0) := riC_set i4.1 ht (Or.inl ⟨rfl, rfl⟩) rfl
    have n : ∀ i, i < 20 → u2 I (20 + f) t 1 i = I i := fun i hi => u2_ne (by omega) _ _
    have ea : cpd I f t = rcp (tI M 0) f t := cp_eq (M := tI M 0) i4.1 hf ht
    refine stp_ok e rfl (by rw [ea]) ⟨?_, ?_, ?_, ⟨c1, acy_mono i4.2 (fun f2 t2 hf2 ht2 z => ?_)⟩, ?_, ?_, ?_, ?_, riW_same i9 (fun r hr => u2_ne (by omega) _ _) rfl⟩ hJ
    · unfold riR
      rw [n 0 (by decide), n 1 (by decide), n 2 (by decide)]
      exact i1
    · unfold riS
      rw [n 3 (by decide), n 4 (by decide)]
      exact i2
    · unfold riD
      rw [n 8 (by decide)]
      exact i3
    · rw [cpd_set] at z
      by_cases q : f2 = f ∧ t2 = t
      · rw [if_pos q] at z
        exact absurd z (by decide)
      · rwa [if_neg q] at z
    · unfold riU
      rw [n 8 (by decide)]
      exact i5
    · unfold riF
      rw [n 6 (by decide)]
      exact i6
    · unfold riO
      rw [n 7 (by decide)]
      exact i7
    · unfold riG
      rw [n 5 (by decide)]
      exact i8
  · rw [e]
    exact stp_bad n10 hI (if_neg (by rw [e]; exact n10)) hJ
theorem s_setSupply {I M : Nat → Nat → Int32} {J N : Nat → Nat → Int64} (hI : RI I M) (hJ : RJ J N) (p1 : Int32) : Stq I (kSup p1) (u2 I 8 1 p1) J J (rSup M p1) N (I 8 1) (aSup M p1) := by
  have hk : (kSup p1 = 0 ∧ (rg p1 10 1000) = true) ∨ (kSup p1 = 1 ∧ _) := k01 _
  rcases hk with ⟨e, h⟩ | ⟨e, -⟩
  · have e2 : rSup M p1 = u2 (tI M 0) 20 2 p1 := if_pos e
    have e3 : aSup M p1 = M 20 2 := if_pos e
    have h' := h
    simp only [rg, Bool.and_eq_true, decide_eq_true_eq, Int32.le_iff_toInt_le] at h'
    have t10 : (10 : Int32).toInt = 10 := by decide
    have t1000 : (1000 : Int32).toInt = 1000 := by decide
    have hz : rg p1 0 1000 = true := by
      simp only [rg, Bool.and_eq_true, decide_eq_true_eq, Int32.le_iff_toInt_le]
      have t0 : (0 : Int32).toInt = 0 := by decide
      omega
    obtain ⟨s, hs1, rfl⟩ := rg_nat (n := 1000) hz (by decide)
    rw [nI_toInt (by omega)] at h'
    rw [e2, e3]
    obtain ⟨i1, i2, i3, i4, i5, i6, i7, i8, i9⟩ := hI
    obtain ⟨s0, -, -, u1, u2'⟩ := i5
    exact stp_ok e rfl (by rw [u1, u2']) ⟨i1, i2, i3, riC_same i4 (fun f hf => u2_ne (by omega) _ _) rfl, ⟨s, by omega, by omega, rfl, rfl⟩, i6, i7, i8, riW_same i9 (fun f hf => u2_ne (by omega) _ _) rfl⟩ hJ
  · rw [e]
    exact stp_bad n10 hI (if_neg (by rw [e]; exact n10)) hJ
theorem s_setSag {I M : Nat → Nat → Int32} {J N : Nat → Nat → Int64} (hI : RI I M) (hJ : RJ J N) (p1 p2 : Int32) : Stq I (kSag p1 p2) (u2 I 6 p1.toNatClampNeg p2) J J (rSag M p1 p2) N (I 6 p1.toNatClampNeg) (aSag M p1 p2) := by
  have hk : (kSag p1 p2 = 0 ∧ (rg p1 1 10 && rg p2 0 100) = true) ∨ (kSag p1 p2 = 1 ∧ _) := k01 _
  rcases hk with ⟨e, h⟩ | ⟨e, -⟩
  · have e2 : rSag M p1 p2 = u2 (tI M 0) 6 p1.toNatClampNeg p2 := if_pos e
    have e3 : aSag M p1 p2 = M 6 p1.toNatClampNeg := if_pos e
    simp only [Bool.and_eq_true] at h
    obtain ⟨r, hr, rfl⟩ := rg_nat1 (n := 10) h.1 (by decide)
    obtain ⟨x, hx, rfl⟩ := rg_nat (n := 100) h.2 (by decide)
    rw [e2, e3, nI_clamp (show r < 2 ^ 31 by omega)]
    obtain ⟨i1, i2, i3, i4, i5, i6, i7, i8, i9⟩ := hI
    obtain ⟨y, hy, y1, y2⟩ := i6 r (by omega)
    refine stp_ok e rfl (by rw [y1, y2]) ⟨i1, i2, i3, riC_same i4 (fun f hf => u2_ne (by omega) _ _) rfl, i5, ?_, i7, i8, riW_same i9 (fun f hf => u2_ne (by omega) _ _) rfl⟩ hJ
    intro k hk
    show ∃ n, n ≤ 100 ∧ upd (M 6) r (nI x) k = nI n ∧ upd (I 6) r (nI x) k = nI n
    by_cases q : k = r
    · subst q
      simp only [upd_at]
      exact ⟨x, by omega, rfl, rfl⟩
    · simp only [upd_ne q]
      exact i6 k hk
  · rw [e]
    exact stp_bad n10 hI (if_neg (by rw [e]; exact n10)) hJ
theorem s_tune {I M : Nat → Nat → Int32} {J N : Nat → Nat → Int64} (hI : RI I M) (hJ : RJ J N) (p1 p2 : Int32) : Stq I (kTune p1 p2) (u2 I 7 p1.toNatClampNeg p2) J J (rTune M p1 p2) N (I 7 p1.toNatClampNeg) (aTune M p1 p2) := by
  have hk : (kTune p1 p2 = 0 ∧ (rg p1 0 11 && rg p2 (-50) 50) = true) ∨ (kTune p1 p2 = 1 ∧ _) := k01 _
  rcases hk with ⟨e, h⟩ | ⟨e, -⟩
  · have e2 : rTune M p1 p2 = u2 (tI M 0) 7 p1.toNatClampNeg p2 := if_pos e
    have e3 : aTune M p1 p2 = M 7 p1.toNatClampNeg := if_pos e
    simp only [Bool.and_eq_true] at h
    obtain ⟨r, hr, rfl⟩ := rg_nat (n := 11) h.1 (by decide)
    rw [e2, e3, nI_clamp (show r < 2 ^ 31 by omega)]
    obtain ⟨i1, i2, i3, i4, i5, i6, i7, i8, i9⟩ := hI
    refine stp_ok e rfl (i7 r (by omega)).1 ⟨i1, i2, i3, riC_same i4 (fun f hf => u2_ne (by omega) _ _) rfl, i5, i6, ?_, i8, riW_same i9 (fun f hf => u2_ne (by omega) _ _) rfl⟩ hJ
    intro k hk
    show upd (I 7) r p2 k = upd (M 7) r p2 k ∧ rg (upd (M 7) r p2 k) (-50) 50 = true
    by_cases q : k = r
    · subst q
      simp only [upd_at]
      exact ⟨trivial, h.2⟩
    · simp only [upd_ne q]
      exact i7 k hk
  · rw [e]
    exact stp_bad n10 hI (if_neg (by rw [e]; exact n10)) hJ
