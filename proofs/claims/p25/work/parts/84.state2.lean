/-! ===== the class' states: what holds of each, what each call keeps ===== -/
def GI (I : Nat → Nat → Int32) : Prop := (∀ r, r < 6 → (∃ q, q < 4 ∧ I 0 r = htv q) ∧ (∃ w, 1 ≤ w ∧ w ≤ 9 ∧ I 1 r = nI w) ∧ rg (I 2 r) (-50) 50 = true) ∧ (∀ s, s < 12 → ∃ j, j < 3 ∧ I 3 s = nI j) ∧ (∃ d, d < 4096 ∧ I 8 0 = nI d) ∧ ((∀ f t, f < 3 → t < 3 → vsh (I (20 + f) t)) ∧ acy I) ∧ (∃ s, 10 ≤ s ∧ s ≤ 1000 ∧ I 8 1 = nI s) ∧ (∀ k, k < 11 → ∃ n, n ≤ 100 ∧ I 6 k = nI n) ∧ (∀ k, k < 12 → rg (I 7 k) (-50) 50 = true) ∧ (∀ r, r < 8 → ∃ d, d < 4096 ∧ I 5 r = nI d) ∧ (∀ r k, r < 6 → k < 61 → ∃ n, n < 100 ∧ I (10 + r) k = nI n)
def wd (I : Nat → Nat → Int32) (r : Nat) : Nat := (I 1 r).toNatClampNeg
def suN (I : Nat → Nat → Int32) : Nat := (I 8 1).toNatClampNeg
def nd (I : Nat → Nat → Int32) (h : Nat → Nat) : Nat := nN (wd I) (sB I h)
def pp (I : Nat → Nat → Int32) (h : Nat → Nat) : Nat := pN (sB I h)
def fall (I : Nat → Nat → Int32) (h : Nat → Nat) : Int32 := I 6 (stN (nd I h) (suN I))
def lowV (I : Nat → Nat → Int32) (h : Nat → Nat) : Int32 := if (lf I (sB I h) 366).1 = true then (lf I (sB I h) 366).2 - fall I h else 0
theorem gi_wd {I : Nat → Nat → Int32} (h : GI I) : ∀ r, r < 6 → I 1 r = nI (wd I r) ∧ 1 ≤ wd I r ∧ wd I r ≤ 9 := fun r hr => by
  obtain ⟨-, ⟨w, h1, h2, e⟩, -⟩ := h.1 r hr
  have e2 : wd I r = w := by
    unfold wd
    rw [e, nI_clamp (by omega)]
  rw [e2]
  exact ⟨e, h1, h2⟩
theorem gi_su {I : Nat → Nat → Int32} (h : GI I) : I 8 1 = nI (suN I) ∧ 10 ≤ suN I ∧ suN I ≤ 1000 := by
  obtain ⟨s, h1, h2, e⟩ := h.2.2.2.2.1
  have e2 : suN I = s := by
    unfold suN
    rw [e, nI_clamp (by omega)]
  rw [e2]
  exact ⟨e, h1, h2⟩
theorem nd_bd {I : Nat → Nat → Int32} (h : GI I) (b : Nat → Nat → Bool) : nN (wd I) b ≤ 5124 := nN_bd (fun r hr => (gi_wd h r hr).2.2) b (Nat.le_refl 366)
theorem pp_bd (b : Nat → Nat → Bool) : pN b ≤ 366 := pN_bd b 366
section GE
variable {I : Nat → Nat → Int32} {J : Nat → Nat → Int64} {h : Nat → Nat}
theorem g_ss (hG : GI I) (hJ : gJ J h) : SS (fsW I J 0 0) (sB I h) ∧ fsW I J 0 0 0 = J 0 := ss_now hG.2.2.2.1.1 hG.2.1 hJ
theorem g_J (hG : GI I) (hJ : gJ J h) : gJ (fsW I J 0 0) h := fun t ht => by
  rw [(g_ss hG hJ).2]
  exact hJ t ht
theorem g_need (hG : GI I) (hJ : gJ J h) : wsO I (fsW I J 0 0) 6 = nI (nd I h) := ws_nN (fun r hr => (gi_wd hG r hr).1) (g_ss hG hJ).1 6 (Nat.le_refl _)
theorem g_pipes (hG : GI I) (hJ : gJ J h) : csF (fsW I J 0 0) 6 = nI (pp I h) := cs_pN (g_ss hG hJ).1 6 (Nat.le_refl _)
theorem g_sag (hG : GI I) (hJ : gJ J h) : stS (wsO I (fsW I J 0 0) 6) (I 8 1) = nI (stN (nd I h) (suN I)) := by
  have a := gi_su hG
  have b := nd_bd hG (sB I h)
  rw [g_need hG hJ, a.1]
  exact stS_stN (show nN (wd I) (sB I h) ≤ 6000 by omega) a.2.1 a.2.2
theorem g_fall (hG : GI I) (hJ : gJ J h) : fls I (fsW I J 0 0) = fall I h := by
  have e := g_sag hG hJ
  have k := stN_lt (nd I h) (suN I)
  unfold fls fall
  rw [e, if_neg (nI_pos (by omega)), if_neg (by rw [show (10 : Int32) = nI 10 from rfl, nI_ltI (by omega) (by omega)]; omega), nI_clamp (by omega)]
theorem fall_b (hG : GI I) (h : Nat → Nat) : ∃ f, f ≤ 100 ∧ fall I h = nI f := hG.2.2.2.2.2.1 _ (stN_lt _ _)
theorem g_low (hG : GI I) (hJ : gJ J h) : lwF I (fsW I J 0 0) = lowV I h := by
  unfold lwF lowV
  rw [lf_out (g_ss hG hJ).1 6 (Nat.le_refl _), g_fall hG hJ]
theorem g_snd (hG : GI I) (hJ : gJ J h) {r k : Nat} (hr : r < 6) (hk61 : k < 61) : hk (fsW I J 0 0 2 r) (nI k) = sB I h r k := by
  obtain ⟨S, -, e, b⟩ := (g_ss hG hJ).1 r hr
  rw [e, hk_lN hk61, b k hk61]
theorem g_more (hG : GI I) (hJ : gJ J h) {m k : Nat} (hm : m < 3) (hk61 : k < 61) : wsO I (fsW I (fsW I J 0 0) m (kb (nI k))) 6 = nI (nN (wd I) (sB I (rA h m (2 ^ k)))) ∧ gJ (fsW I (fsW I J 0 0) m (kb (nI k))) h := by
  have hJ1 := g_J hG hJ
  have a := ss_of hG.2.2.2.1.1 hG.2.1 hJ1 hm (x := 2 ^ k) (Nat.pow_lt_pow_right (by decide) hk61)
  rw [kb_lN (by omega)]
  refine ⟨ws_nN (fun r hr => (gi_wd hG r hr).1) a.1 6 (Nat.le_refl _), fun t ht => ?_⟩
  rw [a.2]
  exact hJ1 t ht
theorem g_pws (hG : GI I) : ∀ r k, r < 6 → k < 61 → -1300 ≤ (pws I r k).toInt ∧ (pws I r k).toInt ≤ 8000 := by
  intro r k hr hk61
  obtain ⟨⟨q, hq, q2⟩, -, db⟩ := hG.1 r hr
  have ob := hG.2.2.2.2.2.2.1 (k % 12) (Nat.mod_lt _ (by decide))
  have hh : -12 ≤ (htv q).toInt ∧ (htv q).toInt ≤ 19 := by
    rcases (show q = 0 ∨ q = 1 ∨ q = 2 ∨ q = 3 by omega) with rfl | rfl | rfl | rfl <;> decide
  have h1 := rg50 db
  have h2 := rg50 ob
  have k1 : (nI k).toInt = (k : Int) := nI_toInt (by omega)
  unfold pws
  rw [q2]
  have a1 : (nI k + htv q).toInt = k + (htv q).toInt := by rw [fb_addI (by omega) (by omega), k1]
  have a2 : (100 * (nI k + htv q) : Int32).toInt = 100 * (k + (htv q).toInt) := by
    have e100 : (100 : Int32).toInt = 100 := by decide
    rw [fb_mulI (by rw [e100, a1]; omega) (by rw [e100, a1]; omega), e100, a1]
  have a3 : (100 * (nI k + htv q) + I 7 (k % 12) : Int32).toInt = 100 * (k + (htv q).toInt) + (I 7 (k % 12)).toInt := by rw [fb_addI (by rw [a2]; omega) (by rw [a2]; omega), a2]
  rw [fb_addI (by rw [a3]; omega) (by rw [a3]; omega), a3]
  omega
/-- a state of the same couplers, stops and wears sounds the same -/
theorem g_same {I2 : Nat → Nat → Int32} (eC : ∀ f, f < 3 → I2 (20 + f) = I (20 + f)) (eD : I2 8 0 = I 8 0) (eS : ∀ n, n < 12 → dr (I 8 0) (nI n) = true → I2 3 n = I 3 n ∧ I2 4 n = I 4 n) (eW : ∀ r, r < 6 → I2 (10 + r) = I (10 + r)) : ∀ r k, r < 6 → k < 61 → sB I2 h r k = sB I h r k := by
  refine sB_eq ⟨fun f t hf _ => Or.inr (by rw [eC f hf]), fun _ => ble_rf _, fun n hn hd => ?_, fun r k hr _ => by rw [eW r hr]; exact id⟩ ⟨fun f t hf _ => Or.inr (by rw [eC f hf]), fun _ => ble_rf _, fun n hn hd => ?_, fun r k hr _ => by rw [eW r hr]; exact id⟩
  · rw [eD] at hd
    exact ⟨hd, (eS n hn hd).1.symm, (eS n hn hd).2.symm⟩
  · exact ⟨by rw [eD]; exact hd, (eS n hn hd).1, (eS n hn hd).2⟩
theorem g_C {I2 : Nat → Nat → Int32} (hG : GI I) (eC : ∀ f, f < 3 → I2 (20 + f) = I (20 + f)) : (∀ f t, f < 3 → t < 3 → vsh (I2 (20 + f) t)) ∧ acy I2 := by
  have ec : ∀ f t, f < 3 → cpd I2 f t = cpd I f t := fun f t hf => by
    unfold cpd
    rw [eC f hf]
  refine ⟨fun f t hf ht => by rw [eC f hf]; exact hG.2.2.2.1.1 f t hf ht, fun f t hf ht hc => ?_⟩
  rw [ec f t hf] at hc
  have e := hG.2.2.2.1.2 f t hf ht hc
  unfold ldt at e ⊢
  rw [ec t f ht, ec t 0 ht, ec t 1 ht, ec t 2 ht, ec 0 f (by decide), ec 1 f (by decide), ec 2 f (by decide)]
  exact e
theorem g_W {I2 : Nat → Nat → Int32} (hG : GI I) (eW : ∀ r, r < 6 → I2 (10 + r) = I (10 + r)) : ∀ r k, r < 6 → k < 61 → ∃ n, n < 100 ∧ I2 (10 + r) k = nI n := fun r k hr hk61 => by
  rw [eW r hr]
  exact hG.2.2.2.2.2.2.2.2 r k hr hk61
/-! setRank -/
def mRank (I : Nat → Nat → Int32) (r q w : Nat) (d : Int32) : Nat → Nat → Int32 := u2 (u2 (u2 I 0 r (htv q)) 1 r (nI w)) 2 r d
theorem mRank_ne (I : Nat → Nat → Int32) (r q w : Nat) (d : Int32) {i : Nat} (h : 3 ≤ i) : mRank I r q w d i = I i := by
  unfold mRank
  rw [u2_ne (by omega), u2_ne (by omega), u2_ne (by omega)]
theorem gi_rank (hG : GI I) {r q w : Nat} {d : Int32} (hq : q < 4) (hw : 1 ≤ w) (hw9 : w ≤ 9) (hd : rg d (-50) 50 = true) : GI (mRank I r q w d) := by
  obtain ⟨i1, i2, i3, i4, i5, i6, i7, i8, i9⟩ := hG
  have hG : GI I := ⟨i1, i2, i3, i4, i5, i6, i7, i8, i9⟩
  refine ⟨fun r2 hr2 => ?_, i2, i3, g_C hG (fun f hf => mRank_ne _ _ _ _ _ (by omega)), i5, i6, i7, i8, g_W hG (fun r2 _ => mRank_ne _ _ _ _ _ (by omega))⟩
  show (∃ q', q' < 4 ∧ upd (I 0) r (htv q) r2 = htv q') ∧ (∃ w', 1 ≤ w' ∧ w' ≤ 9 ∧ upd (I 1) r (nI w) r2 = nI w') ∧ rg (upd (I 2) r d r2) (-50) 50 = true
  by_cases e : r2 = r
  · subst e
    simp only [upd_at]
    exact ⟨⟨q, hq, rfl⟩, ⟨w, hw, hw9, rfl⟩, hd⟩
  · simp only [upd_ne e]
    exact i1 r2 hr2
theorem pp_rank {r q w : Nat} {d : Int32} : pp (mRank I r q w d) h = pp I h := pN_cg (g_same (fun f hf => mRank_ne _ _ _ _ _ (by omega)) rfl (fun _ _ _ => ⟨rfl, rfl⟩) (fun r2 _ => mRank_ne _ _ _ _ _ (by omega)))
/-! setStop -/
def mStop (I : Nat → Nat → Int32) (s m r : Nat) : Nat → Nat → Int32 := u2 (u2 I 3 s (nI m)) 4 s (nI r)
theorem mStop_ne (I : Nat → Nat → Int32) (s m r : Nat) {i : Nat} (h : 5 ≤ i) : mStop I s m r i = I i := by
  unfold mStop
  rw [u2_ne (by omega), u2_ne (by omega)]
theorem gi_stop (hG : GI I) {s m r : Nat} (hm : m < 3) : GI (mStop I s m r) := by
  obtain ⟨i1, i2, i3, i4, i5, i6, i7, i8, i9⟩ := hG
  have hG : GI I := ⟨i1, i2, i3, i4, i5, i6, i7, i8, i9⟩
  refine ⟨i1, fun s2 hs2 => ?_, i3, g_C hG (fun f hf => mStop_ne _ _ _ _ (by omega)), i5, i6, i7, i8, g_W hG (fun r2 _ => mStop_ne _ _ _ _ (by omega))⟩
  show ∃ j, j < 3 ∧ upd (I 3) s (nI m) s2 = nI j
  by_cases e : s2 = s
  · subst e
    rw [upd_at]
    exact ⟨m, hm, rfl⟩
  · rw [upd_ne e]
    exact i2 s2 hs2
theorem sb_stop {s m r : Nat} (hd : dr (I 8 0) (nI s) = false) : ∀ r2 k, r2 < 6 → k < 61 → sB (mStop I s m r) h r2 k = sB I h r2 k := by
  refine g_same (fun f hf => mStop_ne _ _ _ _ (by omega)) rfl (fun n hn hd2 => ?_) (fun r2 _ => mStop_ne _ _ _ _ (by omega))
  have e : ¬ n = s := fun z => by rw [z, hd] at hd2; cases hd2
  show upd (I 3) s (nI m) n = I 3 n ∧ upd (I 4) s (nI r) n = I 4 n
  rw [upd_ne e, upd_ne e]
  exact ⟨rfl, rfl⟩
theorem nd_stop {s m r : Nat} (hd : dr (I 8 0) (nI s) = false) : nd (mStop I s m r) h = nd I h := nN_cg (sb_stop hd) (fun _ _ => rfl)
/-! couplers -/
def bN (b : Bool) : Nat := if b = true then 1 else 0
def ccN (I : Nat → Nat → Int32) : Nat := bN (cpd I 0 0) + bN (cpd I 0 1) + bN (cpd I 0 2) + bN (cpd I 1 0) + bN (cpd I 1 1) + bN (cpd I 1 2) + bN (cpd I 2 0) + bN (cpd I 2 1) + bN (cpd I 2 2)
theorem bI_bN (b : Bool) : bI b = nI (bN b) := by cases b <;> rfl
theorem cc_N (I : Nat → Nat → Int32) : ccO I 3 = nI (ccN I) := by
  have e : ccO I 3 = ((((((((0 + bI (cpd I 0 0)) + bI (cpd I 0 1)) + bI (cpd I 0 2)) + bI (cpd I 1 0)) + bI (cpd I 1 1)) + bI (cpd I 1 2)) + bI (cpd I 2 0)) + bI (cpd I 2 1)) + bI (cpd I 2 2) := by
    show ccI I 2 (ccI I 1 (ccI I 0 0 3) 3) 3 = _
    simp only [cci_s]
    rfl
  rw [e, show (0 : Int32) = nI 0 from rfl]
  simp only [bI_bN, nI_add, Nat.zero_add]
  rfl
theorem bN_le (b : Bool) : bN b ≤ 1 := by cases b <;> decide
theorem cc_3 (hG : GI I) : ccN I ≤ 3 := by
  obtain ⟨⟨a0, a1, a2⟩, s⟩ := acy_six (c := cpd I) hG.2.2.2.1.2
  have f0 : bN false = 0 := rfl
  have b01 := bN_le (cpd I 0 1)
  have b02 := bN_le (cpd I 0 2)
  have b10 := bN_le (cpd I 1 0)
  have b12 := bN_le (cpd I 1 2)
  have b20 := bN_le (cpd I 2 0)
  have b21 := bN_le (cpd I 2 1)
  unfold ccN
  rw [a0, a1, a2]
  rcases s with s | s | s | s | s | s <;> (rw [s.1, s.2.1, s.2.2] ; omega)
theorem row_c {f t : Nat} {x : Int32} (f2 t2 : Nat) : u2 I (20 + f) t x (20 + f2) t2 = if f2 = f ∧ t2 = t then x else I (20 + f2) t2 := by
  by_cases e : f2 = f
  · subst e
    rw [u2_same]
    by_cases e2 : t2 = t
    · subst e2
      rw [upd_at, if_pos ⟨rfl, rfl⟩]
    · rw [upd_ne e2, if_neg (fun z => e2 z.2)]
  · rw [u2_ne (by omega), if_neg (fun z => e z.1)]
theorem cpd_c {f t : Nat} {x : Int32} (f2 t2 : Nat) : cpd (u2 I (20 + f) t x) f2 t2 = if f2 = f ∧ t2 = t then !decide (x = 1) else cpd I f2 t2 := by
  unfold cpd
  rw [row_c]
  split
  · rfl
  · rfl
theorem ccN_c {f t : Nat} (hf : f < 3) (ht : t < 3) (x : Int32) : ccN (u2 I (20 + f) t x) + bN (cpd I f t) = ccN I + bN (!decide (x = 1)) := by
  unfold ccN
  simp only [cpd_c]
  rcases (show f = 0 ∨ f = 1 ∨ f = 2 by omega) with rfl | rfl | rfl <;> rcases (show t = 0 ∨ t = 1 ∨ t = 2 by omega) with rfl | rfl | rfl <;> simp <;> omega
theorem gi_C2 (hG : GI I) {f t : Nat} {x : Int32} (hA : (∀ f2 t2, f2 < 3 → t2 < 3 → vsh (u2 I (20 + f) t x (20 + f2) t2)) ∧ acy (u2 I (20 + f) t x)) (hf : f < 3) : GI (u2 I (20 + f) t x) := by
  have n : ∀ i, i < 20 → u2 I (20 + f) t x i = I i := fun i hi => u2_ne (by omega) _ _
  generalize u2 I (20 + f) t x = I2 at *
  obtain ⟨i1, i2, i3, i4, i5, i6, i7, i8, i9⟩ := hG
  refine ⟨?_, ?_, ?_, hA, ?_, ?_, ?_, ?_, ?_⟩
  · rw [n 0 (by decide), n 1 (by decide), n 2 (by decide)]
    exact i1
  · rw [n 3 (by decide)]
    exact i2
  · rw [n 8 (by decide)]
    exact i3
  · rw [n 8 (by decide)]
    exact i5
  · rw [n 6 (by decide)]
    exact i6
  · rw [n 7 (by decide)]
    exact i7
  · rw [n 5 (by decide)]
    exact i8
  · intro r k hr hk61
    rw [n (10 + r) (by omega)]
    exact i9 r k hr hk61
theorem ldt_le {I2 : Nat → Nat → Int32} (e : ∀ f t, f < 3 → t < 3 → cpd I2 f t = true → cpd I f t = true) {f t : Nat} (hf : f < 3) (ht : t < 3) (hl : ldt I2 f t = true) : ldt I f t = true := by
  have key : ∀ b, b < 3 → (cpd I2 f b && cpd I2 b t) = true → (cpd I f b && cpd I b t) = true := fun b hb z => by
    rw [Bool.and_eq_true] at z ⊢
    exact ⟨e f b hf hb z.1, e b t hb ht z.2⟩
  unfold ldt at hl ⊢
  simp only [Bool.or_eq_true] at hl ⊢
  rcases hl with ((x | x) | x) | x
  · exact Or.inl (Or.inl (Or.inl (e f t hf ht x)))
  · exact Or.inl (Or.inl (Or.inr (key 0 (by decide) x)))
  · exact Or.inl (Or.inr (key 1 (by decide) x))
  · exact Or.inr (key 2 (by decide) x)
theorem gi_unc (hG : GI I) {f t : Nat} (hf : f < 3) : GI (u2 I (20 + f) t 1) := by
  refine gi_C2 hG ⟨fun f2 t2 hf2 ht2 => ?_, fun f2 t2 hf2 ht2 hc => ?_⟩ hf
  · rw [row_c]
    split
    · exact Or.inl rfl
    · exact hG.2.2.2.1.1 f2 t2 hf2 ht2
  · have e : ∀ f2 t2, f2 < 3 → t2 < 3 → cpd (u2 I (20 + f) t 1) f2 t2 = true → cpd I f2 t2 = true := fun f2 t2 _ _ z => by
      rw [cpd_c] at z
      split at z
      · cases z
      · exact z
    cases hl : ldt (u2 I (20 + f) t 1) t2 f2 with
    | false => rfl
    | true =>
      have h1 := ldt_le e ht2 hf2 hl
      rw [hG.2.2.2.1.2 f2 t2 hf2 ht2 (e f2 t2 hf2 ht2 hc)] at h1
      cases h1
theorem acy_add {c : Nat → Nat → Bool} (ha : ∀ f t, f < 3 → t < 3 → c f t = true → (c t f || (c t 0 && c 0 f) || (c t 1 && c 1 f) || (c t 2 && c 2 f)) = false) {f t : Nat} (hf : f < 3) (ht : t < 3) (hne : ¬ f = t) (hl : (c t f || (c t 0 && c 0 f) || (c t 1 && c 1 f) || (c t 2 && c 2 f)) = false) {c2 : Nat → Nat → Bool} (e : ∀ x y, c2 x y = if x = f ∧ y = t then true else c x y) : ∀ x y, x < 3 → y < 3 → c2 x y = true → (c2 y x || (c2 y 0 && c2 0 x) || (c2 y 1 && c2 1 x) || (c2 y 2 && c2 2 x)) = false := by
  have s := acy_six ha
  obtain ⟨⟨a0, a1, a2⟩, s⟩ := s
  simp only [e]
  intro x y hx hy
  rcases (show f = 0 ∨ f = 1 ∨ f = 2 by omega) with rfl | rfl | rfl <;> rcases (show t = 0 ∨ t = 1 ∨ t = 2 by omega) with rfl | rfl | rfl <;> first | (exact absurd rfl hne) | (rcases (show x = 0 ∨ x = 1 ∨ x = 2 by omega) with rfl | rfl | rfl <;> rcases (show y = 0 ∨ y = 1 ∨ y = 2 by omega) with rfl | rfl | rfl <;> simp [a0, a1, a2] at hl ⊢ <;> (clear ha e; generalize c 0 1 = x01 at *; generalize c 0 2 = x02 at *; generalize c 1 0 = x10 at *; generalize c 1 2 = x12 at *; generalize c 2 0 = x20 at *; generalize c 2 1 = x21 at *; cases x01 <;> cases x02 <;> cases x10 <;> cases x12 <;> cases x20 <;> cases x21 <;> (revert s hl; decide)))
theorem gi_cpl (hG : GI I) {f t : Nat} {x : Int32} (hf : f < 3) (ht : t < 3) (hne : ¬ f = t) (hx : vsh x) (hx1 : ¬ x = 1) (hl : ldt I t f = false) : GI (u2 I (20 + f) t x) := by
  refine gi_C2 hG ⟨fun f2 t2 hf2 ht2 => ?_, ?_⟩ hf
  · rw [row_c]
    split
    · exact hx
    · exact hG.2.2.2.1.1 f2 t2 hf2 ht2
  · exact acy_add (c := cpd I) (c2 := cpd (u2 I (20 + f) t x)) hG.2.2.2.1.2 hf ht hne hl (fun a b => by rw [cpd_c, decide_eq_false hx1]; rfl)
theorem le_unc {f t : Nat} (hf : f < 3) : leS (u2 I (20 + f) t 1) I h h := by
  refine ⟨fun f2 t2 _ _ => ?_, fun _ => ble_rf _, fun n _ hd => ?_, fun r k hr _ hw => ?_⟩
  · rw [row_c]
    split
    · exact Or.inl rfl
    · exact Or.inr rfl
  · rw [u2_ne (show ¬ 8 = 20 + f by omega)] at hd
    rw [u2_ne (show ¬ 3 = 20 + f by omega), u2_ne (show ¬ 4 = 20 + f by omega)]
    exact ⟨hd, rfl, rfl⟩
  · rw [u2_ne (show ¬ 10 + r = 20 + f by omega)] at hw
    exact hw
theorem pp_unc {f t : Nat} (hf : f < 3) : pp (u2 I (20 + f) t 1) h ≤ pp I h := pN_le (sB_le (le_unc hf))
theorem unc_id {f t : Nat} (hc : cpd I f t = false) : u2 I (20 + f) t 1 = I := by
  have e : I (20 + f) t = 1 := by simpa [cpd] using hc
  funext i j
  by_cases q : i = 20 + f
  · subst q
    rw [u2_same]
    by_cases q2 : j = t
    · subst q2
      rw [upd_at, e]
    · rw [upd_ne q2]
  · rw [u2_ne q]
end GE
