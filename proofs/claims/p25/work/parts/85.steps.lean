/-! ===== what each call does to the state ===== -/
theorem u2_id (I : Nat → Nat → Int32) (k j : Nat) : u2 I k j (I k j) = I := by
  funext a b
  by_cases q : a = k
  · subst q
    rw [u2_same]
    by_cases q2 : b = j
    · subst q2
      rw [upd_at]
    · rw [upd_ne q2]
  · rw [u2_ne q]
theorem u2_u2 (I : Nat → Nat → Int32) (k j : Nat) (x y : Int32) : u2 (u2 I k j x) k j y = u2 I k j y := by
  funext a b
  by_cases q : a = k
  · subst q
    rw [u2_same, u2_same, u2_same]
    by_cases q2 : b = j
    · subst q2
      rw [upd_at, upd_at]
    · rw [upd_ne q2, upd_ne q2, upd_ne q2]
  · rw [u2_ne q, u2_ne q, u2_ne q]
section GS
variable {I : Nat → Nat → Int32} {J : Nat → Nat → Int64} {h : Nat → Nat}
theorem u2_back {k j : Nat} {x y : Int32} (e : I k j = y) : u2 (u2 I k j x) k j y = I := by
  rw [u2_u2, ← e, u2_id]
/-! draw, recall -/
def drw (d s : Nat) (b : Bool) : Nat := if d.testBit s = b then d else d ^^^ 2 ^ s
theorem drw_bit (d s : Nat) (b : Bool) (n : Nat) : (drw d s b).testBit n = if n = s then b else d.testBit n := by
  unfold drw
  by_cases q : d.testBit s = b
  · rw [if_pos q]
    by_cases e : n = s
    · rw [if_pos e, e, q]
    · rw [if_neg e]
  · rw [if_neg q, fb_bit_flip]
    by_cases e : n = s
    · rw [if_pos e, e]
      cases b <;> cases z : d.testBit s <;> simp_all
    · rw [if_neg e]
      simp [e]
theorem drw_lt {d s : Nat} (hd : d < 4096) (hs : s < 12) (b : Bool) : drw d s b < 4096 := by
  unfold drw
  split
  · exact hd
  · exact Nat.xor_lt_two_pow (n := 12) hd (Nat.pow_lt_pow_right (by decide) hs)
theorem dr_m {d s : Nat} (e : I 8 0 = nI d) (hs : s < 12) (b : Bool) : drI I (nI s) (bI b) = u2 I 8 0 (nI (drw d s b)) := by
  unfold drI drw
  rw [e, dr_bit hs, sh12 hs, fb_xorI]
  by_cases q : d.testBit s = b
  · rw [q, if_pos rfl, if_pos rfl, ← e, u2_id]
  · have : ¬ bI (d.testBit s) = bI b := by
      revert q
      cases d.testBit s <;> cases b <;> simp [bI]
    rw [if_neg this, if_neg q]
theorem drw_back (d s : Nat) (b : Bool) : drw (drw d s b) s (d.testBit s) = d := by
  apply Nat.eq_of_testBit_eq
  intro n
  rw [drw_bit, drw_bit]
  by_cases e : n = s
  · rw [if_pos e, e]
  · rw [if_neg e, if_neg e]
theorem gi_d (hG : GI I) {d : Nat} (hd : d < 4096) : GI (u2 I 8 0 (nI d)) := by
  obtain ⟨i1, i2, i3, i4, i5, i6, i7, i8, i9⟩ := hG
  have hG : GI I := ⟨i1, i2, i3, i4, i5, i6, i7, i8, i9⟩
  exact ⟨i1, i2, ⟨d, hd, rfl⟩, g_C hG (fun f hf => u2_ne (by omega) _ _), i5, i6, i7, i8, g_W hG (fun r _ => u2_ne (by omega) _ _)⟩
theorem le_dI {d d2 : Nat} (e : I 8 0 = nI d) (hb : ∀ n, n < 12 → d.testBit n = true → d2.testBit n = true) : leS I (u2 I 8 0 (nI d2)) h h := by
  refine ⟨fun f t hf _ => Or.inr (by rw [u2_ne (show ¬ 20 + f = 8 by omega)]), fun _ => ble_rf _, fun n hn hd => ⟨?_, rfl, rfl⟩, fun r k hr _ hw => by rw [u2_ne (show ¬ 10 + r = 8 by omega)]; exact hw⟩
  rw [e, dr_bit hn] at hd
  show dr (nI d2) (nI n) = true
  rw [dr_bit hn]
  exact hb n hn hd
theorem le_Id {d d2 : Nat} (e : I 8 0 = nI d) (hb : ∀ n, n < 12 → d2.testBit n = true → d.testBit n = true) : leS (u2 I 8 0 (nI d2)) I h h := by
  refine ⟨fun f t hf _ => Or.inr (by rw [u2_ne (show ¬ 20 + f = 8 by omega)]), fun _ => ble_rf _, fun n hn hd => ⟨?_, rfl, rfl⟩, fun r k hr _ hw => by rw [u2_ne (show ¬ 10 + r = 8 by omega)] at hw; exact hw⟩
  have hd : dr (nI d2) (nI n) = true := hd
  rw [dr_bit hn] at hd
  rw [e, dr_bit hn]
  exact hb n hn hd
theorem pp_on {d s : Nat} (e : I 8 0 = nI d) : pp I h ≤ pp (u2 I 8 0 (nI (drw d s true))) h := pN_le (sB_le (le_dI e (fun n _ q => by
  rw [drw_bit]
  split
  · rfl
  · exact q)))
theorem pp_off {d s : Nat} (e : I 8 0 = nI d) : pp (u2 I 8 0 (nI (drw d s false))) h ≤ pp I h := pN_le (sB_le (le_Id e (fun n _ q => by
  rw [drw_bit] at q
  split at q
  · cases q
  · exact q)))
/-! supply, tune, keep -/
theorem gi_sup (hG : GI I) {s : Nat} (h1 : 10 ≤ s) (h2 : s ≤ 1000) : GI (u2 I 8 1 (nI s)) := by
  obtain ⟨i1, i2, i3, i4, i5, i6, i7, i8, i9⟩ := hG
  have hG : GI I := ⟨i1, i2, i3, i4, i5, i6, i7, i8, i9⟩
  exact ⟨i1, i2, i3, g_C hG (fun f hf => u2_ne (by omega) _ _), ⟨s, h1, h2, rfl⟩, i6, i7, i8, g_W hG (fun r _ => u2_ne (by omega) _ _)⟩
theorem nd_sup {x : Int32} : nd (u2 I 8 1 x) h = nd I h := nN_cg (g_same (fun f hf => u2_ne (by omega) _ _) rfl (fun _ _ _ => ⟨rfl, rfl⟩) (fun r _ => u2_ne (by omega) _ _)) (fun _ _ => rfl)
theorem gi_tune (hG : GI I) {k : Nat} {x : Int32} (hx : rg x (-50) 50 = true) : GI (u2 I 7 k x) := by
  obtain ⟨i1, i2, i3, i4, i5, i6, i7, i8, i9⟩ := hG
  have hG : GI I := ⟨i1, i2, i3, i4, i5, i6, i7, i8, i9⟩
  refine ⟨i1, i2, i3, g_C hG (fun f hf => u2_ne (by omega) _ _), i5, i6, fun j hj => ?_, i8, g_W hG (fun r _ => u2_ne (by omega) _ _)⟩
  show rg (upd (I 7) k x j) (-50) 50 = true
  by_cases e : j = k
  · subst e
    rw [upd_at]
    exact hx
  · rw [upd_ne e]
    exact i7 j hj
theorem gi_keep (hG : GI I) {r : Nat} : GI (u2 I 5 r (I 8 0)) := by
  obtain ⟨i1, i2, i3, i4, i5, i6, i7, i8, i9⟩ := hG
  have hG : GI I := ⟨i1, i2, i3, i4, i5, i6, i7, i8, i9⟩
  refine ⟨i1, i2, i3, g_C hG (fun f hf => u2_ne (by omega) _ _), i5, i6, i7, fun j hj => ?_, g_W hG (fun r _ => u2_ne (by omega) _ _)⟩
  show ∃ d, d < 4096 ∧ upd (I 5) r (I 8 0) j = nI d
  by_cases e : j = r
  · subst e
    rw [upd_at]
    exact i3
  · rw [upd_ne e]
    exact i8 j hj
theorem nd_keep {r : Nat} {x : Int32} : nd (u2 I 5 r x) h = nd I h := nN_cg (g_same (fun f hf => u2_ne (by omega) _ _) rfl (fun _ _ _ => ⟨rfl, rfl⟩) (fun r _ => u2_ne (by omega) _ _)) (fun _ _ => rfl)
theorem bc_12 {d : Nat} (hd : d < 4096) : bcI (nI d) = nI (pcN d 12) := bcI_pc hd
theorem bc_x {d d2 : Nat} (hd : d < 4096) (h2 : d2 < 4096) : bcI (nI d ^^^ nI d2) = nI (pcN (d ^^^ d2) 12) := by
  rw [fb_xorI]
  exact bcI_pc (Nat.xor_lt_two_pow (n := 12) hd h2)
/-! sound, repair -/
def mSo (I : Nat → Nat → Int32) (J : Nat → Nat → Int64) (tm : Nat) : Nat → Nat → Int32 := woR (fsW I J 0 0) (nI tm) I 6
theorem so_at (hG : GI I) (hJ : gJ J h) (tm : Nat) : (∀ r k, r < 6 → k < 61 → mSo I J tm (10 + r) k = if sB I h r k = true then I (10 + r) k + nI tm else I (10 + r) k) ∧ ∀ i, (i < 10 ∨ 16 ≤ i) → mSo I J tm i = I i := by
  refine ⟨fun r k hr hk61 => ?_, fun i hi => (wo_out 6).2 i (fun r hr => by omega)⟩
  unfold mSo
  rw [(wo_out 6).1 r hr k, g_snd hG hJ hr hk61]
  exact ifc ⟨fun z => z.2, fun z => ⟨hk61, z⟩⟩
theorem sb_w (hG : GI I) {r k : Nat} (hr : r < 6) (hk61 : k < 61) (hs : sB I h r k = true) : ∃ n, n < 50 ∧ I (10 + r) k = nI n := by
  obtain ⟨n, hn, e⟩ := hG.2.2.2.2.2.2.2.2 r k hr hk61
  refine ⟨n, ?_, e⟩
  unfold sB at hs
  rw [Bool.and_eq_true, decide_eq_true_eq, e, show (50 : Int32) = nI 50 from rfl, nI_ltI (by omega) (by omega)] at hs
  exact hs.2
theorem gi_so (hG : GI I) (hJ : gJ J h) {tm : Nat} (ht : tm ≤ 50) : GI (mSo I J tm) := by
  obtain ⟨a, n⟩ := so_at hG hJ tm
  have w := fun r k hr hk61 => sb_w (h := h) hG (r := r) (k := k) hr hk61
  generalize mSo I J tm = I2 at *
  obtain ⟨i1, i2, i3, i4, i5, i6, i7, i8, i9⟩ := hG
  have hG : GI I := ⟨i1, i2, i3, i4, i5, i6, i7, i8, i9⟩
  refine ⟨?_, ?_, ?_, g_C hG (fun f hf => n _ (Or.inr (by omega))), ?_, ?_, ?_, ?_, fun r k hr hk61 => ?_⟩
  · rw [n 0 (by decide), n 1 (by decide), n 2 (by decide)]
    exact i1
  · rw [n 3 (by decide)]
    exact i2
  · rw [n 8 (by decide)]
    exact i3
  · rw [n 8 (by decide)]
    exact i5
  · rw [n 6 (by decide)]
    exact i6
  · rw [n 7 (by decide)]
    exact i7
  · rw [n 5 (by decide)]
    exact i8
  · rw [a r k hr hk61]
    split
    · rename_i q
      obtain ⟨x, hx, e⟩ := w r k hr hk61 q
      rw [e, nI_add]
      exact ⟨_, by omega, rfl⟩
    · exact i9 r k hr hk61
theorem le_so (hG : GI I) (hJ : gJ J h) {tm : Nat} (ht : tm ≤ 50) : leS (mSo I J tm) I h h := by
  obtain ⟨a, n⟩ := so_at hG hJ tm
  refine ⟨fun f t hf _ => Or.inr (by rw [n (20 + f) (Or.inr (by omega))]), fun _ => ble_rf _, fun s hs hd => ?_, fun r k hr hk61 hw => ?_⟩
  · rw [n 8 (by decide)] at hd
    rw [n 3 (by decide), n 4 (by decide)]
    exact ⟨hd, rfl, rfl⟩
  · rw [a r k hr hk61] at hw
    split at hw
    · rename_i q
      obtain ⟨x, hx, e⟩ := sb_w hG hr hk61 q
      rw [e, show (50 : Int32) = nI 50 from rfl, nI_ltI (by omega) (by omega)]
      exact hx
    · exact hw
theorem pp_so (hG : GI I) (hJ : gJ J h) {tm : Nat} (ht : tm ≤ 50) : pp (mSo I J tm) h ≤ pp I h := pN_le (sB_le (le_so hG hJ ht))
theorem pp_so50 (hG : GI I) (hJ : gJ J h) {tm : Nat} (ht : tm = 50) : pp (mSo I J tm) h = 0 := by
  refine pN_0 (fun r k hr hk61 => ?_)
  cases q : sB (mSo I J tm) h r k with
  | false => rfl
  | true =>
    exfalso
    have q1 := sB_le (le_so hG hJ (by omega)) r k hr hk61 q
    obtain ⟨x, hx, e⟩ := sb_w hG hr hk61 q1
    unfold sB at q
    rw [Bool.and_eq_true, decide_eq_true_eq, (so_at hG hJ tm).1 r k hr hk61, if_pos q1, e, nI_add, show (50 : Int32) = nI 50 from rfl, nI_ltI (by omega) (by omega)] at q
    omega
theorem rp_ne {r : Nat} {i : Nat} (hi : ¬ i = 10 + r) : rpI I r 61 i = I i := (rp_at 61).2 i hi
theorem rp_in {r k : Nat} (hk61 : k < 61) : rpI I r 61 (10 + r) k = 0 := by rw [(rp_at 61).1 k, if_pos hk61]
theorem gi_rp (hG : GI I) {r : Nat} (hr : r < 6) : GI (rpI I r 61) := by
  have n : ∀ i, ¬ i = 10 + r → rpI I r 61 i = I i := fun i hi => rp_ne hi
  have z : ∀ k, k < 61 → rpI I r 61 (10 + r) k = 0 := fun k hk61 => rp_in hk61
  generalize rpI I r 61 = I2 at *
  obtain ⟨i1, i2, i3, i4, i5, i6, i7, i8, i9⟩ := hG
  have hG : GI I := ⟨i1, i2, i3, i4, i5, i6, i7, i8, i9⟩
  refine ⟨?_, ?_, ?_, g_C hG (fun f hf => n _ (by omega)), ?_, ?_, ?_, ?_, fun r2 k hr2 hk61 => ?_⟩
  · rw [n 0 (by omega), n 1 (by omega), n 2 (by omega)]
    exact i1
  · rw [n 3 (by omega)]
    exact i2
  · rw [n 8 (by omega)]
    exact i3
  · rw [n 8 (by omega)]
    exact i5
  · rw [n 6 (by omega)]
    exact i6
  · rw [n 7 (by omega)]
    exact i7
  · rw [n 5 (by omega)]
    exact i8
  · by_cases q : r2 = r
    · subst q
      rw [z k hk61]
      exact ⟨0, by decide, rfl⟩
    · rw [n (10 + r2) (by omega)]
      exact i9 r2 k hr2 hk61
theorem pp_rp {r : Nat} (hr : r < 6) : pp I h ≤ pp (rpI I r 61) h := by
  refine pN_le (sB_le ⟨fun f t hf _ => Or.inr (by rw [rp_ne (show ¬ 20 + f = 10 + r by omega)]), fun _ => ble_rf _, fun s hs hd => ?_, fun r2 k hr2 hk61 hw => ?_⟩)
  · rw [rp_ne (show ¬ 8 = 10 + r by omega), rp_ne (show ¬ 3 = 10 + r by omega), rp_ne (show ¬ 4 = 10 + r by omega)]
    exact ⟨hd, rfl, rfl⟩
  · by_cases q : r2 = r
    · subst q
      rw [rp_in hk61]
      decide
    · rw [rp_ne (show ¬ 10 + r2 = 10 + r by omega)]
      exact hw
/-! keys -/
def hc (h : Nat → Nat) : Nat := pcN (h 0) 61 + pcN (h 1) 61 + pcN (h 2) 61
def h0 : Nat → Nat := fun _ => 0
theorem g_lg (hJ : gJ J h) : gJ (lgJ J 3) h0 ∧ lgA J 3 = nI (hc h) := by
  refine ⟨fun t ht => ⟨lgJ_zero J 3 t ht, by show 0 < 2 ^ 61; decide⟩, ?_⟩
  have e : ∀ i, i < 3 → bcL (lgJ J i 0 i) = nI (pcN (h i) 61) := fun i hi => by
    rw [lgJ_row J i i (Nat.le_refl _), (hJ i hi).1, bcL_pc (hJ i hi).2]
  show 0 + bcL (lgJ J 0 0 0) + bcL (lgJ J 1 0 1) + bcL (lgJ J 2 0 2) = nI (pcN (h 0) 61 + pcN (h 1) 61 + pcN (h 2) 61)
  rw [e 0 (by decide), e 1 (by decide), e 2 (by decide), show (0 : Int32) = nI 0 from rfl, nI_add, nI_add, nI_add, Nat.zero_add]
theorem hc_0 : hc h0 = 0 := by decide +kernel
theorem shN_0 (i : Int32) : shN i 0 = 0 := by
  unfold shN
  split
  · rfl
  · split
    · rfl
    · split
      · rfl
      · rfl
theorem gst_0 {S : Nat → Nat → Nat → Nat} {R : Nat → Nat} (hS : ∀ f t, S f t 0 = 0) (hR : ∀ k, R k = 0) (f t : Nat) : ∀ k, gst S R f t k = 0 := by
  intro k
  unfold gst
  rw [hR t, hR f, hS, hR k]
  split <;> rfl
theorem gpass_0 {S : Nat → Nat → Nat → Nat} {R : Nat → Nat} (hS : ∀ f t, S f t 0 = 0) (hR : ∀ k, R k = 0) : ∀ k, gpass S R k = 0 := by
  unfold gpass
  exact gst_0 hS (gst_0 hS (gst_0 hS (gst_0 hS (gst_0 hS (gst_0 hS (gst_0 hS (gst_0 hS (gst_0 hS hR _ _) _ _) _ _) _ _) _ _) _ _) _ _) _ _) _ _
theorem kdN_0 {T : Nat → Nat} (hT : ∀ k, T k = 0) (r : Nat) : ∀ n, kdN I T r n = 0
  | 0 => rfl
  | n + 1 => by
    show (if dr (I 8 0) (nI n) = true then (if I 4 n = nI r then kdN I T r n ||| T (I 3 n).toNatClampNeg else kdN I T r n) else kdN I T r n) = 0
    rw [kdN_0 hT r n, hT]
    split
    · split <;> rfl
    · rfl
theorem pp_h0 : pp I h0 = 0 := pN_0 (fun r k _ _ => by
  have hS : ∀ f t, sI I f t 0 = 0 := fun f t => shN_0 _
  have e : kdN I (tT I h0) r 12 = 0 := kdN_0 (gpass_0 hS (gpass_0 hS (fun _ => rfl))) r 12
  unfold sB
  rw [e, Nat.zero_testBit]
  rfl)
def hSet (h : Nat → Nat) (m k : Nat) (b : Bool) : Nat → Nat := fun t => if t = m then (if (h m).testBit k = b then h m else h m ^^^ 2 ^ k) else h t
theorem g_hold (hJ : gJ J h) {m k : Nat} (hm : m < 3) (hk61 : k < 61) (b : Bool) : hk (J 0 m) (nI k) = (h m).testBit k ∧ gJ (hoJ J (nI m) (nI k) (bI b)) (hSet h m k b) := by
  obtain ⟨x1, hx⟩ := hJ m hm
  have e : hk (J 0 m) (nI k) = (h m).testBit k := by rw [x1, hk_lN hk61]
  have hx2 : h m ^^^ 2 ^ k < 2 ^ 61 := Nat.xor_lt_two_pow hx (Nat.pow_lt_pow_right (by decide) hk61)
  refine ⟨e, fun t ht => ?_⟩
  unfold hoJ hSet
  rw [nI_clamp (show m < 2 ^ 31 by omega), e]
  by_cases q : (h m).testBit k = b
  · rw [q, if_pos rfl, if_pos rfl]
    split
    · rename_i z
      rw [z]
      exact ⟨x1, hx⟩
    · exact hJ t ht
  · have : ¬ bI ((h m).testBit k) = bI b := by
      revert q
      cases (h m).testBit k <;> cases b <;> simp [bI]
    rw [if_neg this, if_neg q, u2L_same]
    split
    · rename_i z
      rw [z, updL_at, x1, kb_lN (by omega), fb_xorL]
      exact ⟨rfl, hx2⟩
    · rename_i z
      rw [updL_ne z]
      exact hJ t ht
theorem hSet_id {m k : Nat} {b : Bool} (e : (h m).testBit k = b) : hSet h m k b = h := by
  funext t
  unfold hSet
  rw [if_pos e]
  split
  · rename_i z
    rw [z]
  · rfl
theorem pc_flip {x k : Nat} : ∀ n, k < n → pcN (x ^^^ 2 ^ k) n + bN (x.testBit k) = pcN x n + bN (!x.testBit k)
  | 0, hn => absurd hn (Nat.not_lt_zero k)
  | n + 1, hn => by
    show pcN (x ^^^ 2 ^ k) n + (if (x ^^^ 2 ^ k).testBit n = true then 1 else 0) + bN (x.testBit k) = pcN x n + (if x.testBit n = true then 1 else 0) + bN (!x.testBit k)
    rw [fb_bit_flip]
    by_cases e : n = k
    · subst e
      rw [pcN_cong (n := x ^^^ 2 ^ n) (m := x) n (fun j hj => by rw [fb_bit_flip]; simp [show ¬ j = n by omega])]
      cases x.testBit n <;> simp [bN]
    · have i := pc_flip (x := x) (k := k) n (by omega)
      simp only [e, decide_false, Bool.xor_false]
      omega
theorem hc_set {m k : Nat} (hm : m < 3) (hk61 : k < 61) {b : Bool} (e : ¬ (h m).testBit k = b) : hc (hSet h m k b) + bN ((h m).testBit k) = hc h + bN b := by
  have f := pc_flip (x := h m) (k := k) 61 hk61
  have eb : (!(h m).testBit k) = b := by
    revert e
    cases (h m).testBit k <;> cases b <;> simp
  rw [eb] at f
  have em : hSet h m k b m = h m ^^^ 2 ^ k := by
    unfold hSet
    rw [if_pos rfl, if_neg e]
  have en : ∀ t, ¬ t = m → hSet h m k b t = h t := fun t ht => if_neg ht
  unfold hc
  rcases (show m = 0 ∨ m = 1 ∨ m = 2 by omega) with rfl | rfl | rfl
  · rw [em, en 1 (by decide), en 2 (by decide)]
    omega
  · rw [em, en 0 (by decide), en 2 (by decide)]
    omega
  · rw [em, en 0 (by decide), en 1 (by decide)]
    omega
theorem bset_61 {x k : Nat} : (x.testBit k = true → x ||| 2 ^ k = x) ∧ (x.testBit k = false → x ||| 2 ^ k = x ^^^ 2 ^ k) ∧ (x.testBit k = true → (x ^^^ 2 ^ k) ||| 2 ^ k = x) := by
  refine ⟨fun e => ?_, fun e => ?_, fun e => ?_⟩ <;> (apply Nat.eq_of_testBit_eq; intro i; by_cases q : i = k)
  · rw [fb_bit_set, q, e]
    rfl
  · rw [fb_bit_set]
    simp [q]
  · rw [fb_bit_set, fb_bit_flip, q, e]
    simp
  · rw [fb_bit_set, fb_bit_flip]
    simp [q]
  · rw [fb_bit_set, q, e]
    simp
  · rw [fb_bit_set, fb_bit_flip]
    simp [q]
theorem rA_had {m k : Nat} (e : (h m).testBit k = true) : rA h m (2 ^ k) = h := by
  funext t
  unfold rA
  split
  · rename_i z
    rw [z]
    exact bset_61.1 e
  · rfl
theorem rA_on {m k : Nat} (e : (h m).testBit k = false) : rA h m (2 ^ k) = hSet h m k true := by
  funext t
  unfold rA hSet
  rw [e, if_neg Bool.false_ne_true]
  split
  · rename_i z
    rw [z]
    exact bset_61.2.1 e
  · rfl
theorem rA_off {m k : Nat} (e : (h m).testBit k = true) : rA (hSet h m k false) m (2 ^ k) = h := by
  funext t
  unfold rA hSet
  rw [e, if_neg (show ¬ true = false by decide)]
  split
  · rename_i z
    rw [z]
    exact bset_61.2.2 e
  · rfl
theorem nd_more (m x : Nat) : nd I h ≤ nN (wd I) (sB I (rA h m x)) := nN_le (sB_le ⟨fun _ _ _ _ => Or.inr rfl, fun t => by
  unfold rA
  split
  · exact ble_orl _ _
  · exact ble_rf _, fun _ _ hd => ⟨hd, rfl, rfl⟩, fun _ _ _ _ hw => hw⟩)
end GS
