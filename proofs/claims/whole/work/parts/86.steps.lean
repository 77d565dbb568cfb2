/-! ===== one step of each call, of both sides: drawn stops, keys, what sounds ===== -/
theorem orI (a b : Nat) : nI a ||| nI b = nI (a ||| b) := by
  apply Int32.toBitVec_inj.mp
  apply BitVec.eq_of_getLsbD_eq
  intro i hi
  show ((BitVec.ofNat 32 a) ||| (BitVec.ofNat 32 b)).getLsbD i = (BitVec.ofNat 32 (a ||| b)).getLsbD i
  rw [BitVec.getLsbD_or, BitVec.getLsbD_ofNat, BitVec.getLsbD_ofNat, BitVec.getLsbD_ofNat, Nat.testBit_or]
  simp [hi]
theorem sh12 {n : Nat} (hn : n < 12) : ((1 : Int32) <<< ((nI n) &&& 31)) = nI (2 ^ n) := by
  rcases (show n = 0 ∨ n = 1 ∨ n = 2 ∨ n = 3 ∨ n = 4 ∨ n = 5 ∨ n = 6 ∨ n = 7 ∨ n = 8 ∨ n = 9 ∨ n = 10 ∨ n = 11 by omega) with rfl | rfl | rfl | rfl | rfl | rfl | rfl | rfl | rfl | rfl | rfl | rfl <;> rfl
theorem bset {d s W : Nat} (hd : d < 2 ^ W) {t : Bool} (ht : d.testBit s = t) : d &&& (2 ^ s ^^^ (2 ^ W - 1)) = (if t = false then d else d ^^^ 2 ^ s) ∧ d ||| 2 ^ s = (if t = true then d else d ^^^ 2 ^ s) := by
  have top : ∀ i, d.testBit i = true → i < W := fun i hi => by
    apply Classical.byContradiction
    intro q
    have := Nat.testBit_lt_two_pow (Nat.lt_of_lt_of_le hd (Nat.pow_le_pow_right (by decide) (show W ≤ i by omega)))
    rw [this] at hi
    cases hi
  constructor
  · apply Nat.eq_of_testBit_eq
    intro i
    rw [Nat.testBit_and, Nat.testBit_xor, Nat.testBit_two_pow, Nat.testBit_two_pow_sub_one]
    cases hb : d.testBit i with
    | false =>
      cases t with
      | false => rw [if_pos rfl, hb]; rfl
      | true =>
        have : ¬ s = i := fun q => by rw [q, hb] at ht; cases ht
        rw [if_neg (by decide), fb_bit_flip, hb]
        simp [show ¬ i = s from fun q => this q.symm]
    | true =>
      have hi := top i hb
      cases t with
      | false =>
        have : ¬ s = i := fun q => by rw [q, hb] at ht; cases ht
        rw [if_pos rfl, hb]
        simp [this, hi]
      | true =>
        rw [if_neg (by decide), fb_bit_flip, hb]
        by_cases q : s = i
        · subst q
          simp [hi]
        · simp [q, hi, show ¬ i = s from fun z => q z.symm]
  · apply Nat.eq_of_testBit_eq
    intro i
    rw [fb_bit_set]
    cases t with
    | true =>
      rw [if_pos rfl]
      by_cases q : i = s
      · subst q
        rw [ht]
        rfl
      · simp [q]
    | false =>
      rw [if_neg (by decide), fb_bit_flip]
      by_cases q : i = s
      · subst q
        rw [ht]
        simp
      · simp [q]
theorem s_draw {I M : Nat → Nat → Int32} {J N : Nat → Nat → Int64} (hI : RI I M) (hJ : RJ J N) (p1 : Int32) (b : Bool) : Stq I (kDraw p1) (drI I p1 (bI b)) J J (rDraw M p1 (bI b)) N (bI (dr (I 8 0) p1)) (aDraw M p1) := by
  have hk : (kDraw p1 = 0 ∧ (rg p1 0 11) = true) ∨ (kDraw p1 = 1 ∧ _) := k01 _
  rcases hk with ⟨e, h⟩ | ⟨e, -⟩
  · have e2 : rDraw M p1 (bI b) = u2 (tI M 0) 20 1 (if bI b = 0 then M 20 1 &&& (((1 : Int32) <<< (p1 &&& 31)) ^^^ (-1)) else M 20 1 ||| ((1 : Int32) <<< (p1 &&& 31))) := if_pos e
    have e3 : aDraw M p1 = bI (hs (M 20 1).toInt64 p1) := if_pos e
    obtain ⟨s, hs12, rfl⟩ := rg_nat (n := 11) h (by decide)
    obtain ⟨i1, i2, i3, i4, i5, i6, i7, i8, i9⟩ := hI
    rw [e2, e3, dr_hs i3 hs12]
    obtain ⟨d, hd, d1, d2⟩ := i3
    have bs := bset (W := 32) (s := s) (Nat.lt_trans hd (by decide)) rfl
    have hx : d ^^^ 2 ^ s < 4096 := Nat.xor_lt_two_pow (n := 12) hd (Nat.pow_lt_pow_right (by decide) hs12)
    have en : (-1 : Int32) = nI (2 ^ 32 - 1) := rfl
    have hM : (if bI b = 0 then M 20 1 &&& (((1 : Int32) <<< (nI s &&& 31)) ^^^ (-1)) else M 20 1 ||| ((1 : Int32) <<< (nI s &&& 31))) = nI (if d.testBit s = b then d else d ^^^ 2 ^ s) := by
      rw [d1, sh12 hs12, en, fb_xorI, fa_andN, orI, bs.1, bs.2]
      cases b <;> rfl
    have hd' : drI I (nI s) (bI b) 8 0 = nI (if d.testBit s = b then d else d ^^^ 2 ^ s) := by
      unfold drI
      rw [d2, dr_bit hs12, sh12 hs12, fb_xorI]
      by_cases q : d.testBit s = b
      · rw [q, if_pos rfl, if_pos rfl, d2]
      · have : ¬ bI (d.testBit s) = bI b := by
          revert q
          cases d.testBit s <;> cases b <;> simp [bI]
        rw [if_neg this, if_neg q]
        rfl
    have hlt : (if d.testBit s = b then d else d ^^^ 2 ^ s) < 4096 := by
      split
      · exact hd
      · exact hx
    have n : ∀ i, ¬ i = 8 → drI I (nI s) (bI b) i = I i := fun i hi => by
      unfold drI
      split
      · rfl
      · exact u2_ne hi _ _
    have n8 : drI I (nI s) (bI b) 8 1 = I 8 1 := by
      unfold drI
      split
      · rfl
      · rfl
    generalize drI I (nI s) (bI b) = I2 at *
    rw [hM]
    refine stp_ok e rfl rfl ⟨?_, ?_, ⟨_, hlt, rfl, hd'⟩, riC_same i4 (fun f hf => n _ (by omega)) rfl, ?_, ?_, ?_, ?_, riW_same i9 (fun f hf => n _ (by omega)) rfl⟩ hJ
    · unfold riR
      rw [n 0 (by decide), n 1 (by decide), n 2 (by decide)]
      exact i1
    · unfold riS
      rw [n 3 (by decide), n 4 (by decide)]
      exact i2
    · unfold riU
      rw [n8]
      exact i5
    · unfold riF
      rw [n 6 (by decide)]
      exact i6
    · unfold riO
      rw [n 7 (by decide)]
      exact i7
    · unfold riG
      rw [n 5 (by decide)]
      exact i8
  · rw [e]
    exact stp_bad n10 hI (if_neg (by rw [e]; exact n10)) hJ
theorem s_keep {I M : Nat → Nat → Int32} {J N : Nat → Nat → Int64} (hI : RI I M) (hJ : RJ J N) (p1 : Int32) : Stq I (kReg p1) (u2 I 5 p1.toNatClampNeg (I 8 0)) J J (rKeep M p1) N (bcI (I 8 0)) (aKeep M p1) := by
  have hk : (kReg p1 = 0 ∧ (rg p1 0 7) = true) ∨ (kReg p1 = 1 ∧ _) := k01 _
  rcases hk with ⟨e, h⟩ | ⟨e, -⟩
  · have e2 : rKeep M p1 = u2 (tI M 0) 8 p1.toNatClampNeg (M 20 1) := if_pos e
    have e3 : aKeep M p1 = cnF (M 20 1).toInt64 61 := if_pos e
    obtain ⟨r, hr, rfl⟩ := rg_nat (n := 7) h (by decide)
    rw [e2, e3, nI_clamp (show r < 2 ^ 31 by omega)]
    obtain ⟨i1, i2, i3, i4, i5, i6, i7, i8, i9⟩ := hI
    have i3' := i3
    obtain ⟨d, hd, d1, d2⟩ := i3
    refine stp_ok e rfl (by rw [d1, d2, bcI_cn hd]) ⟨i1, i2, i3', riC_same i4 (fun f hf => u2_ne (by omega) _ _) rfl, i5, i6, i7, ?_, riW_same i9 (fun f hf => u2_ne (by omega) _ _) rfl⟩ hJ
    intro k hk
    show ∃ n, n < 4096 ∧ upd (M 8) r (M 20 1) k = nI n ∧ upd (I 5) r (I 8 0) k = nI n
    by_cases q : k = r
    · subst q
      simp only [upd_at]
      exact ⟨d, hd, d1, d2⟩
    · simp only [upd_ne q]
      exact i8 k hk
  · rw [e]
    exact stp_bad n10 hI (if_neg (by rw [e]; exact n10)) hJ
theorem s_recall {I M : Nat → Nat → Int32} {J N : Nat → Nat → Int64} (hI : RI I M) (hJ : RJ J N) (p1 : Int32) : Stq I (kReg p1) (u2 I 8 0 (I 5 p1.toNatClampNeg)) J J (rRec M p1) N (bcI (I 8 0 ^^^ I 5 p1.toNatClampNeg)) (aRec M p1) := by
  have hk : (kReg p1 = 0 ∧ (rg p1 0 7) = true) ∨ (kReg p1 = 1 ∧ _) := k01 _
  rcases hk with ⟨e, h⟩ | ⟨e, -⟩
  · have e2 : rRec M p1 = u2 (tI M 0) 20 1 (M 8 p1.toNatClampNeg) := if_pos e
    have e3 : aRec M p1 = cnF (M 20 1 ^^^ M 8 p1.toNatClampNeg).toInt64 61 := if_pos e
    obtain ⟨r, hr, rfl⟩ := rg_nat (n := 7) h (by decide)
    rw [e2, e3, nI_clamp (show r < 2 ^ 31 by omega)]
    obtain ⟨i1, i2, i3, i4, i5, i6, i7, i8, i9⟩ := hI
    obtain ⟨d, hd, d1, d2⟩ := i3
    obtain ⟨g, hg, g1, g2⟩ := i8 r (by omega)
    refine stp_ok e rfl (by rw [d1, d2, g1, g2, fb_xorI, bcI_cn (Nat.xor_lt_two_pow (n := 12) hd hg)]) ⟨i1, i2, ⟨g, hg, g1, g2⟩, riC_same i4 (fun f hf => u2_ne (by omega) _ _) rfl, i5, i6, i7, i8, riW_same i9 (fun f hf => u2_ne (by omega) _ _) rfl⟩ hJ
  · rw [e]
    exact stp_bad n10 hI (if_neg (by rw [e]; exact n10)) hJ
theorem s_hold {I M : Nat → Nat → Int32} {J N : Nat → Nat → Int64} (hI : RI I M) (hJ : RJ J N) (p1 p2 : Int32) (b : Bool) : Stq I (kMK p1 p2) I (hoJ J p1 p2 (bI b)) J (tI M (kMK p1 p2)) (rHoldJ N p1 p2 (bI b)) (bI (hk (J 0 p1.toNatClampNeg) p2)) (aHold N p1 p2) := by
  have hk0 : (kMK p1 p2 = 0 ∧ (rg p1 0 2 && rg p2 0 60) = true) ∨ (kMK p1 p2 = 1 ∧ _) := k01 _
  rcases hk0 with ⟨e, h⟩ | ⟨e, -⟩
  · have e2 : rHoldJ N p1 p2 (bI b) = u2L N 0 p1.toNatClampNeg (if bI b = 0 then N 0 p1.toNatClampNeg &&& (kb p2 ^^^ (-1)) else N 0 p1.toNatClampNeg ||| kb p2) := if_pos e
    have e3 : aHold N p1 p2 = bI (hs (N 0 p1.toNatClampNeg) p2) := if_pos e
    simp only [Bool.and_eq_true] at h
    obtain ⟨m, hm, rfl⟩ := rg_nat (n := 2) h.1 (by decide)
    obtain ⟨k, hk61, rfl⟩ := rg_nat (n := 60) h.2 (by decide)
    obtain ⟨x, hx, x1, x2⟩ := hJ m hm
    have bs := bset (W := 64) (s := k) (Nat.lt_trans hx (by decide)) rfl
    have hx2 : x ^^^ 2 ^ k < 2 ^ 61 := Nat.xor_lt_two_pow hx (Nat.pow_lt_pow_right (by decide) hk61)
    have hlt : (if x.testBit k = b then x else x ^^^ 2 ^ k) < 2 ^ 61 := by
      split
      · exact hx
      · exact hx2
    have hM : (if bI b = 0 then N 0 m &&& (kb (nI k) ^^^ (-1)) else N 0 m ||| kb (nI k)) = lN (if x.testBit k = b then x else x ^^^ 2 ^ k) := by
      rw [x2, kb_lN (by omega), notL, fb_andL, fb_orL, bs.1, bs.2]
      cases b <;> rfl
    unfold hoJ
    rw [e2, e3, nI_clamp (show m < 2 ^ 31 by omega), hM, e]
    refine stp_ok rfl rfl (by rw [x1, x2, hk_lN hk61, hs_lN hx hk61]) hI.t ?_
    intro m2 hm2
    have hc : (if bI (hk (J 0 m) (nI k)) = bI b then J else u2L J 0 m (J 0 m ^^^ kb (nI k))) 0 m2 = if m2 = m then lN (if x.testBit k = b then x else x ^^^ 2 ^ k) else J 0 m2 := by
      rw [x1, hk_lN hk61, kb_lN (by omega), fb_xorL]
      by_cases q : x.testBit k = b
      · rw [q, if_pos rfl, if_pos rfl]
        split
        · rename_i z
          rw [z, x1]
        · rfl
      · have : ¬ bI (x.testBit k) = bI b := by
          revert q
          cases x.testBit k <;> cases b <;> simp [bI]
        rw [if_neg this, if_neg q, u2L_same]
        split
        · rename_i z
          rw [z, updL_at]
        · rename_i z
          rw [updL_ne z]
    rw [hc, u2L_same]
    by_cases q : m2 = m
    · subst q
      rw [if_pos rfl, updL_at]
      exact ⟨_, hlt, rfl, rfl⟩
    · rw [if_neg q, updL_ne q]
      exact hJ m2 hm2
  · have e2 : rHoldJ N p1 p2 (bI b) = N := if_neg (by rw [e]; exact n10)
    rw [e, e2]
    exact stp_bad n10 hI rfl hJ
theorem s_sound {I M : Nat → Nat → Int32} {J N : Nat → Nat → Int64} (hI : RI I M) (hJ : RJ J N) (p1 : Int32) : Stq I (kSnd p1) (woR (fsW I J 0 0) p1 I 6) (fsW I J 0 0) J (rSndI M N p1) (rSndJ M N p1) (csF (fsW I J 0 0) 6) (aSnd M N p1) := by
  have hk : (kSnd p1 = 0 ∧ (rg p1 1 50) = true) ∨ (kSnd p1 = 1 ∧ _) := k01 _
  rcases hk with ⟨e, h⟩ | ⟨e, -⟩
  · have e2 : rSndI M N p1 = mwF (fnJ (tI M 0) N) p1 (tI M 0) 366 := if_pos e
    have e3 : rSndJ M N p1 = fnJ (tI M 0) N := if_pos e
    have e4 : aSnd M N p1 = csM (fnJ (tI M 0) N) 6 := if_pos e
    have S := snd_now (M := tI M 0) hI.t hJ
    have hW := wear_eq (M := tI M 0) hI.2.2.2.2.2.2.2.2 S.1 p1
    have n : ∀ i, i < 10 → woR (fsW I J 0 0) p1 I 6 i = I i := fun i hi => (wo_out 6).2 i (fun r hr => by omega)
    have n20 : ∀ i, 16 ≤ i → woR (fsW I J 0 0) p1 I 6 i = I i := fun i hi => (wo_out 6).2 i (fun r hr => by omega)
    have m : ∀ i, ¬ i = 9 → mwF (fnJ (tI M 0) N) p1 (tI M 0) 366 i = tI M 0 i := (mw_at 366).2
    rw [e2, e3, e4]
    have ec := cs_eq 6 S.1
    have ej : RJ (fsW I J 0 0) (fnJ (tI M 0) N) := hJ.of S.2.2.1 S.2.2.2
    generalize woR (fsW I J 0 0) p1 I 6 = I2 at *
    generalize mwF (fnJ (tI M 0) N) p1 (tI M 0) 366 = M2 at *
    obtain ⟨i1, i2, i3, i4, i5, i6, i7, i8, i9⟩ := hI
    refine stp_ok e (by rw [m 20 (by decide)]; rfl) ec ⟨?_, ?_, ?_, riC_same i4 (fun f hf => n20 _ (by omega)) (m 5 (by decide)), ?_, ?_, ?_, ?_, hW⟩ ej
    · unfold riR
      rw [n 0 (by decide), n 1 (by decide), n 2 (by decide), m 0 (by decide), m 1 (by decide), m 2 (by decide)]
      exact i1
    · unfold riS
      rw [n 3 (by decide), n 4 (by decide), m 3 (by decide), m 4 (by decide)]
      exact i2
    · unfold riD
      rw [n 8 (by decide), m 20 (by decide)]
      exact i3
    · unfold riU
      rw [n 8 (by decide), m 20 (by decide)]
      exact i5
    · unfold riF
      rw [n 6 (by decide), m 6 (by decide)]
      exact i6
    · unfold riO
      rw [n 7 (by decide), m 7 (by decide)]
      exact i7
    · unfold riG
      rw [n 5 (by decide), m 8 (by decide)]
      exact i8
  · have e2 : rSndJ M N p1 = N := if_neg (by rw [e]; exact n10)
    rw [e, e2]
    exact stp_bad n10 hI (if_neg (by rw [e]; exact n10)) hJ
theorem s_repair {I M : Nat → Nat → Int32} {J N : Nat → Nat → Int64} (hI : RI I M) (hJ : RJ J N) (p1 : Int32) : Stq I (kRk p1) (rpI I p1.toNatClampNeg 61) J J (rRep M p1) N (bcL (muF (I (10 + p1.toNatClampNeg)) 61)) (aRep M p1) := by
  have hk : (kRk p1 = 0 ∧ (rg p1 0 5) = true) ∨ (kRk p1 = 1 ∧ _) := k01 _
  rcases hk with ⟨e, h⟩ | ⟨e, -⟩
  · have e2 : rRep M p1 = mrI (tI M 0) p1.toNatClampNeg 61 := if_pos e
    have e4 : aRep M p1 = mrA (tI M 0) p1.toNatClampNeg 61 := if_pos e
    obtain ⟨r, hr, rfl⟩ := rg_nat (n := 5) h (by decide)
    rw [e2, e4, nI_clamp (show r < 2 ^ 31 by omega)]
    obtain ⟨i1, i2, i3, i4, i5, i6, i7, i8, i9⟩ := hI
    have i9' : riW I (tI M 0) := i9
    have ec := rep_eq i9' (r := r) (by omega)
    have hW := rep_W i9' r
    have n : ∀ i, i < 10 → rpI I r 61 i = I i := fun i hi => (rp_at 61).2 i (by omega)
    have n20 : ∀ i, 16 ≤ i → rpI I r 61 i = I i := fun i hi => (rp_at 61).2 i (by omega)
    have m : ∀ i, ¬ i = 9 → mrI (tI M 0) r 61 i = tI M 0 i := (mr_at 61).2
    generalize rpI I r 61 = I2 at *
    generalize mrI (tI M 0) r 61 = M2 at *
    refine stp_ok e (by rw [m 20 (by decide)]; rfl) ec ⟨?_, ?_, ?_, riC_same i4 (fun f hf => n20 _ (by omega)) (m 5 (by decide)), ?_, ?_, ?_, ?_, hW⟩ hJ
    · unfold riR
      rw [n 0 (by decide), n 1 (by decide), n 2 (by decide), m 0 (by decide), m 1 (by decide), m 2 (by decide)]
      exact i1
    · unfold riS
      rw [n 3 (by decide), n 4 (by decide), m 3 (by decide), m 4 (by decide)]
      exact i2
    · unfold riD
      rw [n 8 (by decide), m 20 (by decide)]
      exact i3
    · unfold riU
      rw [n 8 (by decide), m 20 (by decide)]
      exact i5
    · unfold riF
      rw [n 6 (by decide), m 6 (by decide)]
      exact i6
    · unfold riO
      rw [n 7 (by decide), m 7 (by decide)]
      exact i7
    · unfold riG
      rw [n 5 (by decide), m 8 (by decide)]
      exact i8
  · rw [e]
    exact stp_bad n10 hI (if_neg (by rw [e]; exact n10)) hJ
theorem hk_hs {FS FN : Nat → Nat → Int64} {r k : Nat} (h : ∃ S, S < 2 ^ 61 ∧ FS 2 r = lN S ∧ FN 2 r = lN S) (hk61 : k < 61) : hk (FS 2 r) (nI k) = hs (FN 2 r) (nI k) := by
  obtain ⟨S, hS, e1, e2⟩ := h
  rw [e1, e2, hk_lN hk61, hs_lN hS hk61]
theorem s_sounds {I M : Nat → Nat → Int32} {J N : Nat → Nat → Int64} (hI : RI I M) (hJ : RJ J N) (p1 p2 : Int32) : Stq I (kRK p1 p2) I (fsW I J 0 0) J (tI M (kRK p1 p2)) (rSdsJ M N p1 p2) (bI (hk (fsW I J 0 0 2 p1.toNatClampNeg) p2)) (aSds M N p1 p2) := by
  have hk0 : (kRK p1 p2 = 0 ∧ (rg p1 0 5 && rg p2 0 60) = true) ∨ (kRK p1 p2 = 1 ∧ _) := k01 _
  rcases hk0 with ⟨e, h⟩ | ⟨e, -⟩
  · have e2 : rSdsJ M N p1 p2 = fnJ (tI M 0) N := if_pos e
    have e3 : aSds M N p1 p2 = bI (hs (fnJ (tI M 0) N 2 p1.toNatClampNeg) p2) := if_pos e
    have S := snd_now (M := tI M 0) hI.t hJ
    simp only [Bool.and_eq_true] at h
    obtain ⟨r, hr, rfl⟩ := rg_nat (n := 5) h.1 (by decide)
    obtain ⟨k, hk61, rfl⟩ := rg_nat (n := 60) h.2 (by decide)
    rw [e2, e3, e, nI_clamp (show r < 2 ^ 31 by omega)]
    exact stp_ok rfl rfl (by rw [hk_hs (S.1 r (by omega)) (by omega)]) hI.t (hJ.of S.2.2.1 S.2.2.2)
  · have e2 : rSdsJ M N p1 p2 = N := if_neg (by rw [e]; exact n10)
    rw [e, e2]
    exact stp_bad n10 hI rfl hJ
theorem s_pitch {I M : Nat → Nat → Int32} {J N : Nat → Nat → Int64} (hI : RI I M) (hJ : RJ J N) (p1 p2 : Int32) : Stq I (kPit I J p1 p2) I (fsW I J 0 0) (if kRK p1 p2 = 1 then J else fsW I J 0 0) (tI M (qPit M N p1 p2)) (fnJ M N) (pws I p1.toNatClampNeg p2.toNatClampNeg - fls I (fsW I J 0 0)) (aPit M N p1 p2) := by
  have S := snd_now hI hJ
  have ej : RJ (fsW I J 0 0) (fnJ M N) := hJ.of S.2.2.1 S.2.2.2
  have ex : RJ (if kRK p1 p2 = 1 then J else fsW I J 0 0) (fnJ M N) := by
    split
    · exact hJ.of rfl S.2.2.2
    · exact ej
  have eq : kPit I J p1 p2 = qPit M N p1 p2 := by
    unfold kPit qPit
    cases h1 : rg p1 0 5 with
    | false => simp
    | true =>
      cases h2 : rg p2 0 60 with
      | false => simp
      | true =>
        obtain ⟨r, hr, rfl⟩ := rg_nat (n := 5) h1 (by decide)
        obtain ⟨k, hk61, rfl⟩ := rg_nat (n := 60) h2 (by decide)
        rw [nI_clamp (show r < 2 ^ 31 by omega), hk_hs (S.1 r (by omega)) (by omega)]
  by_cases e : kPit I J p1 p2 = 0
  · have e3 : aPit M N p1 p2 = mpt M p1.toNatClampNeg p2.toNatClampNeg (mst (fnN M N) (M 20 2)).toNatClampNeg := if_pos (by rw [← eq]; exact e)
    have h : (rg p1 0 5 && rg p2 0 60) = true := by
      cases hb : (rg p1 0 5 && rg p2 0 60) with
      | true => rfl
      | false =>
        exfalso
        have e1 : kPit I J p1 p2 = 1 := by
          unfold kPit
          rw [hb]
          rfl
        rw [e1] at e
        exact n10 e
    simp only [Bool.and_eq_true] at h
    obtain ⟨r, hr, rfl⟩ := rg_nat (n := 5) h.1 (by decide)
    obtain ⟨k, hk61, rfl⟩ := rg_nat (n := 60) h.2 (by decide)
    obtain ⟨st, hst, g1, g2, f, hf, f1, f2⟩ := sag_eq hI S
    rw [e3, ← eq, e, g1, nI_clamp (show r < 2 ^ 31 by omega), nI_clamp (show k < 2 ^ 31 by omega), nI_clamp (show st < 2 ^ 31 by omega), pws_eq hI (by omega), f1, f2]
    exact stp_ok rfl rfl rfl hI.t ej
  · rw [← eq]
    exact stp_bad e hI rfl ex
theorem s_wear {I M : Nat → Nat → Int32} {J N : Nat → Nat → Int64} (hI : RI I M) (hJ : RJ J N) (p1 p2 : Int32) : Stq I (kRK p1 p2) I J J (tI M (kRK p1 p2)) N (I (10 + p1.toNatClampNeg) p2.toNatClampNeg) (aWear M p1 p2) := by
  have hk0 : (kRK p1 p2 = 0 ∧ (rg p1 0 5 && rg p2 0 60) = true) ∨ (kRK p1 p2 = 1 ∧ _) := k01 _
  rcases hk0 with ⟨e, h⟩ | ⟨e, -⟩
  · have e3 : aWear M p1 p2 = M 9 (61 * p1.toNatClampNeg + p2.toNatClampNeg) := if_pos e
    simp only [Bool.and_eq_true] at h
    obtain ⟨r, hr, rfl⟩ := rg_nat (n := 5) h.1 (by decide)
    obtain ⟨k, hk61, rfl⟩ := rg_nat (n := 60) h.2 (by decide)
    rw [e3, e, nI_clamp (show r < 2 ^ 31 by omega), nI_clamp (show k < 2 ^ 31 by omega)]
    exact stp_ok rfl rfl (hI.2.2.2.2.2.2.2.2 r k (by omega) (by omega)) hI.t hJ
  · rw [e]
    exact stp_bad n10 hI rfl hJ
theorem s_more {I M : Nat → Nat → Int32} {J N : Nat → Nat → Int64} (hI : RI I M) (hJ : RJ J N) (p1 p2 : Int32) : Stq I (kMK p1 p2) I (fsW I (fsW I J 0 0) p1.toNatClampNeg (kb p2)) J (tI M (kMK p1 p2)) (rMorJ M N p1 p2) (wsO I (fsW I (fsW I J 0 0) p1.toNatClampNeg (kb p2)) 6 - wsO I (fsW I J 0 0) 6) (aMor M N p1 p2) := by
  have hk0 : (kMK p1 p2 = 0 ∧ (rg p1 0 2 && rg p2 0 60) = true) ∨ (kMK p1 p2 = 1 ∧ _) := k01 _
  rcases hk0 with ⟨e, h⟩ | ⟨e, -⟩
  · have S := snd_now (M := tI M 0) hI.t hJ
    simp only [Bool.and_eq_true] at h
    obtain ⟨m, hm, rfl⟩ := rg_nat (n := 2) h.1 (by decide)
    obtain ⟨k, hk61, rfl⟩ := rg_nat (n := 60) h.2 (by decide)
    have hp : 2 ^ k < 2 ^ 61 := Nat.pow_lt_pow_right (by decide) hk61
    have eqm : qMore N (nI m) (nI k) = !(hs (N 0 m) (nI k)) := by
      unfold qMore
      rw [e, nI_clamp (show m < 2 ^ 31 by omega)]
      rfl
    obtain ⟨r0, b0, c0, d0⟩ := hJ 0 (by decide)
    obtain ⟨r1, b1, c1, d1⟩ := hJ 1 (by decide)
    obtain ⟨r2, b2, c2, d2⟩ := hJ 2 (by decide)
    have hR : ∃ R : Nat → Nat, ∀ t, t < 3 → R t < 2 ^ 61 ∧ J 0 t = lN (R t) ∧ N 0 t = lN (R t) := by
      refine ⟨fun t => if t = 0 then r0 else if t = 1 then r1 else r2, fun t ht => ?_⟩
      rcases (show t = 0 ∨ t = 1 ∨ t = 2 by omega) with rfl | rfl | rfl
      · exact ⟨b0, c0, d0⟩
      · exact ⟨b1, c1, d1⟩
      · exact ⟨b2, c2, d2⟩
    obtain ⟨R, hR⟩ := hR
    have hJ1 : ∀ t, t < 3 → fsW I J 0 0 0 t = lN (R t) ∧ R t < 2 ^ 61 := fun t ht => by
      rw [S.2.2.1]
      exact ⟨(hR t ht).2.1, (hR t ht).1⟩
    have ehs : hs (N 0 m) (nI k) = (R m).testBit k := by rw [(hR m hm).2.2, hs_lN (hR m hm).1 (by omega)]
    rw [nI_clamp (show m < 2 ^ 31 by omega), kb_lN (show k < 63 by omega), e]
    cases hb : (R m).testBit k with
    | true =>
      have hq : qMore N (nI m) (nI k) = false := by rw [eqm, ehs, hb]; rfl
      have e2 : rMorJ M N (nI m) (nI k) = N := ite_f hq
      have e3 : aMor M N (nI m) (nI k) = 0 := ite_f hq
      have S2 := snd_eq (M := tI M 0) hI.t (J := fsW I J 0 0) (N := N) (R := R) (mn := m) (x := 2 ^ k) hm hp hJ1 (fun t ht => by
        rw [(hR t ht).2.2]
        by_cases q : t = m
        · subst q
          rw [if_pos rfl, ((bset (W := 61) (hR t ht).1 hb).2), if_pos rfl]
        · rw [if_neg q])
      rw [e2, e3, S2.2.1, S.2.1]
      exact stp_ok rfl rfl (by simp) hI.t (hJ.of (S2.2.2.1.trans S.2.2.1) rfl)
    | false =>
      have hq : qMore N (nI m) (nI k) = true := by rw [eqm, ehs, hb]; rfl
      have e2 : rMorJ M N (nI m) (nI k) = mJ2 (tI M 0) N m (nI k) := (ite_t hq).trans (by rw [nI_clamp (show m < 2 ^ 31 by omega)])
      have e3 : aMor M N (nI m) (nI k) = fnN (tI M 0) (mJ1 (tI M 0) N m (nI k)) - fnN (tI M 0) N := (ite_t hq).trans (by rw [nI_clamp (show m < 2 ^ 31 by omega)])
      have eN : ∀ t, t < 3 → mJ1 (tI M 0) N m (nI k) 0 t = lN (if t = m then R t ||| 2 ^ k else R t) := fun t ht => by
        unfold mJ1
        rw [u2L_same, S.2.2.2, kb_lN (show k < 63 by omega)]
        by_cases q : t = m
        · subst q
          rw [updL_at, if_pos rfl, (hR t ht).2.2, fb_orL]
        · rw [updL_ne q, if_neg q, (hR t ht).2.2]
      have S2 := snd_eq (M := tI M 0) hI.t (J := fsW I J 0 0) (N := mJ1 (tI M 0) N m (nI k)) (R := R) (mn := m) (x := 2 ^ k) hm hp hJ1 eN
      rw [e2, e3, S2.2.1, S.2.1]
      refine stp_ok rfl rfl rfl hI.t ?_
      intro t ht
      refine ⟨R t, (hR t ht).1, ?_, ?_⟩
      · rw [S2.2.2.1, S.2.2.1]
        exact (hR t ht).2.1
      · unfold mJ2
        rw [u2L_same, S2.2.2.2]
        by_cases q : t = m
        · subst q
          have hlt : R t ||| 2 ^ k < 2 ^ 64 := Nat.lt_trans (Nat.or_lt_two_pow (hR t ht).1 hp) (by decide)
          rw [updL_at, eN t ht, if_pos rfl, kb_lN (show k < 63 by omega), notL, fb_andL]
          apply congrArg lN
          have hb2 : (R t ||| 2 ^ k).testBit k = true := by
            rw [fb_bit_set]
            simp
          rw [(bset hlt hb2).1, if_neg (by decide)]
          apply Nat.eq_of_testBit_eq
          intro i
          rw [fb_bit_flip, fb_bit_set]
          by_cases z : i = k
          · subst z
            simp [hb]
          · simp [z]
        · rw [updL_ne q, eN t ht, if_neg q]
  · have hq : qMore N p1 p2 = false := by
      unfold qMore
      rw [e]
      rfl
    have e2 : rMorJ M N p1 p2 = N := ite_f hq
    rw [e, e2]
    exact stp_bad n10 hI rfl hJ
/-! the new objects -/
theorem inA_ne {I : Nat → Nat → Int32} : ∀ n i, ¬ i = 0 → ¬ i = 1 → inA I n i = I i
  | 0, _, _, _ => rfl
  | n + 1, i, h, h2 => by
    show u2 (u2 (inA I n) 0 n (htv 1)) 1 n 2 i = I i
    rw [u2_ne h2, u2_ne h]
    exact inA_ne n i h h2
theorem inB_ne {I : Nat → Nat → Int32} : ∀ n i, ¬ i = 3 → ¬ i = 4 → inB I n i = I i
  | 0, _, _, _ => rfl
  | n + 1, i, h, h2 => by
    show u2 (u2 (inB I n) 3 n (nI (n % 3))) 4 n (nI (n / 2)) i = I i
    rw [u2_ne h2, u2_ne h]
    exact inB_ne n i h h2
theorem inCi_ne {I : Nat → Nat → Int32} {f : Nat} : ∀ n i, ¬ i = 20 + f → inCi I f n i = I i
  | 0, _, _ => rfl
  | n + 1, i, h => by
    show u2 (inCi I f n) (20 + f) n 1 i = I i
    rw [u2_ne h]
    exact inCi_ne n i h
theorem inC_ne {I : Nat → Nat → Int32} : ∀ n i, i < 20 → inC I n i = I i
  | 0, _, _ => rfl
  | n + 1, i, h => by
    show inCi (inC I n) n 3 i = I i
    rw [inCi_ne 3 i (by omega)]
    exact inC_ne n i h
theorem inD_ne {I : Nat → Nat → Int32} : ∀ n i, ¬ i = 6 → inD I n i = I i
  | 0, _, _ => rfl
  | n + 1, i, h => by
    show u2 (inD I n) 6 (n + 1) (5 * nI (n + 1)) i = I i
    rw [u2_ne h]
    exact inD_ne n i h
theorem rnA_ne {I : Nat → Nat → Int32} : ∀ n i, ¬ i = 0 → ¬ i = 1 → rnA I n i = I i
  | 0, _, _, _ => rfl
  | n + 1, i, h, h2 => by
    show u2 (u2 (rnA I n) 0 n 1) 1 n 2 i = I i
    rw [u2_ne h2, u2_ne h]
    exact rnA_ne n i h h2
theorem rnB_ne {I : Nat → Nat → Int32} : ∀ n i, ¬ i = 3 → ¬ i = 4 → rnB I n i = I i
  | 0, _, _, _ => rfl
  | n + 1, i, h, h2 => by
    show u2 (u2 (rnB I n) 3 n (nI (n % 3))) 4 n (nI (n / 2)) i = I i
    rw [u2_ne h2, u2_ne h]
    exact rnB_ne n i h h2
theorem rnD_ne {I : Nat → Nat → Int32} : ∀ n i, ¬ i = 6 → rnD I n i = I i
  | 0, _, _ => rfl
  | n + 1, i, h => by
    show u2 (rnD I n) 6 (n + 1) (5 * nI (n + 1)) i = I i
    rw [u2_ne h]
    exact rnD_ne n i h
theorem inZ_0 {i : Nat} (h : i = 0 ∨ i = 1) : inZ i = inA zI 6 i := by
  unfold inZ
  rw [u2_ne (by omega), inD_ne _ _ (by omega), inC_ne _ _ (by omega), inB_ne _ _ (by omega) (by omega)]
theorem inZ_3 {i : Nat} (h : i = 3 ∨ i = 4) : inZ i = inB (inA zI 6) 12 i := by
  unfold inZ
  rw [u2_ne (by omega), inD_ne _ _ (by omega), inC_ne _ _ (by omega)]
theorem inZ_20 {f : Nat} : inZ (20 + f) = inC (inB (inA zI 6) 12) 3 (20 + f) := by
  unfold inZ
  rw [u2_ne (by omega), inD_ne _ _ (by omega)]
theorem inZ_6 : inZ 6 = inD (inC (inB (inA zI 6) 12) 3) 10 6 := by
  unfold inZ
  rw [u2_ne (by decide)]
theorem inZ_z {i : Nat} (h : i = 2 ∨ i = 5 ∨ i = 7 ∨ (10 ≤ i ∧ i < 20)) : inZ i = zI i := by
  unfold inZ
  rw [u2_ne (by omega), inD_ne _ _ (by omega), inC_ne _ _ (by omega), inB_ne _ _ (by omega) (by omega), inA_ne _ _ (by omega) (by omega)]
theorem inZ_8 : inZ 8 = upd (zI 8) 1 100 := by
  unfold inZ
  rw [u2_same, inD_ne _ _ (by decide), inC_ne _ _ (by decide), inB_ne _ _ (by decide) (by decide), inA_ne _ _ (by decide) (by decide)]
theorem rnZ_0 {i : Nat} (h : i = 0 ∨ i = 1) : rnZ i = rnA (u2 zI 20 2 100) 6 i := by
  unfold rnZ
  rw [rnD_ne _ _ (by omega), rnB_ne _ _ (by omega) (by omega)]
theorem rnZ_3 {i : Nat} (h : i = 3 ∨ i = 4) : rnZ i = rnB (rnA (u2 zI 20 2 100) 6) 12 i := by
  unfold rnZ
  rw [rnD_ne _ _ (by omega)]
theorem rnZ_z {i : Nat} (h : i = 2 ∨ i = 5 ∨ i = 7 ∨ i = 8 ∨ i = 9) : rnZ i = zI i := by
  unfold rnZ
  rw [rnD_ne _ _ (by omega), rnB_ne _ _ (by omega) (by omega), rnA_ne _ _ (by omega) (by omega), u2_ne (by omega)]
theorem rnZ_20 : rnZ 20 = upd (zI 20) 2 100 := by
  unfold rnZ
  rw [rnD_ne _ _ (by decide), rnB_ne _ _ (by decide) (by decide), rnA_ne _ _ (by decide) (by decide), u2_same]
theorem new_R : riR inZ rnZ := by
  intro r hr
  rw [inZ_0 (Or.inl rfl), inZ_0 (Or.inr rfl), rnZ_0 (Or.inl rfl), rnZ_0 (Or.inr rfl), inZ_z (Or.inl rfl), rnZ_z (Or.inl rfl)]
  refine ⟨⟨1, by decide, ?_⟩, ⟨2, by decide, ?_⟩, rfl, (by decide : rg 0 (-50) 50 = true)⟩
  · rcases (show r = 0 ∨ r = 1 ∨ r = 2 ∨ r = 3 ∨ r = 4 ∨ r = 5 by omega) with rfl | rfl | rfl | rfl | rfl | rfl <;> exact ⟨rfl, rfl⟩
  · rcases (show r = 0 ∨ r = 1 ∨ r = 2 ∨ r = 3 ∨ r = 4 ∨ r = 5 by omega) with rfl | rfl | rfl | rfl | rfl | rfl <;> exact ⟨rfl, rfl⟩
theorem inB_at {I : Nat → Nat → Int32} : ∀ n s, s < n → inB I n 3 s = nI (s % 3) ∧ inB I n 4 s = nI (s / 2)
  | 0, s, h => absurd h (Nat.not_lt_zero s)
  | n + 1, s, h => by
    show upd (inB I n 3) n (nI (n % 3)) s = nI (s % 3) ∧ upd (inB I n 4) n (nI (n / 2)) s = nI (s / 2)
    by_cases e : s = n
    · subst e
      rw [upd_at, upd_at]
      exact ⟨rfl, rfl⟩
    · rw [upd_ne e, upd_ne e]
      exact inB_at n s (by omega)
theorem rnB_at {I : Nat → Nat → Int32} : ∀ n s, s < n → rnB I n 3 s = nI (s % 3) ∧ rnB I n 4 s = nI (s / 2)
  | 0, s, h => absurd h (Nat.not_lt_zero s)
  | n + 1, s, h => by
    show upd (rnB I n 3) n (nI (n % 3)) s = nI (s % 3) ∧ upd (rnB I n 4) n (nI (n / 2)) s = nI (s / 2)
    by_cases e : s = n
    · subst e
      rw [upd_at, upd_at]
      exact ⟨rfl, rfl⟩
    · rw [upd_ne e, upd_ne e]
      exact rnB_at n s (by omega)
theorem new_S : riS inZ rnZ := by
  intro s hs12
  rw [inZ_3 (Or.inl rfl), inZ_3 (Or.inr rfl), rnZ_3 (Or.inl rfl), rnZ_3 (Or.inr rfl), (inB_at 12 s hs12).1, (inB_at 12 s hs12).2, (rnB_at 12 s hs12).1, (rnB_at 12 s hs12).2]
  exact ⟨s % 3, Nat.mod_lt _ (by decide), rfl, rfl, rfl⟩
theorem inCi_at {I : Nat → Nat → Int32} {f : Nat} : ∀ n t, t < n → inCi I f n (20 + f) t = 1
  | 0, s, h => absurd h (Nat.not_lt_zero s)
  | n + 1, t, h => by
    show u2 (inCi I f n) (20 + f) n 1 (20 + f) t = 1
    rw [u2_same]
    by_cases e : t = n
    · subst e
      rw [upd_at]
    · rw [upd_ne e]
      exact inCi_at n t (by omega)
theorem inC_at {I : Nat → Nat → Int32} : ∀ n f t, f < n → t < 3 → inC I n (20 + f) t = 1
  | 0, f, _, h, _ => absurd h (Nat.not_lt_zero f)
  | n + 1, f, t, h, ht => by
    show inCi (inC I n) n 3 (20 + f) t = 1
    by_cases e : f = n
    · subst e
      exact inCi_at 3 t ht
    · rw [inCi_ne 3 (20 + f) (by omega)]
      exact inC_at n f t (by omega) ht
theorem new_C : riC inZ rnZ ∧ acy inZ := by
  have e : ∀ f t, f < 3 → t < 3 → inZ (20 + f) t = 1 := fun f t hf ht => by
    rw [inZ_20]
    exact inC_at 3 f t hf ht
  refine ⟨fun f t hf ht => ?_, fun f t hf ht z => ?_⟩
  · rw [e f t hf ht, rnZ_z (Or.inr (Or.inl rfl))]
    exact Or.inl ⟨rfl, rfl⟩
  · unfold cpd at z
    rw [e f t hf ht] at z
    exact absurd z (by decide)
theorem inD_at {I : Nat → Nat → Int32} : ∀ n k, inD I n 6 k = if 1 ≤ k ∧ k ≤ n then 5 * nI k else I 6 k
  | 0, k => by rw [if_neg (by omega)]; rfl
  | n + 1, k => by
    show upd (inD I n 6) (n + 1) (5 * nI (n + 1)) k = _
    by_cases e : k = n + 1
    · subst e
      rw [upd_at, if_pos (by omega)]
    · rw [upd_ne e, inD_at n k]
      exact ifc (by omega)
theorem rnD_at {I : Nat → Nat → Int32} : ∀ n k, rnD I n 6 k = if 1 ≤ k ∧ k ≤ n then 5 * nI k else I 6 k
  | 0, k => by rw [if_neg (by omega)]; rfl
  | n + 1, k => by
    show upd (rnD I n 6) (n + 1) (5 * nI (n + 1)) k = _
    by_cases e : k = n + 1
    · subst e
      rw [upd_at, if_pos (by omega)]
    · rw [upd_ne e, rnD_at n k]
      exact ifc (by omega)
theorem new_F : riF inZ rnZ := by
  intro k hk
  have e1 : inZ 6 k = if 1 ≤ k ∧ k ≤ 10 then 5 * nI k else 0 := by
    rw [inZ_6, inD_at, inC_ne _ _ (by decide), inB_ne _ _ (by decide) (by decide), inA_ne _ _ (by decide) (by decide)]
    rfl
  have e2 : rnZ 6 k = if 1 ≤ k ∧ k ≤ 10 then 5 * nI k else 0 := by
    unfold rnZ
    rw [rnD_at, rnB_ne _ _ (by decide) (by decide), rnA_ne _ _ (by decide) (by decide)]
    rfl
  rw [e1, e2]
  by_cases q : 1 ≤ k ∧ k ≤ 10
  · rw [if_pos q]
    exact ⟨5 * k, by omega, pk_mul 5 k, pk_mul 5 k⟩
  · rw [if_neg q]
    exact ⟨0, by decide, rfl, rfl⟩
theorem RI_new : RI inZ rnZ := by
  refine ⟨new_R, new_S, ⟨0, by decide, ?_, ?_⟩, new_C, ⟨100, by decide, by decide, ?_, ?_⟩, new_F, fun k hk => ?_, fun r hr => ?_, fun r k hr hk61 => ?_⟩
  · rw [rnZ_20]; rfl
  · rw [inZ_8]; rfl
  · rw [rnZ_20]; rfl
  · rw [inZ_8]; rfl
  · rw [inZ_z (by omega), rnZ_z (by omega)]
    exact ⟨rfl, (by decide : rg 0 (-50) 50 = true)⟩
  · rw [inZ_z (by omega), rnZ_z (by omega)]
    exact ⟨0, by decide, rfl, rfl⟩
  · rw [inZ_z (by omega), rnZ_z (by omega)]
    rfl
theorem RJ_new : RJ zJ zJ := fun _ _ => ⟨0, by decide, rfl, rfl⟩
