/-! ===== the reference's pure words ===== -/
def rty (cI cL : ClassId) : List (ClassId × FieldType) := [(cI, .int), (cL, .long)]
def hs (x : Int64) (k : Int32) : Bool := decide ((x >>> (k.toInt64 &&& 63)) &&& 1 = 1)
theorem hs_0 {x : Int64} {k : Int32} (h : ¬ lg_cmp ((x >>> (k.toInt64 &&& 63)) &&& 1) 1 = 0) : (0 : Int32) = bI (hs x k) := by
  have : ¬ ((x >>> (k.toInt64 &&& 63)) &&& 1 = 1) := fun q => h ((lg_cmp_eq _ _).mpr q)
  simp [hs, this, bI]
theorem hs_1 {x : Int64} {k : Int32} (h : lg_cmp ((x >>> (k.toInt64 &&& 63)) &&& 1) 1 = 0) : (1 : Int32) = bI (hs x k) := by
  have := (lg_cmp_eq _ _).mp h
  simp [hs, this, bI]
theorem rgb_1 {v lo hi : Int32} (h1 : ¬ v < lo) (h2 : ¬ hi < v) : (1 : Int32) = bI (rg v lo hi) := by rw [rg_t h1 (fa_nlt h2)]; rfl
theorem rgb_0a {v lo hi : Int32} (h1 : v < lo) : (0 : Int32) = bI (rg v lo hi) := by
  have := rg_f1 (hi := hi) h1
  cases h : rg v lo hi
  · rfl
  · exact absurd h this
theorem rgb_0b {v lo hi : Int32} (h2 : hi < v) : (0 : Int32) = bI (rg v lo hi) := by
  have h3 : ¬ v ≤ hi := fun q => by rw [Int32.le_iff_toInt_le] at q; rw [Int32.lt_iff_toInt_lt] at h2; omega
  have := rg_f2 (lo := lo) h3
  cases h : rg v lo hi
  · rfl
  · exact absurd h this
def cnF (x : Int64) : Nat → Int32
  | 0 => 0
  | k + 1 => cnF x k + bI (hs x (nI k))
theorem cn_0 {x y : Int32} {b : Bool} (h : bI b = 0) (e : y = x + bI b) : x + 0 = y := by rw [e, h]
theorem cn_1 {x y : Int32} {b : Bool} (h : ¬ bI b = 0) (e : y = x + bI b) : x + 1 = y := by rw [e, bI_ne0 h]; rfl
def rcp (I : Nat → Nat → Int32) (f t : Nat) : Bool := !decide (I 5 (3 * f + t) ≤ 0)
theorem rcp_0 {I : Nat → Nat → Int32} {f t : Nat} (h : I 5 (3 * f + t) ≤ 0) : (0 : Int32) = bI (rcp I f t) := by simp [rcp, h, bI]
theorem rcp_1 {I : Nat → Nat → Int32} {f t : Nat} (h : ¬ I 5 (3 * f + t) ≤ 0) : (1 : Int32) = bI (rcp I f t) := by simp [rcp, h, bI]
def rcm (I : Nat → Nat → Int32) (f t : Nat) : Bool := rcp I f t || (rcp I f (3 - f - t) && rcp I (3 - f - t) t)
def rccF (I : Nat → Nat → Int32) : Nat → Int32
  | 0 => 0
  | k + 1 => rccF I k + bI (!decide (I 5 k ≤ 0))
theorem rcc_0 {x y : Int32} {v : Int32} (h : v ≤ 0) (e : y = x + bI (!decide (v ≤ 0))) : x + 0 = y := by rw [e]; simp [h, bI]
theorem rcc_1 {x y : Int32} {v : Int32} (h : ¬ v ≤ 0) (e : y = x + bI (!decide (v ≤ 0))) : x + 1 = y := by rw [e]; simp [h, bI]
theorem ix3 (f t : Nat) : nI 3 * nI f + nI t = nI (3 * f + t) := by rw [pk_mul, nI_add]
theorem ix61 (r k : Nat) : nI 61 * nI r + nI k = nI (61 * r + k) := by rw [pk_mul, nI_add]
def kvF (c : Int32) (x : Int64) : Int64 := if c = 1 then x >>> ((12 : Int32).toInt64 &&& 63) else if c = 3 then (x <<< ((12 : Int32).toInt64 &&& 63)) &&& 2305843009213693951 else x
def ovF (c : Int32) (x : Int64) : Int64 := if c = 0 then 0 else kvF c x
def rqI (I : Nat → Nat → Int32) (J : Nat → Nat → Int64) : Nat → Nat → Nat → Int64
  | 0 => J
  | k + 1 => u2L (rqI I J k) 1 (k % 3) (rqI I J k 1 (k % 3) ||| ovF (I 5 k) (rqI I J k 1 (k / 3)))
def rqO (I : Nat → Nat → Int32) (J : Nat → Nat → Int64) : Nat → Nat → Nat → Int64
  | 0 => J
  | t + 1 => rqI I (rqO I J t) 9
def cpJ (I : Nat → Nat → Int32) (J : Nat → Nat → Int64) : Nat → Nat → Int64 := rqO I (frA J 3) 3
def fnK (I : Nat → Nat → Int32) (R : Nat → Int64) (r : Nat) : Nat → Int64
  | 0 => 0
  | n + 1 => if hs (I 20 1).toInt64 (nI n) = true then (if I 4 n = nI r then fnK I R r n ||| R (I 3 n).toNatClampNeg else fnK I R r n ||| 0) else fnK I R r n ||| 0
def fnS (I : Nat → Nat → Int32) (r : Nat) (keys : Int64) (sum : Int32) : Nat → Int64 × Int32
  | 0 => (keys, sum)
  | k + 1 => if hs (fnS I r keys sum k).1 (nI k) = true then (if 50 ≤ I 9 (61 * r + k) then ((fnS I r keys sum k).1 &&& (kb (nI k) ^^^ (-1)), (fnS I r keys sum k).2 + 0) else ((fnS I r keys sum k).1 &&& (-1), (fnS I r keys sum k).2 + (I 1 r + (60 - nI k) / 12))) else ((fnS I r keys sum k).1 &&& (kb (nI k) ^^^ (-1)), (fnS I r keys sum k).2 + 0)
theorem fnS_a {I : Nat → Nat → Int32} {r k : Nat} {keys : Int64} {sum : Int32} (h : hs (fnS I r keys sum k).1 (nI k) = false) : fnS I r keys sum (k + 1) = ((fnS I r keys sum k).1 &&& (kb (nI k) ^^^ (-1)), (fnS I r keys sum k).2 + 0) := by rw [fnS, ite_f h]
theorem fnS_b {I : Nat → Nat → Int32} {r k : Nat} {keys : Int64} {sum : Int32} (h : hs (fnS I r keys sum k).1 (nI k) = true) (h2 : 50 ≤ I 9 (61 * r + k)) : fnS I r keys sum (k + 1) = ((fnS I r keys sum k).1 &&& (kb (nI k) ^^^ (-1)), (fnS I r keys sum k).2 + 0) := by rw [fnS, ite_t h, if_pos h2]
theorem fnS_c {I : Nat → Nat → Int32} {r k : Nat} {keys : Int64} {sum : Int32} (h : hs (fnS I r keys sum k).1 (nI k) = true) (h2 : ¬ 50 ≤ I 9 (61 * r + k)) : fnS I r keys sum (k + 1) = ((fnS I r keys sum k).1 &&& (-1), (fnS I r keys sum k).2 + (I 1 r + (60 - nI k) / 12)) := by rw [fnS, ite_t h, if_neg h2]
def fnO (I : Nat → Nat → Int32) (J : Nat → Nat → Int64) : Nat → (Nat → Nat → Int64) × Int32
  | 0 => (J, 0)
  | r + 1 => (u2L (fnO I J r).1 2 r (fnS I r (fnK I ((fnO I J r).1 1) r 12) (fnO I J r).2 61).1, (fnS I r (fnK I ((fnO I J r).1 1) r 12) (fnO I J r).2 61).2)
def fnJ (I : Nat → Nat → Int32) (J : Nat → Nat → Int64) : Nat → Nat → Int64 := (fnO I (cpJ I J) 6).1
def fnN (I : Nat → Nat → Int32) (J : Nat → Nat → Int64) : Int32 := (fnO I (cpJ I J) 6).2
def mst (w sp : Int32) : Int32 := if sp < w then (if 1 + 10 * (w - sp) / sp ≤ 10 then 1 + 10 * (w - sp) / sp else 10) else 0
def mtn (c : Int32) : Int32 := if c = 0 then -12 else if c = 1 then 0 else if c = 2 then 12 else 19
def mpt (I : Nat → Nat → Int32) (r k st : Nat) : Int32 := 100 * (nI k + mtn (I 0 r)) + I 7 (k % 12) + I 2 r - I 6 st
def csM (J : Nat → Nat → Int64) : Nat → Int32
  | 0 => 0
  | r + 1 => csM J r + cnF (J 2 r) 61
def mlA (J : Nat → Nat → Int64) : Nat → Int32
  | 0 => 0
  | i + 1 => mlA J i + cnF (lgJ J i 0 i) 61
def mwF (J : Nat → Nat → Int64) (tm : Int32) (I : Nat → Nat → Int32) : Nat → Nat → Nat → Int32
  | 0 => I
  | k + 1 => if hs (J 2 (k / 61)) (nI (k % 61)) = true then u2 (mwF J tm I k) 9 k (mwF J tm I k 9 k + tm) else u2 (mwF J tm I k) 9 k (mwF J tm I k 9 k + 0)
def mrI (I : Nat → Nat → Int32) (r : Nat) : Nat → Nat → Nat → Int32
  | 0 => I
  | k + 1 => u2 (mrI I r k) 9 (61 * r + k) 0
def mrA (I : Nat → Nat → Int32) (r : Nat) : Nat → Int32
  | 0 => 0
  | k + 1 => if mrI I r k 9 (61 * r + k) < 50 then mrA I r k + 0 else mrA I r k + 1
def mlo (I : Nat → Nat → Int32) (J : Nat → Nat → Int64) (st : Nat) : Nat → Bool × Int32
  | 0 => (true, 0)
  | k + 1 => if hs (J 2 (k / 61)) (nI (k % 61)) = true then (false, if (mlo I J st k).1 = true then mpt I (k / 61) (k % 61) st else if (mlo I J st k).2 ≤ mpt I (k / 61) (k % 61) st then (mlo I J st k).2 else mpt I (k / 61) (k % 61) st) else mlo I J st k
theorem mlo_y {I : Nat → Nat → Int32} {J : Nat → Nat → Int64} {st k : Nat} (h : hs (J 2 (k / 61)) (nI (k % 61)) = true) : mlo I J st (k + 1) = (false, if (mlo I J st k).1 = true then mpt I (k / 61) (k % 61) st else if (mlo I J st k).2 ≤ mpt I (k / 61) (k % 61) st then (mlo I J st k).2 else mpt I (k / 61) (k % 61) st) := by rw [mlo, ite_t h]
theorem mlo_n {I : Nat → Nat → Int32} {J : Nat → Nat → Int64} {st k : Nat} (h : hs (J 2 (k / 61)) (nI (k % 61)) = false) : mlo I J st (k + 1) = mlo I J st k := by rw [mlo, ite_f h]
theorem mlo_1 {I : Nat → Nat → Int32} {J : Nat → Nat → Int64} {st k : Nat} (h : hs (J 2 (k / 61)) (nI (k % 61)) = true) (h2 : (mlo I J st k).1 = true) : mpt I (k / 61) (k % 61) st = (mlo I J st (k + 1)).2 := by rw [mlo_y h]; exact (ite_t h2).symm
theorem mlo_2 {I : Nat → Nat → Int32} {J : Nat → Nat → Int64} {st k : Nat} (h : hs (J 2 (k / 61)) (nI (k % 61)) = true) (h2 : (mlo I J st k).1 = false) (h3 : (mlo I J st k).2 ≤ mpt I (k / 61) (k % 61) st) : (mlo I J st k).2 = (mlo I J st (k + 1)).2 := by rw [mlo_y h]; exact ((ite_f h2).trans (if_pos h3)).symm
theorem mlo_3 {I : Nat → Nat → Int32} {J : Nat → Nat → Int64} {st k : Nat} (h : hs (J 2 (k / 61)) (nI (k % 61)) = true) (h2 : (mlo I J st k).1 = false) (h3 : ¬ (mlo I J st k).2 ≤ mpt I (k / 61) (k % 61) st) : mpt I (k / 61) (k % 61) st = (mlo I J st (k + 1)).2 := by rw [mlo_y h]; exact ((ite_f h2).trans (if_neg h3)).symm
/-- thrown, and the state behind each call -/
abbrev tI (I : Nat → Nat → Int32) (k : Int32) : Nat → Nat → Int32 := u2 I 20 0 k
def rRank (I : Nat → Nat → Int32) (p1 p2 p3 p4 : Int32) : Nat → Nat → Int32 := if kRank p1 p2 p3 p4 = 0 then u2 (u2 (u2 (tI I 0) 0 p1.toNatClampNeg p2) 1 p1.toNatClampNeg p3) 2 p1.toNatClampNeg p4 else tI I 1
def qStop (I : Nat → Nat → Int32) (p1 p2 p3 : Int32) : Int32 := if rg p1 0 11 && rg p2 0 2 && rg p3 0 5 then (if hs (I 20 1).toInt64 p1 then 2 else 0) else 1
def rStop (I : Nat → Nat → Int32) (p1 p2 p3 : Int32) : Nat → Nat → Int32 := if qStop I p1 p2 p3 = 0 then u2 (u2 (tI I 0) 3 p1.toNatClampNeg p2) 4 p1.toNatClampNeg p3 else tI I (qStop I p1 p2 p3)
def qCpl (I : Nat → Nat → Int32) (p1 p2 p3 : Int32) : Int32 := if rg p1 0 2 && rg p2 0 2 && !(decide (p1 = p2)) && (decide (p3 = 0) || decide (p3 = 12) || decide (p3 = -12)) then (if rcm I p2.toNatClampNeg p1.toNatClampNeg then 2 else 0) else 1
def rCplI (I : Nat → Nat → Int32) (p1 p2 p3 : Int32) : Nat → Nat → Int32 := u2 (tI I 0) 5 (3 * p1.toNatClampNeg + p2.toNatClampNeg) (p3 / 12 + 2)
def rCpl (I : Nat → Nat → Int32) (p1 p2 p3 : Int32) : Nat → Nat → Int32 := if qCpl I p1 p2 p3 = 0 then rCplI I p1 p2 p3 else tI I (qCpl I p1 p2 p3)
def aCpl (I : Nat → Nat → Int32) (p1 p2 p3 : Int32) : Int32 := if qCpl I p1 p2 p3 = 0 then rccF (rCplI I p1 p2 p3) 9 else 0
def rUnc (I : Nat → Nat → Int32) (p1 p2 : Int32) : Nat → Nat → Int32 := if kUnc p1 p2 = 0 then u2 (tI I 0) 5 (3 * p1.toNatClampNeg + p2.toNatClampNeg) 0 else tI I 1
def aUnc (I : Nat → Nat → Int32) (p1 p2 : Int32) : Int32 := if kUnc p1 p2 = 0 then bI (rcp (tI I 0) p1.toNatClampNeg p2.toNatClampNeg) else 0
def rSup (I : Nat → Nat → Int32) (p1 : Int32) : Nat → Nat → Int32 := if kSup p1 = 0 then u2 (tI I 0) 20 2 p1 else tI I 1
def aSup (I : Nat → Nat → Int32) (p1 : Int32) : Int32 := if kSup p1 = 0 then (tI I 0) 20 2 else 0
def rSag (I : Nat → Nat → Int32) (p1 p2 : Int32) : Nat → Nat → Int32 := if kSag p1 p2 = 0 then u2 (tI I 0) 6 p1.toNatClampNeg p2 else tI I 1
def aSag (I : Nat → Nat → Int32) (p1 p2 : Int32) : Int32 := if kSag p1 p2 = 0 then (tI I 0) 6 p1.toNatClampNeg else 0
def rTune (I : Nat → Nat → Int32) (p1 p2 : Int32) : Nat → Nat → Int32 := if kTune p1 p2 = 0 then u2 (tI I 0) 7 p1.toNatClampNeg p2 else tI I 1
def aTune (I : Nat → Nat → Int32) (p1 p2 : Int32) : Int32 := if kTune p1 p2 = 0 then (tI I 0) 7 p1.toNatClampNeg else 0
def rDraw (I : Nat → Nat → Int32) (p1 p2 : Int32) : Nat → Nat → Int32 := if kDraw p1 = 0 then u2 (tI I 0) 20 1 (if p2 = 0 then (tI I 0) 20 1 &&& (((1 : Int32) <<< (p1 &&& 31)) ^^^ (-1)) else (tI I 0) 20 1 ||| ((1 : Int32) <<< (p1 &&& 31))) else tI I 1
def aDraw (I : Nat → Nat → Int32) (p1 : Int32) : Int32 := if kDraw p1 = 0 then bI (hs ((tI I 0) 20 1).toInt64 p1) else 0
def rKeep (I : Nat → Nat → Int32) (p1 : Int32) : Nat → Nat → Int32 := if kReg p1 = 0 then u2 (tI I 0) 8 p1.toNatClampNeg ((tI I 0) 20 1) else tI I 1
def aKeep (I : Nat → Nat → Int32) (p1 : Int32) : Int32 := if kReg p1 = 0 then cnF (I 20 1).toInt64 61 else 0
def rRec (I : Nat → Nat → Int32) (p1 : Int32) : Nat → Nat → Int32 := if kReg p1 = 0 then u2 (tI I 0) 20 1 ((tI I 0) 8 p1.toNatClampNeg) else tI I 1
def aRec (I : Nat → Nat → Int32) (p1 : Int32) : Int32 := if kReg p1 = 0 then cnF ((tI I 0) 20 1 ^^^ (tI I 0) 8 p1.toNatClampNeg).toInt64 61 else 0
def rHoldJ (J : Nat → Nat → Int64) (p1 p2 p3 : Int32) : Nat → Nat → Int64 := if kMK p1 p2 = 0 then u2L J 0 p1.toNatClampNeg (if p3 = 0 then J 0 p1.toNatClampNeg &&& (kb p2 ^^^ (-1)) else J 0 p1.toNatClampNeg ||| kb p2) else J
def aHold (J : Nat → Nat → Int64) (p1 p2 : Int32) : Int32 := if kMK p1 p2 = 0 then bI (hs (J 0 p1.toNatClampNeg) p2) else 0
def rSndI (I : Nat → Nat → Int32) (J : Nat → Nat → Int64) (p1 : Int32) : Nat → Nat → Int32 := if kSnd p1 = 0 then mwF (fnJ (tI I 0) J) p1 (tI I 0) 366 else tI I 1
def rSndJ (I : Nat → Nat → Int32) (J : Nat → Nat → Int64) (p1 : Int32) : Nat → Nat → Int64 := if kSnd p1 = 0 then fnJ (tI I 0) J else J
def aSnd (I : Nat → Nat → Int32) (J : Nat → Nat → Int64) (p1 : Int32) : Int32 := if kSnd p1 = 0 then csM (fnJ (tI I 0) J) 6 else 0
def rRep (I : Nat → Nat → Int32) (p1 : Int32) : Nat → Nat → Int32 := if kRk p1 = 0 then mrI (tI I 0) p1.toNatClampNeg 61 else tI I 1
def aRep (I : Nat → Nat → Int32) (p1 : Int32) : Int32 := if kRk p1 = 0 then mrA (tI I 0) p1.toNatClampNeg 61 else 0
def rSdsJ (I : Nat → Nat → Int32) (J : Nat → Nat → Int64) (p1 p2 : Int32) : Nat → Nat → Int64 := if kRK p1 p2 = 0 then fnJ (tI I 0) J else J
def aSds (I : Nat → Nat → Int32) (J : Nat → Nat → Int64) (p1 p2 : Int32) : Int32 := if kRK p1 p2 = 0 then bI (hs (fnJ (tI I 0) J 2 p1.toNatClampNeg) p2) else 0
def qPit (I : Nat → Nat → Int32) (J : Nat → Nat → Int64) (p1 p2 : Int32) : Int32 := if rg p1 0 5 && rg p2 0 60 then (if hs (fnJ I J 2 p1.toNatClampNeg) p2 then 0 else 2) else 1
def aPit (I : Nat → Nat → Int32) (J : Nat → Nat → Int64) (p1 p2 : Int32) : Int32 := if qPit I J p1 p2 = 0 then mpt (tI I 0) p1.toNatClampNeg p2.toNatClampNeg (mst (fnN I J) ((tI I 0) 20 2)).toNatClampNeg else 0
def aWear (I : Nat → Nat → Int32) (p1 p2 : Int32) : Int32 := if kRK p1 p2 = 0 then (tI I 0) 9 (61 * p1.toNatClampNeg + p2.toNatClampNeg) else 0
def qMore (J : Nat → Nat → Int64) (p1 p2 : Int32) : Bool := decide (kMK p1 p2 = 0) && !(hs (J 0 p1.toNatClampNeg) p2)
def mJ1 (I : Nat → Nat → Int32) (J : Nat → Nat → Int64) (m : Nat) (k : Int32) : Nat → Nat → Int64 := u2L (fnJ I J) 0 m (fnJ I J 0 m ||| kb k)
def mJ2 (I : Nat → Nat → Int32) (J : Nat → Nat → Int64) (m : Nat) (k : Int32) : Nat → Nat → Int64 := u2L (fnJ I (mJ1 I J m k)) 0 m (fnJ I (mJ1 I J m k) 0 m &&& (kb k ^^^ (-1)))
def rMorJ (I : Nat → Nat → Int32) (J : Nat → Nat → Int64) (p1 p2 : Int32) : Nat → Nat → Int64 := if qMore J p1 p2 = true then mJ2 (tI I 0) J p1.toNatClampNeg p2 else J
def aMor (I : Nat → Nat → Int32) (J : Nat → Nat → Int64) (p1 p2 : Int32) : Int32 := if qMore J p1 p2 = true then fnN (tI I 0) (mJ1 (tI I 0) J p1.toNatClampNeg p2) - fnN (tI I 0) J else 0
def okM (I : Nat → Nat → Int32) : Prop := ∀ sp, sp < 12 → ∃ j, j < 3 ∧ I 3 sp = nI j
set_option maxHeartbeats 4000000 in
set_option maxRecDepth 100000 in
theorem c_X1init (l : Launch) (D : va_G) (h0 : Nat) (cI cL : ClassId) (sz : Nat) : Met l yX1_init wsX1_init ({ frames := 1, cells := 13, slots := 460, locals := 12 } : Room) (va_Pc [.ref h0] (fun U => U.heap.size = sz ∧ va_P D vwCl [(h0, .inr (1, [.int 0, .null, .null, .null, .null, .null, .int 0, .null, .int 0, .null, .null, .null, .null, .null, .null, .null]))] U.heap ∧ va_K D vwCl (rty cI cL) U ∧ va_D (fun _ => True) [(h0, .inr (1, [.int 0, .null, .null, .null, .null, .null, .int 0, .null, .int 0, .null, .null, .null, .null, .null, .null, .null]))] ∧ True)) (va_Qv (fun a : Nat → Nat => a 0 = h0) (fun a t => va_P D vwCl (rc a cI cL rnZ zJ) t.heap ∧ va_D (tA [(h0, .inr (1, [.int 0, .null, .null, .null, .null, .null, .int 0, .null, .int 0, .null, .null, .null, .null, .null, .null, .null]))] sz) (rc a cI cL rnZ zJ)) (tA [(h0, .inr (1, [.int 0, .null, .null, .null, .null, .null, .int 0, .null, .int 0, .null, .null, .null, .null, .null, .null, .null]))] sz)) 13 460 (tA [(h0, .inr (1, [.int 0, .null, .null, .null, .null, .null, .int 0, .null, .int 0, .null, .null, .null, .null, .null, .null, .null]))] sz) := by
  refine Met.ofW (cc := cX1_init) (maxL := 2) (ret := none) (by decide) rfl ?_
  intro p e s m args below meth c s₁ B hml hv
  obtain ⟨rfl, hsz, hP, hK, hD0, hEx⟩ := hv
  subst hsz
  have hx := B.exec
  have hb := B.bytes
  have hr := B.returns
  have hts := atoms_spec (ws := wsX1_init) B.pre
  have hown : s.vm.findClass RX1 = some m.cls := findClass_of_methodNamed B.named
  have hlocks := B.notSynchronized
  have hin : meth.name = "<init>" := (name_of_methodNamed B.named B.method).1
  have hin0 : ∀ w ∈ u_ws RX1 TX1 16, w ∈ wsX1_init := by decide +kernel
  have hD := tA_D (sz := s.heap.size) hD0
  generalize hw0 : ([(h0, .inr (1, [.int 0, .null, .null, .null, .null, .null, .int 0, .null, .int 0, .null, .null, .null, .null, .null, .null, .null]))] : va_W) = w0 at hD ⊢
  have hA : ∀ q : Nat, s.heap.size ≤ q → tA w0 s.heap.size q := fun _ h => Or.inr h
  have hD : va_D (tA w0 s.heap.size) [(h0, .inr (1, [.int 0, .null, .null, .null, .null, .null, .int 0, .null, .int 0, .null, .null, .null, .null, .null, .null, .null]))] := by rw [hw0]; exact hD
  have hl := lv_entry ([.ref h0]) (n := 2) (Nat.le_of_ble_eq_true rfl)
  rw [lg_entry_eq]
  generalize (lg_sl ([.ref h0]) ++ List.replicate (2 - (lg_sl ([.ref h0])).length) Slot.unset).toArray = ls at hl ⊢
  have hl : lv_has ls 2 [(0, .ref h0)] := hl
  refine lv_aload_n hx hb dX1_init_0 rfl (lv_at hl 0 rfl) ?_
  refine W.objInit hx hb hown (hts (.methodLink RX1 1 objectInit) (by decide +kernel)) (hts (.instanceMethod objectInit) (by decide +kernel)) (hts _ (List.mem_cons_of_mem _ (List.mem_append_left _ (List.mem_of_getElem? (i := 2) rfl)))) rfl (by rw [hml]; exact hl.1) rfl dX1_init_1 (Nat.le_of_ble_eq_true rfl) (Nat.le_of_ble_eq_true rfl) ?_
  refine W.eq (g2 := F0 m 4 ls []) rfl ?_
  have hS : va_S (tA w0 s.heap.size) s.heap s.heap [] := va_S.rf
  refine lv_aload_n hx hb dX1_init_4 rfl (lv_at hl 0 rfl) ?_
  refine lv_bipush (v := 6) hx hb dX1_init_5 (by decide) ?_
  refine n_int (N := 6) hx hb (hts (.arrayClass .int) (by decide +kernel)) rfl hK hP hD hS hA (by decide) (by decide) (by decide) (Nat.le_of_ble_eq_true rfl) (Nat.le_of_ble_eq_true rfl) dX1_init_7 (fun q1 H hP hD hS => ?_)
  have hP : va_P D vwCl [(h0, .inr (1, [.int 0, .null, .null, .null, .null, .null, .int 0, .null, .int 0, .null, .null, .null, .null, .null, .null, .null])), (q1, .inl (cI, 6, .inl (fun _ => 0)))] H := hP
  have hD : va_D (tA w0 s.heap.size) [(h0, .inr (1, [.int 0, .null, .null, .null, .null, .null, .int 0, .null, .int 0, .null, .null, .null, .null, .null, .null, .null])), (q1, .inl (cI, 6, .inl (fun _ => 0)))] := hD
  refine va_putF (D := D) (ci := 1) (v := .ref q1) (ty := .array .int) (C := RX1) (T := TX1) (N := 16) hx hb hts hin0 tyX1 tyX1_ok nmX1 hown hK hP hD hS 0 rfl rfl 1 (by decide) (hts (.fieldLink RX1 7 "OrganBuilderModel" "kind" "[I") (by decide +kernel)) (fun _ h9 => h9) rfl hin rfl (by decide +kernel) rfl rfl (Nat.le_of_ble_eq_true rfl) dX1_init_9 (fun H locs hP hD hS => ?_)
  have hP : va_P D vwCl [(h0, .inr (1, [.int 0, .ref q1, .null, .null, .null, .null, .int 0, .null, .int 0, .null, .null, .null, .null, .null, .null, .null])), (q1, .inl (cI, 6, .inl (fun _ => 0)))] H := hP
  have hD : va_D (tA w0 s.heap.size) [(h0, .inr (1, [.int 0, .ref q1, .null, .null, .null, .null, .int 0, .null, .int 0, .null, .null, .null, .null, .null, .null, .null])), (q1, .inl (cI, 6, .inl (fun _ => 0)))] := hD
  refine lv_aload_n hx hb dX1_init_12 rfl (lv_at hl 0 rfl) ?_
  refine lv_bipush (v := 6) hx hb dX1_init_13 (by decide) ?_
  refine n_int (N := 6) hx hb (hts (.arrayClass .int) (by decide +kernel)) rfl hK hP hD hS hA (by decide) (by decide) (by decide) (Nat.le_of_ble_eq_true rfl) (Nat.le_of_ble_eq_true rfl) dX1_init_15 (fun q2 H hP hD hS => ?_)
  have hP : va_P D vwCl [(h0, .inr (1, [.int 0, .ref q1, .null, .null, .null, .null, .int 0, .null, .int 0, .null, .null, .null, .null, .null, .null, .null])), (q1, .inl (cI, 6, .inl (fun _ => 0))), (q2, .inl (cI, 6, .inl (fun _ => 0)))] H := hP
  have hD : va_D (tA w0 s.heap.size) [(h0, .inr (1, [.int 0, .ref q1, .null, .null, .null, .null, .int 0, .null, .int 0, .null, .null, .null, .null, .null, .null, .null])), (q1, .inl (cI, 6, .inl (fun _ => 0))), (q2, .inl (cI, 6, .inl (fun _ => 0)))] := hD
  refine va_putF (D := D) (ci := 1) (v := .ref q2) (ty := .array .int) (C := RX1) (T := TX1) (N := 16) hx hb hts hin0 tyX1 tyX1_ok nmX1 hown hK hP hD hS 0 rfl rfl 2 (by decide) (hts (.fieldLink RX1 13 "OrganBuilderModel" "wind" "[I") (by decide +kernel)) (fun _ h9 => h9) rfl hin rfl (by decide +kernel) rfl rfl (Nat.le_of_ble_eq_true rfl) dX1_init_17 (fun H locs hP hD hS => ?_)
  have hP : va_P D vwCl [(h0, .inr (1, [.int 0, .ref q1, .ref q2, .null, .null, .null, .int 0, .null, .int 0, .null, .null, .null, .null, .null, .null, .null])), (q1, .inl (cI, 6, .inl (fun _ => 0))), (q2, .inl (cI, 6, .inl (fun _ => 0)))] H := hP
  have hD : va_D (tA w0 s.heap.size) [(h0, .inr (1, [.int 0, .ref q1, .ref q2, .null, .null, .null, .int 0, .null, .int 0, .null, .null, .null, .null, .null, .null, .null])), (q1, .inl (cI, 6, .inl (fun _ => 0))), (q2, .inl (cI, 6, .inl (fun _ => 0)))] := hD
  refine lv_aload_n hx hb dX1_init_20 rfl (lv_at hl 0 rfl) ?_
  refine lv_bipush (v := 6) hx hb dX1_init_21 (by decide) ?_
  refine n_int (N := 6) hx hb (hts (.arrayClass .int) (by decide +kernel)) rfl hK hP hD hS hA (by decide) (by decide) (by decide) (Nat.le_of_ble_eq_true rfl) (Nat.le_of_ble_eq_true rfl) dX1_init_23 (fun q3 H hP hD hS => ?_)
  have hP : va_P D vwCl [(h0, .inr (1, [.int 0, .ref q1, .ref q2, .null, .null, .null, .int 0, .null, .int 0, .null, .null, .null, .null, .null, .null, .null])), (q1, .inl (cI, 6, .inl (fun _ => 0))), (q2, .inl (cI, 6, .inl (fun _ => 0))), (q3, .inl (cI, 6, .inl (fun _ => 0)))] H := hP
  have hD : va_D (tA w0 s.heap.size) [(h0, .inr (1, [.int 0, .ref q1, .ref q2, .null, .null, .null, .int 0, .null, .int 0, .null, .null, .null, .null, .null, .null, .null])), (q1, .inl (cI, 6, .inl (fun _ => 0))), (q2, .inl (cI, 6, .inl (fun _ => 0))), (q3, .inl (cI, 6, .inl (fun _ => 0)))] := hD
  refine va_putF (D := D) (ci := 1) (v := .ref q3) (ty := .array .int) (C := RX1) (T := TX1) (N := 16) hx hb hts hin0 tyX1 tyX1_ok nmX1 hown hK hP hD hS 0 rfl rfl 3 (by decide) (hts (.fieldLink RX1 16 "OrganBuilderModel" "detune" "[I") (by decide +kernel)) (fun _ h9 => h9) rfl hin rfl (by decide +kernel) rfl rfl (Nat.le_of_ble_eq_true rfl) dX1_init_25 (fun H locs hP hD hS => ?_)
  have hP : va_P D vwCl [(h0, .inr (1, [.int 0, .ref q1, .ref q2, .ref q3, .null, .null, .int 0, .null, .int 0, .null, .null, .null, .null, .null, .null, .null])), (q1, .inl (cI, 6, .inl (fun _ => 0))), (q2, .inl (cI, 6, .inl (fun _ => 0))), (q3, .inl (cI, 6, .inl (fun _ => 0)))] H := hP
  have hD : va_D (tA w0 s.heap.size) [(h0, .inr (1, [.int 0, .ref q1, .ref q2, .ref q3, .null, .null, .int 0, .null, .int 0, .null, .null, .null, .null, .null, .null, .null])), (q1, .inl (cI, 6, .inl (fun _ => 0))), (q2, .inl (cI, 6, .inl (fun _ => 0))), (q3, .inl (cI, 6, .inl (fun _ => 0)))] := hD
  refine lv_aload_n hx hb dX1_init_28 rfl (lv_at hl 0 rfl) ?_
  refine lv_bipush (v := 12) hx hb dX1_init_29 (by decide) ?_
  refine n_int (N := 12) hx hb (hts (.arrayClass .int) (by decide +kernel)) rfl hK hP hD hS hA (by decide) (by decide) (by decide) (Nat.le_of_ble_eq_true rfl) (Nat.le_of_ble_eq_true rfl) dX1_init_31 (fun q4 H hP hD hS => ?_)
  have hP : va_P D vwCl [(h0, .inr (1, [.int 0, .ref q1, .ref q2, .ref q3, .null, .null, .int 0, .null, .int 0, .null, .null, .null, .null, .null, .null, .null])), (q1, .inl (cI, 6, .inl (fun _ => 0))), (q2, .inl (cI, 6, .inl (fun _ => 0))), (q3, .inl (cI, 6, .inl (fun _ => 0))), (q4, .inl (cI, 12, .inl (fun _ => 0)))] H := hP
  have hD : va_D (tA w0 s.heap.size) [(h0, .inr (1, [.int 0, .ref q1, .ref q2, .ref q3, .null, .null, .int 0, .null, .int 0, .null, .null, .null, .null, .null, .null, .null])), (q1, .inl (cI, 6, .inl (fun _ => 0))), (q2, .inl (cI, 6, .inl (fun _ => 0))), (q3, .inl (cI, 6, .inl (fun _ => 0))), (q4, .inl (cI, 12, .inl (fun _ => 0)))] := hD
  refine va_putF (D := D) (ci := 1) (v := .ref q4) (ty := .array .int) (C := RX1) (T := TX1) (N := 16) hx hb hts hin0 tyX1 tyX1_ok nmX1 hown hK hP hD hS 0 rfl rfl 4 (by decide) (hts (.fieldLink RX1 19 "OrganBuilderModel" "manual" "[I") (by decide +kernel)) (fun _ h9 => h9) rfl hin rfl (by decide +kernel) rfl rfl (Nat.le_of_ble_eq_true rfl) dX1_init_33 (fun H locs hP hD hS => ?_)
  have hP : va_P D vwCl [(h0, .inr (1, [.int 0, .ref q1, .ref q2, .ref q3, .ref q4, .null, .int 0, .null, .int 0, .null, .null, .null, .null, .null, .null, .null])), (q1, .inl (cI, 6, .inl (fun _ => 0))), (q2, .inl (cI, 6, .inl (fun _ => 0))), (q3, .inl (cI, 6, .inl (fun _ => 0))), (q4, .inl (cI, 12, .inl (fun _ => 0)))] H := hP
  have hD : va_D (tA w0 s.heap.size) [(h0, .inr (1, [.int 0, .ref q1, .ref q2, .ref q3, .ref q4, .null, .int 0, .null, .int 0, .null, .null, .null, .null, .null, .null, .null])), (q1, .inl (cI, 6, .inl (fun _ => 0))), (q2, .inl (cI, 6, .inl (fun _ => 0))), (q3, .inl (cI, 6, .inl (fun _ => 0))), (q4, .inl (cI, 12, .inl (fun _ => 0)))] := hD
  refine lv_aload_n hx hb dX1_init_36 rfl (lv_at hl 0 rfl) ?_
  refine lv_bipush (v := 12) hx hb dX1_init_37 (by decide) ?_
  refine n_int (N := 12) hx hb (hts (.arrayClass .int) (by decide +kernel)) rfl hK hP hD hS hA (by decide) (by decide) (by decide) (Nat.le_of_ble_eq_true rfl) (Nat.le_of_ble_eq_true rfl) dX1_init_39 (fun q5 H hP hD hS => ?_)
  have hP : va_P D vwCl [(h0, .inr (1, [.int 0, .ref q1, .ref q2, .ref q3, .ref q4, .null, .int 0, .null, .int 0, .null, .null, .null, .null, .null, .null, .null])), (q1, .inl (cI, 6, .inl (fun _ => 0))), (q2, .inl (cI, 6, .inl (fun _ => 0))), (q3, .inl (cI, 6, .inl (fun _ => 0))), (q4, .inl (cI, 12, .inl (fun _ => 0))), (q5, .inl (cI, 12, .inl (fun _ => 0)))] H := hP
  have hD : va_D (tA w0 s.heap.size) [(h0, .inr (1, [.int 0, .ref q1, .ref q2, .ref q3, .ref q4, .null, .int 0, .null, .int 0, .null, .null, .null, .null, .null, .null, .null])), (q1, .inl (cI, 6, .inl (fun _ => 0))), (q2, .inl (cI, 6, .inl (fun _ => 0))), (q3, .inl (cI, 6, .inl (fun _ => 0))), (q4, .inl (cI, 12, .inl (fun _ => 0))), (q5, .inl (cI, 12, .inl (fun _ => 0)))] := hD
  refine va_putF (D := D) (ci := 1) (v := .ref q5) (ty := .array .int) (C := RX1) (T := TX1) (N := 16) hx hb hts hin0 tyX1 tyX1_ok nmX1 hown hK hP hD hS 0 rfl rfl 5 (by decide) (hts (.fieldLink RX1 22 "OrganBuilderModel" "rank" "[I") (by decide +kernel)) (fun _ h9 => h9) rfl hin rfl (by decide +kernel) rfl rfl (Nat.le_of_ble_eq_true rfl) dX1_init_41 (fun H locs hP hD hS => ?_)
  have hP : va_P D vwCl [(h0, .inr (1, [.int 0, .ref q1, .ref q2, .ref q3, .ref q4, .ref q5, .int 0, .null, .int 0, .null, .null, .null, .null, .null, .null, .null])), (q1, .inl (cI, 6, .inl (fun _ => 0))), (q2, .inl (cI, 6, .inl (fun _ => 0))), (q3, .inl (cI, 6, .inl (fun _ => 0))), (q4, .inl (cI, 12, .inl (fun _ => 0))), (q5, .inl (cI, 12, .inl (fun _ => 0)))] H := hP
  have hD : va_D (tA w0 s.heap.size) [(h0, .inr (1, [.int 0, .ref q1, .ref q2, .ref q3, .ref q4, .ref q5, .int 0, .null, .int 0, .null, .null, .null, .null, .null, .null, .null])), (q1, .inl (cI, 6, .inl (fun _ => 0))), (q2, .inl (cI, 6, .inl (fun _ => 0))), (q3, .inl (cI, 6, .inl (fun _ => 0))), (q4, .inl (cI, 12, .inl (fun _ => 0))), (q5, .inl (cI, 12, .inl (fun _ => 0)))] := hD
  refine lv_aload_n hx hb dX1_init_44 rfl (lv_at hl 0 rfl) ?_
  refine lv_bipush (v := 9) hx hb dX1_init_45 (by decide) ?_
  refine n_int (N := 9) hx hb (hts (.arrayClass .int) (by decide +kernel)) rfl hK hP hD hS hA (by decide) (by decide) (by decide) (Nat.le_of_ble_eq_true rfl) (Nat.le_of_ble_eq_true rfl) dX1_init_47 (fun q6 H hP hD hS => ?_)
  have hP : va_P D vwCl [(h0, .inr (1, [.int 0, .ref q1, .ref q2, .ref q3, .ref q4, .ref q5, .int 0, .null, .int 0, .null, .null, .null, .null, .null, .null, .null])), (q1, .inl (cI, 6, .inl (fun _ => 0))), (q2, .inl (cI, 6, .inl (fun _ => 0))), (q3, .inl (cI, 6, .inl (fun _ => 0))), (q4, .inl (cI, 12, .inl (fun _ => 0))), (q5, .inl (cI, 12, .inl (fun _ => 0))), (q6, .inl (cI, 9, .inl (fun _ => 0)))] H := hP
  have hD : va_D (tA w0 s.heap.size) [(h0, .inr (1, [.int 0, .ref q1, .ref q2, .ref q3, .ref q4, .ref q5, .int 0, .null, .int 0, .null, .null, .null, .null, .null, .null, .null])), (q1, .inl (cI, 6, .inl (fun _ => 0))), (q2, .inl (cI, 6, .inl (fun _ => 0))), (q3, .inl (cI, 6, .inl (fun _ => 0))), (q4, .inl (cI, 12, .inl (fun _ => 0))), (q5, .inl (cI, 12, .inl (fun _ => 0))), (q6, .inl (cI, 9, .inl (fun _ => 0)))] := hD
  refine va_putF (D := D) (ci := 1) (v := .ref q6) (ty := .array .int) (C := RX1) (T := TX1) (N := 16) hx hb hts hin0 tyX1 tyX1_ok nmX1 hown hK hP hD hS 0 rfl rfl 7 (by decide) (hts (.fieldLink RX1 25 "OrganBuilderModel" "coupler" "[I") (by decide +kernel)) (fun _ h9 => h9) rfl hin rfl (by decide +kernel) rfl rfl (Nat.le_of_ble_eq_true rfl) dX1_init_49 (fun H locs hP hD hS => ?_)
  have hP : va_P D vwCl [(h0, .inr (1, [.int 0, .ref q1, .ref q2, .ref q3, .ref q4, .ref q5, .int 0, .ref q6, .int 0, .null, .null, .null, .null, .null, .null, .null])), (q1, .inl (cI, 6, .inl (fun _ => 0))), (q2, .inl (cI, 6, .inl (fun _ => 0))), (q3, .inl (cI, 6, .inl (fun _ => 0))), (q4, .inl (cI, 12, .inl (fun _ => 0))), (q5, .inl (cI, 12, .inl (fun _ => 0))), (q6, .inl (cI, 9, .inl (fun _ => 0)))] H := hP
  have hD : va_D (tA w0 s.heap.size) [(h0, .inr (1, [.int 0, .ref q1, .ref q2, .ref q3, .ref q4, .ref q5, .int 0, .ref q6, .int 0, .null, .null, .null, .null, .null, .null, .null])), (q1, .inl (cI, 6, .inl (fun _ => 0))), (q2, .inl (cI, 6, .inl (fun _ => 0))), (q3, .inl (cI, 6, .inl (fun _ => 0))), (q4, .inl (cI, 12, .inl (fun _ => 0))), (q5, .inl (cI, 12, .inl (fun _ => 0))), (q6, .inl (cI, 9, .inl (fun _ => 0)))] := hD
  refine lv_aload_n hx hb dX1_init_52 rfl (lv_at hl 0 rfl) ?_
  refine lv_bipush (v := 100) hx hb dX1_init_53 (by decide) ?_
  refine va_put (D := D) (ci := 1) (v := .int 100) (ty := .int) (C := RX1) (T := TX1) (N := 16) hx hb hts hin0 tyX1 tyX1_ok nmX1 hown hK hP hD hS 0 rfl rfl 8 (by decide) (hts (.fieldLink RX1 28 "OrganBuilderModel" "supply" "I") (by decide +kernel)) (fun _ h9 => h9) rfl (by decide +kernel) rfl rfl (Nat.le_of_ble_eq_true rfl) dX1_init_55 (fun H locs hP hD hS => ?_)
  have hP : va_P D vwCl [(h0, .inr (1, [.int 0, .ref q1, .ref q2, .ref q3, .ref q4, .ref q5, .int 0, .ref q6, .int 100, .null, .null, .null, .null, .null, .null, .null])), (q1, .inl (cI, 6, .inl (fun _ => 0))), (q2, .inl (cI, 6, .inl (fun _ => 0))), (q3, .inl (cI, 6, .inl (fun _ => 0))), (q4, .inl (cI, 12, .inl (fun _ => 0))), (q5, .inl (cI, 12, .inl (fun _ => 0))), (q6, .inl (cI, 9, .inl (fun _ => 0)))] H := hP
  have hD : va_D (tA w0 s.heap.size) [(h0, .inr (1, [.int 0, .ref q1, .ref q2, .ref q3, .ref q4, .ref q5, .int 0, .ref q6, .int 100, .null, .null, .null, .null, .null, .null, .null])), (q1, .inl (cI, 6, .inl (fun _ => 0))), (q2, .inl (cI, 6, .inl (fun _ => 0))), (q3, .inl (cI, 6, .inl (fun _ => 0))), (q4, .inl (cI, 12, .inl (fun _ => 0))), (q5, .inl (cI, 12, .inl (fun _ => 0))), (q6, .inl (cI, 9, .inl (fun _ => 0)))] := hD
  refine lv_aload_n hx hb dX1_init_58 rfl (lv_at hl 0 rfl) ?_
  refine lv_bipush (v := 11) hx hb dX1_init_59 (by decide) ?_
  refine n_int (N := 11) hx hb (hts (.arrayClass .int) (by decide +kernel)) rfl hK hP hD hS hA (by decide) (by decide) (by decide) (Nat.le_of_ble_eq_true rfl) (Nat.le_of_ble_eq_true rfl) dX1_init_61 (fun q7 H hP hD hS => ?_)
  have hP : va_P D vwCl [(h0, .inr (1, [.int 0, .ref q1, .ref q2, .ref q3, .ref q4, .ref q5, .int 0, .ref q6, .int 100, .null, .null, .null, .null, .null, .null, .null])), (q1, .inl (cI, 6, .inl (fun _ => 0))), (q2, .inl (cI, 6, .inl (fun _ => 0))), (q3, .inl (cI, 6, .inl (fun _ => 0))), (q4, .inl (cI, 12, .inl (fun _ => 0))), (q5, .inl (cI, 12, .inl (fun _ => 0))), (q6, .inl (cI, 9, .inl (fun _ => 0))), (q7, .inl (cI, 11, .inl (fun _ => 0)))] H := hP
  have hD : va_D (tA w0 s.heap.size) [(h0, .inr (1, [.int 0, .ref q1, .ref q2, .ref q3, .ref q4, .ref q5, .int 0, .ref q6, .int 100, .null, .null, .null, .null, .null, .null, .null])), (q1, .inl (cI, 6, .inl (fun _ => 0))), (q2, .inl (cI, 6, .inl (fun _ => 0))), (q3, .inl (cI, 6, .inl (fun _ => 0))), (q4, .inl (cI, 12, .inl (fun _ => 0))), (q5, .inl (cI, 12, .inl (fun _ => 0))), (q6, .inl (cI, 9, .inl (fun _ => 0))), (q7, .inl (cI, 11, .inl (fun _ => 0)))] := hD
  refine va_putF (D := D) (ci := 1) (v := .ref q7) (ty := .array .int) (C := RX1) (T := TX1) (N := 16) hx hb hts hin0 tyX1 tyX1_ok nmX1 hown hK hP hD hS 0 rfl rfl 9 (by decide) (hts (.fieldLink RX1 32 "OrganBuilderModel" "fall" "[I") (by decide +kernel)) (fun _ h9 => h9) rfl hin rfl (by decide +kernel) rfl rfl (Nat.le_of_ble_eq_true rfl) dX1_init_63 (fun H locs hP hD hS => ?_)
  have hP : va_P D vwCl [(h0, .inr (1, [.int 0, .ref q1, .ref q2, .ref q3, .ref q4, .ref q5, .int 0, .ref q6, .int 100, .ref q7, .null, .null, .null, .null, .null, .null])), (q1, .inl (cI, 6, .inl (fun _ => 0))), (q2, .inl (cI, 6, .inl (fun _ => 0))), (q3, .inl (cI, 6, .inl (fun _ => 0))), (q4, .inl (cI, 12, .inl (fun _ => 0))), (q5, .inl (cI, 12, .inl (fun _ => 0))), (q6, .inl (cI, 9, .inl (fun _ => 0))), (q7, .inl (cI, 11, .inl (fun _ => 0)))] H := hP
  have hD : va_D (tA w0 s.heap.size) [(h0, .inr (1, [.int 0, .ref q1, .ref q2, .ref q3, .ref q4, .ref q5, .int 0, .ref q6, .int 100, .ref q7, .null, .null, .null, .null, .null, .null])), (q1, .inl (cI, 6, .inl (fun _ => 0))), (q2, .inl (cI, 6, .inl (fun _ => 0))), (q3, .inl (cI, 6, .inl (fun _ => 0))), (q4, .inl (cI, 12, .inl (fun _ => 0))), (q5, .inl (cI, 12, .inl (fun _ => 0))), (q6, .inl (cI, 9, .inl (fun _ => 0))), (q7, .inl (cI, 11, .inl (fun _ => 0)))] := hD
  refine lv_aload_n hx hb dX1_init_66 rfl (lv_at hl 0 rfl) ?_
  refine lv_bipush (v := 12) hx hb dX1_init_67 (by decide) ?_
  refine n_int (N := 12) hx hb (hts (.arrayClass .int) (by decide +kernel)) rfl hK hP hD hS hA (by decide) (by decide) (by decide) (Nat.le_of_ble_eq_true rfl) (Nat.le_of_ble_eq_true rfl) dX1_init_69 (fun q8 H hP hD hS => ?_)
  have hP : va_P D vwCl [(h0, .inr (1, [.int 0, .ref q1, .ref q2, .ref q3, .ref q4, .ref q5, .int 0, .ref q6, .int 100, .ref q7, .null, .null, .null, .null, .null, .null])), (q1, .inl (cI, 6, .inl (fun _ => 0))), (q2, .inl (cI, 6, .inl (fun _ => 0))), (q3, .inl (cI, 6, .inl (fun _ => 0))), (q4, .inl (cI, 12, .inl (fun _ => 0))), (q5, .inl (cI, 12, .inl (fun _ => 0))), (q6, .inl (cI, 9, .inl (fun _ => 0))), (q7, .inl (cI, 11, .inl (fun _ => 0))), (q8, .inl (cI, 12, .inl (fun _ => 0)))] H := hP
  have hD : va_D (tA w0 s.heap.size) [(h0, .inr (1, [.int 0, .ref q1, .ref q2, .ref q3, .ref q4, .ref q5, .int 0, .ref q6, .int 100, .ref q7, .null, .null, .null, .null, .null, .null])), (q1, .inl (cI, 6, .inl (fun _ => 0))), (q2, .inl (cI, 6, .inl (fun _ => 0))), (q3, .inl (cI, 6, .inl (fun _ => 0))), (q4, .inl (cI, 12, .inl (fun _ => 0))), (q5, .inl (cI, 12, .inl (fun _ => 0))), (q6, .inl (cI, 9, .inl (fun _ => 0))), (q7, .inl (cI, 11, .inl (fun _ => 0))), (q8, .inl (cI, 12, .inl (fun _ => 0)))] := hD
  refine va_putF (D := D) (ci := 1) (v := .ref q8) (ty := .array .int) (C := RX1) (T := TX1) (N := 16) hx hb hts hin0 tyX1 tyX1_ok nmX1 hown hK hP hD hS 0 rfl rfl 10 (by decide) (hts (.fieldLink RX1 35 "OrganBuilderModel" "offset" "[I") (by decide +kernel)) (fun _ h9 => h9) rfl hin rfl (by decide +kernel) rfl rfl (Nat.le_of_ble_eq_true rfl) dX1_init_71 (fun H locs hP hD hS => ?_)
  have hP : va_P D vwCl [(h0, .inr (1, [.int 0, .ref q1, .ref q2, .ref q3, .ref q4, .ref q5, .int 0, .ref q6, .int 100, .ref q7, .ref q8, .null, .null, .null, .null, .null])), (q1, .inl (cI, 6, .inl (fun _ => 0))), (q2, .inl (cI, 6, .inl (fun _ => 0))), (q3, .inl (cI, 6, .inl (fun _ => 0))), (q4, .inl (cI, 12, .inl (fun _ => 0))), (q5, .inl (cI, 12, .inl (fun _ => 0))), (q6, .inl (cI, 9, .inl (fun _ => 0))), (q7, .inl (cI, 11, .inl (fun _ => 0))), (q8, .inl (cI, 12, .inl (fun _ => 0)))] H := hP
  have hD : va_D (tA w0 s.heap.size) [(h0, .inr (1, [.int 0, .ref q1, .ref q2, .ref q3, .ref q4, .ref q5, .int 0, .ref q6, .int 100, .ref q7, .ref q8, .null, .null, .null, .null, .null])), (q1, .inl (cI, 6, .inl (fun _ => 0))), (q2, .inl (cI, 6, .inl (fun _ => 0))), (q3, .inl (cI, 6, .inl (fun _ => 0))), (q4, .inl (cI, 12, .inl (fun _ => 0))), (q5, .inl (cI, 12, .inl (fun _ => 0))), (q6, .inl (cI, 9, .inl (fun _ => 0))), (q7, .inl (cI, 11, .inl (fun _ => 0))), (q8, .inl (cI, 12, .inl (fun _ => 0)))] := hD
  refine lv_aload_n hx hb dX1_init_74 rfl (lv_at hl 0 rfl) ?_
  refine lv_bipush (v := 8) hx hb dX1_init_75 (by decide) ?_
  refine n_int (N := 8) hx hb (hts (.arrayClass .int) (by decide +kernel)) rfl hK hP hD hS hA (by decide) (by decide) (by decide) (Nat.le_of_ble_eq_true rfl) (Nat.le_of_ble_eq_true rfl) dX1_init_77 (fun q9 H hP hD hS => ?_)
  have hP : va_P D vwCl [(h0, .inr (1, [.int 0, .ref q1, .ref q2, .ref q3, .ref q4, .ref q5, .int 0, .ref q6, .int 100, .ref q7, .ref q8, .null, .null, .null, .null, .null])), (q1, .inl (cI, 6, .inl (fun _ => 0))), (q2, .inl (cI, 6, .inl (fun _ => 0))), (q3, .inl (cI, 6, .inl (fun _ => 0))), (q4, .inl (cI, 12, .inl (fun _ => 0))), (q5, .inl (cI, 12, .inl (fun _ => 0))), (q6, .inl (cI, 9, .inl (fun _ => 0))), (q7, .inl (cI, 11, .inl (fun _ => 0))), (q8, .inl (cI, 12, .inl (fun _ => 0))), (q9, .inl (cI, 8, .inl (fun _ => 0)))] H := hP
  have hD : va_D (tA w0 s.heap.size) [(h0, .inr (1, [.int 0, .ref q1, .ref q2, .ref q3, .ref q4, .ref q5, .int 0, .ref q6, .int 100, .ref q7, .ref q8, .null, .null, .null, .null, .null])), (q1, .inl (cI, 6, .inl (fun _ => 0))), (q2, .inl (cI, 6, .inl (fun _ => 0))), (q3, .inl (cI, 6, .inl (fun _ => 0))), (q4, .inl (cI, 12, .inl (fun _ => 0))), (q5, .inl (cI, 12, .inl (fun _ => 0))), (q6, .inl (cI, 9, .inl (fun _ => 0))), (q7, .inl (cI, 11, .inl (fun _ => 0))), (q8, .inl (cI, 12, .inl (fun _ => 0))), (q9, .inl (cI, 8, .inl (fun _ => 0)))] := hD
  refine va_putF (D := D) (ci := 1) (v := .ref q9) (ty := .array .int) (C := RX1) (T := TX1) (N := 16) hx hb hts hin0 tyX1 tyX1_ok nmX1 hown hK hP hD hS 0 rfl rfl 11 (by decide) (hts (.fieldLink RX1 38 "OrganBuilderModel" "registration" "[I") (by decide +kernel)) (fun _ h9 => h9) rfl hin rfl (by decide +kernel) rfl rfl (Nat.le_of_ble_eq_true rfl) dX1_init_79 (fun H locs hP hD hS => ?_)
  have hP : va_P D vwCl [(h0, .inr (1, [.int 0, .ref q1, .ref q2, .ref q3, .ref q4, .ref q5, .int 0, .ref q6, .int 100, .ref q7, .ref q8, .ref q9, .null, .null, .null, .null])), (q1, .inl (cI, 6, .inl (fun _ => 0))), (q2, .inl (cI, 6, .inl (fun _ => 0))), (q3, .inl (cI, 6, .inl (fun _ => 0))), (q4, .inl (cI, 12, .inl (fun _ => 0))), (q5, .inl (cI, 12, .inl (fun _ => 0))), (q6, .inl (cI, 9, .inl (fun _ => 0))), (q7, .inl (cI, 11, .inl (fun _ => 0))), (q8, .inl (cI, 12, .inl (fun _ => 0))), (q9, .inl (cI, 8, .inl (fun _ => 0)))] H := hP
  have hD : va_D (tA w0 s.heap.size) [(h0, .inr (1, [.int 0, .ref q1, .ref q2, .ref q3, .ref q4, .ref q5, .int 0, .ref q6, .int 100, .ref q7, .ref q8, .ref q9, .null, .null, .null, .null])), (q1, .inl (cI, 6, .inl (fun _ => 0))), (q2, .inl (cI, 6, .inl (fun _ => 0))), (q3, .inl (cI, 6, .inl (fun _ => 0))), (q4, .inl (cI, 12, .inl (fun _ => 0))), (q5, .inl (cI, 12, .inl (fun _ => 0))), (q6, .inl (cI, 9, .inl (fun _ => 0))), (q7, .inl (cI, 11, .inl (fun _ => 0))), (q8, .inl (cI, 12, .inl (fun _ => 0))), (q9, .inl (cI, 8, .inl (fun _ => 0)))] := hD
  refine lv_aload_n hx hb dX1_init_82 rfl (lv_at hl 0 rfl) ?_
  refine lv_iconst (v := 3) hx hb dX1_init_83 (by decide) ?_
  refine n_long (N := 3) hx hb (hts (.arrayClass .long) (by decide +kernel)) rfl hK hP hD hS hA (by decide) (by decide) (by decide) (Nat.le_of_ble_eq_true rfl) (Nat.le_of_ble_eq_true rfl) dX1_init_84 (fun q10 H hP hD hS => ?_)
  have hP : va_P D vwCl [(h0, .inr (1, [.int 0, .ref q1, .ref q2, .ref q3, .ref q4, .ref q5, .int 0, .ref q6, .int 100, .ref q7, .ref q8, .ref q9, .null, .null, .null, .null])), (q1, .inl (cI, 6, .inl (fun _ => 0))), (q2, .inl (cI, 6, .inl (fun _ => 0))), (q3, .inl (cI, 6, .inl (fun _ => 0))), (q4, .inl (cI, 12, .inl (fun _ => 0))), (q5, .inl (cI, 12, .inl (fun _ => 0))), (q6, .inl (cI, 9, .inl (fun _ => 0))), (q7, .inl (cI, 11, .inl (fun _ => 0))), (q8, .inl (cI, 12, .inl (fun _ => 0))), (q9, .inl (cI, 8, .inl (fun _ => 0))), (q10, .inl (cL, 3, .inr (.inl (fun _ => 0))))] H := hP
  have hD : va_D (tA w0 s.heap.size) [(h0, .inr (1, [.int 0, .ref q1, .ref q2, .ref q3, .ref q4, .ref q5, .int 0, .ref q6, .int 100, .ref q7, .ref q8, .ref q9, .null, .null, .null, .null])), (q1, .inl (cI, 6, .inl (fun _ => 0))), (q2, .inl (cI, 6, .inl (fun _ => 0))), (q3, .inl (cI, 6, .inl (fun _ => 0))), (q4, .inl (cI, 12, .inl (fun _ => 0))), (q5, .inl (cI, 12, .inl (fun _ => 0))), (q6, .inl (cI, 9, .inl (fun _ => 0))), (q7, .inl (cI, 11, .inl (fun _ => 0))), (q8, .inl (cI, 12, .inl (fun _ => 0))), (q9, .inl (cI, 8, .inl (fun _ => 0))), (q10, .inl (cL, 3, .inr (.inl (fun _ => 0))))] := hD
  refine va_putF (D := D) (ci := 1) (v := .ref q10) (ty := .array .long) (C := RX1) (T := TX1) (N := 16) hx hb hts hin0 tyX1 tyX1_ok nmX1 hown hK hP hD hS 0 rfl rfl 12 (by decide) (hts (.fieldLink RX1 41 "OrganBuilderModel" "held" "[J") (by decide +kernel)) (fun _ h9 => h9) rfl hin rfl (by decide +kernel) rfl rfl (Nat.le_of_ble_eq_true rfl) dX1_init_86 (fun H locs hP hD hS => ?_)
  have hP : va_P D vwCl [(h0, .inr (1, [.int 0, .ref q1, .ref q2, .ref q3, .ref q4, .ref q5, .int 0, .ref q6, .int 100, .ref q7, .ref q8, .ref q9, .ref q10, .null, .null, .null])), (q1, .inl (cI, 6, .inl (fun _ => 0))), (q2, .inl (cI, 6, .inl (fun _ => 0))), (q3, .inl (cI, 6, .inl (fun _ => 0))), (q4, .inl (cI, 12, .inl (fun _ => 0))), (q5, .inl (cI, 12, .inl (fun _ => 0))), (q6, .inl (cI, 9, .inl (fun _ => 0))), (q7, .inl (cI, 11, .inl (fun _ => 0))), (q8, .inl (cI, 12, .inl (fun _ => 0))), (q9, .inl (cI, 8, .inl (fun _ => 0))), (q10, .inl (cL, 3, .inr (.inl (fun _ => 0))))] H := hP
  have hD : va_D (tA w0 s.heap.size) [(h0, .inr (1, [.int 0, .ref q1, .ref q2, .ref q3, .ref q4, .ref q5, .int 0, .ref q6, .int 100, .ref q7, .ref q8, .ref q9, .ref q10, .null, .null, .null])), (q1, .inl (cI, 6, .inl (fun _ => 0))), (q2, .inl (cI, 6, .inl (fun _ => 0))), (q3, .inl (cI, 6, .inl (fun _ => 0))), (q4, .inl (cI, 12, .inl (fun _ => 0))), (q5, .inl (cI, 12, .inl (fun _ => 0))), (q6, .inl (cI, 9, .inl (fun _ => 0))), (q7, .inl (cI, 11, .inl (fun _ => 0))), (q8, .inl (cI, 12, .inl (fun _ => 0))), (q9, .inl (cI, 8, .inl (fun _ => 0))), (q10, .inl (cL, 3, .inr (.inl (fun _ => 0))))] := hD
  refine lv_aload_n hx hb dX1_init_89 rfl (lv_at hl 0 rfl) ?_
  refine lv_sipush (v := 366) hx hb dX1_init_90 (by decide) ?_
  refine n_int (N := 366) hx hb (hts (.arrayClass .int) (by decide +kernel)) rfl hK hP hD hS hA (by decide) (by decide) (by decide) (Nat.le_of_ble_eq_true rfl) (Nat.le_of_ble_eq_true rfl) dX1_init_93 (fun q11 H hP hD hS => ?_)
  have hP : va_P D vwCl [(h0, .inr (1, [.int 0, .ref q1, .ref q2, .ref q3, .ref q4, .ref q5, .int 0, .ref q6, .int 100, .ref q7, .ref q8, .ref q9, .ref q10, .null, .null, .null])), (q1, .inl (cI, 6, .inl (fun _ => 0))), (q2, .inl (cI, 6, .inl (fun _ => 0))), (q3, .inl (cI, 6, .inl (fun _ => 0))), (q4, .inl (cI, 12, .inl (fun _ => 0))), (q5, .inl (cI, 12, .inl (fun _ => 0))), (q6, .inl (cI, 9, .inl (fun _ => 0))), (q7, .inl (cI, 11, .inl (fun _ => 0))), (q8, .inl (cI, 12, .inl (fun _ => 0))), (q9, .inl (cI, 8, .inl (fun _ => 0))), (q10, .inl (cL, 3, .inr (.inl (fun _ => 0)))), (q11, .inl (cI, 366, .inl (fun _ => 0)))] H := hP
  have hD : va_D (tA w0 s.heap.size) [(h0, .inr (1, [.int 0, .ref q1, .ref q2, .ref q3, .ref q4, .ref q5, .int 0, .ref q6, .int 100, .ref q7, .ref q8, .ref q9, .ref q10, .null, .null, .null])), (q1, .inl (cI, 6, .inl (fun _ => 0))), (q2, .inl (cI, 6, .inl (fun _ => 0))), (q3, .inl (cI, 6, .inl (fun _ => 0))), (q4, .inl (cI, 12, .inl (fun _ => 0))), (q5, .inl (cI, 12, .inl (fun _ => 0))), (q6, .inl (cI, 9, .inl (fun _ => 0))), (q7, .inl (cI, 11, .inl (fun _ => 0))), (q8, .inl (cI, 12, .inl (fun _ => 0))), (q9, .inl (cI, 8, .inl (fun _ => 0))), (q10, .inl (cL, 3, .inr (.inl (fun _ => 0)))), (q11, .inl (cI, 366, .inl (fun _ => 0)))] := hD
  refine va_putF (D := D) (ci := 1) (v := .ref q11) (ty := .array .int) (C := RX1) (T := TX1) (N := 16) hx hb hts hin0 tyX1 tyX1_ok nmX1 hown hK hP hD hS 0 rfl rfl 13 (by decide) (hts (.fieldLink RX1 45 "OrganBuilderModel" "wear" "[I") (by decide +kernel)) (fun _ h9 => h9) rfl hin rfl (by decide +kernel) rfl rfl (Nat.le_of_ble_eq_true rfl) dX1_init_95 (fun H locs hP hD hS => ?_)
  have hP : va_P D vwCl [(h0, .inr (1, [.int 0, .ref q1, .ref q2, .ref q3, .ref q4, .ref q5, .int 0, .ref q6, .int 100, .ref q7, .ref q8, .ref q9, .ref q10, .ref q11, .null, .null])), (q1, .inl (cI, 6, .inl (fun _ => 0))), (q2, .inl (cI, 6, .inl (fun _ => 0))), (q3, .inl (cI, 6, .inl (fun _ => 0))), (q4, .inl (cI, 12, .inl (fun _ => 0))), (q5, .inl (cI, 12, .inl (fun _ => 0))), (q6, .inl (cI, 9, .inl (fun _ => 0))), (q7, .inl (cI, 11, .inl (fun _ => 0))), (q8, .inl (cI, 12, .inl (fun _ => 0))), (q9, .inl (cI, 8, .inl (fun _ => 0))), (q10, .inl (cL, 3, .inr (.inl (fun _ => 0)))), (q11, .inl (cI, 366, .inl (fun _ => 0)))] H := hP
  have hD : va_D (tA w0 s.heap.size) [(h0, .inr (1, [.int 0, .ref q1, .ref q2, .ref q3, .ref q4, .ref q5, .int 0, .ref q6, .int 100, .ref q7, .ref q8, .ref q9, .ref q10, .ref q11, .null, .null])), (q1, .inl (cI, 6, .inl (fun _ => 0))), (q2, .inl (cI, 6, .inl (fun _ => 0))), (q3, .inl (cI, 6, .inl (fun _ => 0))), (q4, .inl (cI, 12, .inl (fun _ => 0))), (q5, .inl (cI, 12, .inl (fun _ => 0))), (q6, .inl (cI, 9, .inl (fun _ => 0))), (q7, .inl (cI, 11, .inl (fun _ => 0))), (q8, .inl (cI, 12, .inl (fun _ => 0))), (q9, .inl (cI, 8, .inl (fun _ => 0))), (q10, .inl (cL, 3, .inr (.inl (fun _ => 0)))), (q11, .inl (cI, 366, .inl (fun _ => 0)))] := hD
  refine lv_aload_n hx hb dX1_init_98 rfl (lv_at hl 0 rfl) ?_
  refine lv_iconst (v := 3) hx hb dX1_init_99 (by decide) ?_
  refine n_long (N := 3) hx hb (hts (.arrayClass .long) (by decide +kernel)) rfl hK hP hD hS hA (by decide) (by decide) (by decide) (Nat.le_of_ble_eq_true rfl) (Nat.le_of_ble_eq_true rfl) dX1_init_100 (fun q12 H hP hD hS => ?_)
  have hP : va_P D vwCl [(h0, .inr (1, [.int 0, .ref q1, .ref q2, .ref q3, .ref q4, .ref q5, .int 0, .ref q6, .int 100, .ref q7, .ref q8, .ref q9, .ref q10, .ref q11, .null, .null])), (q1, .inl (cI, 6, .inl (fun _ => 0))), (q2, .inl (cI, 6, .inl (fun _ => 0))), (q3, .inl (cI, 6, .inl (fun _ => 0))), (q4, .inl (cI, 12, .inl (fun _ => 0))), (q5, .inl (cI, 12, .inl (fun _ => 0))), (q6, .inl (cI, 9, .inl (fun _ => 0))), (q7, .inl (cI, 11, .inl (fun _ => 0))), (q8, .inl (cI, 12, .inl (fun _ => 0))), (q9, .inl (cI, 8, .inl (fun _ => 0))), (q10, .inl (cL, 3, .inr (.inl (fun _ => 0)))), (q11, .inl (cI, 366, .inl (fun _ => 0))), (q12, .inl (cL, 3, .inr (.inl (fun _ => 0))))] H := hP
  have hD : va_D (tA w0 s.heap.size) [(h0, .inr (1, [.int 0, .ref q1, .ref q2, .ref q3, .ref q4, .ref q5, .int 0, .ref q6, .int 100, .ref q7, .ref q8, .ref q9, .ref q10, .ref q11, .null, .null])), (q1, .inl (cI, 6, .inl (fun _ => 0))), (q2, .inl (cI, 6, .inl (fun _ => 0))), (q3, .inl (cI, 6, .inl (fun _ => 0))), (q4, .inl (cI, 12, .inl (fun _ => 0))), (q5, .inl (cI, 12, .inl (fun _ => 0))), (q6, .inl (cI, 9, .inl (fun _ => 0))), (q7, .inl (cI, 11, .inl (fun _ => 0))), (q8, .inl (cI, 12, .inl (fun _ => 0))), (q9, .inl (cI, 8, .inl (fun _ => 0))), (q10, .inl (cL, 3, .inr (.inl (fun _ => 0)))), (q11, .inl (cI, 366, .inl (fun _ => 0))), (q12, .inl (cL, 3, .inr (.inl (fun _ => 0))))] := hD
  refine va_putF (D := D) (ci := 1) (v := .ref q12) (ty := .array .long) (C := RX1) (T := TX1) (N := 16) hx hb hts hin0 tyX1 tyX1_ok nmX1 hown hK hP hD hS 0 rfl rfl 14 (by decide) (hts (.fieldLink RX1 48 "OrganBuilderModel" "on" "[J") (by decide +kernel)) (fun _ h9 => h9) rfl hin rfl (by decide +kernel) rfl rfl (Nat.le_of_ble_eq_true rfl) dX1_init_102 (fun H locs hP hD hS => ?_)
  have hP : va_P D vwCl [(h0, .inr (1, [.int 0, .ref q1, .ref q2, .ref q3, .ref q4, .ref q5, .int 0, .ref q6, .int 100, .ref q7, .ref q8, .ref q9, .ref q10, .ref q11, .ref q12, .null])), (q1, .inl (cI, 6, .inl (fun _ => 0))), (q2, .inl (cI, 6, .inl (fun _ => 0))), (q3, .inl (cI, 6, .inl (fun _ => 0))), (q4, .inl (cI, 12, .inl (fun _ => 0))), (q5, .inl (cI, 12, .inl (fun _ => 0))), (q6, .inl (cI, 9, .inl (fun _ => 0))), (q7, .inl (cI, 11, .inl (fun _ => 0))), (q8, .inl (cI, 12, .inl (fun _ => 0))), (q9, .inl (cI, 8, .inl (fun _ => 0))), (q10, .inl (cL, 3, .inr (.inl (fun _ => 0)))), (q11, .inl (cI, 366, .inl (fun _ => 0))), (q12, .inl (cL, 3, .inr (.inl (fun _ => 0))))] H := hP
  have hD : va_D (tA w0 s.heap.size) [(h0, .inr (1, [.int 0, .ref q1, .ref q2, .ref q3, .ref q4, .ref q5, .int 0, .ref q6, .int 100, .ref q7, .ref q8, .ref q9, .ref q10, .ref q11, .ref q12, .null])), (q1, .inl (cI, 6, .inl (fun _ => 0))), (q2, .inl (cI, 6, .inl (fun _ => 0))), (q3, .inl (cI, 6, .inl (fun _ => 0))), (q4, .inl (cI, 12, .inl (fun _ => 0))), (q5, .inl (cI, 12, .inl (fun _ => 0))), (q6, .inl (cI, 9, .inl (fun _ => 0))), (q7, .inl (cI, 11, .inl (fun _ => 0))), (q8, .inl (cI, 12, .inl (fun _ => 0))), (q9, .inl (cI, 8, .inl (fun _ => 0))), (q10, .inl (cL, 3, .inr (.inl (fun _ => 0)))), (q11, .inl (cI, 366, .inl (fun _ => 0))), (q12, .inl (cL, 3, .inr (.inl (fun _ => 0))))] := hD
  refine lv_aload_n hx hb dX1_init_105 rfl (lv_at hl 0 rfl) ?_
  refine lv_bipush (v := 6) hx hb dX1_init_106 (by decide) ?_
  refine n_long (N := 6) hx hb (hts (.arrayClass .long) (by decide +kernel)) rfl hK hP hD hS hA (by decide) (by decide) (by decide) (Nat.le_of_ble_eq_true rfl) (Nat.le_of_ble_eq_true rfl) dX1_init_108 (fun q13 H hP hD hS => ?_)
  have hP : va_P D vwCl [(h0, .inr (1, [.int 0, .ref q1, .ref q2, .ref q3, .ref q4, .ref q5, .int 0, .ref q6, .int 100, .ref q7, .ref q8, .ref q9, .ref q10, .ref q11, .ref q12, .null])), (q1, .inl (cI, 6, .inl (fun _ => 0))), (q2, .inl (cI, 6, .inl (fun _ => 0))), (q3, .inl (cI, 6, .inl (fun _ => 0))), (q4, .inl (cI, 12, .inl (fun _ => 0))), (q5, .inl (cI, 12, .inl (fun _ => 0))), (q6, .inl (cI, 9, .inl (fun _ => 0))), (q7, .inl (cI, 11, .inl (fun _ => 0))), (q8, .inl (cI, 12, .inl (fun _ => 0))), (q9, .inl (cI, 8, .inl (fun _ => 0))), (q10, .inl (cL, 3, .inr (.inl (fun _ => 0)))), (q11, .inl (cI, 366, .inl (fun _ => 0))), (q12, .inl (cL, 3, .inr (.inl (fun _ => 0)))), (q13, .inl (cL, 6, .inr (.inl (fun _ => 0))))] H := hP
  have hD : va_D (tA w0 s.heap.size) [(h0, .inr (1, [.int 0, .ref q1, .ref q2, .ref q3, .ref q4, .ref q5, .int 0, .ref q6, .int 100, .ref q7, .ref q8, .ref q9, .ref q10, .ref q11, .ref q12, .null])), (q1, .inl (cI, 6, .inl (fun _ => 0))), (q2, .inl (cI, 6, .inl (fun _ => 0))), (q3, .inl (cI, 6, .inl (fun _ => 0))), (q4, .inl (cI, 12, .inl (fun _ => 0))), (q5, .inl (cI, 12, .inl (fun _ => 0))), (q6, .inl (cI, 9, .inl (fun _ => 0))), (q7, .inl (cI, 11, .inl (fun _ => 0))), (q8, .inl (cI, 12, .inl (fun _ => 0))), (q9, .inl (cI, 8, .inl (fun _ => 0))), (q10, .inl (cL, 3, .inr (.inl (fun _ => 0)))), (q11, .inl (cI, 366, .inl (fun _ => 0))), (q12, .inl (cL, 3, .inr (.inl (fun _ => 0)))), (q13, .inl (cL, 6, .inr (.inl (fun _ => 0))))] := hD
  refine va_putF (D := D) (ci := 1) (v := .ref q13) (ty := .array .long) (C := RX1) (T := TX1) (N := 16) hx hb hts hin0 tyX1 tyX1_ok nmX1 hown hK hP hD hS 0 rfl rfl 15 (by decide) (hts (.fieldLink RX1 51 "OrganBuilderModel" "sounding" "[J") (by decide +kernel)) (fun _ h9 => h9) rfl hin rfl (by decide +kernel) rfl rfl (Nat.le_of_ble_eq_true rfl) dX1_init_110 (fun H locs hP hD hS => ?_)
  have hP : va_P D vwCl [(h0, .inr (1, [.int 0, .ref q1, .ref q2, .ref q3, .ref q4, .ref q5, .int 0, .ref q6, .int 100, .ref q7, .ref q8, .ref q9, .ref q10, .ref q11, .ref q12, .ref q13])), (q1, .inl (cI, 6, .inl (fun _ => 0))), (q2, .inl (cI, 6, .inl (fun _ => 0))), (q3, .inl (cI, 6, .inl (fun _ => 0))), (q4, .inl (cI, 12, .inl (fun _ => 0))), (q5, .inl (cI, 12, .inl (fun _ => 0))), (q6, .inl (cI, 9, .inl (fun _ => 0))), (q7, .inl (cI, 11, .inl (fun _ => 0))), (q8, .inl (cI, 12, .inl (fun _ => 0))), (q9, .inl (cI, 8, .inl (fun _ => 0))), (q10, .inl (cL, 3, .inr (.inl (fun _ => 0)))), (q11, .inl (cI, 366, .inl (fun _ => 0))), (q12, .inl (cL, 3, .inr (.inl (fun _ => 0)))), (q13, .inl (cL, 6, .inr (.inl (fun _ => 0))))] H := hP
  have hD : va_D (tA w0 s.heap.size) [(h0, .inr (1, [.int 0, .ref q1, .ref q2, .ref q3, .ref q4, .ref q5, .int 0, .ref q6, .int 100, .ref q7, .ref q8, .ref q9, .ref q10, .ref q11, .ref q12, .ref q13])), (q1, .inl (cI, 6, .inl (fun _ => 0))), (q2, .inl (cI, 6, .inl (fun _ => 0))), (q3, .inl (cI, 6, .inl (fun _ => 0))), (q4, .inl (cI, 12, .inl (fun _ => 0))), (q5, .inl (cI, 12, .inl (fun _ => 0))), (q6, .inl (cI, 9, .inl (fun _ => 0))), (q7, .inl (cI, 11, .inl (fun _ => 0))), (q8, .inl (cI, 12, .inl (fun _ => 0))), (q9, .inl (cI, 8, .inl (fun _ => 0))), (q10, .inl (cL, 3, .inr (.inl (fun _ => 0)))), (q11, .inl (cI, 366, .inl (fun _ => 0))), (q12, .inl (cL, 3, .inr (.inl (fun _ => 0)))), (q13, .inl (cL, 6, .inr (.inl (fun _ => 0))))] := hD
  obtain ⟨a, ha0, hP5, hD5⟩ : ∃ a : Nat → Nat, a 0 = h0 ∧ va_P D vwCl (rc a cI cL (u2 zI 20 2 100) zJ) H ∧ va_D (tA w0 s.heap.size) (rc a cI cL (u2 zI 20 2 100) zJ) := by
    refine ⟨(fun k => match k with | 0 => h0 | 1 => q1 | 2 => q2 | 3 => q3 | 4 => q4 | 5 => q5 | 6 => q6 | 7 => q7 | 8 => q8 | 9 => q9 | 10 => q10 | 11 => q11 | 12 => q12 | _ => q13), rfl, ?_⟩
    have hD7 : va_D (tA w0 s.heap.size) [(h0, .inr (1, [.int 0, .ref q1, .ref q2, .ref q3, .ref q4, .ref q5, .int 0, .ref q6, .int 100, .ref q7, .ref q8, .ref q9, .ref q10, .ref q11, .ref q12, .ref q13])), (q1, .inl (cI, 6, .inl (fun _ => 0))), (q2, .inl (cI, 6, .inl (fun _ => 0))), (q3, .inl (cI, 6, .inl (fun _ => 0))), (q4, .inl (cI, 12, .inl (fun _ => 0))), (q5, .inl (cI, 12, .inl (fun _ => 0))), (q6, .inl (cI, 9, .inl (fun _ => 0))), (q7, .inl (cI, 11, .inl (fun _ => 0))), (q8, .inl (cI, 12, .inl (fun _ => 0))), (q9, .inl (cI, 8, .inl (fun _ => 0))), (q10, .inl (cL, 3, .inr (.inl (fun _ => 0)))), (q11, .inl (cI, 366, .inl (fun _ => 0))), (q12, .inl (cL, 3, .inr (.inl (fun _ => 0)))), (q13, .inl (cL, 6, .inr (.inl (fun _ => 0))))] := hD.sub [0, 1, 2, 3, 4, 5, 6, 7, 8, 9, 10, 11, 12, 13] (by decide) rfl
    refine ⟨?_, wsD_addr hD7 rfl⟩
    unfold rc rcFs
    exact hP.sub [0, 1, 2, 3, 4, 5, 6, 7, 8, 9, 10, 11, 12, 13] rfl
  subst ha0
  have hD := rc_D hD5
  have hP := hP5
  have hl : lv_has ls 2 [(0, .ref (a 0))] := hl
  refine lv_iconst (v := 0) hx hb dX1_init_113 (by decide) ?_
  refine lv_istore_n (lv' := [(1, .int 0), (0, .ref (a 0))]) hx hb dX1_init_114 rfl hl (by decide) rfl (fun ls hl => ?_)
  refine W_loopH (σ := Unit) 0 6 115 (fun r _ H locs ls => va_P D vwCl (rc a cI cL (rnA (u2 zI 20 2 100) r) zJ) H ∧ va_S (tA w0 s.heap.size) s.heap H locs ∧ lv_has ls 2 [(0, .ref (a 0)), (1, .int (nI r))]) (fun r _ H locs ls g_r h_r hI_r ih_r => ?_) () (by decide) ⟨hP, hS, lv_sub hl [1, 0] rfl⟩
  obtain ⟨hP, hS, hl⟩ := hI_r
  refine lv_iload_n hx hb dX1_init_115 rfl (lv_at hl 1 rfl) ?_
  refine lv_bipush (v := 6) hx hb dX1_init_116 (by decide) ?_
  refine lo_ge (n := 6) (tgt := 141) hx hb rfl (by decide) (by omega) dX1_init_118 (by decide) (fun c_118 => ?_) (fun c_118 => ?_)
  · obtain rfl : r = 6 := by omega
    refine lv_iconst (v := 0) hx hb dX1_init_141 (by decide) ?_
    refine lv_istore_n (lv' := [(1, .int 0), (0, .ref (a 0))]) hx hb dX1_init_142 rfl hl (by decide) rfl (fun ls hl => ?_)
    refine W_loopH (σ := Unit) 0 12 143 (fun sp _ H locs ls => va_P D vwCl (rc a cI cL (rnB (rnA (u2 zI 20 2 100) 6) sp) zJ) H ∧ va_S (tA w0 s.heap.size) s.heap H locs ∧ lv_has ls 2 [(0, .ref (a 0)), (1, .int (nI sp))]) (fun sp _ H locs ls g_sp h_sp hI_sp ih_sp => ?_) () (by decide) ⟨hP, hS, lv_sub hl [1, 0] rfl⟩
    obtain ⟨hP, hS, hl⟩ := hI_sp
    refine lv_iload_n hx hb dX1_init_143 rfl (lv_at hl 1 rfl) ?_
    refine lv_bipush (v := 12) hx hb dX1_init_144 (by decide) ?_
    refine lo_ge (n := 12) (tgt := 173) hx hb rfl (by decide) (by omega) dX1_init_146 (by decide) (fun c_146 => ?_) (fun c_146 => ?_)
    · obtain rfl : sp = 12 := by omega
      refine lv_iconst (v := 1) hx hb dX1_init_173 (by decide) ?_
      refine lv_istore_n (lv' := [(1, .int 1), (0, .ref (a 0))]) hx hb dX1_init_174 rfl hl (by decide) rfl (fun ls hl => ?_)
      refine W_loopH (σ := Unit) 0 10 175 (fun k _ H locs ls => va_P D vwCl (rc a cI cL (rnD (rnB (rnA (u2 zI 20 2 100) 6) 12) k) zJ) H ∧ va_S (tA w0 s.heap.size) s.heap H locs ∧ lv_has ls 2 [(0, .ref (a 0)), (1, .int (nI (k + 1)))]) (fun k _ H locs ls g_k h_k hI_k ih_k => ?_) () (by decide) ⟨hP, hS, lv_sub hl [1, 0] rfl⟩
      obtain ⟨hP, hS, hl⟩ := hI_k
      refine lv_iload_n hx hb dX1_init_175 rfl (lv_at hl 1 rfl) ?_
      refine lv_bipush (v := 10) hx hb dX1_init_176 (by decide) ?_
      refine lo_gt (n := 10) (tgt := 196) hx hb rfl (by decide) (by omega) dX1_init_178 (by decide) (fun c_178 => ?_) (fun c_178 => ?_)
      · obtain rfl : k = 10 := by omega
        exact W.widen (k := 13) (n := 460) (Nat.le_of_ble_eq_true rfl) (Nat.le_of_ble_eq_true rfl) (W.vret hx hb hr (fun t ht hW => ⟨⟨a, rfl, rfl, by show va_P _ _ _ t.heap; rw [ht]; exact hP, hD _ _⟩, hS.F ht⟩) hS.2.2 dX1_init_196)
      · refine lv_aload_n hx hb dX1_init_181 rfl (lv_at hl 0 rfl) ?_
        refine r_get (v := .ref (a 7)) hx hb hts hin0 hown hK hP rc_at0 9 (by decide) (hts (.fieldLink RX1 32 "OrganBuilderModel" "fall" "[I") (by decide +kernel)) rfl dX1_init_182 ?_
        refine lv_iload_n hx hb dX1_init_185 rfl (lv_at hl 1 rfl) ?_
        refine lv_iconst (v := 5) hx hb dX1_init_186 (by decide) ?_
        refine lv_iload_n hx hb dX1_init_187 rfl (lv_at hl 1 rfl) ?_
        refine lv_imul hx hb dX1_init_188 ?_
        refine w_ist hx hb hK hP (hD _ _) hS rfl rc_at7 (rc_set7 (k + 1) (5 * (nI (k + 1)))) (by omega) (by decide) dX1_init_189 (fun H locs hP hS => ?_)
        have hP : va_P D vwCl (rc a cI cL (rnD (rnB (rnA (u2 zI 20 2 100) 6) 12) (k + 1)) zJ) H := hP
        refine lv_iinc (v := (nI ((k + 1) + 1))) (lv' := [(1, .int (nI ((k + 1) + 1))), (0, .ref (a 0))]) hx hb dX1_init_190 hl (k := 1) rfl (nI_inc _) (by decide) rfl (fun ls hl => ?_)
        refine lv_goto (tgt := 175) hx hb dX1_init_193 (by decide) ?_
        exact ih_k () H locs ls (by omega) ⟨hP, hS, lv_sub hl [1, 0] rfl⟩
    · refine lv_aload_n hx hb dX1_init_149 rfl (lv_at hl 0 rfl) ?_
      refine r_get (v := .ref (a 4)) hx hb hts hin0 hown hK hP rc_at0 4 (by decide) (hts (.fieldLink RX1 19 "OrganBuilderModel" "manual" "[I") (by decide +kernel)) rfl dX1_init_150 ?_
      refine lv_iload_n hx hb dX1_init_153 rfl (lv_at hl 1 rfl) ?_
      refine lv_iload_n hx hb dX1_init_154 rfl (lv_at hl 1 rfl) ?_
      refine lv_iconst (v := (nI 3)) hx hb dX1_init_155 (by decide) ?_
      refine lv_irem hx hb dX1_init_156 (by decide) ?_
      refine lv_asi (nI (sp % 3)) (pk_rem (by omega) (by decide) (by decide)) ?_
      refine w_ist hx hb hK hP (hD _ _) hS rfl rc_at4 (rc_set4 sp (nI (sp % 3))) (by omega) (by decide) dX1_init_157 (fun H locs hP hS => ?_)
      refine lv_aload_n hx hb dX1_init_158 rfl (lv_at hl 0 rfl) ?_
      refine r_get (v := .ref (a 5)) hx hb hts hin0 hown hK hP rc_at0 5 (by decide) (hts (.fieldLink RX1 22 "OrganBuilderModel" "rank" "[I") (by decide +kernel)) rfl dX1_init_159 ?_
      refine lv_iload_n hx hb dX1_init_162 rfl (lv_at hl 1 rfl) ?_
      refine lv_iload_n hx hb dX1_init_163 rfl (lv_at hl 1 rfl) ?_
      refine lv_iconst (v := (nI 2)) hx hb dX1_init_164 (by decide) ?_
      refine lv_idiv hx hb dX1_init_165 (by decide) ?_
      refine lv_asi (nI (sp / 2)) (pk_div (by omega) (by decide) (by decide)) ?_
      refine w_ist hx hb hK hP (hD _ _) hS rfl rc_at5 (rc_set5 sp (nI (sp / 2))) (by omega) (by decide) dX1_init_166 (fun H locs hP hS => ?_)
      have hP : va_P D vwCl (rc a cI cL (rnB (rnA (u2 zI 20 2 100) 6) (sp + 1)) zJ) H := hP
      refine lv_iinc (v := (nI (sp + 1))) (lv' := [(1, .int (nI (sp + 1))), (0, .ref (a 0))]) hx hb dX1_init_167 hl (k := 1) rfl (nI_inc _) (by decide) rfl (fun ls hl => ?_)
      refine lv_goto (tgt := 143) hx hb dX1_init_170 (by decide) ?_
      exact ih_sp () H locs ls (by omega) ⟨hP, hS, lv_sub hl [1, 0] rfl⟩
  · refine lv_aload_n hx hb dX1_init_121 rfl (lv_at hl 0 rfl) ?_
    refine r_get (v := .ref (a 1)) hx hb hts hin0 hown hK hP rc_at0 1 (by decide) (hts (.fieldLink RX1 7 "OrganBuilderModel" "kind" "[I") (by decide +kernel)) rfl dX1_init_122 ?_
    refine lv_iload_n hx hb dX1_init_125 rfl (lv_at hl 1 rfl) ?_
    refine lv_iconst (v := 1) hx hb dX1_init_126 (by decide) ?_
    refine w_ist hx hb hK hP (hD _ _) hS rfl rc_at1 (rc_set1 r 1) (by omega) (by decide) dX1_init_127 (fun H locs hP hS => ?_)
    refine lv_aload_n hx hb dX1_init_128 rfl (lv_at hl 0 rfl) ?_
    refine r_get (v := .ref (a 2)) hx hb hts hin0 hown hK hP rc_at0 2 (by decide) (hts (.fieldLink RX1 13 "OrganBuilderModel" "wind" "[I") (by decide +kernel)) rfl dX1_init_129 ?_
    refine lv_iload_n hx hb dX1_init_132 rfl (lv_at hl 1 rfl) ?_
    refine lv_iconst (v := 2) hx hb dX1_init_133 (by decide) ?_
    refine w_ist hx hb hK hP (hD _ _) hS rfl rc_at2 (rc_set2 r 2) (by omega) (by decide) dX1_init_134 (fun H locs hP hS => ?_)
    have hP : va_P D vwCl (rc a cI cL (rnA (u2 zI 20 2 100) (r + 1)) zJ) H := hP
    refine lv_iinc (v := (nI (r + 1))) (lv' := [(1, .int (nI (r + 1))), (0, .ref (a 0))]) hx hb dX1_init_135 hl (k := 1) rfl (nI_inc _) (by decide) rfl (fun ls hl => ?_)
    refine lv_goto (tgt := 115) hx hb dX1_init_138 (by decide) ?_
    exact ih_r () H locs ls (by omega) ⟨hP, hS, lv_sub hl [1, 0] rfl⟩
set_option maxHeartbeats 4000000 in
set_option maxRecDepth 100000 in
theorem r_isIn (l : Launch) (v lo hi : Int32) : Met l yX1_isIn wsX1_isIn ({ frames := 0, cells := 0, slots := 0, locals := 0 } : Room) (va_Pc [.int v, .int lo, .int hi] ((fun _ => True))) (vp_Si (fun v9 => v9 = bI (rg v lo hi))) 0 0 (fun _ => False) := by
  refine Met.ofW (cc := cX1_isIn) (maxL := 3) (ret := (some .boolean)) (by decide) rfl ?_
  intro p e s m args below meth c s₁ B hml hv
  obtain ⟨rfl, -⟩ := hv
  have hx := B.exec
  have hb := B.bytes
  have hr := B.returns
  have hts := atoms_spec (ws := wsX1_isIn) B.pre
  have hown : s.vm.findClass RX1 = some m.cls := findClass_of_methodNamed B.named
  have hlocks := B.notSynchronized
  have hl := lv_entry ([.int v, .int lo, .int hi]) (n := 3) (Nat.le_of_ble_eq_true rfl)
  rw [lg_entry_eq]
  generalize (lg_sl ([.int v, .int lo, .int hi]) ++ List.replicate (3 - (lg_sl ([.int v, .int lo, .int hi])).length) Slot.unset).toArray = ls at hl ⊢
  have hl : lv_has ls 3 [(0, .int v), (1, .int lo), (2, .int hi)] := hl
  refine lv_iload_n hx hb dX1_isIn_0 rfl (lv_at hl 0 rfl) ?_
  refine lv_iload_n hx hb dX1_isIn_1 rfl (lv_at hl 1 rfl) ?_
  refine lv_icmp_lt (tgt := 14) hx hb dX1_isIn_2 (by decide) (fun c_2 => ?_) (fun c_2 => ?_)
  · refine lv_iconst (v := 0) hx hb dX1_isIn_14 (by decide) ?_
    exact e_i hx hb hr rfl hlocks (rgb_0a c_2) dX1_isIn_15
  · refine lv_iload_n hx hb dX1_isIn_5 rfl (lv_at hl 0 rfl) ?_
    refine lv_iload_n hx hb dX1_isIn_6 rfl (lv_at hl 2 rfl) ?_
    refine lv_icmp_gt (tgt := 14) hx hb dX1_isIn_7 (by decide) (fun c_7 => ?_) (fun c_7 => ?_)
    · refine lv_iconst (v := 0) hx hb dX1_isIn_14 (by decide) ?_
      exact e_i hx hb hr rfl hlocks (rgb_0b c_7) dX1_isIn_15
    · refine lv_iconst (v := 1) hx hb dX1_isIn_10 (by decide) ?_
      refine lv_goto (tgt := 15) hx hb dX1_isIn_11 (by decide) ?_
      exact e_i hx hb hr rfl hlocks (rgb_1 c_2 c_7) dX1_isIn_15
set_option maxHeartbeats 4000000 in
set_option maxRecDepth 100000 in
theorem r_isManual (l : Launch) (v : Int32) : Met l yX1_isManual wsX1_isManual ({ frames := 1, cells := 0, slots := 0, locals := 22 } : Room) (va_Pc [.int v] ((fun _ => True))) (vp_Si (fun v9 => v9 = bI (rg v 0 2))) 0 0 (fun _ => False) := by
  refine Met.ofW (cc := cX1_isManual) (maxL := 1) (ret := (some .boolean)) (by decide) rfl ?_
  intro p e s m args below meth c s₁ B hml hv
  obtain ⟨rfl, -⟩ := hv
  have hx := B.exec
  have hb := B.bytes
  have hr := B.returns
  have hts := atoms_spec (ws := wsX1_isManual) B.pre
  have hown : s.vm.findClass RX1 = some m.cls := findClass_of_methodNamed B.named
  have hlocks := B.notSynchronized
  have hl := lv_entry ([.int v]) (n := 1) (Nat.le_of_ble_eq_true rfl)
  rw [lg_entry_eq]
  generalize (lg_sl ([.int v]) ++ List.replicate (1 - (lg_sl ([.int v])).length) Slot.unset).toArray = ls at hl ⊢
  have hl : lv_has ls 1 [(0, .int v)] := hl
  refine lv_iload_n hx hb dX1_isManual_0 rfl (lv_at hl 0 rfl) ?_
  refine lv_iconst (v := 0) hx hb dX1_isManual_1 (by decide) ?_
  refine lv_iconst (v := 2) hx hb dX1_isManual_2 (by decide) ?_
  refine w_pS (As := [.int v, .int 0, .int 2]) (rest := []) ⟨hx, hb, hml, hown, hts⟩ (r_isIn l v 0 2) (va_cwS 3 hts gX1_isManual_X1_isIn rfl rfl rfl (by decide +kernel) ⟨Nat.le_of_ble_eq_true rfl, Nat.le_of_ble_eq_true rfl⟩) rfl hl.1 rfl (Nat.le_of_ble_eq_true rfl) dX1_isManual_3 ⟨Nat.le_of_ble_eq_true rfl, Nat.le_of_ble_eq_true rfl⟩ ?_
  exact e_i hx hb hr (nar_bI _) hlocks (rfl) dX1_isManual_6
set_option maxHeartbeats 4000000 in
set_option maxRecDepth 100000 in
theorem r_isKey (l : Launch) (v : Int32) : Met l yX1_isKey wsX1_isKey ({ frames := 1, cells := 0, slots := 0, locals := 22 } : Room) (va_Pc [.int v] ((fun _ => True))) (vp_Si (fun v9 => v9 = bI (rg v 0 60))) 0 0 (fun _ => False) := by
  refine Met.ofW (cc := cX1_isKey) (maxL := 1) (ret := (some .boolean)) (by decide) rfl ?_
  intro p e s m args below meth c s₁ B hml hv
  obtain ⟨rfl, -⟩ := hv
  have hx := B.exec
  have hb := B.bytes
  have hr := B.returns
  have hts := atoms_spec (ws := wsX1_isKey) B.pre
  have hown : s.vm.findClass RX1 = some m.cls := findClass_of_methodNamed B.named
  have hlocks := B.notSynchronized
  have hl := lv_entry ([.int v]) (n := 1) (Nat.le_of_ble_eq_true rfl)
  rw [lg_entry_eq]
  generalize (lg_sl ([.int v]) ++ List.replicate (1 - (lg_sl ([.int v])).length) Slot.unset).toArray = ls at hl ⊢
  have hl : lv_has ls 1 [(0, .int v)] := hl
  refine lv_iload_n hx hb dX1_isKey_0 rfl (lv_at hl 0 rfl) ?_
  refine lv_iconst (v := 0) hx hb dX1_isKey_1 (by decide) ?_
  refine lv_bipush (v := 60) hx hb dX1_isKey_2 (by decide) ?_
  refine w_pS (As := [.int v, .int 0, .int 60]) (rest := []) ⟨hx, hb, hml, hown, hts⟩ (r_isIn l v 0 60) (va_cwS 3 hts gX1_isKey_X1_isIn rfl rfl rfl (by decide +kernel) ⟨Nat.le_of_ble_eq_true rfl, Nat.le_of_ble_eq_true rfl⟩) rfl hl.1 rfl (Nat.le_of_ble_eq_true rfl) dX1_isKey_4 ⟨Nat.le_of_ble_eq_true rfl, Nat.le_of_ble_eq_true rfl⟩ ?_
  exact e_i hx hb hr (nar_bI _) hlocks (rfl) dX1_isKey_7
set_option maxHeartbeats 4000000 in
set_option maxRecDepth 100000 in
theorem r_isRank (l : Launch) (v : Int32) : Met l yX1_isRank wsX1_isRank ({ frames := 1, cells := 0, slots := 0, locals := 22 } : Room) (va_Pc [.int v] ((fun _ => True))) (vp_Si (fun v9 => v9 = bI (rg v 0 5))) 0 0 (fun _ => False) := by
  refine Met.ofW (cc := cX1_isRank) (maxL := 1) (ret := (some .boolean)) (by decide) rfl ?_
  intro p e s m args below meth c s₁ B hml hv
  obtain ⟨rfl, -⟩ := hv
  have hx := B.exec
  have hb := B.bytes
  have hr := B.returns
  have hts := atoms_spec (ws := wsX1_isRank) B.pre
  have hown : s.vm.findClass RX1 = some m.cls := findClass_of_methodNamed B.named
  have hlocks := B.notSynchronized
  have hl := lv_entry ([.int v]) (n := 1) (Nat.le_of_ble_eq_true rfl)
  rw [lg_entry_eq]
  generalize (lg_sl ([.int v]) ++ List.replicate (1 - (lg_sl ([.int v])).length) Slot.unset).toArray = ls at hl ⊢
  have hl : lv_has ls 1 [(0, .int v)] := hl
  refine lv_iload_n hx hb dX1_isRank_0 rfl (lv_at hl 0 rfl) ?_
  refine lv_iconst (v := 0) hx hb dX1_isRank_1 (by decide) ?_
  refine lv_iconst (v := 5) hx hb dX1_isRank_2 (by decide) ?_
  refine w_pS (As := [.int v, .int 0, .int 5]) (rest := []) ⟨hx, hb, hml, hown, hts⟩ (r_isIn l v 0 5) (va_cwS 3 hts gX1_isRank_X1_isIn rfl rfl rfl (by decide +kernel) ⟨Nat.le_of_ble_eq_true rfl, Nat.le_of_ble_eq_true rfl⟩) rfl hl.1 rfl (Nat.le_of_ble_eq_true rfl) dX1_isRank_3 ⟨Nat.le_of_ble_eq_true rfl, Nat.le_of_ble_eq_true rfl⟩ ?_
  exact e_i hx hb hr (nar_bI _) hlocks (rfl) dX1_isRank_6
set_option maxHeartbeats 4000000 in
set_option maxRecDepth 100000 in
theorem r_isRegistration (l : Launch) (v : Int32) : Met l yX1_isRegistration wsX1_isRegistration ({ frames := 1, cells := 0, slots := 0, locals := 22 } : Room) (va_Pc [.int v] ((fun _ => True))) (vp_Si (fun v9 => v9 = bI (rg v 0 7))) 0 0 (fun _ => False) := by
  refine Met.ofW (cc := cX1_isRegistration) (maxL := 1) (ret := (some .boolean)) (by decide) rfl ?_
  intro p e s m args below meth c s₁ B hml hv
  obtain ⟨rfl, -⟩ := hv
  have hx := B.exec
  have hb := B.bytes
  have hr := B.returns
  have hts := atoms_spec (ws := wsX1_isRegistration) B.pre
  have hown : s.vm.findClass RX1 = some m.cls := findClass_of_methodNamed B.named
  have hlocks := B.notSynchronized
  have hl := lv_entry ([.int v]) (n := 1) (Nat.le_of_ble_eq_true rfl)
  rw [lg_entry_eq]
  generalize (lg_sl ([.int v]) ++ List.replicate (1 - (lg_sl ([.int v])).length) Slot.unset).toArray = ls at hl ⊢
  have hl : lv_has ls 1 [(0, .int v)] := hl
  refine lv_iload_n hx hb dX1_isRegistration_0 rfl (lv_at hl 0 rfl) ?_
  refine lv_iconst (v := 0) hx hb dX1_isRegistration_1 (by decide) ?_
  refine lv_bipush (v := 7) hx hb dX1_isRegistration_2 (by decide) ?_
  refine w_pS (As := [.int v, .int 0, .int 7]) (rest := []) ⟨hx, hb, hml, hown, hts⟩ (r_isIn l v 0 7) (va_cwS 3 hts gX1_isRegistration_X1_isIn rfl rfl rfl (by decide +kernel) ⟨Nat.le_of_ble_eq_true rfl, Nat.le_of_ble_eq_true rfl⟩) rfl hl.1 rfl (Nat.le_of_ble_eq_true rfl) dX1_isRegistration_4 ⟨Nat.le_of_ble_eq_true rfl, Nat.le_of_ble_eq_true rfl⟩ ?_
  exact e_i hx hb hr (nar_bI _) hlocks (rfl) dX1_isRegistration_7
set_option maxHeartbeats 4000000 in
set_option maxRecDepth 100000 in
theorem r_has (l : Launch) (x : Int64) (k : Int32) : Met l yX1_has wsX1_has ({ frames := 0, cells := 0, slots := 0, locals := 0 } : Room) (va_Pc [.long x, .int k] ((fun _ => True))) (vp_Si (fun v9 => v9 = bI (hs x k))) 0 0 (fun _ => False) := by
  refine Met.ofW (cc := cX1_has) (maxL := 3) (ret := (some .boolean)) (by decide) rfl ?_
  intro p e s m args below meth c s₁ B hml hv
  obtain ⟨rfl, -⟩ := hv
  have hx := B.exec
  have hb := B.bytes
  have hr := B.returns
  have hts := atoms_spec (ws := wsX1_has) B.pre
  have hown : s.vm.findClass RX1 = some m.cls := findClass_of_methodNamed B.named
  have hlocks := B.notSynchronized
  have hl := lv_entry ([.long x, .int k]) (n := 3) (Nat.le_of_ble_eq_true rfl)
  rw [lg_entry_eq]
  generalize (lg_sl ([.long x, .int k]) ++ List.replicate (3 - (lg_sl ([.long x, .int k])).length) Slot.unset).toArray = ls at hl ⊢
  have hl : lv_has ls 3 [(0, .long x), (2, .int k)] := hl
  refine lv_lload_n hx hb dX1_has_0 rfl (lv_at hl 0 rfl) ?_
  refine lv_iload_n hx hb dX1_has_1 rfl (lv_at hl 1 rfl) ?_
  refine lv_lshr hx hb dX1_has_2 rfl ?_
  refine lv_lconst (v := 1) hx hb dX1_has_3 (by decide) ?_
  refine lv_land hx hb dX1_has_4 ?_
  refine lv_lconst (v := 1) hx hb dX1_has_5 (by decide) ?_
  refine W.lcmp hx hb dX1_has_6 ?_
  refine lv_if_ne (tgt := 14) hx hb dX1_has_7 (by decide) (fun c_7 => ?_) (fun c_7 => ?_)
  · refine lv_iconst (v := 0) hx hb dX1_has_14 (by decide) ?_
    exact e_i hx hb hr rfl hlocks (hs_0 c_7) dX1_has_15
  · refine lv_iconst (v := 1) hx hb dX1_has_10 (by decide) ?_
    refine lv_goto (tgt := 15) hx hb dX1_has_11 (by decide) ?_
    exact e_i hx hb hr rfl hlocks (hs_1 c_7) dX1_has_15
set_option maxHeartbeats 4000000 in
set_option maxRecDepth 100000 in
theorem r_count (l : Launch) (x : Int64) : Met l yX1_count wsX1_count ({ frames := 1, cells := 0, slots := 0, locals := 22 } : Room) (va_Pc [.long x] ((fun _ => True))) (vp_Si (fun v9 => v9 = cnF x 61)) 0 0 (fun _ => False) := by
  refine Met.ofW (cc := cX1_count) (maxL := 4) (ret := (some .int)) (by decide) rfl ?_
  intro p e s m args below meth c s₁ B hml hv
  obtain ⟨rfl, -⟩ := hv
  have hx := B.exec
  have hb := B.bytes
  have hr := B.returns
  have hts := atoms_spec (ws := wsX1_count) B.pre
  have hown : s.vm.findClass RX1 = some m.cls := findClass_of_methodNamed B.named
  have hlocks := B.notSynchronized
  have hl := lv_entry ([.long x]) (n := 4) (Nat.le_of_ble_eq_true rfl)
  rw [lg_entry_eq]
  generalize (lg_sl ([.long x]) ++ List.replicate (4 - (lg_sl ([.long x])).length) Slot.unset).toArray = ls at hl ⊢
  have hl : lv_has ls 4 [(0, .long x)] := hl
  refine lv_iconst (v := 0) hx hb dX1_count_0 (by decide) ?_
  refine lv_istore_n (lv' := [(2, .int 0), (0, .long x)]) hx hb dX1_count_1 rfl hl (by decide) rfl (fun ls hl => ?_)
  refine lv_iconst (v := 0) hx hb dX1_count_2 (by decide) ?_
  refine lv_istore_n (lv' := [(3, .int 0), (2, .int 0), (0, .long x)]) hx hb dX1_count_3 rfl hl (by decide) rfl (fun ls hl => ?_)
  refine W_loop (σ := Unit) 0 61 4 (fun k _ ls => lv_has ls 4 [(0, .long x), (2, .int (cnF x k)), (3, .int (nI k))]) (fun k _ ls g_k h_k hl ih_k => ?_) () (by decide) (lv_sub hl [2, 1, 0] rfl)
  refine lv_iload_n hx hb dX1_count_4 rfl (lv_at hl 2 rfl) ?_
  refine lv_bipush (v := 61) hx hb dX1_count_5 (by decide) ?_
  refine lo_ge (n := 61) (tgt := 32) hx hb rfl (by omega) (by omega) dX1_count_7 (by decide) (fun c_7 => ?_) (fun c_7 => ?_)
  · refine lv_iload_n hx hb dX1_count_32 rfl (lv_at hl 1 rfl) ?_
    exact e_i hx hb hr rfl hlocks (by rw [show k = 61 by omega]) dX1_count_33
  · refine lv_iload_n hx hb dX1_count_10 rfl (lv_at hl 1 rfl) ?_
    refine lv_lload_n hx hb dX1_count_11 rfl (lv_at hl 0 rfl) ?_
    refine lv_iload_n hx hb dX1_count_12 rfl (lv_at hl 2 rfl) ?_
    refine w_pS (As := [.long x, .int (nI k)]) (rest := [.int (cnF x k)]) ⟨hx, hb, hml, hown, hts⟩ (r_has l x (nI k)) (va_cwS 2 hts gX1_count_X1_has rfl rfl rfl (by decide +kernel) ⟨Nat.le_of_ble_eq_true rfl, Nat.le_of_ble_eq_true rfl⟩) rfl hl.1 rfl (Nat.le_of_ble_eq_true rfl) dX1_count_13 ⟨Nat.le_of_ble_eq_true rfl, Nat.le_of_ble_eq_true rfl⟩ ?_
    refine lv_if_eq (tgt := 23) hx hb dX1_count_16 (by decide) (fun c_16 => ?_) (fun c_16 => ?_)
    · have d_16 := bI_eq0 c_16
      refine lv_iconst (v := 0) hx hb dX1_count_23 (by decide) ?_
      refine lv_iadd hx hb dX1_count_24 ?_
      refine lv_asi (cnF x (k + 1)) (cn_0 c_16 rfl) ?_
      refine lv_istore_n (lv' := [(2, .int (cnF x (k + 1))), (0, .long x), (3, .int (nI k))]) hx hb dX1_count_25 rfl hl (by decide) rfl (fun ls hl => ?_)
      refine lv_iinc (v := (nI (k + 1))) (lv' := [(3, .int (nI (k + 1))), (2, .int (cnF x (k + 1))), (0, .long x)]) hx hb dX1_count_26 hl (k := 2) rfl (nI_inc _) (by decide) rfl (fun ls hl => ?_)
      refine lv_goto (tgt := 4) hx hb dX1_count_29 (by decide) ?_
      exact ih_k () ls (by omega) (lv_sub hl [2, 1, 0] rfl)
    · have d_16 := bI_ne0 c_16
      refine lv_iconst (v := 1) hx hb dX1_count_19 (by decide) ?_
      refine lv_goto (tgt := 24) hx hb dX1_count_20 (by decide) ?_
      refine lv_iadd hx hb dX1_count_24 ?_
      refine lv_asi (cnF x (k + 1)) (cn_1 c_16 rfl) ?_
      refine lv_istore_n (lv' := [(2, .int (cnF x (k + 1))), (0, .long x), (3, .int (nI k))]) hx hb dX1_count_25 rfl hl (by decide) rfl (fun ls hl => ?_)
      refine lv_iinc (v := (nI (k + 1))) (lv' := [(3, .int (nI (k + 1))), (2, .int (cnF x (k + 1))), (0, .long x)]) hx hb dX1_count_26 hl (k := 2) rfl (nI_inc _) (by decide) rfl (fun ls hl => ?_)
      refine lv_goto (tgt := 4) hx hb dX1_count_29 (by decide) ?_
      exact ih_k () ls (by omega) (lv_sub hl [2, 1, 0] rfl)
set_option maxHeartbeats 4000000 in
set_option maxRecDepth 100000 in
theorem r_thrown (l : Launch) (D : va_G) (a : Nat → Nat) (cI cL : ClassId) (I : Nat → Nat → Int32) (J : Nat → Nat → Int64) : Met l yX1_thrown wsX1_thrown ({ frames := 0, cells := 0, slots := 0, locals := 0 } : Room) (va_Pc [.ref (a 0)] (oB D (rty cI cL) (rc a cI cL I J))) (vp_Si (fun v9 => v9 = I 20 0)) 0 0 (fun _ => False) := by
  refine Met.ofW (cc := cX1_thrown) (maxL := 1) (ret := (some .int)) (by decide) rfl ?_
  intro p e s m args below meth c s₁ B hml hv
  obtain ⟨rfl, hP, hK⟩ := hv
  have hx := B.exec
  have hb := B.bytes
  have hr := B.returns
  have hts := atoms_spec (ws := wsX1_thrown) B.pre
  have hown : s.vm.findClass RX1 = some m.cls := findClass_of_methodNamed B.named
  have hlocks := B.notSynchronized
  have hin0 : ∀ w ∈ u_ws RX1 TX1 16, w ∈ wsX1_thrown := by decide +kernel
  have hl := lv_entry ([.ref (a 0)]) (n := 1) (Nat.le_of_ble_eq_true rfl)
  rw [lg_entry_eq]
  generalize (lg_sl ([.ref (a 0)]) ++ List.replicate (1 - (lg_sl ([.ref (a 0)])).length) Slot.unset).toArray = ls at hl ⊢
  have hl : lv_has ls 1 [(0, .ref (a 0))] := hl
  refine lv_aload_n hx hb dX1_thrown_0 rfl (lv_at hl 0 rfl) ?_
  refine r_get (v := .int (I 20 0)) hx hb hts hin0 hown hK hP rc_at0 0 (by decide) (hts (.fieldLink RX1 54 "OrganBuilderModel" "thrown" "I") (by decide +kernel)) rfl dX1_thrown_1 ?_
  exact e_i hx hb hr rfl hlocks (rfl) dX1_thrown_4
set_option maxHeartbeats 4000000 in
set_option maxRecDepth 100000 in
theorem r_isFine (l : Launch) (D : va_G) (a : Nat → Nat) (cI cL : ClassId) (I : Nat → Nat → Int32) (J : Nat → Nat → Int64) (k : Int32) : Met l yX1_isFine wsX1_isFine ({ frames := 0, cells := 0, slots := 0, locals := 0 } : Room) (va_Pc [.ref (a 0), .int k] (mB D (rty cI cL) (rc a cI cL I J))) (mQi D (rc a cI cL I J) (rc a cI cL (u2 I 20 0 k) J) (bI (decide (k = 0)))) 0 0 (wA (rc a cI cL I J)) := by
  refine Met.ofW (cc := cX1_isFine) (maxL := 2) (ret := (some .boolean)) (by decide) rfl ?_
  intro p e s m args below meth c s₁ B hml hv
  obtain ⟨rfl, hP, hK, hD0⟩ := hv
  have hx := B.exec
  have hb := B.bytes
  have hr := B.returns
  have hts := atoms_spec (ws := wsX1_isFine) B.pre
  have hown : s.vm.findClass RX1 = some m.cls := findClass_of_methodNamed B.named
  have hlocks := B.notSynchronized
  have hin0 : ∀ w ∈ u_ws RX1 TX1 16, w ∈ wsX1_isFine := by decide +kernel
  have hD := rc_D (wA_D hD0)
  have hS : va_S (wA (rc a cI cL I J)) s.heap s.heap [] := va_S.rf
  have hl := lv_entry ([.ref (a 0), .int k]) (n := 2) (Nat.le_of_ble_eq_true rfl)
  rw [lg_entry_eq]
  generalize (lg_sl ([.ref (a 0), .int k]) ++ List.replicate (2 - (lg_sl ([.ref (a 0), .int k])).length) Slot.unset).toArray = ls at hl ⊢
  have hl : lv_has ls 2 [(0, .ref (a 0)), (1, .int k)] := hl
  refine lv_aload_n hx hb dX1_isFine_0 rfl (lv_at hl 0 rfl) ?_
  refine lv_iload_n hx hb dX1_isFine_1 rfl (lv_at hl 1 rfl) ?_
  refine r_put hx hb hts hin0 hown hK hP (hD _ _) hS rc_at0 0 (by decide) (hts (.fieldLink RX1 54 "OrganBuilderModel" "thrown" "I") (by decide +kernel)) rfl (by decide +kernel) (by exact Nat.le_of_ble_eq_true rfl) (rc_putt k) dX1_isFine_2 (fun H locs hP hS => ?_)
  refine lv_iload_n hx hb dX1_isFine_5 rfl (lv_at hl 1 rfl) ?_
  refine lv_if_ne (tgt := 13) hx hb dX1_isFine_6 (by decide) (fun c_6 => ?_) (fun c_6 => ?_)
  · refine lv_iconst (v := 0) hx hb dX1_isFine_13 (by decide) ?_
    exact e_mi hx hb hr rfl hlocks hP hS (rfl) (by simp [bI, c_6]) dX1_isFine_14
  · refine lv_iconst (v := 1) hx hb dX1_isFine_9 (by decide) ?_
    refine lv_goto (tgt := 14) hx hb dX1_isFine_10 (by decide) ?_
    exact e_mi hx hb hr rfl hlocks hP hS (rfl) (by simp [bI, c_6]) dX1_isFine_14
set_option maxHeartbeats 4000000 in
set_option maxRecDepth 100000 in
theorem r_isCoupled (l : Launch) (D : va_G) (a : Nat → Nat) (cI cL : ClassId) (I : Nat → Nat → Int32) (J : Nat → Nat → Int64) (f t : Nat) (hf : f < 3) (ht : t < 3) : Met l yX1_isCoupled wsX1_isCoupled ({ frames := 0, cells := 0, slots := 0, locals := 0 } : Room) (va_Pc [.ref (a 0), .int (nI f), .int (nI t)] (oB D (rty cI cL) (rc a cI cL I J))) (vp_Si (fun v9 => v9 = bI (rcp I f t))) 0 0 (fun _ => False) := by
  refine Met.ofW (cc := cX1_isCoupled) (maxL := 3) (ret := (some .boolean)) (by decide) rfl ?_
  intro p e s m args below meth c s₁ B hml hv
  obtain ⟨rfl, hP, hK⟩ := hv
  have hx := B.exec
  have hb := B.bytes
  have hr := B.returns
  have hts := atoms_spec (ws := wsX1_isCoupled) B.pre
  have hown : s.vm.findClass RX1 = some m.cls := findClass_of_methodNamed B.named
  have hlocks := B.notSynchronized
  have hin0 : ∀ w ∈ u_ws RX1 TX1 16, w ∈ wsX1_isCoupled := by decide +kernel
  have hl := lv_entry ([.ref (a 0), .int (nI f), .int (nI t)]) (n := 3) (Nat.le_of_ble_eq_true rfl)
  rw [lg_entry_eq]
  generalize (lg_sl ([.ref (a 0), .int (nI f), .int (nI t)]) ++ List.replicate (3 - (lg_sl ([.ref (a 0), .int (nI f), .int (nI t)])).length) Slot.unset).toArray = ls at hl ⊢
  have hl : lv_has ls 3 [(0, .ref (a 0)), (1, .int (nI f)), (2, .int (nI t))] := hl
  refine lv_aload_n hx hb dX1_isCoupled_0 rfl (lv_at hl 0 rfl) ?_
  refine r_get (v := .ref (a 6)) hx hb hts hin0 hown hK hP rc_at0 7 (by decide) (hts (.fieldLink RX1 25 "OrganBuilderModel" "coupler" "[I") (by decide +kernel)) rfl dX1_isCoupled_1 ?_
  refine lv_iconst (v := (nI 3)) hx hb dX1_isCoupled_4 (by decide) ?_
  refine lv_iload_n hx hb dX1_isCoupled_5 rfl (lv_at hl 1 rfl) ?_
  refine lv_imul hx hb dX1_isCoupled_6 ?_
  refine lv_iload_n hx hb dX1_isCoupled_7 rfl (lv_at hl 2 rfl) ?_
  refine lv_iadd hx hb dX1_isCoupled_8 ?_
  refine lv_asi (nI (3 * f + t)) (ix3 f t) ?_
  refine w_ild hx hb hK hP rfl rc_at6 (by omega) (by decide) dX1_isCoupled_9 ?_
  refine lv_if_le (tgt := 17) hx hb dX1_isCoupled_10 (by decide) (fun c_10 => ?_) (fun c_10 => ?_)
  · refine lv_iconst (v := 0) hx hb dX1_isCoupled_17 (by decide) ?_
    exact e_i hx hb hr rfl hlocks (rcp_0 c_10) dX1_isCoupled_18
  · refine lv_iconst (v := 1) hx hb dX1_isCoupled_13 (by decide) ?_
    refine lv_goto (tgt := 18) hx hb dX1_isCoupled_14 (by decide) ?_
    exact e_i hx hb hr rfl hlocks (rcp_1 c_10) dX1_isCoupled_18
set_option maxHeartbeats 4000000 in
set_option maxRecDepth 100000 in
theorem r_comes (l : Launch) (D : va_G) (a : Nat → Nat) (cI cL : ClassId) (I : Nat → Nat → Int32) (J : Nat → Nat → Int64) (f t : Nat) (hf : f < 3) (ht : t < 3) (hne : ¬ f = t) : Met l yX1_comes wsX1_comes ({ frames := 1, cells := 0, slots := 0, locals := 22 } : Room) (va_Pc [.ref (a 0), .int (nI f), .int (nI t)] (oB D (rty cI cL) (rc a cI cL I J))) (vp_Si (fun v9 => v9 = bI (rcm I f t))) 0 0 (fun _ => False) := by
  refine Met.ofW (cc := cX1_comes) (maxL := 4) (ret := (some .boolean)) (by decide) rfl ?_
  intro p e s m args below meth c s₁ B hml hv
  obtain ⟨rfl, hP, hK⟩ := hv
  have hx := B.exec
  have hb := B.bytes
  have hr := B.returns
  have hts := atoms_spec (ws := wsX1_comes) B.pre
  have hown : s.vm.findClass RX1 = some m.cls := findClass_of_methodNamed B.named
  have hlocks := B.notSynchronized
  have hin0 : ∀ w ∈ u_ws RX1 TX1 16, w ∈ wsX1_comes := by decide +kernel
  have hl := lv_entry ([.ref (a 0), .int (nI f), .int (nI t)]) (n := 4) (Nat.le_of_ble_eq_true rfl)
  rw [lg_entry_eq]
  generalize (lg_sl ([.ref (a 0), .int (nI f), .int (nI t)]) ++ List.replicate (4 - (lg_sl ([.ref (a 0), .int (nI f), .int (nI t)])).length) Slot.unset).toArray = ls at hl ⊢
  have hl : lv_has ls 4 [(0, .ref (a 0)), (1, .int (nI f)), (2, .int (nI t))] := hl
  refine lv_iconst (v := (nI 3)) hx hb dX1_comes_0 (by decide) ?_
  refine lv_iload_n hx hb dX1_comes_1 rfl (lv_at hl 1 rfl) ?_
  refine lv_isub hx hb dX1_comes_2 ?_
  refine lv_iload_n hx hb dX1_comes_3 rfl (lv_at hl 2 rfl) ?_
  refine lv_isub hx hb dX1_comes_4 ?_
  refine lv_asi (nI (3 - f - t)) (by rw [pk_sub (by omega), pk_sub (by omega)]) ?_
  refine lv_istore_n (lv' := [(3, .int (nI (3 - f - t))), (0, .ref (a 0)), (1, .int (nI f)), (2, .int (nI t))]) hx hb dX1_comes_5 rfl hl (by decide) rfl (fun ls hl => ?_)
  refine lv_aload_n hx hb dX1_comes_6 rfl (lv_at hl 1 rfl) ?_
  refine lv_iload_n hx hb dX1_comes_7 rfl (lv_at hl 2 rfl) ?_
  refine lv_iload_n hx hb dX1_comes_8 rfl (lv_at hl 3 rfl) ?_
  refine w_pV (As := [.int (nI f), .int (nI t)]) (rest := []) ⟨hx, hb, hml, hown, hts⟩ (r_isCoupled l D a cI cL I J f t (by omega) (by omega)) (cwV 2 hts gX1_comes_X1_isCoupled rfl rfl rfl (by decide +kernel) ⟨Nat.le_of_ble_eq_true rfl, Nat.le_of_ble_eq_true rfl⟩) hK hP rfl rfl rc_at0 rfl hl.1 rfl (Nat.le_of_ble_eq_true rfl) dX1_comes_9 ⟨Nat.le_of_ble_eq_true rfl, Nat.le_of_ble_eq_true rfl⟩ ?_
  refine lv_if_ne (tgt := 33) hx hb dX1_comes_12 (by decide) (fun c_12 => ?_) (fun c_12 => ?_)
  · have d_12 := bI_ne0 c_12
    refine lv_iconst (v := 1) hx hb dX1_comes_33 (by decide) ?_
    refine lv_goto (tgt := 38) hx hb dX1_comes_34 (by decide) ?_
    exact e_i hx hb hr rfl hlocks (by simp [rcm, bI, d_12]) dX1_comes_38
  · have d_12 := bI_eq0 c_12
    refine lv_aload_n hx hb dX1_comes_15 rfl (lv_at hl 1 rfl) ?_
    refine lv_iload_n hx hb dX1_comes_16 rfl (lv_at hl 2 rfl) ?_
    refine lv_iload_n hx hb dX1_comes_17 rfl (lv_at hl 0 rfl) ?_
    refine w_pV (As := [.int (nI f), .int (nI (3 - f - t))]) (rest := []) ⟨hx, hb, hml, hown, hts⟩ (r_isCoupled l D a cI cL I J f (3 - f - t) (by omega) (by omega)) (cwV 2 hts gX1_comes_X1_isCoupled rfl rfl rfl (by decide +kernel) ⟨Nat.le_of_ble_eq_true rfl, Nat.le_of_ble_eq_true rfl⟩) hK hP rfl rfl rc_at0 rfl hl.1 rfl (Nat.le_of_ble_eq_true rfl) dX1_comes_18 ⟨Nat.le_of_ble_eq_true rfl, Nat.le_of_ble_eq_true rfl⟩ ?_
    refine lv_if_eq (tgt := 37) hx hb dX1_comes_21 (by decide) (fun c_21 => ?_) (fun c_21 => ?_)
    · have d_21 := bI_eq0 c_21
      refine lv_iconst (v := 0) hx hb dX1_comes_37 (by decide) ?_
      exact e_i hx hb hr rfl hlocks (by simp [rcm, bI, d_12, d_21]) dX1_comes_38
    · have d_21 := bI_ne0 c_21
      refine lv_aload_n hx hb dX1_comes_24 rfl (lv_at hl 1 rfl) ?_
      refine lv_iload_n hx hb dX1_comes_25 rfl (lv_at hl 0 rfl) ?_
      refine lv_iload_n hx hb dX1_comes_26 rfl (lv_at hl 3 rfl) ?_
      refine w_pV (As := [.int (nI (3 - f - t)), .int (nI t)]) (rest := []) ⟨hx, hb, hml, hown, hts⟩ (r_isCoupled l D a cI cL I J (3 - f - t) t (by omega) (by omega)) (cwV 2 hts gX1_comes_X1_isCoupled rfl rfl rfl (by decide +kernel) ⟨Nat.le_of_ble_eq_true rfl, Nat.le_of_ble_eq_true rfl⟩) hK hP rfl rfl rc_at0 rfl hl.1 rfl (Nat.le_of_ble_eq_true rfl) dX1_comes_27 ⟨Nat.le_of_ble_eq_true rfl, Nat.le_of_ble_eq_true rfl⟩ ?_
      refine lv_if_eq (tgt := 37) hx hb dX1_comes_30 (by decide) (fun c_30 => ?_) (fun c_30 => ?_)
      · have d_30 := bI_eq0 c_30
        refine lv_iconst (v := 0) hx hb dX1_comes_37 (by decide) ?_
        exact e_i hx hb hr rfl hlocks (by simp [rcm, bI, d_12, d_21, d_30]) dX1_comes_38
      · have d_30 := bI_ne0 c_30
        refine lv_iconst (v := 1) hx hb dX1_comes_33 (by decide) ?_
        refine lv_goto (tgt := 38) hx hb dX1_comes_34 (by decide) ?_
        exact e_i hx hb hr rfl hlocks (by simp [rcm, bI, d_12, d_21, d_30]) dX1_comes_38
set_option maxHeartbeats 4000000 in
set_option maxRecDepth 100000 in
theorem r_windOf (l : Launch) (D : va_G) (a : Nat → Nat) (cI cL : ClassId) (I : Nat → Nat → Int32) (J : Nat → Nat → Int64) (r k : Nat) (hr6 : r < 6) : Met l yX1_windOf wsX1_windOf ({ frames := 0, cells := 0, slots := 0, locals := 0 } : Room) (va_Pc [.ref (a 0), .int (nI r), .int (nI k)] (oB D (rty cI cL) (rc a cI cL I J))) (vp_Si (fun v9 => v9 = I 1 r + (60 - nI k) / 12)) 0 0 (fun _ => False) := by
  refine Met.ofW (cc := cX1_windOf) (maxL := 3) (ret := (some .int)) (by decide) rfl ?_
  intro p e s m args below meth c s₁ B hml hv
  obtain ⟨rfl, hP, hK⟩ := hv
  have hx := B.exec
  have hb := B.bytes
  have hr := B.returns
  have hts := atoms_spec (ws := wsX1_windOf) B.pre
  have hown : s.vm.findClass RX1 = some m.cls := findClass_of_methodNamed B.named
  have hlocks := B.notSynchronized
  have hin0 : ∀ w ∈ u_ws RX1 TX1 16, w ∈ wsX1_windOf := by decide +kernel
  have hl := lv_entry ([.ref (a 0), .int (nI r), .int (nI k)]) (n := 3) (Nat.le_of_ble_eq_true rfl)
  rw [lg_entry_eq]
  generalize (lg_sl ([.ref (a 0), .int (nI r), .int (nI k)]) ++ List.replicate (3 - (lg_sl ([.ref (a 0), .int (nI r), .int (nI k)])).length) Slot.unset).toArray = ls at hl ⊢
  have hl : lv_has ls 3 [(0, .ref (a 0)), (1, .int (nI r)), (2, .int (nI k))] := hl
  refine lv_aload_n hx hb dX1_windOf_0 rfl (lv_at hl 0 rfl) ?_
  refine r_get (v := .ref (a 2)) hx hb hts hin0 hown hK hP rc_at0 2 (by decide) (hts (.fieldLink RX1 13 "OrganBuilderModel" "wind" "[I") (by decide +kernel)) rfl dX1_windOf_1 ?_
  refine lv_iload_n hx hb dX1_windOf_4 rfl (lv_at hl 1 rfl) ?_
  refine w_ild hx hb hK hP rfl rc_at2 (by omega) (by decide) dX1_windOf_5 ?_
  refine lv_bipush (v := 60) hx hb dX1_windOf_6 (by decide) ?_
  refine lv_iload_n hx hb dX1_windOf_8 rfl (lv_at hl 2 rfl) ?_
  refine lv_isub hx hb dX1_windOf_9 ?_
  refine lv_bipush (v := 12) hx hb dX1_windOf_10 (by decide) ?_
  refine lv_idiv hx hb dX1_windOf_12 (by decide) ?_
  refine lv_iadd hx hb dX1_windOf_13 ?_
  exact e_i hx hb hr rfl hlocks (rfl) dX1_windOf_14
set_option maxHeartbeats 4000000 in
set_option maxRecDepth 100000 in
theorem r_stepOf (l : Launch) (D : va_G) (a : Nat → Nat) (cI cL : ClassId) (I : Nat → Nat → Int32) (J : Nat → Nat → Int64) (w : Int32) (hsp : ¬ I 20 2 = 0) : Met l yX1_stepOf wsX1_stepOf ({ frames := 0, cells := 0, slots := 0, locals := 0 } : Room) (va_Pc [.ref (a 0), .int w] (oB D (rty cI cL) (rc a cI cL I J))) (vp_Si (fun v9 => v9 = mst w (I 20 2))) 0 0 (fun _ => False) := by
  refine Met.ofW (cc := cX1_stepOf) (maxL := 3) (ret := (some .int)) (by decide) rfl ?_
  intro p e s m args below meth c s₁ B hml hv
  obtain ⟨rfl, hP, hK⟩ := hv
  have hx := B.exec
  have hb := B.bytes
  have hr := B.returns
  have hts := atoms_spec (ws := wsX1_stepOf) B.pre
  have hown : s.vm.findClass RX1 = some m.cls := findClass_of_methodNamed B.named
  have hlocks := B.notSynchronized
  have hin0 : ∀ w ∈ u_ws RX1 TX1 16, w ∈ wsX1_stepOf := by decide +kernel
  have hl := lv_entry ([.ref (a 0), .int w]) (n := 3) (Nat.le_of_ble_eq_true rfl)
  rw [lg_entry_eq]
  generalize (lg_sl ([.ref (a 0), .int w]) ++ List.replicate (3 - (lg_sl ([.ref (a 0), .int w])).length) Slot.unset).toArray = ls at hl ⊢
  have hl : lv_has ls 3 [(0, .ref (a 0)), (1, .int w)] := hl
  refine lv_iload_n hx hb dX1_stepOf_0 rfl (lv_at hl 1 rfl) ?_
  refine lv_aload_n hx hb dX1_stepOf_1 rfl (lv_at hl 0 rfl) ?_
  refine r_get (v := .int (I 20 2)) hx hb hts hin0 hown hK hP rc_at0 8 (by decide) (hts (.fieldLink RX1 28 "OrganBuilderModel" "supply" "I") (by decide +kernel)) rfl dX1_stepOf_2 ?_
  refine lv_icmp_gt (tgt := 10) hx hb dX1_stepOf_5 (by decide) (fun c_5 => ?_) (fun c_5 => ?_)
  · refine lv_iconst (v := 1) hx hb dX1_stepOf_10 (by decide) ?_
    refine lv_bipush (v := 10) hx hb dX1_stepOf_11 (by decide) ?_
    refine lv_iload_n hx hb dX1_stepOf_13 rfl (lv_at hl 1 rfl) ?_
    refine lv_aload_n hx hb dX1_stepOf_14 rfl (lv_at hl 0 rfl) ?_
    refine r_get (v := .int (I 20 2)) hx hb hts hin0 hown hK hP rc_at0 8 (by decide) (hts (.fieldLink RX1 28 "OrganBuilderModel" "supply" "I") (by decide +kernel)) rfl dX1_stepOf_15 ?_
    refine lv_isub hx hb dX1_stepOf_18 ?_
    refine lv_imul hx hb dX1_stepOf_19 ?_
    refine lv_aload_n hx hb dX1_stepOf_20 rfl (lv_at hl 0 rfl) ?_
    refine r_get (v := .int (I 20 2)) hx hb hts hin0 hown hK hP rc_at0 8 (by decide) (hts (.fieldLink RX1 28 "OrganBuilderModel" "supply" "I") (by decide +kernel)) rfl dX1_stepOf_21 ?_
    refine lv_idiv hx hb dX1_stepOf_24 (hsp) ?_
    refine lv_iadd hx hb dX1_stepOf_25 ?_
    refine lv_istore_n (lv' := [(2, .int (1 + ((10 * (w - (I 20 2))) / (I 20 2)))), (0, .ref (a 0)), (1, .int w)]) hx hb dX1_stepOf_26 rfl hl (by decide) rfl (fun ls hl => ?_)
    refine lv_iload_n hx hb dX1_stepOf_27 rfl (lv_at hl 0 rfl) ?_
    refine lv_bipush (v := 10) hx hb dX1_stepOf_28 (by decide) ?_
    refine lv_icmp_le (tgt := 38) hx hb dX1_stepOf_30 (by decide) (fun c_30 => ?_) (fun c_30 => ?_)
    · refine lv_iload_n hx hb dX1_stepOf_38 rfl (lv_at hl 0 rfl) ?_
      exact e_i hx hb hr rfl hlocks (((if_pos c_5).trans (if_pos c_30)).symm) dX1_stepOf_39
    · refine lv_bipush (v := 10) hx hb dX1_stepOf_33 (by decide) ?_
      refine lv_goto (tgt := 39) hx hb dX1_stepOf_35 (by decide) ?_
      exact e_i hx hb hr rfl hlocks (((if_pos c_5).trans (if_neg c_30)).symm) dX1_stepOf_39
  · refine lv_iconst (v := 0) hx hb dX1_stepOf_8 (by decide) ?_
    exact e_i hx hb hr rfl hlocks ((if_neg c_5).symm) dX1_stepOf_9
set_option maxHeartbeats 4000000 in
set_option maxRecDepth 100000 in
theorem r_pitchOf (l : Launch) (D : va_G) (a : Nat → Nat) (cI cL : ClassId) (I : Nat → Nat → Int32) (J : Nat → Nat → Int64) (r k st : Nat) (hr6 : r < 6) (hk61 : k < 61) (hst : st < 11) : Met l yX1_pitchOf wsX1_pitchOf ({ frames := 0, cells := 0, slots := 0, locals := 0 } : Room) (va_Pc [.ref (a 0), .int (nI r), .int (nI k), .int (nI st)] (oB D (rty cI cL) (rc a cI cL I J))) (vp_Si (fun v9 => v9 = mpt I r k st)) 0 0 (fun _ => False) := by
  refine Met.ofW (cc := cX1_pitchOf) (maxL := 5) (ret := (some .int)) (by decide) rfl ?_
  intro p e s m args below meth c s₁ B hml hv
  obtain ⟨rfl, hP, hK⟩ := hv
  have hx := B.exec
  have hb := B.bytes
  have hr := B.returns
  have hts := atoms_spec (ws := wsX1_pitchOf) B.pre
  have hown : s.vm.findClass RX1 = some m.cls := findClass_of_methodNamed B.named
  have hlocks := B.notSynchronized
  have hin0 : ∀ w ∈ u_ws RX1 TX1 16, w ∈ wsX1_pitchOf := by decide +kernel
  have hl := lv_entry ([.ref (a 0), .int (nI r), .int (nI k), .int (nI st)]) (n := 5) (Nat.le_of_ble_eq_true rfl)
  rw [lg_entry_eq]
  generalize (lg_sl ([.ref (a 0), .int (nI r), .int (nI k), .int (nI st)]) ++ List.replicate (5 - (lg_sl ([.ref (a 0), .int (nI r), .int (nI k), .int (nI st)])).length) Slot.unset).toArray = ls at hl ⊢
  have hl : lv_has ls 5 [(0, .ref (a 0)), (1, .int (nI r)), (2, .int (nI k)), (3, .int (nI st))] := hl
  refine lv_aload_n hx hb dX1_pitchOf_0 rfl (lv_at hl 0 rfl) ?_
  refine r_get (v := .ref (a 1)) hx hb hts hin0 hown hK hP rc_at0 1 (by decide) (hts (.fieldLink RX1 7 "OrganBuilderModel" "kind" "[I") (by decide +kernel)) rfl dX1_pitchOf_1 ?_
  refine lv_iload_n hx hb dX1_pitchOf_4 rfl (lv_at hl 1 rfl) ?_
  refine w_ild hx hb hK hP rfl rc_at1 (by omega) (by decide) dX1_pitchOf_5 ?_
  refine lv_if_ne (tgt := 14) hx hb dX1_pitchOf_6 (by decide) (fun c_6 => ?_) (fun c_6 => ?_)
  · refine lv_aload_n hx hb dX1_pitchOf_14 rfl (lv_at hl 0 rfl) ?_
    refine r_get (v := .ref (a 1)) hx hb hts hin0 hown hK hP rc_at0 1 (by decide) (hts (.fieldLink RX1 7 "OrganBuilderModel" "kind" "[I") (by decide +kernel)) rfl dX1_pitchOf_15 ?_
    refine lv_iload_n hx hb dX1_pitchOf_18 rfl (lv_at hl 1 rfl) ?_
    refine w_ild hx hb hK hP rfl rc_at1 (by omega) (by decide) dX1_pitchOf_19 ?_
    refine lv_iconst (v := 1) hx hb dX1_pitchOf_20 (by decide) ?_
    refine lv_icmp_ne (tgt := 28) hx hb dX1_pitchOf_21 (by decide) (fun c_21 => ?_) (fun c_21 => ?_)
    · refine lv_aload_n hx hb dX1_pitchOf_28 rfl (lv_at hl 0 rfl) ?_
      refine r_get (v := .ref (a 1)) hx hb hts hin0 hown hK hP rc_at0 1 (by decide) (hts (.fieldLink RX1 7 "OrganBuilderModel" "kind" "[I") (by decide +kernel)) rfl dX1_pitchOf_29 ?_
      refine lv_iload_n hx hb dX1_pitchOf_32 rfl (lv_at hl 1 rfl) ?_
      refine w_ild hx hb hK hP rfl rc_at1 (by omega) (by decide) dX1_pitchOf_33 ?_
      refine lv_iconst (v := 2) hx hb dX1_pitchOf_34 (by decide) ?_
      refine lv_icmp_ne (tgt := 43) hx hb dX1_pitchOf_35 (by decide) (fun c_35 => ?_) (fun c_35 => ?_)
      · refine lv_bipush (v := 19) hx hb dX1_pitchOf_43 (by decide) ?_
        refine lv_asi (mtn (I 0 r)) (((if_neg c_6).trans ((if_neg c_21).trans (if_neg c_35))).symm) ?_
        refine lv_istore (lv' := [(4, .int (mtn (I 0 r))), (0, .ref (a 0)), (1, .int (nI r)), (2, .int (nI k)), (3, .int (nI st))]) hx hb dX1_pitchOf_45 hl (by decide) rfl (fun ls hl => ?_)
        refine lv_bipush (v := 100) hx hb dX1_pitchOf_47 (by decide) ?_
        refine lv_iload_n hx hb dX1_pitchOf_49 rfl (lv_at hl 3 rfl) ?_
        refine lv_iload hx hb dX1_pitchOf_50 (lv_at hl 0 rfl) ?_
        refine lv_iadd hx hb dX1_pitchOf_52 ?_
        refine lv_imul hx hb dX1_pitchOf_53 ?_
        refine lv_aload_n hx hb dX1_pitchOf_54 rfl (lv_at hl 1 rfl) ?_
        refine r_get (v := .ref (a 8)) hx hb hts hin0 hown hK hP rc_at0 10 (by decide) (hts (.fieldLink RX1 35 "OrganBuilderModel" "offset" "[I") (by decide +kernel)) rfl dX1_pitchOf_55 ?_
        refine lv_iload_n hx hb dX1_pitchOf_58 rfl (lv_at hl 3 rfl) ?_
        refine lv_bipush (v := (nI 12)) hx hb dX1_pitchOf_59 (by decide) ?_
        refine lv_irem hx hb dX1_pitchOf_61 (by decide) ?_
        refine lv_asi (nI (k % 12)) (pk_rem (by omega) (by decide) (by decide)) ?_
        refine w_ild hx hb hK hP rfl rc_at8 (by omega) (by decide) dX1_pitchOf_62 ?_
        refine lv_iadd hx hb dX1_pitchOf_63 ?_
        refine lv_aload_n hx hb dX1_pitchOf_64 rfl (lv_at hl 1 rfl) ?_
        refine r_get (v := .ref (a 3)) hx hb hts hin0 hown hK hP rc_at0 3 (by decide) (hts (.fieldLink RX1 16 "OrganBuilderModel" "detune" "[I") (by decide +kernel)) rfl dX1_pitchOf_65 ?_
        refine lv_iload_n hx hb dX1_pitchOf_68 rfl (lv_at hl 2 rfl) ?_
        refine w_ild hx hb hK hP rfl rc_at3 (by omega) (by decide) dX1_pitchOf_69 ?_
        refine lv_iadd hx hb dX1_pitchOf_70 ?_
        refine lv_aload_n hx hb dX1_pitchOf_71 rfl (lv_at hl 1 rfl) ?_
        refine r_get (v := .ref (a 7)) hx hb hts hin0 hown hK hP rc_at0 9 (by decide) (hts (.fieldLink RX1 32 "OrganBuilderModel" "fall" "[I") (by decide +kernel)) rfl dX1_pitchOf_72 ?_
        refine lv_iload_n hx hb dX1_pitchOf_75 rfl (lv_at hl 4 rfl) ?_
        refine w_ild hx hb hK hP rfl rc_at7 (by omega) (by decide) dX1_pitchOf_76 ?_
        refine lv_isub hx hb dX1_pitchOf_77 ?_
        exact e_i hx hb hr rfl hlocks (rfl) dX1_pitchOf_78
      · refine lv_bipush (v := 12) hx hb dX1_pitchOf_38 (by decide) ?_
        refine lv_goto (tgt := 45) hx hb dX1_pitchOf_40 (by decide) ?_
        refine lv_asi (mtn (I 0 r)) (((if_neg c_6).trans ((if_neg c_21).trans (if_pos c_35))).symm) ?_
        refine lv_istore (lv' := [(4, .int (mtn (I 0 r))), (0, .ref (a 0)), (1, .int (nI r)), (2, .int (nI k)), (3, .int (nI st))]) hx hb dX1_pitchOf_45 hl (by decide) rfl (fun ls hl => ?_)
        refine lv_bipush (v := 100) hx hb dX1_pitchOf_47 (by decide) ?_
        refine lv_iload_n hx hb dX1_pitchOf_49 rfl (lv_at hl 3 rfl) ?_
        refine lv_iload hx hb dX1_pitchOf_50 (lv_at hl 0 rfl) ?_
        refine lv_iadd hx hb dX1_pitchOf_52 ?_
        refine lv_imul hx hb dX1_pitchOf_53 ?_
        refine lv_aload_n hx hb dX1_pitchOf_54 rfl (lv_at hl 1 rfl) ?_
        refine r_get (v := .ref (a 8)) hx hb hts hin0 hown hK hP rc_at0 10 (by decide) (hts (.fieldLink RX1 35 "OrganBuilderModel" "offset" "[I") (by decide +kernel)) rfl dX1_pitchOf_55 ?_
        refine lv_iload_n hx hb dX1_pitchOf_58 rfl (lv_at hl 3 rfl) ?_
        refine lv_bipush (v := (nI 12)) hx hb dX1_pitchOf_59 (by decide) ?_
        refine lv_irem hx hb dX1_pitchOf_61 (by decide) ?_
        refine lv_asi (nI (k % 12)) (pk_rem (by omega) (by decide) (by decide)) ?_
        refine w_ild hx hb hK hP rfl rc_at8 (by omega) (by decide) dX1_pitchOf_62 ?_
        refine lv_iadd hx hb dX1_pitchOf_63 ?_
        refine lv_aload_n hx hb dX1_pitchOf_64 rfl (lv_at hl 1 rfl) ?_
        refine r_get (v := .ref (a 3)) hx hb hts hin0 hown hK hP rc_at0 3 (by decide) (hts (.fieldLink RX1 16 "OrganBuilderModel" "detune" "[I") (by decide +kernel)) rfl dX1_pitchOf_65 ?_
        refine lv_iload_n hx hb dX1_pitchOf_68 rfl (lv_at hl 2 rfl) ?_
        refine w_ild hx hb hK hP rfl rc_at3 (by omega) (by decide) dX1_pitchOf_69 ?_
        refine lv_iadd hx hb dX1_pitchOf_70 ?_
        refine lv_aload_n hx hb dX1_pitchOf_71 rfl (lv_at hl 1 rfl) ?_
        refine r_get (v := .ref (a 7)) hx hb hts hin0 hown hK hP rc_at0 9 (by decide) (hts (.fieldLink RX1 32 "OrganBuilderModel" "fall" "[I") (by decide +kernel)) rfl dX1_pitchOf_72 ?_
        refine lv_iload_n hx hb dX1_pitchOf_75 rfl (lv_at hl 4 rfl) ?_
        refine w_ild hx hb hK hP rfl rc_at7 (by omega) (by decide) dX1_pitchOf_76 ?_
        refine lv_isub hx hb dX1_pitchOf_77 ?_
        exact e_i hx hb hr rfl hlocks (rfl) dX1_pitchOf_78
    · refine lv_iconst (v := 0) hx hb dX1_pitchOf_24 (by decide) ?_
      refine lv_goto (tgt := 45) hx hb dX1_pitchOf_25 (by decide) ?_
      refine lv_asi (mtn (I 0 r)) (((if_neg c_6).trans (if_pos c_21)).symm) ?_
      refine lv_istore (lv' := [(4, .int (mtn (I 0 r))), (0, .ref (a 0)), (1, .int (nI r)), (2, .int (nI k)), (3, .int (nI st))]) hx hb dX1_pitchOf_45 hl (by decide) rfl (fun ls hl => ?_)
      refine lv_bipush (v := 100) hx hb dX1_pitchOf_47 (by decide) ?_
      refine lv_iload_n hx hb dX1_pitchOf_49 rfl (lv_at hl 3 rfl) ?_
      refine lv_iload hx hb dX1_pitchOf_50 (lv_at hl 0 rfl) ?_
      refine lv_iadd hx hb dX1_pitchOf_52 ?_
      refine lv_imul hx hb dX1_pitchOf_53 ?_
      refine lv_aload_n hx hb dX1_pitchOf_54 rfl (lv_at hl 1 rfl) ?_
      refine r_get (v := .ref (a 8)) hx hb hts hin0 hown hK hP rc_at0 10 (by decide) (hts (.fieldLink RX1 35 "OrganBuilderModel" "offset" "[I") (by decide +kernel)) rfl dX1_pitchOf_55 ?_
      refine lv_iload_n hx hb dX1_pitchOf_58 rfl (lv_at hl 3 rfl) ?_
      refine lv_bipush (v := (nI 12)) hx hb dX1_pitchOf_59 (by decide) ?_
      refine lv_irem hx hb dX1_pitchOf_61 (by decide) ?_
      refine lv_asi (nI (k % 12)) (pk_rem (by omega) (by decide) (by decide)) ?_
      refine w_ild hx hb hK hP rfl rc_at8 (by omega) (by decide) dX1_pitchOf_62 ?_
      refine lv_iadd hx hb dX1_pitchOf_63 ?_
      refine lv_aload_n hx hb dX1_pitchOf_64 rfl (lv_at hl 1 rfl) ?_
      refine r_get (v := .ref (a 3)) hx hb hts hin0 hown hK hP rc_at0 3 (by decide) (hts (.fieldLink RX1 16 "OrganBuilderModel" "detune" "[I") (by decide +kernel)) rfl dX1_pitchOf_65 ?_
      refine lv_iload_n hx hb dX1_pitchOf_68 rfl (lv_at hl 2 rfl) ?_
      refine w_ild hx hb hK hP rfl rc_at3 (by omega) (by decide) dX1_pitchOf_69 ?_
      refine lv_iadd hx hb dX1_pitchOf_70 ?_
      refine lv_aload_n hx hb dX1_pitchOf_71 rfl (lv_at hl 1 rfl) ?_
      refine r_get (v := .ref (a 7)) hx hb hts hin0 hown hK hP rc_at0 9 (by decide) (hts (.fieldLink RX1 32 "OrganBuilderModel" "fall" "[I") (by decide +kernel)) rfl dX1_pitchOf_72 ?_
      refine lv_iload_n hx hb dX1_pitchOf_75 rfl (lv_at hl 4 rfl) ?_
      refine w_ild hx hb hK hP rfl rc_at7 (by omega) (by decide) dX1_pitchOf_76 ?_
      refine lv_isub hx hb dX1_pitchOf_77 ?_
      exact e_i hx hb hr rfl hlocks (rfl) dX1_pitchOf_78
  · refine lv_bipush (v := (-12)) hx hb dX1_pitchOf_9 (by decide) ?_
    refine lv_goto (tgt := 45) hx hb dX1_pitchOf_11 (by decide) ?_
    refine lv_asi (mtn (I 0 r)) ((if_pos c_6).symm) ?_
    refine lv_istore (lv' := [(4, .int (mtn (I 0 r))), (0, .ref (a 0)), (1, .int (nI r)), (2, .int (nI k)), (3, .int (nI st))]) hx hb dX1_pitchOf_45 hl (by decide) rfl (fun ls hl => ?_)
    refine lv_bipush (v := 100) hx hb dX1_pitchOf_47 (by decide) ?_
    refine lv_iload_n hx hb dX1_pitchOf_49 rfl (lv_at hl 3 rfl) ?_
    refine lv_iload hx hb dX1_pitchOf_50 (lv_at hl 0 rfl) ?_
    refine lv_iadd hx hb dX1_pitchOf_52 ?_
    refine lv_imul hx hb dX1_pitchOf_53 ?_
    refine lv_aload_n hx hb dX1_pitchOf_54 rfl (lv_at hl 1 rfl) ?_
    refine r_get (v := .ref (a 8)) hx hb hts hin0 hown hK hP rc_at0 10 (by decide) (hts (.fieldLink RX1 35 "OrganBuilderModel" "offset" "[I") (by decide +kernel)) rfl dX1_pitchOf_55 ?_
    refine lv_iload_n hx hb dX1_pitchOf_58 rfl (lv_at hl 3 rfl) ?_
    refine lv_bipush (v := (nI 12)) hx hb dX1_pitchOf_59 (by decide) ?_
    refine lv_irem hx hb dX1_pitchOf_61 (by decide) ?_
    refine lv_asi (nI (k % 12)) (pk_rem (by omega) (by decide) (by decide)) ?_
    refine w_ild hx hb hK hP rfl rc_at8 (by omega) (by decide) dX1_pitchOf_62 ?_
    refine lv_iadd hx hb dX1_pitchOf_63 ?_
    refine lv_aload_n hx hb dX1_pitchOf_64 rfl (lv_at hl 1 rfl) ?_
    refine r_get (v := .ref (a 3)) hx hb hts hin0 hown hK hP rc_at0 3 (by decide) (hts (.fieldLink RX1 16 "OrganBuilderModel" "detune" "[I") (by decide +kernel)) rfl dX1_pitchOf_65 ?_
    refine lv_iload_n hx hb dX1_pitchOf_68 rfl (lv_at hl 2 rfl) ?_
    refine w_ild hx hb hK hP rfl rc_at3 (by omega) (by decide) dX1_pitchOf_69 ?_
    refine lv_iadd hx hb dX1_pitchOf_70 ?_
    refine lv_aload_n hx hb dX1_pitchOf_71 rfl (lv_at hl 1 rfl) ?_
    refine r_get (v := .ref (a 7)) hx hb hts hin0 hown hK hP rc_at0 9 (by decide) (hts (.fieldLink RX1 32 "OrganBuilderModel" "fall" "[I") (by decide +kernel)) rfl dX1_pitchOf_72 ?_
    refine lv_iload_n hx hb dX1_pitchOf_75 rfl (lv_at hl 4 rfl) ?_
    refine w_ild hx hb hK hP rfl rc_at7 (by omega) (by decide) dX1_pitchOf_76 ?_
    refine lv_isub hx hb dX1_pitchOf_77 ?_
    exact e_i hx hb hr rfl hlocks (rfl) dX1_pitchOf_78
