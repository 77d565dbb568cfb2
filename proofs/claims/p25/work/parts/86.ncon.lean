/-! ===== the contracts, in numbers: calls that do not throw ===== -/
theorem rg_ok {v n : Nat} {x : Int32} (hx : x = nI n) (h : v ≤ n) (hn : n < 2 ^ 31) : rg (nI v) 0 x = true := by
  subst hx
  unfold rg
  rw [decide_eq_true (show (0 : Int32) ≤ nI v from nI_pos' (by omega)), decide_eq_true ((nI_leI (by omega) hn).mpr h)]
  rfl
theorem rg_ok1 {v n lo : Nat} {x y : Int32} (hx : x = nI n) (hy : y = nI lo) (h : v ≤ n) (hl : lo ≤ v) (hn : n < 2 ^ 31) : rg (nI v) y x = true := by
  subst hx
  subst hy
  unfold rg
  rw [decide_eq_true ((nI_leI (by omega) (by omega)).mpr hl), decide_eq_true ((nI_leI (by omega) hn).mpr h)]
  rfl
theorem k_RK {r k : Nat} (hr : r < 6) (hk61 : k < 61) : kRK (nI r) (nI k) = 0 := by
  unfold kRK
  rw [rg_ok (v := r) (n := 5) (x := 5) rfl (by omega) (by decide), rg_ok (v := k) (n := 60) (x := 60) rfl (by omega) (by decide)]
  rfl
theorem k_MK {r k : Nat} (hr : r < 3) (hk61 : k < 61) : kMK (nI r) (nI k) = 0 := by
  unfold kMK
  rw [rg_ok (v := r) (n := 2) (x := 2) rfl (by omega) (by decide), rg_ok (v := k) (n := 60) (x := 60) rfl (by omega) (by decide)]
  rfl
section NC
variable (l : Launch) (D : va_G) (a : Nat → Nat) (cI cL cO : ClassId) {I : Nat → Nat → Int32} {J : Nat → Nat → Int64} {h : Nat → Nat}
theorem n_need (hG : GI I) (hJ : gJ J h) : Met l yX0_need wsX0_need ({ frames := 5, cells := 0, slots := 0, locals := 112 } : Room) (va_Pc [.ref (a 0)] (mB D (oty cI cL cO) (oc a cI cL cO I J))) (mQi D (oc a cI cL cO I J) (oc a cI cL cO I (fsW I J 0 0)) (nI (nd I h))) 0 0 (wA (oc a cI cL cO I J)) := by
  have q := c_need l D a cI cL cO I J
  rw [g_need hG hJ] at q
  exact q
theorem n_pipes (hG : GI I) (hJ : gJ J h) : Met l yX0_pipes wsX0_pipes ({ frames := 5, cells := 0, slots := 0, locals := 112 } : Room) (va_Pc [.ref (a 0)] (mB D (oty cI cL cO) (oc a cI cL cO I J))) (mQi D (oc a cI cL cO I J) (oc a cI cL cO I (fsW I J 0 0)) (nI (pp I h))) 0 0 (wA (oc a cI cL cO I J)) := by
  have q := c_pipes l D a cI cL cO I J
  rw [g_pipes hG hJ] at q
  exact q
theorem n_sagStep (hG : GI I) (hJ : gJ J h) : Met l yX0_sagStep wsX0_sagStep ({ frames := 5, cells := 0, slots := 0, locals := 112 } : Room) (va_Pc [.ref (a 0)] (mB D (oty cI cL cO) (oc a cI cL cO I J))) (mQi D (oc a cI cL cO I J) (oc a cI cL cO I (fsW I J 0 0)) (nI (stN (nd I h) (suN I)))) 0 0 (wA (oc a cI cL cO I J)) := by
  have q := c_sagStep l D a cI cL cO I J
  rw [g_sag hG hJ] at q
  exact q
theorem n_lowest (hG : GI I) (hJ : gJ J h) : Met l yX0_lowest wsX0_lowest ({ frames := 5, cells := 0, slots := 0, locals := 112 } : Room) (va_Pc [.ref (a 0)] (mB D (oty cI cL cO) (oc a cI cL cO I J))) (mQi D (oc a cI cL cO I J) (oc a cI cL cO I (fsW I J 0 0)) (lowV I h)) 0 0 (wA (oc a cI cL cO I J)) := by
  have q := c_lowest l D a cI cL cO I J
  rw [g_low hG hJ] at q
  exact q
theorem n_letGo (hJ : gJ J h) : Met l yX0_letGo wsX0_letGo ({ frames := 1, cells := 0, slots := 0, locals := 21 } : Room) (va_Pc [.ref (a 0)] (mB D (oty cI cL cO) (oc a cI cL cO I J))) (mQi D (oc a cI cL cO I J) (oc a cI cL cO I (lgJ J 3)) (nI (hc h))) 0 0 (wA (oc a cI cL cO I J)) := by
  have q := c_letGo l D a cI cL cO I J
  rw [(g_lg hJ).2] at q
  exact q
theorem n_setRank (hl0 : l.stackTraces = false) {r k w : Nat} {d : Int32} (hr : r < 6) (hk4 : k < 4) (hw1 : 1 ≤ w) (hw9 : w ≤ 9) (hd : rg d (-50) 50 = true) (sz : Nat) : vx_Met l yX0_setRank wsX0_setRank ({ frames := 8, cells := 4, slots := 24, locals := 124 } : Room) (va_Pc [.ref (a 0), .int (nI r), .int (nI k), .int (nI w), .int d] (tB D (oty cI cL cO) (oc a cI cL cO I J) sz)) (tQv D (oc a cI cL cO I J) (oc a cI cL cO (mRank I r k w d) J) sz 0) (tX D (oc a cI cL cO I J) (oc a cI cL cO I J) sz 0) 4 24 (tA (oc a cI cL cO I J) sz) := by
  have q := t_setRank l hl0 D a cI cL cO I J (nI r) (nI k) (nI w) d sz
  have e : kRank (nI r) (nI k) (nI w) d = 0 := by
    unfold kRank
    rw [rg_ok (v := r) (n := 5) (x := 5) rfl (by omega) (by decide), rg_ok (v := k) (n := 3) (x := 3) rfl (by omega) (by decide), rg_ok1 (v := w) (n := 9) (lo := 1) (x := 9) (y := 1) rfl rfl (by omega) (by omega) (by decide), hd]
    rfl
  rw [e, nI_clamp (show r < 2 ^ 31 by omega), nI_clamp (show k < 2 ^ 31 by omega)] at q
  exact q
theorem n_uncouple (hl0 : l.stackTraces = false) {f t : Nat} (hf : f < 3) (ht : t < 3) (sz : Nat) : vx_Met l yX0_uncouple wsX0_uncouple ({ frames := 8, cells := 2, slots := 12, locals := 124 } : Room) (va_Pc [.ref (a 0), .int (nI f), .int (nI t)] (tB D (oty cI cL cO) (oc a cI cL cO I J) sz)) (tQi D (oc a cI cL cO I J) (oc a cI cL cO (u2 I (20 + f) t 1) J) sz 0 (bI (cpd I f t))) (tX D (oc a cI cL cO I J) (oc a cI cL cO I J) sz 0) 2 12 (tA (oc a cI cL cO I J) sz) := by
  have q := t_uncouple l hl0 D a cI cL cO I J (nI f) (nI t) sz
  have e : kUnc (nI f) (nI t) = 0 := by
    unfold kUnc
    rw [rg_ok (v := f) (n := 2) (x := 2) rfl (by omega) (by decide), rg_ok (v := t) (n := 2) (x := 2) rfl (by omega) (by decide)]
    rfl
  rw [e, nI_clamp (show f < 2 ^ 31 by omega), nI_clamp (show t < 2 ^ 31 by omega)] at q
  exact q
theorem n_setSupply (hl0 : l.stackTraces = false) {s : Nat} (h1 : 10 ≤ s) (h2 : s ≤ 1000) (sz : Nat) : vx_Met l yX0_setSupply wsX0_setSupply ({ frames := 7, cells := 1, slots := 6, locals := 104 } : Room) (va_Pc [.ref (a 0), .int (nI s)] (tB D (oty cI cL cO) (oc a cI cL cO I J) sz)) (tQi D (oc a cI cL cO I J) (oc a cI cL cO (u2 I 8 1 (nI s)) J) sz 0 (I 8 1)) (tX D (oc a cI cL cO I J) (oc a cI cL cO I J) sz 0) 1 6 (tA (oc a cI cL cO I J) sz) := by
  have q := t_setSupply l hl0 D a cI cL cO I J (nI s) sz
  have e : kSup (nI s) = 0 := by
    unfold kSup
    rw [rg_ok1 (v := s) (n := 1000) (lo := 10) (x := 1000) (y := 10) rfl rfl (by omega) (by omega) (by decide)]
    rfl
  rw [e] at q
  exact q
theorem n_tune (hl0 : l.stackTraces = false) {k : Nat} {x : Int32} (hk12 : k < 12) (hx : rg x (-50) 50 = true) (sz : Nat) : vx_Met l yX0_tune wsX0_tune ({ frames := 7, cells := 2, slots := 12, locals := 104 } : Room) (va_Pc [.ref (a 0), .int (nI k), .int x] (tB D (oty cI cL cO) (oc a cI cL cO I J) sz)) (tQi D (oc a cI cL cO I J) (oc a cI cL cO (u2 I 7 k x) J) sz 0 (I 7 k)) (tX D (oc a cI cL cO I J) (oc a cI cL cO I J) sz 0) 2 12 (tA (oc a cI cL cO I J) sz) := by
  have q := t_tune l hl0 D a cI cL cO I J (nI k) x sz
  have e : kTune (nI k) x = 0 := by
    unfold kTune
    rw [rg_ok (v := k) (n := 11) (x := 11) rfl (by omega) (by decide), hx]
    rfl
  rw [e, nI_clamp (show k < 2 ^ 31 by omega)] at q
  exact q
theorem n_draw (hl0 : l.stackTraces = false) {s d : Nat} {b : Bool} (hs : s < 12) (hd : I 8 0 = nI d) (sz : Nat) : vx_Met l yX0_draw wsX0_draw ({ frames := 8, cells := 1, slots := 6, locals := 124 } : Room) (va_Pc [.ref (a 0), .int (nI s), .int (bI b)] (tB D (oty cI cL cO) (oc a cI cL cO I J) sz)) (tQi D (oc a cI cL cO I J) (oc a cI cL cO (u2 I 8 0 (nI (drw d s b))) J) sz 0 (bI (d.testBit s))) (tX D (oc a cI cL cO I J) (oc a cI cL cO I J) sz 0) 1 6 (tA (oc a cI cL cO I J) sz) := by
  have q := t_draw l hl0 D a cI cL cO I J (nI s) (bI b) sz
  have e : kDraw (nI s) = 0 := by
    unfold kDraw
    rw [rg_ok (v := s) (n := 11) (x := 11) rfl (by omega) (by decide)]
    rfl
  rw [e, dr_m hd hs, hd, dr_bit hs] at q
  exact q
theorem n_keep (hl0 : l.stackTraces = false) {r d : Nat} (hr : r < 8) (hd : I 8 0 = nI d) (hd2 : d < 4096) (sz : Nat) : vx_Met l yX0_keep wsX0_keep ({ frames := 7, cells := 1, slots := 6, locals := 104 } : Room) (va_Pc [.ref (a 0), .int (nI r)] (tB D (oty cI cL cO) (oc a cI cL cO I J) sz)) (tQi D (oc a cI cL cO I J) (oc a cI cL cO (u2 I 5 r (I 8 0)) J) sz 0 (nI (pcN d 12))) (tX D (oc a cI cL cO I J) (oc a cI cL cO I J) sz 0) 1 6 (tA (oc a cI cL cO I J) sz) := by
  have q := t_keep l hl0 D a cI cL cO I J (nI r) sz
  have e : kReg (nI r) = 0 := by
    unfold kReg
    rw [rg_ok (v := r) (n := 7) (x := 7) rfl (by omega) (by decide)]
    rfl
  rw [e, nI_clamp (show r < 2 ^ 31 by omega)] at q
  have e2 : bcI (I 8 0) = nI (pcN d 12) := by rw [hd, bc_12 hd2]
  rw [e2] at q
  exact q
theorem n_recall (hl0 : l.stackTraces = false) {r d d2 : Nat} (hr : r < 8) (hd : I 8 0 = nI d) (hd2 : d < 4096) (hk : I 5 r = nI d2) (hk2 : d2 < 4096) (sz : Nat) : vx_Met l yX0_recall wsX0_recall ({ frames := 7, cells := 1, slots := 6, locals := 104 } : Room) (va_Pc [.ref (a 0), .int (nI r)] (tB D (oty cI cL cO) (oc a cI cL cO I J) sz)) (tQi D (oc a cI cL cO I J) (oc a cI cL cO (u2 I 8 0 (nI d2)) J) sz 0 (nI (pcN (d ^^^ d2) 12))) (tX D (oc a cI cL cO I J) (oc a cI cL cO I J) sz 0) 1 6 (tA (oc a cI cL cO I J) sz) := by
  have q := t_recall l hl0 D a cI cL cO I J (nI r) sz
  have e : kReg (nI r) = 0 := by
    unfold kReg
    rw [rg_ok (v := r) (n := 7) (x := 7) rfl (by omega) (by decide)]
    rfl
  rw [e, nI_clamp (show r < 2 ^ 31 by omega), hd, hk, bc_x hd2 hk2] at q
  exact q
theorem n_hold (hl0 : l.stackTraces = false) {m k : Nat} {b : Bool} (hJ : gJ J h) (hm : m < 3) (hk61 : k < 61) (sz : Nat) : vx_Met l yX0_hold wsX0_hold ({ frames := 8, cells := 2, slots := 12, locals := 124 } : Room) (va_Pc [.ref (a 0), .int (nI m), .int (nI k), .int (bI b)] (tB D (oty cI cL cO) (oc a cI cL cO I J) sz)) (tQi D (oc a cI cL cO I J) (oc a cI cL cO I (hoJ J (nI m) (nI k) (bI b))) sz 0 (bI ((h m).testBit k))) (tX D (oc a cI cL cO I J) (oc a cI cL cO I J) sz 0) 2 12 (tA (oc a cI cL cO I J) sz) := by
  have q := t_hold l hl0 D a cI cL cO I J (nI m) (nI k) (bI b) sz
  rw [k_MK hm hk61, nI_clamp (show m < 2 ^ 31 by omega), (g_hold hJ hm hk61 b).1] at q
  exact q
theorem n_sound (hl0 : l.stackTraces = false) {tm : Nat} (hG : GI I) (hJ : gJ J h) (h1 : 1 ≤ tm) (h2 : tm ≤ 50) (sz : Nat) : vx_Met l yX0_sound wsX0_sound ({ frames := 7, cells := 1, slots := 6, locals := 112 } : Room) (va_Pc [.ref (a 0), .int (nI tm)] (tB D (oty cI cL cO) (oc a cI cL cO I J) sz)) (tQi D (oc a cI cL cO I J) (oc a cI cL cO (mSo I J tm) (fsW I J 0 0)) sz 0 (nI (pp I h))) (tX D (oc a cI cL cO I J) (oc a cI cL cO I J) sz 0) 1 6 (tA (oc a cI cL cO I J) sz) := by
  have q := t_sound l hl0 D a cI cL cO I J (nI tm) sz
  have e : kSnd (nI tm) = 0 := by
    unfold kSnd
    rw [rg_ok1 (v := tm) (n := 50) (lo := 1) (x := 50) (y := 1) rfl rfl (by omega) (by omega) (by decide)]
    rfl
  rw [e, g_pipes hG hJ] at q
  exact q
theorem n_repair (hl0 : l.stackTraces = false) {r : Nat} (hr : r < 6) (sz : Nat) : vx_Met l yX0_repair wsX0_repair ({ frames := 8, cells := 1, slots := 6, locals := 124 } : Room) (va_Pc [.ref (a 0), .int (nI r)] (tB D (oty cI cL cO) (oc a cI cL cO I J) sz)) (tQi D (oc a cI cL cO I J) (oc a cI cL cO (rpI I r 61) J) sz 0 (nI (mcN (I (10 + r)) 61))) (tX D (oc a cI cL cO I J) (oc a cI cL cO I J) sz 0) 1 6 (tA (oc a cI cL cO I J) sz) := by
  have q := t_repair l hl0 D a cI cL cO I J (nI r) sz
  have e : kRk (nI r) = 0 := by
    unfold kRk
    rw [rg_ok (v := r) (n := 5) (x := 5) rfl (by omega) (by decide)]
    rfl
  rw [e, nI_clamp (show r < 2 ^ 31 by omega), mu_mc] at q
  exact q
theorem n_sounds (hl0 : l.stackTraces = false) {r k : Nat} (hG : GI I) (hJ : gJ J h) (hr : r < 6) (hk61 : k < 61) (sz : Nat) : vx_Met l yX0_sounds wsX0_sounds ({ frames := 8, cells := 2, slots := 12, locals := 124 } : Room) (va_Pc [.ref (a 0), .int (nI r), .int (nI k)] (tB D (oty cI cL cO) (oc a cI cL cO I J) sz)) (tQi D (oc a cI cL cO I J) (oc a cI cL cO I (fsW I J 0 0)) sz 0 (bI (sB I h r k))) (tX D (oc a cI cL cO I J) (oc a cI cL cO I J) sz 0) 2 12 (tA (oc a cI cL cO I J) sz) := by
  have q := t_sounds l hl0 D a cI cL cO I J (nI r) (nI k) sz
  rw [k_RK hr hk61, nI_clamp (show r < 2 ^ 31 by omega), g_snd hG hJ hr hk61] at q
  exact q
theorem n_wear (hl0 : l.stackTraces = false) {r k : Nat} (hr : r < 6) (hk61 : k < 61) (sz : Nat) : vx_Met l yX0_wear wsX0_wear ({ frames := 8, cells := 2, slots := 12, locals := 124 } : Room) (va_Pc [.ref (a 0), .int (nI r), .int (nI k)] (tB D (oty cI cL cO) (oc a cI cL cO I J) sz)) (tQi D (oc a cI cL cO I J) (oc a cI cL cO I J) sz 0 (I (10 + r) k)) (tX D (oc a cI cL cO I J) (oc a cI cL cO I J) sz 0) 2 12 (tA (oc a cI cL cO I J) sz) := by
  have q := t_wear l hl0 D a cI cL cO I J (nI r) (nI k) sz
  rw [k_RK hr hk61, nI_clamp (show r < 2 ^ 31 by omega), nI_clamp (show k < 2 ^ 31 by omega)] at q
  exact q
theorem n_more (hl0 : l.stackTraces = false) {m k : Nat} (hG : GI I) (hJ : gJ J h) (hm : m < 3) (hk61 : k < 61) (sz : Nat) : vx_Met l yX0_more wsX0_more ({ frames := 8, cells := 2, slots := 12, locals := 124 } : Room) (va_Pc [.ref (a 0), .int (nI m), .int (nI k)] (tB D (oty cI cL cO) (oc a cI cL cO I J) sz)) (tQi D (oc a cI cL cO I J) (oc a cI cL cO I (fsW I (fsW I J 0 0) m (kb (nI k)))) sz 0 (nI (nN (wd I) (sB I (rA h m (2 ^ k))) - nd I h))) (tX D (oc a cI cL cO I J) (oc a cI cL cO I J) sz 0) 2 12 (tA (oc a cI cL cO I J) sz) := by
  have q := t_more l hl0 D a cI cL cO I J (nI m) (nI k) sz
  rw [k_MK hm hk61, nI_clamp (show m < 2 ^ 31 by omega), (g_more hG hJ hm hk61).1, g_need hG hJ, pk_sub (nd_more m (2 ^ k))] at q
  exact q
end NC
