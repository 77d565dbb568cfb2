/-! ===== the class' pure words: as its loops go ===== -/
theorem ite_t {α : Type} {b : Bool} {x y : α} (h : b = true) : (if b = true then x else y) = x := if_pos h
theorem ite_f {α : Type} {b : Bool} {x y : α} (h : b = false) : (if b = true then x else y) = y := if_neg (by rw [h]; exact Bool.false_ne_true)
theorem lv_re {ls : Array Slot} {nL : Nat} {l : List (Nat × Value)} (h : lv_has ls nL l) (k : Nat) {i : Nat} {v v' : Value} (hk : l[k]? = some (i, v)) (hv : v = v') : lv_has ls nL (l.set k (i, v')) := by
  subst hv
  refine ⟨h.1, h.2.1, fun q hq => ?_⟩
  rcases List.mem_or_eq_of_mem_set hq with h1 | h1
  · exact h.2.2 q h1
  · rw [h1]; exact h.2.2 _ (List.mem_of_getElem? hk)
theorem nar_bI (b : Bool) : narrow .boolean (.int (bI b)) = .int (bI b) := by cases b <;> rfl
theorem fa_nlt {a b : Int32} (h : ¬ a < b) : b ≤ a := by rw [Int32.le_iff_toInt_le]; rw [Int32.lt_iff_toInt_lt] at h; omega
def kb (k : Int32) : Int64 := (1 : Int64) <<< (k.toInt64 &&& 63)
def hk (x : Int64) (k : Int32) : Bool := !decide (x &&& kb k = 0)
theorem hk_0 {x : Int64} {k : Int32} (h : lg_cmp (x &&& kb k) 0 = 0) : (0 : Int32) = bI (hk x k) := by
  have := (lg_cmp_eq _ _).mp h
  simp [hk, this, bI]
theorem hk_1 {x : Int64} {k : Int32} (h : ¬ lg_cmp (x &&& kb k) 0 = 0) : (1 : Int32) = bI (hk x k) := by
  have : ¬ (x &&& kb k = 0) := fun q => h ((lg_cmp_eq _ _).mpr q)
  simp [hk, this, bI]
def dr (d s : Int32) : Bool := !decide (d &&& ((1 : Int32) <<< (s &&& 31)) = 0)
theorem dr_0 {d s : Int32} (h : d &&& ((1 : Int32) <<< (s &&& 31)) = 0) : (0 : Int32) = bI (dr d s) := by simp [dr, h, bI]
theorem dr_1 {d s : Int32} (h : ¬ d &&& ((1 : Int32) <<< (s &&& 31)) = 0) : (1 : Int32) = bI (dr d s) := by simp [dr, h, bI]
def cpd (I : Nat → Nat → Int32) (f t : Nat) : Bool := !decide (I (20 + f) t = 1)
theorem cpd_0 {I : Nat → Nat → Int32} {f t : Nat} (h : I (20 + f) t = 1) : (0 : Int32) = bI (cpd I f t) := by simp [cpd, h, bI]
theorem cpd_1 {I : Nat → Nat → Int32} {f t : Nat} (h : ¬ I (20 + f) t = 1) : (1 : Int32) = bI (cpd I f t) := by simp [cpd, h, bI]
def shf (x : Int64) (s : Int32) : Int64 := if s ≤ 0 then (x.toUInt64 >>> ((-s).toInt64.toUInt64 &&& Int64.toUInt64 63)).toInt64 else (x <<< (s.toInt64 &&& 63)) &&& 2305843009213693951
def ccI (I : Nat → Nat → Int32) (f : Nat) (acc : Int32) : Nat → Int32
  | 0 => acc
  | t + 1 => if cpd I f t = true then ccI I f acc t + 1 else ccI I f acc t
def ccO (I : Nat → Nat → Int32) : Nat → Int32
  | 0 => 0
  | f + 1 => ccI I f (ccO I f) 3
def ldt (I : Nat → Nat → Int32) (f t : Nat) : Bool := cpd I f t || (cpd I f 0 && cpd I 0 t) || (cpd I f 1 && cpd I 1 t) || (cpd I f 2 && cpd I 2 t)
theorem ldt_a {I : Nat → Nat → Int32} {f t : Nat} (h : cpd I f t = true) : (1 : Int32) = bI (ldt I f t) := by simp [ldt, h, bI]
theorem ldt_b {I : Nat → Nat → Int32} {f t b : Nat} (hb : b < 3) (h : cpd I f b = true) (h2 : cpd I b t = true) : (1 : Int32) = bI (ldt I f t) := by
  rcases (show b = 0 ∨ b = 1 ∨ b = 2 by omega) with rfl | rfl | rfl <;> simp [ldt, h, h2, bI]
theorem ldt_n {I : Nat → Nat → Int32} {f t : Nat} (h : cpd I f t = false) (h2 : ∀ b, b < 3 → (cpd I f b && cpd I b t) = false) : (0 : Int32) = bI (ldt I f t) := by
  simp [ldt, h, h2 0 (by decide), h2 1 (by decide), h2 2 (by decide), bI]
def krF (mn : Int32) (R : Nat → Int64) : Nat → Int64
  | 0 => 0
  | n + 1 => if mn = nI n then R n else krF mn R n
def kdF (I : Nat → Nat → Int32) (R : Nat → Int64) (r : Nat) : Nat → Int64
  | 0 => 0
  | n + 1 => if dr (I 8 0) (nI n) = true then (if I 4 n = nI r then kdF I R r n ||| krF (I 3 n) R 3 else kdF I R r n) else kdF I R r n
def muF (f : Nat → Int32) : Nat → Int64
  | 0 => 0
  | n + 1 => if f n < 50 then muF f n else muF f n ||| kb (nI n)
def wsI (wv : Int32) (S : Int64) (acc : Int32) : Nat → Int32
  | 0 => acc
  | k + 1 => if hk S (nI k) = true then wsI wv S acc k + (wv + (60 - nI k) / 12) else wsI wv S acc k
def wsO (I : Nat → Nat → Int32) (J : Nat → Nat → Int64) : Nat → Int32
  | 0 => 0
  | r + 1 => wsI (I 1 r) (J 2 r) (wsO I J r) 61
def stS (w sp : Int32) : Int32 := if w ≤ sp then 0 else if 10 ≤ sp then (if 1 + 10 * (w - sp) / sp < 10 then 1 + 10 * (w - sp) / sp else 10) else 0
def fls (I : Nat → Nat → Int32) (J : Nat → Nat → Int64) : Int32 := if stS (wsO I J 6) (I 8 1) < 0 then 0 else if 10 < stS (wsO I J 6) (I 8 1) then 0 else I 6 (stS (wsO I J 6) (I 8 1)).toNatClampNeg
def pws (I : Nat → Nat → Int32) (r k : Nat) : Int32 := 100 * (nI k + I 0 r) + I 7 (k % 12) + I 2 r
/-- the passes over the couplers -/
def fcI (I : Nat → Nat → Int32) (f : Nat) (J : Nat → Nat → Int64) : Nat → Nat → Nat → Int64
  | 0 => J
  | t + 1 => if cpd I f t = true then u2L (fcI I f J t) 1 t (fcI I f J t 1 t ||| shf (fcI I f J t 1 f) (I (20 + f) t)) else fcI I f J t
def fcO (I : Nat → Nat → Int32) (J : Nat → Nat → Int64) : Nat → Nat → Nat → Int64
  | 0 => J
  | f + 1 => fcI I f (fcO I J f) 3
def frA (J : Nat → Nat → Int64) : Nat → Nat → Nat → Int64
  | 0 => J
  | i + 1 => u2L (frA J i) 1 i (frA J i 0 i)
def frB (J : Nat → Nat → Int64) (mn : Nat) (x : Int64) : Nat → Nat → Int64 := u2L (frA J 3) 1 mn (frA J 3 1 mn ||| x)
def frC (I : Nat → Nat → Int32) (J : Nat → Nat → Int64) : Nat → Nat → Nat → Int64
  | 0 => J
  | i + 1 => fcO I (frC I J i) 3
def frD (I : Nat → Nat → Int32) (J : Nat → Nat → Int64) (mn : Nat) (x : Int64) : Nat → Nat → Int64 := frC I (frB J mn x) 2
def fsA (I : Nat → Nat → Int32) (J : Nat → Nat → Int64) : Nat → Nat → Nat → Int64
  | 0 => J
  | r + 1 => u2L (fsA I J r) 2 r (kdF I (fsA I J r 1) r 12 &&& (muF (I (10 + r)) 61 ^^^ (-1)))
def fsW (I : Nat → Nat → Int32) (J : Nat → Nat → Int64) (mn : Nat) (x : Int64) : Nat → Nat → Int64 := fsA I (frD I J mn x) 6
def woF (S : Int64) (r : Nat) (times : Int32) (I : Nat → Nat → Int32) : Nat → Nat → Nat → Int32
  | 0 => I
  | k + 1 => if hk S (nI k) = true then u2 (woF S r times I k) (10 + r) k (woF S r times I k (10 + r) k + times) else woF S r times I k
set_option maxHeartbeats 4000000 in
set_option maxRecDepth 100000 in
theorem c_keyBit (l : Launch) (k : Int32) : Met l yX0_keyBit wsX0_keyBit ({ frames := 0, cells := 0, slots := 0, locals := 0 } : Room) (va_Pc [.int k] ((fun _ => True))) (vp_Sl (fun v9 => v9 = kb k)) 0 0 (fun _ => False) := by
  refine Met.ofW (cc := cX0_keyBit) (maxL := 1) (ret := (some .long)) (by decide) rfl ?_
  intro p e s m args below meth c s₁ B hml hv
  obtain ⟨rfl, -⟩ := hv
  have hx := B.exec
  have hb := B.bytes
  have hr := B.returns
  have hts := atoms_spec (ws := wsX0_keyBit) B.pre
  have hown : s.vm.findClass RX0 = some m.cls := findClass_of_methodNamed B.named
  have hlocks := B.notSynchronized
  have hl := lv_entry ([.int k]) (n := 1) (Nat.le_of_ble_eq_true rfl)
  rw [lg_entry_eq]
  generalize (lg_sl ([.int k]) ++ List.replicate (1 - (lg_sl ([.int k])).length) Slot.unset).toArray = ls at hl ⊢
  have hl : lv_has ls 1 [(0, .int k)] := hl
  refine lv_lconst (v := 1) hx hb dX0_keyBit_0 (by decide) ?_
  refine lv_iload_n hx hb dX0_keyBit_1 rfl (lv_at hl 0 rfl) ?_
  refine lv_lshl hx hb dX0_keyBit_2 rfl ?_
  exact e_l hx hb hr hlocks (rfl) dX0_keyBit_3
set_option maxHeartbeats 4000000 in
set_option maxRecDepth 100000 in
theorem c_hasKey (l : Launch) (x : Int64) (k : Int32) : Met l yX0_hasKey wsX0_hasKey ({ frames := 1, cells := 0, slots := 0, locals := 20 } : Room) (va_Pc [.long x, .int k] ((fun _ => True))) (vp_Si (fun v9 => v9 = bI (hk x k))) 0 0 (fun _ => False) := by
  refine Met.ofW (cc := cX0_hasKey) (maxL := 3) (ret := (some .boolean)) (by decide) rfl ?_
  intro p e s m args below meth c s₁ B hml hv
  obtain ⟨rfl, -⟩ := hv
  have hx := B.exec
  have hb := B.bytes
  have hr := B.returns
  have hts := atoms_spec (ws := wsX0_hasKey) B.pre
  have hown : s.vm.findClass RX0 = some m.cls := findClass_of_methodNamed B.named
  have hlocks := B.notSynchronized
  have hl := lv_entry ([.long x, .int k]) (n := 3) (Nat.le_of_ble_eq_true rfl)
  rw [lg_entry_eq]
  generalize (lg_sl ([.long x, .int k]) ++ List.replicate (3 - (lg_sl ([.long x, .int k])).length) Slot.unset).toArray = ls at hl ⊢
  have hl : lv_has ls 3 [(0, .long x), (2, .int k)] := hl
  refine lv_lload_n hx hb dX0_hasKey_0 rfl (lv_at hl 0 rfl) ?_
  refine lv_iload_n hx hb dX0_hasKey_1 rfl (lv_at hl 1 rfl) ?_
  refine w_pSl (As := [.int k]) (rest := [.long x]) ⟨hx, hb, hml, hown, hts⟩ (c_keyBit l k) (va_cwS 1 hts gX0_hasKey_X0_keyBit rfl rfl rfl (by decide +kernel) ⟨Nat.le_of_ble_eq_true rfl, Nat.le_of_ble_eq_true rfl⟩) rfl hl.1 rfl (Nat.le_of_ble_eq_true rfl) dX0_hasKey_2 ⟨Nat.le_of_ble_eq_true rfl, Nat.le_of_ble_eq_true rfl⟩ ?_
  refine lv_land hx hb dX0_hasKey_5 ?_
  refine lv_lconst (v := 0) hx hb dX0_hasKey_6 (by decide) ?_
  refine W.lcmp hx hb dX0_hasKey_7 ?_
  refine lv_if_eq (tgt := 15) hx hb dX0_hasKey_8 (by decide) (fun c_8 => ?_) (fun c_8 => ?_)
  · refine lv_iconst (v := 0) hx hb dX0_hasKey_15 (by decide) ?_
    exact e_i hx hb hr rfl hlocks (hk_0 c_8) dX0_hasKey_16
  · refine lv_iconst (v := 1) hx hb dX0_hasKey_11 (by decide) ?_
    refine lv_goto (tgt := 16) hx hb dX0_hasKey_12 (by decide) ?_
    exact e_i hx hb hr rfl hlocks (hk_1 c_8) dX0_hasKey_16
set_option maxHeartbeats 4000000 in
set_option maxRecDepth 100000 in
theorem c_shifted (l : Launch) (x : Int64) (k : Int32) : Met l yX0_shifted wsX0_shifted ({ frames := 0, cells := 0, slots := 0, locals := 0 } : Room) (va_Pc [.long x, .int k] ((fun _ => True))) (vp_Sl (fun v9 => v9 = shf x k)) 0 0 (fun _ => False) := by
  refine Met.ofW (cc := cX0_shifted) (maxL := 3) (ret := (some .long)) (by decide) rfl ?_
  intro p e s m args below meth c s₁ B hml hv
  obtain ⟨rfl, -⟩ := hv
  have hx := B.exec
  have hb := B.bytes
  have hr := B.returns
  have hts := atoms_spec (ws := wsX0_shifted) B.pre
  have hown : s.vm.findClass RX0 = some m.cls := findClass_of_methodNamed B.named
  have hlocks := B.notSynchronized
  have hl := lv_entry ([.long x, .int k]) (n := 3) (Nat.le_of_ble_eq_true rfl)
  rw [lg_entry_eq]
  generalize (lg_sl ([.long x, .int k]) ++ List.replicate (3 - (lg_sl ([.long x, .int k])).length) Slot.unset).toArray = ls at hl ⊢
  have hl : lv_has ls 3 [(0, .long x), (2, .int k)] := hl
  refine lv_iload_n hx hb dX0_shifted_0 rfl (lv_at hl 1 rfl) ?_
  refine lv_if_le (tgt := 12) hx hb dX0_shifted_1 (by decide) (fun c_1 => ?_) (fun c_1 => ?_)
  · refine lv_lload_n hx hb dX0_shifted_12 rfl (lv_at hl 0 rfl) ?_
    refine lv_iload_n hx hb dX0_shifted_13 rfl (lv_at hl 1 rfl) ?_
    refine lv_ineg hx hb dX0_shifted_14 ?_
    refine lv_lushr hx hb dX0_shifted_15 rfl ?_
    exact e_l hx hb hr hlocks ((if_pos c_1).symm) dX0_shifted_16
  · refine lv_lload_n hx hb dX0_shifted_4 rfl (lv_at hl 0 rfl) ?_
    refine lv_iload_n hx hb dX0_shifted_5 rfl (lv_at hl 1 rfl) ?_
    refine lv_lshl hx hb dX0_shifted_6 rfl ?_
    refine lv_ldc2 (v := 2305843009213693951) hx hb hown (hts (.constantLong RX0 168 (2305843009213693951)) (by decide +kernel)) dX0_shifted_7 ?_
    refine lv_land hx hb dX0_shifted_10 ?_
    exact e_l hx hb hr hlocks ((if_neg c_1).symm) dX0_shifted_11
set_option maxHeartbeats 4000000 in
set_option maxRecDepth 100000 in
theorem c_isDrawn (l : Launch) (D : va_G) (a : Nat → Nat) (cI cL cO : ClassId) (I : Nat → Nat → Int32) (J : Nat → Nat → Int64) (k : Int32) : Met l yX0_isDrawn wsX0_isDrawn ({ frames := 0, cells := 0, slots := 0, locals := 0 } : Room) (va_Pc [.ref (a 0), .int k] (oB D (oty cI cL cO) (oc a cI cL cO I J))) (vp_Si (fun v9 => v9 = bI (dr (I 8 0) k))) 0 0 (fun _ => False) := by
  refine Met.ofW (cc := cX0_isDrawn) (maxL := 2) (ret := (some .boolean)) (by decide) rfl ?_
  intro p e s m args below meth c s₁ B hml hv
  obtain ⟨rfl, hP, hK⟩ := hv
  have hx := B.exec
  have hb := B.bytes
  have hr := B.returns
  have hts := atoms_spec (ws := wsX0_isDrawn) B.pre
  have hown : s.vm.findClass RX0 = some m.cls := findClass_of_methodNamed B.named
  have hlocks := B.notSynchronized
  have hin0 : ∀ w ∈ u_ws RX0 TX0 15, w ∈ wsX0_isDrawn := by decide +kernel
  have hl := lv_entry ([.ref (a 0), .int k]) (n := 2) (Nat.le_of_ble_eq_true rfl)
  rw [lg_entry_eq]
  generalize (lg_sl ([.ref (a 0), .int k]) ++ List.replicate (2 - (lg_sl ([.ref (a 0), .int k])).length) Slot.unset).toArray = ls at hl ⊢
  have hl : lv_has ls 2 [(0, .ref (a 0)), (1, .int k)] := hl
  refine lv_aload_n hx hb dX0_isDrawn_0 rfl (lv_at hl 0 rfl) ?_
  refine o_get (v := .int (I 8 0)) hx hb hts hin0 hown hK hP oc_at0 6 (by decide) (hts (.fieldLink RX0 104 "OrganBuilder" "drawnStops" "I") (by decide +kernel)) rfl dX0_isDrawn_1 ?_
  refine lv_iconst (v := 1) hx hb dX0_isDrawn_4 (by decide) ?_
  refine lv_iload_n hx hb dX0_isDrawn_5 rfl (lv_at hl 1 rfl) ?_
  refine lv_ishl hx hb dX0_isDrawn_6 ?_
  refine lv_iand hx hb dX0_isDrawn_7 ?_
  refine lv_if_eq (tgt := 15) hx hb dX0_isDrawn_8 (by decide) (fun c_8 => ?_) (fun c_8 => ?_)
  · refine lv_iconst (v := 0) hx hb dX0_isDrawn_15 (by decide) ?_
    exact e_i hx hb hr rfl hlocks (dr_0 c_8) dX0_isDrawn_16
  · refine lv_iconst (v := 1) hx hb dX0_isDrawn_11 (by decide) ?_
    refine lv_goto (tgt := 16) hx hb dX0_isDrawn_12 (by decide) ?_
    exact e_i hx hb hr rfl hlocks (dr_1 c_8) dX0_isDrawn_16
set_option maxHeartbeats 4000000 in
set_option maxRecDepth 100000 in
theorem c_isCoupled (l : Launch) (D : va_G) (a : Nat → Nat) (cI cL cO : ClassId) (I : Nat → Nat → Int32) (J : Nat → Nat → Int64) (f t : Nat) (hf : f < 3) (ht : t < 3) : Met l yX0_isCoupled wsX0_isCoupled ({ frames := 0, cells := 0, slots := 0, locals := 0 } : Room) (va_Pc [.ref (a 0), .int (nI f), .int (nI t)] (oB D (oty cI cL cO) (oc a cI cL cO I J))) (vp_Si (fun v9 => v9 = bI (cpd I f t))) 0 0 (fun _ => False) := by
  refine Met.ofW (cc := cX0_isCoupled) (maxL := 3) (ret := (some .boolean)) (by decide) rfl ?_
  intro p e s m args below meth c s₁ B hml hv
  obtain ⟨rfl, hP, hK⟩ := hv
  have hx := B.exec
  have hb := B.bytes
  have hr := B.returns
  have hts := atoms_spec (ws := wsX0_isCoupled) B.pre
  have hown : s.vm.findClass RX0 = some m.cls := findClass_of_methodNamed B.named
  have hlocks := B.notSynchronized
  have hin0 : ∀ w ∈ u_ws RX0 TX0 15, w ∈ wsX0_isCoupled := by decide +kernel
  have hl := lv_entry ([.ref (a 0), .int (nI f), .int (nI t)]) (n := 3) (Nat.le_of_ble_eq_true rfl)
  rw [lg_entry_eq]
  generalize (lg_sl ([.ref (a 0), .int (nI f), .int (nI t)]) ++ List.replicate (3 - (lg_sl ([.ref (a 0), .int (nI f), .int (nI t)])).length) Slot.unset).toArray = ls at hl ⊢
  have hl : lv_has ls 3 [(0, .ref (a 0)), (1, .int (nI f)), (2, .int (nI t))] := hl
  refine lv_aload_n hx hb dX0_isCoupled_0 rfl (lv_at hl 0 rfl) ?_
  refine o_get (v := .ref (a 8)) hx hb hts hin0 hown hK hP oc_at0 8 (by decide) (hts (.fieldLink RX0 33 "OrganBuilder" "shifts" "[[I") (by decide +kernel)) rfl dX0_isCoupled_1 ?_
  refine lv_iload_n hx hb dX0_isCoupled_4 rfl (lv_at hl 1 rfl) ?_
  refine w_qld hx hb hK hP rfl oc_at8 (by omega) (by decide) dX0_isCoupled_5 ?_
  refine lv_iload_n hx hb dX0_isCoupled_6 rfl (lv_at hl 2 rfl) ?_
  refine w_ild hx hb hK hP rfl (oc_ats (r := f) (by omega)) (by omega) (by decide) dX0_isCoupled_7 ?_
  refine lv_iconst (v := 1) hx hb dX0_isCoupled_8 (by decide) ?_
  refine lv_icmp_eq (tgt := 16) hx hb dX0_isCoupled_9 (by decide) (fun c_9 => ?_) (fun c_9 => ?_)
  · refine lv_iconst (v := 0) hx hb dX0_isCoupled_16 (by decide) ?_
    exact e_i hx hb hr rfl hlocks (cpd_0 c_9) dX0_isCoupled_17
  · refine lv_iconst (v := 1) hx hb dX0_isCoupled_12 (by decide) ?_
    refine lv_goto (tgt := 17) hx hb dX0_isCoupled_13 (by decide) ?_
    exact e_i hx hb hr rfl hlocks (cpd_1 c_9) dX0_isCoupled_17
set_option maxHeartbeats 4000000 in
set_option maxRecDepth 100000 in
theorem c_countCouplers (l : Launch) (D : va_G) (a : Nat → Nat) (cI cL cO : ClassId) (I : Nat → Nat → Int32) (J : Nat → Nat → Int64) : Met l yX0_countCouplers wsX0_countCouplers ({ frames := 1, cells := 0, slots := 0, locals := 22 } : Room) (va_Pc [.ref (a 0)] (oB D (oty cI cL cO) (oc a cI cL cO I J))) (vp_Si (fun v9 => v9 = ccO I 3)) 0 0 (fun _ => False) := by
  refine Met.ofW (cc := cX0_countCouplers) (maxL := 4) (ret := (some .int)) (by decide) rfl ?_
  intro p e s m args below meth c s₁ B hml hv
  obtain ⟨rfl, hP, hK⟩ := hv
  have hx := B.exec
  have hb := B.bytes
  have hr := B.returns
  have hts := atoms_spec (ws := wsX0_countCouplers) B.pre
  have hown : s.vm.findClass RX0 = some m.cls := findClass_of_methodNamed B.named
  have hlocks := B.notSynchronized
  have hin0 : ∀ w ∈ u_ws RX0 TX0 15, w ∈ wsX0_countCouplers := by decide +kernel
  have hl := lv_entry ([.ref (a 0)]) (n := 4) (Nat.le_of_ble_eq_true rfl)
  rw [lg_entry_eq]
  generalize (lg_sl ([.ref (a 0)]) ++ List.replicate (4 - (lg_sl ([.ref (a 0)])).length) Slot.unset).toArray = ls at hl ⊢
  have hl : lv_has ls 4 [(0, .ref (a 0))] := hl
  refine lv_iconst (v := 0) hx hb dX0_countCouplers_0 (by decide) ?_
  refine lv_istore_n (lv' := [(1, .int 0), (0, .ref (a 0))]) hx hb dX0_countCouplers_1 rfl hl (by decide) rfl (fun ls hl => ?_)
  refine lv_iconst (v := 0) hx hb dX0_countCouplers_2 (by decide) ?_
  refine lv_istore_n (lv' := [(2, .int 0), (1, .int 0), (0, .ref (a 0))]) hx hb dX0_countCouplers_3 rfl hl (by decide) rfl (fun ls hl => ?_)
  refine W_loop (σ := Unit) 0 3 4 (fun f _ ls => lv_has ls 4 [(0, .ref (a 0)), (1, .int (ccO I f)), (2, .int (nI f))]) (fun f _ ls g_f h_f hl ih_f => ?_) () (by decide) (lv_sub hl [2, 1, 0] rfl)
  refine lv_iload_n hx hb dX0_countCouplers_4 rfl (lv_at hl 2 rfl) ?_
  refine lv_iconst (v := 3) hx hb dX0_countCouplers_5 (by decide) ?_
  refine lo_ge (n := 3) (tgt := 40) hx hb rfl (by decide) (by omega) dX0_countCouplers_6 (by decide) (fun c_6 => ?_) (fun c_6 => ?_)
  · refine lv_iload_n hx hb dX0_countCouplers_40 rfl (lv_at hl 1 rfl) ?_
    exact e_i hx hb hr rfl hlocks (by rw [show f = 3 by omega]) dX0_countCouplers_41
  · refine lv_iconst (v := 0) hx hb dX0_countCouplers_9 (by decide) ?_
    refine lv_istore_n (lv' := [(3, .int 0), (0, .ref (a 0)), (1, .int (ccO I f)), (2, .int (nI f))]) hx hb dX0_countCouplers_10 rfl hl (by decide) rfl (fun ls hl => ?_)
    refine W_loop (σ := Unit) 0 3 11 (fun t _ ls => lv_has ls 4 [(0, .ref (a 0)), (1, .int (ccI I f (ccO I f) t)), (2, .int (nI f)), (3, .int (nI t))]) (fun t _ ls g_t h_t hl ih_t => ?_) () (by decide) (lv_sub hl [1, 2, 3, 0] rfl)
    refine lv_iload_n hx hb dX0_countCouplers_11 rfl (lv_at hl 3 rfl) ?_
    refine lv_iconst (v := 3) hx hb dX0_countCouplers_12 (by decide) ?_
    refine lo_ge (n := 3) (tgt := 34) hx hb rfl (by decide) (by omega) dX0_countCouplers_13 (by decide) (fun c_13 => ?_) (fun c_13 => ?_)
    · obtain rfl : t = 3 := by omega
      have hl : lv_has ls 4 [(0, .ref (a 0)), (1, .int (ccO I (f + 1))), (2, .int (nI f)), (3, .int (nI 3))] := hl
      refine lv_iinc (v := (nI (f + 1))) (lv' := [(2, .int (nI (f + 1))), (0, .ref (a 0)), (1, .int (ccO I (f + 1))), (3, .int (nI 3))]) hx hb dX0_countCouplers_34 hl (k := 2) rfl (nI_inc _) (by decide) rfl (fun ls hl => ?_)
      refine lv_goto (tgt := 4) hx hb dX0_countCouplers_37 (by decide) ?_
      exact ih_f () ls (by omega) (lv_sub hl [1, 2, 0] rfl)
    · refine lv_aload_n hx hb dX0_countCouplers_16 rfl (lv_at hl 0 rfl) ?_
      refine lv_iload_n hx hb dX0_countCouplers_17 rfl (lv_at hl 2 rfl) ?_
      refine lv_iload_n hx hb dX0_countCouplers_18 rfl (lv_at hl 3 rfl) ?_
      refine w_pV (As := [.int (nI f), .int (nI t)]) (rest := []) ⟨hx, hb, hml, hown, hts⟩ (c_isCoupled l D a cI cL cO I J f t (by omega) (by omega)) (cwV 2 hts gX0_countCouplers_X0_isCoupled rfl rfl rfl (by decide +kernel) ⟨Nat.le_of_ble_eq_true rfl, Nat.le_of_ble_eq_true rfl⟩) hK hP rfl rfl oc_at0 rfl hl.1 rfl (Nat.le_of_ble_eq_true rfl) dX0_countCouplers_19 ⟨Nat.le_of_ble_eq_true rfl, Nat.le_of_ble_eq_true rfl⟩ ?_
      refine lv_if_eq (tgt := 28) hx hb dX0_countCouplers_22 (by decide) (fun c_22 => ?_) (fun c_22 => ?_)
      · have hl := lv_re hl 1 (v' := .int (ccI I f (ccO I f) (t + 1))) rfl (congrArg Value.int (ite_f (bI_eq0 c_22)).symm)
        have hl : lv_has ls 4 [(0, .ref (a 0)), (1, .int (ccI I f (ccO I f) (t + 1))), (2, .int (nI f)), (3, .int (nI t))] := hl
        refine lv_iinc (v := (nI (t + 1))) (lv' := [(3, .int (nI (t + 1))), (0, .ref (a 0)), (1, .int (ccI I f (ccO I f) (t + 1))), (2, .int (nI f))]) hx hb dX0_countCouplers_28 hl (k := 3) rfl (nI_inc _) (by decide) rfl (fun ls hl => ?_)
        refine lv_goto (tgt := 11) hx hb dX0_countCouplers_31 (by decide) ?_
        exact ih_t () ls (by omega) (lv_sub hl [1, 2, 3, 0] rfl)
      · refine lv_iinc (v := (ccI I f (ccO I f) (t + 1))) (lv' := [(1, .int (ccI I f (ccO I f) (t + 1))), (0, .ref (a 0)), (2, .int (nI f)), (3, .int (nI t))]) hx hb dX0_countCouplers_25 hl (k := 1) rfl ((ite_t (bI_ne0 c_22)).symm) (by decide) rfl (fun ls hl => ?_)
        refine lv_iinc (v := (nI (t + 1))) (lv' := [(3, .int (nI (t + 1))), (1, .int (ccI I f (ccO I f) (t + 1))), (0, .ref (a 0)), (2, .int (nI f))]) hx hb dX0_countCouplers_28 hl (k := 3) rfl (nI_inc _) (by decide) rfl (fun ls hl => ?_)
        refine lv_goto (tgt := 11) hx hb dX0_countCouplers_31 (by decide) ?_
        exact ih_t () ls (by omega) (lv_sub hl [2, 1, 3, 0] rfl)
set_option maxHeartbeats 4000000 in
set_option maxRecDepth 100000 in
theorem c_leadsTo (l : Launch) (D : va_G) (a : Nat → Nat) (cI cL cO : ClassId) (I : Nat → Nat → Int32) (J : Nat → Nat → Int64) (f t : Nat) (hf : f < 3) (ht : t < 3) : Met l yX0_leadsTo wsX0_leadsTo ({ frames := 1, cells := 0, slots := 0, locals := 22 } : Room) (va_Pc [.ref (a 0), .int (nI f), .int (nI t)] (oB D (oty cI cL cO) (oc a cI cL cO I J))) (vp_Si (fun v9 => v9 = bI (ldt I f t))) 0 0 (fun _ => False) := by
  refine Met.ofW (cc := cX0_leadsTo) (maxL := 4) (ret := (some .boolean)) (by decide) rfl ?_
  intro p e s m args below meth c s₁ B hml hv
  obtain ⟨rfl, hP, hK⟩ := hv
  have hx := B.exec
  have hb := B.bytes
  have hr := B.returns
  have hts := atoms_spec (ws := wsX0_leadsTo) B.pre
  have hown : s.vm.findClass RX0 = some m.cls := findClass_of_methodNamed B.named
  have hlocks := B.notSynchronized
  have hin0 : ∀ w ∈ u_ws RX0 TX0 15, w ∈ wsX0_leadsTo := by decide +kernel
  have hl := lv_entry ([.ref (a 0), .int (nI f), .int (nI t)]) (n := 4) (Nat.le_of_ble_eq_true rfl)
  rw [lg_entry_eq]
  generalize (lg_sl ([.ref (a 0), .int (nI f), .int (nI t)]) ++ List.replicate (4 - (lg_sl ([.ref (a 0), .int (nI f), .int (nI t)])).length) Slot.unset).toArray = ls at hl ⊢
  have hl : lv_has ls 4 [(0, .ref (a 0)), (1, .int (nI f)), (2, .int (nI t))] := hl
  refine lv_aload_n hx hb dX0_leadsTo_0 rfl (lv_at hl 0 rfl) ?_
  refine lv_iload_n hx hb dX0_leadsTo_1 rfl (lv_at hl 1 rfl) ?_
  refine lv_iload_n hx hb dX0_leadsTo_2 rfl (lv_at hl 2 rfl) ?_
  refine w_pV (As := [.int (nI f), .int (nI t)]) (rest := []) ⟨hx, hb, hml, hown, hts⟩ (c_isCoupled l D a cI cL cO I J f t (by omega) (by omega)) (cwV 2 hts gX0_leadsTo_X0_isCoupled rfl rfl rfl (by decide +kernel) ⟨Nat.le_of_ble_eq_true rfl, Nat.le_of_ble_eq_true rfl⟩) hK hP rfl rfl oc_at0 rfl hl.1 rfl (Nat.le_of_ble_eq_true rfl) dX0_leadsTo_3 ⟨Nat.le_of_ble_eq_true rfl, Nat.le_of_ble_eq_true rfl⟩ ?_
  refine lv_if_eq (tgt := 11) hx hb dX0_leadsTo_6 (by decide) (fun c_6 => ?_) (fun c_6 => ?_)
  · refine lv_iconst (v := 0) hx hb dX0_leadsTo_11 (by decide) ?_
    refine lv_istore_n (lv' := [(3, .int 0), (0, .ref (a 0)), (1, .int (nI f)), (2, .int (nI t))]) hx hb dX0_leadsTo_12 rfl hl (by decide) rfl (fun ls hl => ?_)
    refine W_loop (σ := Unit) 0 3 13 (fun b _ ls => (∀ q, q < b → (cpd I f q && cpd I q t) = false) ∧ lv_has ls 4 [(0, .ref (a 0)), (1, .int (nI f)), (2, .int (nI t)), (3, .int (nI b))]) (fun b _ ls g_b h_b hI_b ih_b => ?_) () (by decide) ⟨fun q h => absurd h (Nat.not_lt_zero q), lv_sub hl [1, 2, 3, 0] rfl⟩
    obtain ⟨hq_b, hl⟩ := hI_b
    refine lv_iload_n hx hb dX0_leadsTo_13 rfl (lv_at hl 3 rfl) ?_
    refine lv_iconst (v := 3) hx hb dX0_leadsTo_14 (by decide) ?_
    refine lo_ge (n := 3) (tgt := 44) hx hb rfl (by decide) (by omega) dX0_leadsTo_15 (by decide) (fun c_15 => ?_) (fun c_15 => ?_)
    · refine lv_iconst (v := 0) hx hb dX0_leadsTo_44 (by decide) ?_
      exact e_i hx hb hr rfl hlocks (ldt_n (bI_eq0 c_6) (by rw [show (3 : Nat) = b by omega]; exact hq_b)) dX0_leadsTo_45
    · refine lv_aload_n hx hb dX0_leadsTo_18 rfl (lv_at hl 0 rfl) ?_
      refine lv_iload_n hx hb dX0_leadsTo_19 rfl (lv_at hl 1 rfl) ?_
      refine lv_iload_n hx hb dX0_leadsTo_20 rfl (lv_at hl 3 rfl) ?_
      refine w_pV (As := [.int (nI f), .int (nI b)]) (rest := []) ⟨hx, hb, hml, hown, hts⟩ (c_isCoupled l D a cI cL cO I J f b (by omega) (by omega)) (cwV 2 hts gX0_leadsTo_X0_isCoupled rfl rfl rfl (by decide +kernel) ⟨Nat.le_of_ble_eq_true rfl, Nat.le_of_ble_eq_true rfl⟩) hK hP rfl rfl oc_at0 rfl hl.1 rfl (Nat.le_of_ble_eq_true rfl) dX0_leadsTo_21 ⟨Nat.le_of_ble_eq_true rfl, Nat.le_of_ble_eq_true rfl⟩ ?_
      refine lv_if_eq (tgt := 38) hx hb dX0_leadsTo_24 (by decide) (fun c_24 => ?_) (fun c_24 => ?_)
      · refine lv_iinc (v := (nI (b + 1))) (lv' := [(3, .int (nI (b + 1))), (0, .ref (a 0)), (1, .int (nI f)), (2, .int (nI t))]) hx hb dX0_leadsTo_38 hl (k := 3) rfl (nI_inc _) (by decide) rfl (fun ls hl => ?_)
        refine lv_goto (tgt := 13) hx hb dX0_leadsTo_41 (by decide) ?_
        exact ih_b () ls (by omega) ⟨lt_s hq_b (by simp [bI_eq0 c_24]), lv_sub hl [1, 2, 3, 0] rfl⟩
      · refine lv_aload_n hx hb dX0_leadsTo_27 rfl (lv_at hl 0 rfl) ?_
        refine lv_iload_n hx hb dX0_leadsTo_28 rfl (lv_at hl 3 rfl) ?_
        refine lv_iload_n hx hb dX0_leadsTo_29 rfl (lv_at hl 2 rfl) ?_
        refine w_pV (As := [.int (nI b), .int (nI t)]) (rest := []) ⟨hx, hb, hml, hown, hts⟩ (c_isCoupled l D a cI cL cO I J b t (by omega) (by omega)) (cwV 2 hts gX0_leadsTo_X0_isCoupled rfl rfl rfl (by decide +kernel) ⟨Nat.le_of_ble_eq_true rfl, Nat.le_of_ble_eq_true rfl⟩) hK hP rfl rfl oc_at0 rfl hl.1 rfl (Nat.le_of_ble_eq_true rfl) dX0_leadsTo_30 ⟨Nat.le_of_ble_eq_true rfl, Nat.le_of_ble_eq_true rfl⟩ ?_
        refine lv_if_eq (tgt := 38) hx hb dX0_leadsTo_33 (by decide) (fun c_33 => ?_) (fun c_33 => ?_)
        · refine lv_iinc (v := (nI (b + 1))) (lv' := [(3, .int (nI (b + 1))), (0, .ref (a 0)), (1, .int (nI f)), (2, .int (nI t))]) hx hb dX0_leadsTo_38 hl (k := 3) rfl (nI_inc _) (by decide) rfl (fun ls hl => ?_)
          refine lv_goto (tgt := 13) hx hb dX0_leadsTo_41 (by decide) ?_
          exact ih_b () ls (by omega) ⟨lt_s hq_b (by simp [bI_eq0 c_33]), lv_sub hl [1, 2, 3, 0] rfl⟩
        · refine lv_iconst (v := 1) hx hb dX0_leadsTo_36 (by decide) ?_
          exact e_i hx hb hr rfl hlocks (ldt_b (by omega) (bI_ne0 c_24) (bI_ne0 c_33)) dX0_leadsTo_37
  · refine lv_iconst (v := 1) hx hb dX0_leadsTo_9 (by decide) ?_
    exact e_i hx hb hr rfl hlocks (ldt_a (bI_ne0 c_6)) dX0_leadsTo_10
set_option maxHeartbeats 4000000 in
set_option maxRecDepth 100000 in
theorem c_keysReachedBy (l : Launch) (D : va_G) (a : Nat → Nat) (cI cL cO : ClassId) (I : Nat → Nat → Int32) (J : Nat → Nat → Int64) (sp : Nat) (hs : sp < 12) : Met l yX0_keysReachedBy wsX0_keysReachedBy ({ frames := 0, cells := 0, slots := 0, locals := 0 } : Room) (va_Pc [.ref (a 0), .int (nI sp)] (oB D (oty cI cL cO) (oc a cI cL cO I J))) (vp_Sl (fun v9 => v9 = krF (I 3 sp) (J 1) 3)) 0 0 (fun _ => False) := by
  refine Met.ofW (cc := cX0_keysReachedBy) (maxL := 5) (ret := (some .long)) (by decide) rfl ?_
  intro p e s m args below meth c s₁ B hml hv
  obtain ⟨rfl, hP, hK⟩ := hv
  have hx := B.exec
  have hb := B.bytes
  have hr := B.returns
  have hts := atoms_spec (ws := wsX0_keysReachedBy) B.pre
  have hown : s.vm.findClass RX0 = some m.cls := findClass_of_methodNamed B.named
  have hlocks := B.notSynchronized
  have hin0 : ∀ w ∈ u_ws RX0 TX0 15, w ∈ wsX0_keysReachedBy := by decide +kernel
  have hl := lv_entry ([.ref (a 0), .int (nI sp)]) (n := 5) (Nat.le_of_ble_eq_true rfl)
  rw [lg_entry_eq]
  generalize (lg_sl ([.ref (a 0), .int (nI sp)]) ++ List.replicate (5 - (lg_sl ([.ref (a 0), .int (nI sp)])).length) Slot.unset).toArray = ls at hl ⊢
  have hl : lv_has ls 5 [(0, .ref (a 0)), (1, .int (nI sp))] := hl
  refine lv_lconst (v := 0) hx hb dX0_keysReachedBy_0 (by decide) ?_
  refine lv_lstore_n (lv' := [(2, .long 0), (0, .ref (a 0)), (1, .int (nI sp))]) hx hb dX0_keysReachedBy_1 rfl hl (by decide) rfl (fun ls hl => ?_)
  refine lv_iconst (v := 0) hx hb dX0_keysReachedBy_2 (by decide) ?_
  refine lv_istore (lv' := [(4, .int 0), (2, .long 0), (0, .ref (a 0)), (1, .int (nI sp))]) hx hb dX0_keysReachedBy_3 hl (by decide) rfl (fun ls hl => ?_)
  refine W_loop (σ := Unit) 0 3 5 (fun n _ ls => lv_has ls 5 [(0, .ref (a 0)), (1, .int (nI sp)), (2, .long (krF (I 3 sp) (J 1) n)), (4, .int (nI n))]) (fun n _ ls g_n h_n hl ih_n => ?_) () (by decide) (lv_sub hl [2, 3, 1, 0] rfl)
  refine lv_iload hx hb dX0_keysReachedBy_5 (lv_at hl 3 rfl) ?_
  refine lv_iconst (v := 3) hx hb dX0_keysReachedBy_7 (by decide) ?_
  refine lo_ge (n := 3) (tgt := 36) hx hb rfl (by decide) (by omega) dX0_keysReachedBy_8 (by decide) (fun c_8 => ?_) (fun c_8 => ?_)
  · refine lv_lload_n hx hb dX0_keysReachedBy_36 rfl (lv_at hl 2 rfl) ?_
    exact e_l hx hb hr hlocks (by rw [show n = 3 by omega]) dX0_keysReachedBy_37
  · refine lv_aload_n hx hb dX0_keysReachedBy_11 rfl (lv_at hl 0 rfl) ?_
    refine o_get (v := .ref (a 5)) hx hb hts hin0 hown hK hP oc_at0 4 (by decide) (hts (.fieldLink RX0 24 "OrganBuilder" "stopManuals" "[I") (by decide +kernel)) rfl dX0_keysReachedBy_12 ?_
    refine lv_iload_n hx hb dX0_keysReachedBy_15 rfl (lv_at hl 1 rfl) ?_
    refine w_ild hx hb hK hP rfl oc_at5 (by omega) (by decide) dX0_keysReachedBy_16 ?_
    refine lv_iload hx hb dX0_keysReachedBy_17 (lv_at hl 3 rfl) ?_
    refine lv_icmp_ne (tgt := 30) hx hb dX0_keysReachedBy_19 (by decide) (fun c_19 => ?_) (fun c_19 => ?_)
    · have hl := lv_re hl 2 (v' := .long (krF (I 3 sp) (J 1) (n + 1))) rfl (congrArg Value.long ((if_neg c_19).symm))
      have hl : lv_has ls 5 [(0, .ref (a 0)), (1, .int (nI sp)), (2, .long (krF (I 3 sp) (J 1) (n + 1))), (4, .int (nI n))] := hl
      refine lv_iinc (v := (nI (n + 1))) (lv' := [(4, .int (nI (n + 1))), (0, .ref (a 0)), (1, .int (nI sp)), (2, .long (krF (I 3 sp) (J 1) (n + 1)))]) hx hb dX0_keysReachedBy_30 hl (k := 3) rfl (nI_inc _) (by decide) rfl (fun ls hl => ?_)
      refine lv_goto (tgt := 5) hx hb dX0_keysReachedBy_33 (by decide) ?_
      exact ih_n () ls (by omega) (lv_sub hl [1, 2, 3, 0] rfl)
    · refine lv_aload_n hx hb dX0_keysReachedBy_22 rfl (lv_at hl 0 rfl) ?_
      refine o_get (v := .ref (a 12)) hx hb hts hin0 hown hK hP oc_at0 13 (by decide) (hts (.fieldLink RX0 46 "OrganBuilder" "reachedKeys" "[J") (by decide +kernel)) rfl dX0_keysReachedBy_23 ?_
      refine lv_iload hx hb dX0_keysReachedBy_26 (lv_at hl 3 rfl) ?_
      refine w_lld hx hb hK hP rfl oc_at12 (by omega) (by decide) dX0_keysReachedBy_28 ?_
      refine lv_asl (krF (I 3 sp) (J 1) (n + 1)) ((if_pos c_19).symm) ?_
      refine lv_lstore_n (lv' := [(2, .long (krF (I 3 sp) (J 1) (n + 1))), (0, .ref (a 0)), (1, .int (nI sp)), (4, .int (nI n))]) hx hb dX0_keysReachedBy_29 rfl hl (by decide) rfl (fun ls hl => ?_)
      refine lv_iinc (v := (nI (n + 1))) (lv' := [(4, .int (nI (n + 1))), (2, .long (krF (I 3 sp) (J 1) (n + 1))), (0, .ref (a 0)), (1, .int (nI sp))]) hx hb dX0_keysReachedBy_30 hl (k := 3) rfl (nI_inc _) (by decide) rfl (fun ls hl => ?_)
      refine lv_goto (tgt := 5) hx hb dX0_keysReachedBy_33 (by decide) ?_
      exact ih_n () ls (by omega) (lv_sub hl [2, 3, 1, 0] rfl)
set_option maxHeartbeats 4000000 in
set_option maxRecDepth 100000 in
theorem c_keysOfDrawnStops (l : Launch) (D : va_G) (a : Nat → Nat) (cI cL cO : ClassId) (I : Nat → Nat → Int32) (J : Nat → Nat → Int64) (r : Nat) (hr6 : r < 6) : Met l yX0_keysOfDrawnStops wsX0_keysOfDrawnStops ({ frames := 1, cells := 0, slots := 0, locals := 24 } : Room) (va_Pc [.ref (a 0), .int (nI r)] (oB D (oty cI cL cO) (oc a cI cL cO I J))) (vp_Sl (fun v9 => v9 = kdF I (J 1) r 12)) 0 0 (fun _ => False) := by
  refine Met.ofW (cc := cX0_keysOfDrawnStops) (maxL := 5) (ret := (some .long)) (by decide) rfl ?_
  intro p e s m args below meth c s₁ B hml hv
  obtain ⟨rfl, hP, hK⟩ := hv
  have hx := B.exec
  have hb := B.bytes
  have hr := B.returns
  have hts := atoms_spec (ws := wsX0_keysOfDrawnStops) B.pre
  have hown : s.vm.findClass RX0 = some m.cls := findClass_of_methodNamed B.named
  have hlocks := B.notSynchronized
  have hin0 : ∀ w ∈ u_ws RX0 TX0 15, w ∈ wsX0_keysOfDrawnStops := by decide +kernel
  have hl := lv_entry ([.ref (a 0), .int (nI r)]) (n := 5) (Nat.le_of_ble_eq_true rfl)
  rw [lg_entry_eq]
  generalize (lg_sl ([.ref (a 0), .int (nI r)]) ++ List.replicate (5 - (lg_sl ([.ref (a 0), .int (nI r)])).length) Slot.unset).toArray = ls at hl ⊢
  have hl : lv_has ls 5 [(0, .ref (a 0)), (1, .int (nI r))] := hl
  refine lv_lconst (v := 0) hx hb dX0_keysOfDrawnStops_0 (by decide) ?_
  refine lv_lstore_n (lv' := [(2, .long 0), (0, .ref (a 0)), (1, .int (nI r))]) hx hb dX0_keysOfDrawnStops_1 rfl hl (by decide) rfl (fun ls hl => ?_)
  refine lv_iconst (v := 0) hx hb dX0_keysOfDrawnStops_2 (by decide) ?_
  refine lv_istore (lv' := [(4, .int 0), (2, .long 0), (0, .ref (a 0)), (1, .int (nI r))]) hx hb dX0_keysOfDrawnStops_3 hl (by decide) rfl (fun ls hl => ?_)
  refine W_loop (σ := Unit) 0 12 5 (fun n _ ls => lv_has ls 5 [(0, .ref (a 0)), (1, .int (nI r)), (2, .long (kdF I (J 1) r n)), (4, .int (nI n))]) (fun n _ ls g_n h_n hl ih_n => ?_) () (by decide) (lv_sub hl [2, 3, 1, 0] rfl)
  refine lv_iload hx hb dX0_keysOfDrawnStops_5 (lv_at hl 3 rfl) ?_
  refine lv_bipush (v := 12) hx hb dX0_keysOfDrawnStops_7 (by decide) ?_
  refine lo_ge (n := 12) (tgt := 47) hx hb rfl (by decide) (by omega) dX0_keysOfDrawnStops_9 (by decide) (fun c_9 => ?_) (fun c_9 => ?_)
  · refine lv_lload_n hx hb dX0_keysOfDrawnStops_47 rfl (lv_at hl 2 rfl) ?_
    exact e_l hx hb hr hlocks (by rw [show n = 12 by omega]) dX0_keysOfDrawnStops_48
  · refine lv_aload_n hx hb dX0_keysOfDrawnStops_12 rfl (lv_at hl 0 rfl) ?_
    refine lv_iload hx hb dX0_keysOfDrawnStops_13 (lv_at hl 3 rfl) ?_
    refine w_pV (As := [.int (nI n)]) (rest := []) ⟨hx, hb, hml, hown, hts⟩ (c_isDrawn l D a cI cL cO I J (nI n)) (cwV 1 hts gX0_keysOfDrawnStops_X0_isDrawn rfl rfl rfl (by decide +kernel) ⟨Nat.le_of_ble_eq_true rfl, Nat.le_of_ble_eq_true rfl⟩) hK hP rfl rfl oc_at0 rfl hl.1 rfl (Nat.le_of_ble_eq_true rfl) dX0_keysOfDrawnStops_15 ⟨Nat.le_of_ble_eq_true rfl, Nat.le_of_ble_eq_true rfl⟩ ?_
    refine lv_if_eq (tgt := 41) hx hb dX0_keysOfDrawnStops_18 (by decide) (fun c_18 => ?_) (fun c_18 => ?_)
    · have hl := lv_re hl 2 (v' := .long (kdF I (J 1) r (n + 1))) rfl (congrArg Value.long ((ite_f (bI_eq0 c_18)).symm))
      have hl : lv_has ls 5 [(0, .ref (a 0)), (1, .int (nI r)), (2, .long (kdF I (J 1) r (n + 1))), (4, .int (nI n))] := hl
      refine lv_iinc (v := (nI (n + 1))) (lv' := [(4, .int (nI (n + 1))), (0, .ref (a 0)), (1, .int (nI r)), (2, .long (kdF I (J 1) r (n + 1)))]) hx hb dX0_keysOfDrawnStops_41 hl (k := 3) rfl (nI_inc _) (by decide) rfl (fun ls hl => ?_)
      refine lv_goto (tgt := 5) hx hb dX0_keysOfDrawnStops_44 (by decide) ?_
      exact ih_n () ls (by omega) (lv_sub hl [1, 2, 3, 0] rfl)
    · refine lv_aload_n hx hb dX0_keysOfDrawnStops_21 rfl (lv_at hl 0 rfl) ?_
      refine o_get (v := .ref (a 6)) hx hb hts hin0 hown hK hP oc_at0 5 (by decide) (hts (.fieldLink RX0 27 "OrganBuilder" "stopRanks" "[I") (by decide +kernel)) rfl dX0_keysOfDrawnStops_22 ?_
      refine lv_iload hx hb dX0_keysOfDrawnStops_25 (lv_at hl 3 rfl) ?_
      refine w_ild hx hb hK hP rfl oc_at6 (by omega) (by decide) dX0_keysOfDrawnStops_27 ?_
      refine lv_iload_n hx hb dX0_keysOfDrawnStops_28 rfl (lv_at hl 1 rfl) ?_
      refine lv_icmp_ne (tgt := 41) hx hb dX0_keysOfDrawnStops_29 (by decide) (fun c_29 => ?_) (fun c_29 => ?_)
      · have hl := lv_re hl 2 (v' := .long (kdF I (J 1) r (n + 1))) rfl (congrArg Value.long (((ite_t (bI_ne0 c_18)).trans (if_neg c_29)).symm))
        have hl : lv_has ls 5 [(0, .ref (a 0)), (1, .int (nI r)), (2, .long (kdF I (J 1) r (n + 1))), (4, .int (nI n))] := hl
        refine lv_iinc (v := (nI (n + 1))) (lv' := [(4, .int (nI (n + 1))), (0, .ref (a 0)), (1, .int (nI r)), (2, .long (kdF I (J 1) r (n + 1)))]) hx hb dX0_keysOfDrawnStops_41 hl (k := 3) rfl (nI_inc _) (by decide) rfl (fun ls hl => ?_)
        refine lv_goto (tgt := 5) hx hb dX0_keysOfDrawnStops_44 (by decide) ?_
        exact ih_n () ls (by omega) (lv_sub hl [1, 2, 3, 0] rfl)
      · refine lv_lload_n hx hb dX0_keysOfDrawnStops_32 rfl (lv_at hl 2 rfl) ?_
        refine lv_aload_n hx hb dX0_keysOfDrawnStops_33 rfl (lv_at hl 0 rfl) ?_
        refine lv_iload hx hb dX0_keysOfDrawnStops_34 (lv_at hl 3 rfl) ?_
        refine w_pVl (As := [.int (nI n)]) (rest := [.long (kdF I (J 1) r n)]) ⟨hx, hb, hml, hown, hts⟩ (c_keysReachedBy l D a cI cL cO I J n (by omega)) (cwV 1 hts gX0_keysOfDrawnStops_X0_keysReachedBy rfl rfl rfl (by decide +kernel) ⟨Nat.le_of_ble_eq_true rfl, Nat.le_of_ble_eq_true rfl⟩) hK hP rfl rfl oc_at0 rfl hl.1 rfl (Nat.le_of_ble_eq_true rfl) dX0_keysOfDrawnStops_36 ⟨Nat.le_of_ble_eq_true rfl, Nat.le_of_ble_eq_true rfl⟩ ?_
        refine lv_lor hx hb dX0_keysOfDrawnStops_39 ?_
        refine lv_asl (kdF I (J 1) r (n + 1)) (((ite_t (bI_ne0 c_18)).trans (if_pos c_29)).symm) ?_
        refine lv_lstore_n (lv' := [(2, .long (kdF I (J 1) r (n + 1))), (0, .ref (a 0)), (1, .int (nI r)), (4, .int (nI n))]) hx hb dX0_keysOfDrawnStops_40 rfl hl (by decide) rfl (fun ls hl => ?_)
        refine lv_iinc (v := (nI (n + 1))) (lv' := [(4, .int (nI (n + 1))), (2, .long (kdF I (J 1) r (n + 1))), (0, .ref (a 0)), (1, .int (nI r))]) hx hb dX0_keysOfDrawnStops_41 hl (k := 3) rfl (nI_inc _) (by decide) rfl (fun ls hl => ?_)
        refine lv_goto (tgt := 5) hx hb dX0_keysOfDrawnStops_44 (by decide) ?_
        exact ih_n () ls (by omega) (lv_sub hl [2, 3, 1, 0] rfl)
set_option maxHeartbeats 4000000 in
set_option maxRecDepth 100000 in
theorem c_mutePipes (l : Launch) (D : va_G) (a : Nat → Nat) (cI cL cO : ClassId) (I : Nat → Nat → Int32) (J : Nat → Nat → Int64) (r : Nat) (hr6 : r < 6) : Met l yX0_mutePipes wsX0_mutePipes ({ frames := 1, cells := 0, slots := 0, locals := 20 } : Room) (va_Pc [.ref (a 0), .int (nI r)] (oB D (oty cI cL cO) (oc a cI cL cO I J))) (vp_Sl (fun v9 => v9 = muF (I (10 + r)) 61)) 0 0 (fun _ => False) := by
  refine Met.ofW (cc := cX0_mutePipes) (maxL := 5) (ret := (some .long)) (by decide) rfl ?_
  intro p e s m args below meth c s₁ B hml hv
  obtain ⟨rfl, hP, hK⟩ := hv
  have hx := B.exec
  have hb := B.bytes
  have hr := B.returns
  have hts := atoms_spec (ws := wsX0_mutePipes) B.pre
  have hown : s.vm.findClass RX0 = some m.cls := findClass_of_methodNamed B.named
  have hlocks := B.notSynchronized
  have hin0 : ∀ w ∈ u_ws RX0 TX0 15, w ∈ wsX0_mutePipes := by decide +kernel
  have hl := lv_entry ([.ref (a 0), .int (nI r)]) (n := 5) (Nat.le_of_ble_eq_true rfl)
  rw [lg_entry_eq]
  generalize (lg_sl ([.ref (a 0), .int (nI r)]) ++ List.replicate (5 - (lg_sl ([.ref (a 0), .int (nI r)])).length) Slot.unset).toArray = ls at hl ⊢
  have hl : lv_has ls 5 [(0, .ref (a 0)), (1, .int (nI r))] := hl
  refine lv_lconst (v := 0) hx hb dX0_mutePipes_0 (by decide) ?_
  refine lv_lstore_n (lv' := [(2, .long 0), (0, .ref (a 0)), (1, .int (nI r))]) hx hb dX0_mutePipes_1 rfl hl (by decide) rfl (fun ls hl => ?_)
  refine lv_iconst (v := 0) hx hb dX0_mutePipes_2 (by decide) ?_
  refine lv_istore (lv' := [(4, .int 0), (2, .long 0), (0, .ref (a 0)), (1, .int (nI r))]) hx hb dX0_mutePipes_3 hl (by decide) rfl (fun ls hl => ?_)
  refine W_loop (σ := Unit) 0 61 5 (fun n _ ls => lv_has ls 5 [(0, .ref (a 0)), (1, .int (nI r)), (2, .long (muF (I (10 + r)) n)), (4, .int (nI n))]) (fun n _ ls g_n h_n hl ih_n => ?_) () (by decide) (lv_sub hl [2, 3, 1, 0] rfl)
  refine lv_iload hx hb dX0_mutePipes_5 (lv_at hl 3 rfl) ?_
  refine lv_bipush (v := 61) hx hb dX0_mutePipes_7 (by decide) ?_
  refine lo_ge (n := 61) (tgt := 40) hx hb rfl (by decide) (by omega) dX0_mutePipes_9 (by decide) (fun c_9 => ?_) (fun c_9 => ?_)
  · refine lv_lload_n hx hb dX0_mutePipes_40 rfl (lv_at hl 2 rfl) ?_
    exact e_l hx hb hr hlocks (by rw [show n = 61 by omega]) dX0_mutePipes_41
  · refine lv_aload_n hx hb dX0_mutePipes_12 rfl (lv_at hl 0 rfl) ?_
    refine o_get (v := .ref (a 4)) hx hb hts hin0 hown hK hP oc_at0 3 (by decide) (hts (.fieldLink RX0 21 "OrganBuilder" "wears" "[[I") (by decide +kernel)) rfl dX0_mutePipes_13 ?_
    refine lv_iload_n hx hb dX0_mutePipes_16 rfl (lv_at hl 1 rfl) ?_
    refine w_qld hx hb hK hP rfl oc_at4 (by omega) (by decide) dX0_mutePipes_17 ?_
    refine lv_iload hx hb dX0_mutePipes_18 (lv_at hl 3 rfl) ?_
    refine w_ild hx hb hK hP rfl (oc_atw (r := r) (by omega)) (by omega) (by decide) dX0_mutePipes_20 ?_
    refine lv_bipush (v := 50) hx hb dX0_mutePipes_21 (by decide) ?_
    refine lv_icmp_lt (tgt := 34) hx hb dX0_mutePipes_23 (by decide) (fun c_23 => ?_) (fun c_23 => ?_)
    · have hl := lv_re hl 2 (v' := .long (muF (I (10 + r)) (n + 1))) rfl (congrArg Value.long ((if_pos c_23).symm))
      have hl : lv_has ls 5 [(0, .ref (a 0)), (1, .int (nI r)), (2, .long (muF (I (10 + r)) (n + 1))), (4, .int (nI n))] := hl
      refine lv_iinc (v := (nI (n + 1))) (lv' := [(4, .int (nI (n + 1))), (0, .ref (a 0)), (1, .int (nI r)), (2, .long (muF (I (10 + r)) (n + 1)))]) hx hb dX0_mutePipes_34 hl (k := 3) rfl (nI_inc _) (by decide) rfl (fun ls hl => ?_)
      refine lv_goto (tgt := 5) hx hb dX0_mutePipes_37 (by decide) ?_
      exact ih_n () ls (by omega) (lv_sub hl [1, 2, 3, 0] rfl)
    · refine lv_lload_n hx hb dX0_mutePipes_26 rfl (lv_at hl 2 rfl) ?_
      refine lv_iload hx hb dX0_mutePipes_27 (lv_at hl 3 rfl) ?_
      refine w_pSl (As := [.int (nI n)]) (rest := [.long (muF (I (10 + r)) n)]) ⟨hx, hb, hml, hown, hts⟩ (c_keyBit l (nI n)) (va_cwS 1 hts gX0_mutePipes_X0_keyBit rfl rfl rfl (by decide +kernel) ⟨Nat.le_of_ble_eq_true rfl, Nat.le_of_ble_eq_true rfl⟩) rfl hl.1 rfl (Nat.le_of_ble_eq_true rfl) dX0_mutePipes_29 ⟨Nat.le_of_ble_eq_true rfl, Nat.le_of_ble_eq_true rfl⟩ ?_
      refine lv_lor hx hb dX0_mutePipes_32 ?_
      refine lv_asl (muF (I (10 + r)) (n + 1)) ((if_neg c_23).symm) ?_
      refine lv_lstore_n (lv' := [(2, .long (muF (I (10 + r)) (n + 1))), (0, .ref (a 0)), (1, .int (nI r)), (4, .int (nI n))]) hx hb dX0_mutePipes_33 rfl hl (by decide) rfl (fun ls hl => ?_)
      refine lv_iinc (v := (nI (n + 1))) (lv' := [(4, .int (nI (n + 1))), (2, .long (muF (I (10 + r)) (n + 1))), (0, .ref (a 0)), (1, .int (nI r))]) hx hb dX0_mutePipes_34 hl (k := 3) rfl (nI_inc _) (by decide) rfl (fun ls hl => ?_)
      refine lv_goto (tgt := 5) hx hb dX0_mutePipes_37 (by decide) ?_
      exact ih_n () ls (by omega) (lv_sub hl [2, 3, 1, 0] rfl)
set_option maxHeartbeats 4000000 in
set_option maxRecDepth 100000 in
theorem c_windOfSounding (l : Launch) (D : va_G) (a : Nat → Nat) (cI cL cO : ClassId) (I : Nat → Nat → Int32) (J : Nat → Nat → Int64) : Met l yX0_windOfSounding wsX0_windOfSounding ({ frames := 2, cells := 0, slots := 0, locals := 42 } : Room) (va_Pc [.ref (a 0)] (oB D (oty cI cL cO) (oc a cI cL cO I J))) (vp_Si (fun v9 => v9 = wsO I J 6)) 0 0 (fun _ => False) := by
  refine Met.ofW (cc := cX0_windOfSounding) (maxL := 4) (ret := (some .int)) (by decide) rfl ?_
  intro p e s m args below meth c s₁ B hml hv
  obtain ⟨rfl, hP, hK⟩ := hv
  have hx := B.exec
  have hb := B.bytes
  have hr := B.returns
  have hts := atoms_spec (ws := wsX0_windOfSounding) B.pre
  have hown : s.vm.findClass RX0 = some m.cls := findClass_of_methodNamed B.named
  have hlocks := B.notSynchronized
  have hin0 : ∀ w ∈ u_ws RX0 TX0 15, w ∈ wsX0_windOfSounding := by decide +kernel
  have hl := lv_entry ([.ref (a 0)]) (n := 4) (Nat.le_of_ble_eq_true rfl)
  rw [lg_entry_eq]
  generalize (lg_sl ([.ref (a 0)]) ++ List.replicate (4 - (lg_sl ([.ref (a 0)])).length) Slot.unset).toArray = ls at hl ⊢
  have hl : lv_has ls 4 [(0, .ref (a 0))] := hl
  refine lv_iconst (v := 0) hx hb dX0_windOfSounding_0 (by decide) ?_
  refine lv_istore_n (lv' := [(1, .int 0), (0, .ref (a 0))]) hx hb dX0_windOfSounding_1 rfl hl (by decide) rfl (fun ls hl => ?_)
  refine lv_iconst (v := 0) hx hb dX0_windOfSounding_2 (by decide) ?_
  refine lv_istore_n (lv' := [(2, .int 0), (1, .int 0), (0, .ref (a 0))]) hx hb dX0_windOfSounding_3 rfl hl (by decide) rfl (fun ls hl => ?_)
  refine W_loop (σ := Unit) 0 6 4 (fun r _ ls => lv_has ls 4 [(0, .ref (a 0)), (1, .int (wsO I J r)), (2, .int (nI r))]) (fun r _ ls g_r h_r hl ih_r => ?_) () (by decide) (lv_sub hl [2, 1, 0] rfl)
  refine lv_iload_n hx hb dX0_windOfSounding_4 rfl (lv_at hl 2 rfl) ?_
  refine lv_bipush (v := 6) hx hb dX0_windOfSounding_5 (by decide) ?_
  refine lo_ge (n := 6) (tgt := 60) hx hb rfl (by decide) (by omega) dX0_windOfSounding_7 (by decide) (fun c_7 => ?_) (fun c_7 => ?_)
  · refine lv_iload_n hx hb dX0_windOfSounding_60 rfl (lv_at hl 1 rfl) ?_
    exact e_i hx hb hr rfl hlocks (by rw [show r = 6 by omega]) dX0_windOfSounding_61
  · refine lv_iconst (v := 0) hx hb dX0_windOfSounding_10 (by decide) ?_
    refine lv_istore_n (lv' := [(3, .int 0), (0, .ref (a 0)), (1, .int (wsO I J r)), (2, .int (nI r))]) hx hb dX0_windOfSounding_11 rfl hl (by decide) rfl (fun ls hl => ?_)
    refine W_loop (σ := Unit) 0 61 12 (fun k _ ls => lv_has ls 4 [(0, .ref (a 0)), (1, .int (wsI (I 1 r) (J 2 r) (wsO I J r) k)), (2, .int (nI r)), (3, .int (nI k))]) (fun k _ ls g_k h_k hl ih_k => ?_) () (by decide) (lv_sub hl [1, 2, 3, 0] rfl)
    refine lv_iload_n hx hb dX0_windOfSounding_12 rfl (lv_at hl 3 rfl) ?_
    refine lv_bipush (v := 61) hx hb dX0_windOfSounding_13 (by decide) ?_
    refine lo_ge (n := 61) (tgt := 54) hx hb rfl (by decide) (by omega) dX0_windOfSounding_15 (by decide) (fun c_15 => ?_) (fun c_15 => ?_)
    · obtain rfl : k = 61 := by omega
      have hl : lv_has ls 4 [(0, .ref (a 0)), (1, .int (wsO I J (r + 1))), (2, .int (nI r)), (3, .int (nI 61))] := hl
      refine lv_iinc (v := (nI (r + 1))) (lv' := [(2, .int (nI (r + 1))), (0, .ref (a 0)), (1, .int (wsO I J (r + 1))), (3, .int (nI 61))]) hx hb dX0_windOfSounding_54 hl (k := 2) rfl (nI_inc _) (by decide) rfl (fun ls hl => ?_)
      refine lv_goto (tgt := 4) hx hb dX0_windOfSounding_57 (by decide) ?_
      exact ih_r () ls (by omega) (lv_sub hl [1, 2, 0] rfl)
    · refine lv_aload_n hx hb dX0_windOfSounding_18 rfl (lv_at hl 0 rfl) ?_
      refine o_get (v := .ref (a 13)) hx hb hts hin0 hown hK hP oc_at0 14 (by decide) (hts (.fieldLink RX0 49 "OrganBuilder" "soundingKeys" "[J") (by decide +kernel)) rfl dX0_windOfSounding_19 ?_
      refine lv_iload_n hx hb dX0_windOfSounding_22 rfl (lv_at hl 2 rfl) ?_
      refine w_lld hx hb hK hP rfl oc_at13 (by omega) (by decide) dX0_windOfSounding_23 ?_
      refine lv_iload_n hx hb dX0_windOfSounding_24 rfl (lv_at hl 3 rfl) ?_
      refine w_pS (As := [.long (J 2 r), .int (nI k)]) (rest := []) ⟨hx, hb, hml, hown, hts⟩ (c_hasKey l (J 2 r) (nI k)) (va_cwS 2 hts gX0_windOfSounding_X0_hasKey rfl rfl rfl (by decide +kernel) ⟨Nat.le_of_ble_eq_true rfl, Nat.le_of_ble_eq_true rfl⟩) rfl hl.1 rfl (Nat.le_of_ble_eq_true rfl) dX0_windOfSounding_25 ⟨Nat.le_of_ble_eq_true rfl, Nat.le_of_ble_eq_true rfl⟩ ?_
      refine lv_if_eq (tgt := 48) hx hb dX0_windOfSounding_28 (by decide) (fun c_28 => ?_) (fun c_28 => ?_)
      · have hl := lv_re hl 1 (v' := .int (wsI (I 1 r) (J 2 r) (wsO I J r) (k + 1))) rfl (congrArg Value.int ((ite_f (bI_eq0 c_28)).symm))
        have hl : lv_has ls 4 [(0, .ref (a 0)), (1, .int (wsI (I 1 r) (J 2 r) (wsO I J r) (k + 1))), (2, .int (nI r)), (3, .int (nI k))] := hl
        refine lv_iinc (v := (nI (k + 1))) (lv' := [(3, .int (nI (k + 1))), (0, .ref (a 0)), (1, .int (wsI (I 1 r) (J 2 r) (wsO I J r) (k + 1))), (2, .int (nI r))]) hx hb dX0_windOfSounding_48 hl (k := 3) rfl (nI_inc _) (by decide) rfl (fun ls hl => ?_)
        refine lv_goto (tgt := 12) hx hb dX0_windOfSounding_51 (by decide) ?_
        exact ih_k () ls (by omega) (lv_sub hl [1, 2, 3, 0] rfl)
      · refine lv_iload_n hx hb dX0_windOfSounding_31 rfl (lv_at hl 1 rfl) ?_
        refine lv_aload_n hx hb dX0_windOfSounding_32 rfl (lv_at hl 0 rfl) ?_
        refine o_get (v := .ref (a 2)) hx hb hts hin0 hown hK hP oc_at0 1 (by decide) (hts (.fieldLink RX0 13 "OrganBuilder" "winds" "[I") (by decide +kernel)) rfl dX0_windOfSounding_33 ?_
        refine lv_iload_n hx hb dX0_windOfSounding_36 rfl (lv_at hl 2 rfl) ?_
        refine w_ild hx hb hK hP rfl oc_at2 (by omega) (by decide) dX0_windOfSounding_37 ?_
        refine lv_bipush (v := 60) hx hb dX0_windOfSounding_38 (by decide) ?_
        refine lv_iload_n hx hb dX0_windOfSounding_40 rfl (lv_at hl 3 rfl) ?_
        refine lv_isub hx hb dX0_windOfSounding_41 ?_
        refine lv_bipush (v := 12) hx hb dX0_windOfSounding_42 (by decide) ?_
        refine lv_idiv hx hb dX0_windOfSounding_44 (by decide) ?_
        refine lv_iadd hx hb dX0_windOfSounding_45 ?_
        refine lv_iadd hx hb dX0_windOfSounding_46 ?_
        refine lv_asi (wsI (I 1 r) (J 2 r) (wsO I J r) (k + 1)) ((ite_t (bI_ne0 c_28)).symm) ?_
        refine lv_istore_n (lv' := [(1, .int (wsI (I 1 r) (J 2 r) (wsO I J r) (k + 1))), (0, .ref (a 0)), (2, .int (nI r)), (3, .int (nI k))]) hx hb dX0_windOfSounding_47 rfl hl (by decide) rfl (fun ls hl => ?_)
        refine lv_iinc (v := (nI (k + 1))) (lv' := [(3, .int (nI (k + 1))), (1, .int (wsI (I 1 r) (J 2 r) (wsO I J r) (k + 1))), (0, .ref (a 0)), (2, .int (nI r))]) hx hb dX0_windOfSounding_48 hl (k := 3) rfl (nI_inc _) (by decide) rfl (fun ls hl => ?_)
        refine lv_goto (tgt := 12) hx hb dX0_windOfSounding_51 (by decide) ?_
        exact ih_k () ls (by omega) (lv_sub hl [2, 1, 3, 0] rfl)
set_option maxHeartbeats 4000000 in
set_option maxRecDepth 100000 in
theorem c_stepOfSag (l : Launch) (D : va_G) (a : Nat → Nat) (cI cL cO : ClassId) (I : Nat → Nat → Int32) (J : Nat → Nat → Int64) (w : Int32) : Met l yX0_stepOfSag wsX0_stepOfSag ({ frames := 1, cells := 0, slots := 0, locals := 32 } : Room) (va_Pc [.ref (a 0), .int w] (oB D (oty cI cL cO) (oc a cI cL cO I J))) (vp_Si (fun v9 => v9 = stS w (I 8 1))) 0 0 (fun _ => False) := by
  refine Met.ofW (cc := cX0_stepOfSag) (maxL := 2) (ret := (some .int)) (by decide) rfl ?_
  intro p e s m args below meth c s₁ B hml hv
  obtain ⟨rfl, hP, hK⟩ := hv
  have hx := B.exec
  have hb := B.bytes
  have hr := B.returns
  have hts := atoms_spec (ws := wsX0_stepOfSag) B.pre
  have hown : s.vm.findClass RX0 = some m.cls := findClass_of_methodNamed B.named
  have hlocks := B.notSynchronized
  have hin0 : ∀ w ∈ u_ws RX0 TX0 15, w ∈ wsX0_stepOfSag := by decide +kernel
  have hl := lv_entry ([.ref (a 0), .int w]) (n := 2) (Nat.le_of_ble_eq_true rfl)
  rw [lg_entry_eq]
  generalize (lg_sl ([.ref (a 0), .int w]) ++ List.replicate (2 - (lg_sl ([.ref (a 0), .int w])).length) Slot.unset).toArray = ls at hl ⊢
  have hl : lv_has ls 2 [(0, .ref (a 0)), (1, .int w)] := hl
  refine lv_iload_n hx hb dX0_stepOfSag_0 rfl (lv_at hl 1 rfl) ?_
  refine lv_aload_n hx hb dX0_stepOfSag_1 rfl (lv_at hl 0 rfl) ?_
  refine o_get (v := .int (I 8 1)) hx hb hts hin0 hown hK hP oc_at0 10 (by decide) (hts (.fieldLink RX0 55 "OrganBuilder" "supply" "I") (by decide +kernel)) rfl dX0_stepOfSag_2 ?_
  refine lv_icmp_le (tgt := 17) hx hb dX0_stepOfSag_5 (by decide) (fun c_5 => ?_) (fun c_5 => ?_)
  · refine lv_iconst (v := 0) hx hb dX0_stepOfSag_17 (by decide) ?_
    exact e_i hx hb hr rfl hlocks ((if_pos c_5).symm) dX0_stepOfSag_18
  · refine lv_aload_n hx hb dX0_stepOfSag_8 rfl (lv_at hl 0 rfl) ?_
    refine o_get (v := .int (I 8 1)) hx hb hts hin0 hown hK hP oc_at0 10 (by decide) (hts (.fieldLink RX0 55 "OrganBuilder" "supply" "I") (by decide +kernel)) rfl dX0_stepOfSag_9 ?_
    refine lv_bipush (v := 10) hx hb dX0_stepOfSag_12 (by decide) ?_
    refine lv_icmp_ge (tgt := 19) hx hb dX0_stepOfSag_14 (by decide) (fun c_14 => ?_) (fun c_14 => ?_)
    · refine lv_bipush (v := 10) hx hb dX0_stepOfSag_19 (by decide) ?_
      refine lv_iconst (v := 1) hx hb dX0_stepOfSag_21 (by decide) ?_
      refine lv_bipush (v := 10) hx hb dX0_stepOfSag_22 (by decide) ?_
      refine lv_iload_n hx hb dX0_stepOfSag_24 rfl (lv_at hl 1 rfl) ?_
      refine lv_aload_n hx hb dX0_stepOfSag_25 rfl (lv_at hl 0 rfl) ?_
      refine o_get (v := .int (I 8 1)) hx hb hts hin0 hown hK hP oc_at0 10 (by decide) (hts (.fieldLink RX0 55 "OrganBuilder" "supply" "I") (by decide +kernel)) rfl dX0_stepOfSag_26 ?_
      refine lv_isub hx hb dX0_stepOfSag_29 ?_
      refine lv_imul hx hb dX0_stepOfSag_30 ?_
      refine lv_aload_n hx hb dX0_stepOfSag_31 rfl (lv_at hl 0 rfl) ?_
      refine o_get (v := .int (I 8 1)) hx hb hts hin0 hown hK hP oc_at0 10 (by decide) (hts (.fieldLink RX0 55 "OrganBuilder" "supply" "I") (by decide +kernel)) rfl dX0_stepOfSag_32 ?_
      refine lv_idiv hx hb dX0_stepOfSag_35 (fun q => absurd (q ▸ c_14) (by decide)) ?_
      refine lv_iadd hx hb dX0_stepOfSag_36 ?_
      refine va_mmin hx hb (hml.trans hl.1.symm) hown (hts (.methodLink RX0 157 Lib.Math.min.name) (by decide +kernel)) (hts (.static Lib.Math.min.name) (by decide +kernel)) (hts (.initialized "java/lang/Math") (by decide +kernel)) (hts (.code Lib.Math.min.name Lib.Math.min.code 2 (some .int)) (by decide +kernel)) (Nat.le_of_ble_eq_true rfl) (Nat.le_of_ble_eq_true rfl) (Nat.zero_le _) (Nat.zero_le _) dX0_stepOfSag_37 ?_
      exact e_i hx hb hr rfl hlocks (((if_neg c_5).trans (if_pos c_14)).symm) dX0_stepOfSag_40
    · refine lv_iconst (v := 0) hx hb dX0_stepOfSag_17 (by decide) ?_
      exact e_i hx hb hr rfl hlocks (((if_neg c_5).trans (if_neg c_14)).symm) dX0_stepOfSag_18
set_option maxHeartbeats 4000000 in
set_option maxRecDepth 100000 in
theorem c_fallOfSag (l : Launch) (D : va_G) (a : Nat → Nat) (cI cL cO : ClassId) (I : Nat → Nat → Int32) (J : Nat → Nat → Int64) : Met l yX0_fallOfSag wsX0_fallOfSag ({ frames := 3, cells := 0, slots := 0, locals := 65 } : Room) (va_Pc [.ref (a 0)] (oB D (oty cI cL cO) (oc a cI cL cO I J))) (vp_Si (fun v9 => v9 = fls I J)) 0 0 (fun _ => False) := by
  refine Met.ofW (cc := cX0_fallOfSag) (maxL := 2) (ret := (some .int)) (by decide) rfl ?_
  intro p e s m args below meth c s₁ B hml hv
  obtain ⟨rfl, hP, hK⟩ := hv
  have hx := B.exec
  have hb := B.bytes
  have hr := B.returns
  have hts := atoms_spec (ws := wsX0_fallOfSag) B.pre
  have hown : s.vm.findClass RX0 = some m.cls := findClass_of_methodNamed B.named
  have hlocks := B.notSynchronized
  have hin0 : ∀ w ∈ u_ws RX0 TX0 15, w ∈ wsX0_fallOfSag := by decide +kernel
  have hl := lv_entry ([.ref (a 0)]) (n := 2) (Nat.le_of_ble_eq_true rfl)
  rw [lg_entry_eq]
  generalize (lg_sl ([.ref (a 0)]) ++ List.replicate (2 - (lg_sl ([.ref (a 0)])).length) Slot.unset).toArray = ls at hl ⊢
  have hl : lv_has ls 2 [(0, .ref (a 0))] := hl
  refine lv_aload_n hx hb dX0_fallOfSag_0 rfl (lv_at hl 0 rfl) ?_
  refine lv_aload_n hx hb dX0_fallOfSag_1 rfl (lv_at hl 0 rfl) ?_
  refine w_pV (As := []) (rest := [.ref (a 0)]) ⟨hx, hb, hml, hown, hts⟩ (c_windOfSounding l D a cI cL cO I J) (cwV 0 hts gX0_fallOfSag_X0_windOfSounding rfl rfl rfl (by decide +kernel) ⟨Nat.le_of_ble_eq_true rfl, Nat.le_of_ble_eq_true rfl⟩) hK hP rfl rfl oc_at0 rfl hl.1 rfl (Nat.le_of_ble_eq_true rfl) dX0_fallOfSag_2 ⟨Nat.le_of_ble_eq_true rfl, Nat.le_of_ble_eq_true rfl⟩ ?_
  refine w_pV (As := [.int (wsO I J 6)]) (rest := []) ⟨hx, hb, hml, hown, hts⟩ (c_stepOfSag l D a cI cL cO I J (wsO I J 6)) (cwV 1 hts gX0_fallOfSag_X0_stepOfSag rfl rfl rfl (by decide +kernel) ⟨Nat.le_of_ble_eq_true rfl, Nat.le_of_ble_eq_true rfl⟩) hK hP rfl rfl oc_at0 rfl hl.1 rfl (Nat.le_of_ble_eq_true rfl) dX0_fallOfSag_5 ⟨Nat.le_of_ble_eq_true rfl, Nat.le_of_ble_eq_true rfl⟩ ?_
  refine lv_istore_n (lv' := [(1, .int (stS (wsO I J 6) (I 8 1))), (0, .ref (a 0))]) hx hb dX0_fallOfSag_8 rfl hl (by decide) rfl (fun ls hl => ?_)
  refine lv_iload_n hx hb dX0_fallOfSag_9 rfl (lv_at hl 0 rfl) ?_
  refine lv_if_lt (tgt := 28) hx hb dX0_fallOfSag_10 (by decide) (fun c_10 => ?_) (fun c_10 => ?_)
  · refine lv_iconst (v := 0) hx hb dX0_fallOfSag_28 (by decide) ?_
    exact e_i hx hb hr rfl hlocks ((if_pos c_10).symm) dX0_fallOfSag_29
  · refine lv_iload_n hx hb dX0_fallOfSag_13 rfl (lv_at hl 0 rfl) ?_
    refine lv_bipush (v := 10) hx hb dX0_fallOfSag_14 (by decide) ?_
    refine lv_icmp_gt (tgt := 28) hx hb dX0_fallOfSag_16 (by decide) (fun c_16 => ?_) (fun c_16 => ?_)
    · refine lv_iconst (v := 0) hx hb dX0_fallOfSag_28 (by decide) ?_
      exact e_i hx hb hr rfl hlocks (((if_neg c_10).trans (if_pos c_16)).symm) dX0_fallOfSag_29
    · refine lv_aload_n hx hb dX0_fallOfSag_19 rfl (lv_at hl 1 rfl) ?_
      refine o_get (v := .ref (a 10)) hx hb hts hin0 hown hK hP oc_at0 11 (by decide) (hts (.fieldLink RX0 40 "OrganBuilder" "falls" "[I") (by decide +kernel)) rfl dX0_fallOfSag_20 ?_
      refine lv_iload_n hx hb dX0_fallOfSag_23 rfl (lv_at hl 0 rfl) ?_
      obtain ⟨j, hj, ej⟩ := nI_of2 (M := 10) (n := 10) (by decide) c_10 (fa_nlt c_16)
      refine lv_asi (nI j) (ej) ?_
      refine w_ild hx hb hK hP rfl oc_at10 (by omega) (by decide) dX0_fallOfSag_24 ?_
      refine lv_goto (tgt := 29) hx hb dX0_fallOfSag_25 (by decide) ?_
      exact e_i hx hb hr rfl hlocks (by rw [fls, if_neg c_10, if_neg c_16, ej, nI_clamp (by omega)]) dX0_fallOfSag_29
set_option maxHeartbeats 4000000 in
set_option maxRecDepth 100000 in
theorem c_pitchWithoutSag (l : Launch) (D : va_G) (a : Nat → Nat) (cI cL cO : ClassId) (I : Nat → Nat → Int32) (J : Nat → Nat → Int64) (r k : Nat) (hr6 : r < 6) (hk61 : k < 61) : Met l yX0_pitchWithoutSag wsX0_pitchWithoutSag ({ frames := 0, cells := 0, slots := 0, locals := 0 } : Room) (va_Pc [.ref (a 0), .int (nI r), .int (nI k)] (oB D (oty cI cL cO) (oc a cI cL cO I J))) (vp_Si (fun v9 => v9 = pws I r k)) 0 0 (fun _ => False) := by
  refine Met.ofW (cc := cX0_pitchWithoutSag) (maxL := 3) (ret := (some .int)) (by decide) rfl ?_
  intro p e s m args below meth c s₁ B hml hv
  obtain ⟨rfl, hP, hK⟩ := hv
  have hx := B.exec
  have hb := B.bytes
  have hr := B.returns
  have hts := atoms_spec (ws := wsX0_pitchWithoutSag) B.pre
  have hown : s.vm.findClass RX0 = some m.cls := findClass_of_methodNamed B.named
  have hlocks := B.notSynchronized
  have hin0 : ∀ w ∈ u_ws RX0 TX0 15, w ∈ wsX0_pitchWithoutSag := by decide +kernel
  have hl := lv_entry ([.ref (a 0), .int (nI r), .int (nI k)]) (n := 3) (Nat.le_of_ble_eq_true rfl)
  rw [lg_entry_eq]
  generalize (lg_sl ([.ref (a 0), .int (nI r), .int (nI k)]) ++ List.replicate (3 - (lg_sl ([.ref (a 0), .int (nI r), .int (nI k)])).length) Slot.unset).toArray = ls at hl ⊢
  have hl : lv_has ls 3 [(0, .ref (a 0)), (1, .int (nI r)), (2, .int (nI k))] := hl
  refine lv_bipush (v := 100) hx hb dX0_pitchWithoutSag_0 (by decide) ?_
  refine lv_iload_n hx hb dX0_pitchWithoutSag_2 rfl (lv_at hl 2 rfl) ?_
  refine lv_aload_n hx hb dX0_pitchWithoutSag_3 rfl (lv_at hl 0 rfl) ?_
  refine o_get (v := .ref (a 1)) hx hb hts hin0 hown hK hP oc_at0 0 (by decide) (hts (.fieldLink RX0 9 "OrganBuilder" "halfTones" "[I") (by decide +kernel)) rfl dX0_pitchWithoutSag_4 ?_
  refine lv_iload_n hx hb dX0_pitchWithoutSag_7 rfl (lv_at hl 1 rfl) ?_
  refine w_ild hx hb hK hP rfl oc_at1 (by omega) (by decide) dX0_pitchWithoutSag_8 ?_
  refine lv_iadd hx hb dX0_pitchWithoutSag_9 ?_
  refine lv_imul hx hb dX0_pitchWithoutSag_10 ?_
  refine lv_aload_n hx hb dX0_pitchWithoutSag_11 rfl (lv_at hl 0 rfl) ?_
  refine o_get (v := .ref (a 11)) hx hb hts hin0 hown hK hP oc_at0 12 (by decide) (hts (.fieldLink RX0 43 "OrganBuilder" "offsets" "[I") (by decide +kernel)) rfl dX0_pitchWithoutSag_12 ?_
  refine lv_iload_n hx hb dX0_pitchWithoutSag_15 rfl (lv_at hl 2 rfl) ?_
  refine lv_bipush (v := (nI 12)) hx hb dX0_pitchWithoutSag_16 (by decide) ?_
  refine lv_irem hx hb dX0_pitchWithoutSag_18 (by decide) ?_
  refine lv_asi (nI (k % 12)) (pk_rem (by omega) (by decide) (by decide)) ?_
  refine w_ild hx hb hK hP rfl oc_at11 (by omega) (by decide) dX0_pitchWithoutSag_19 ?_
  refine lv_iadd hx hb dX0_pitchWithoutSag_20 ?_
  refine lv_aload_n hx hb dX0_pitchWithoutSag_21 rfl (lv_at hl 0 rfl) ?_
  refine o_get (v := .ref (a 3)) hx hb hts hin0 hown hK hP oc_at0 2 (by decide) (hts (.fieldLink RX0 16 "OrganBuilder" "detunes" "[I") (by decide +kernel)) rfl dX0_pitchWithoutSag_22 ?_
  refine lv_iload_n hx hb dX0_pitchWithoutSag_25 rfl (lv_at hl 1 rfl) ?_
  refine w_ild hx hb hK hP rfl oc_at3 (by omega) (by decide) dX0_pitchWithoutSag_26 ?_
  refine lv_iadd hx hb dX0_pitchWithoutSag_27 ?_
  exact e_i hx hb hr rfl hlocks (rfl) dX0_pitchWithoutSag_28
