/-! ===== the law's body: what stands at a turn ===== -/
def fr (s : State) : Nat → Prop := fun q => s.heap.size ≤ q
abbrev la (cI : ClassId) (q1 q2 : Nat) (W Dn : Nat → Int32) : va_W := [(q1, .inl (cI, 6, .inl W)), (q2, .inl (cI, 12, .inl Dn))]
def LC (p : Program) (l : Launch) (s : State) (m : MethodId) (c : Code) (D : va_G) (a : Nat → Nat) (q1 q2 b : Nat) (cI cL cO : ClassId) (L : Nat) (xs : Nat → Int32) : Prop := l.stackTraces = false ∧ CallFix p m c cL_law 22 s #[Value.ref b] wsL_law RL ∧ va_K D vwCl (oty cI cL cO) s ∧ va_D (fr s) (oc a cI cL cO zI zJ ++ la cI q1 q2 (fun _ => 0) (fun _ => 0)) ∧ eS s ∧ eH (fr s) s s.heap ∧ va_X b L xs s s.heap ∧ b < s.heap.size ∧ L ≤ 260
abbrev lvT (a : Nat → Nat) (q1 q2 b su cp he T t : Nat) : List (Nat × Value) := [(7, .int (nI 1)), (0, .ref b), (1, .ref (a 0)), (2, .ref q1), (3, .ref q2), (4, .int (nI su)), (5, .int (nI cp)), (6, .int (nI he)), (8, .int (nI T)), (9, .int (nI t))]
/-- what holds between the class' state and the law's arrays and numbers -/
def LI (I : Nat → Nat → Int32) (J : Nat → Nat → Int64) (h : Nat → Nat) (W Dn : Nat → Int32) (su cp he : Nat) : Prop := GI I ∧ gJ J h ∧ (∀ r, r < 6 → W r = I 1 r) ∧ (∀ k, k < 12 → Dn k = bI (dr (I 8 0) (nI k))) ∧ suN I = su ∧ ccN I = cp ∧ hc h = he
/-- what goes on behind a turn's deed -/
def LK (p : Program) (l : Launch) (e : Env) (s : State) (m : MethodId) (below : List Frame) (meth : Method) (c : Code) (Q : State → Prop) (D : va_G) (a : Nat → Nat) (q1 q2 b : Nat) (cI cL cO : ClassId) (T t c9 s9 : Nat) : Prop := ∀ (H : Heap) (locs : List Loc) (ls : Array Slot) (I : Nat → Nat → Int32) (J : Nat → Nat → Int64) (h : Nat → Nat) (W9 Dn : Nat → Int32) (su cp he : Nat), LI I J h W9 Dn su cp he → va_P D vwCl (oc a cI cL cO I J) H → va_P D vwCl (la cI q1 q2 W9 Dn) H → va_S (fr s) s.heap H locs → lv_has ls 22 (lvT a q1 q2 b su cp he T t) → W p l e room_1 s m #[Value.ref b] below meth c H locs (c9 + 200) (s9 + 1200) Q (F0 m 1518 ls [])
theorem LC.D {p : Program} {l : Launch} {s : State} {m : MethodId} {c : Code} {D : va_G} {a : Nat → Nat} {q1 q2 b : Nat} {cI cL cO : ClassId} {L : Nat} {xs : Nat → Int32} (C : LC p l s m c D a q1 q2 b cI cL cO L xs) (I : Nat → Nat → Int32) (J : Nat → Nat → Int64) (W9 Dn : Nat → Int32) : va_D (fr s) (oc a cI cL cO I J ++ la cI q1 q2 W9 Dn) := wsD_addr C.2.2.2.1 rfl
theorem cc_same {I I2 : Nat → Nat → Int32} (eC : ∀ f, f < 3 → I2 (20 + f) = I (20 + f)) : ccN I2 = ccN I := by
  unfold ccN cpd
  rw [eC 0 (by decide), eC 1 (by decide), eC 2 (by decide)]
theorem rg_det {z : Nat} (hz : z < 101) : rg (nI z - nI 50) (-50) 50 = true := by
  have e : (nI z - nI 50).toInt = (z : Int) - (50 : Nat) := pk_sub_toInt (by omega) (by decide)
  have e1 : (-50 : Int32).toInt = -50 := by decide
  have e2 : (50 : Int32).toInt = 50 := by decide
  unfold rg
  rw [decide_eq_true (Int32.le_iff_toInt_le.mpr (by rw [e, e1]; omega)), decide_eq_true (Int32.le_iff_toInt_le.mpr (by rw [e, e2]; omega))]
  rfl
theorem sh_ok {z : Nat} (hz : z < 3) : vsh (nI (12 * z) - nI 12) ∧ ¬ (nI (12 * z) - nI 12) = 1 ∧ ((nI (12 * z) - nI 12) = 0 ∨ (nI (12 * z) - nI 12) = 12 ∨ (nI (12 * z) - nI 12) = -12) := by
  unfold vsh
  rcases (show z = 0 ∨ z = 1 ∨ z = 2 by omega) with rfl | rfl | rfl <;> decide
theorem nI_neg {n : Nat} (hn : n < 2 ^ 31) : ¬ nI n = -3 ∧ ¬ nI n < 0 := by
  refine ⟨fun z => ?_, nI_pos hn⟩
  have e := congrArg Int32.toInt z
  rw [nI_toInt hn, show (-3 : Int32).toInt = -3 by decide] at e
  omega
theorem k_cpl {I : Nat → Nat → Int32} {f t : Nat} {x : Int32} (hf : f < 3) (ht : t < 3) (hx : x = 0 ∨ x = 12 ∨ x = -12) : kCpl I (nI f) (nI t) x = if f = t then 1 else if ldt I t f = true then 2 else 0 := by
  have e3 : (decide (x = 0) || decide (x = 12) || decide (x = -12)) = true := by
    rcases hx with rfl | rfl | rfl <;> decide
  unfold kCpl
  rw [rg_ok (v := f) (n := 2) (x := 2) rfl (by omega) (by decide), rg_ok (v := t) (n := 2) (x := 2) rfl (by omega) (by decide), e3, nI_clamp (show f < 2 ^ 31 by omega), nI_clamp (show t < 2 ^ 31 by omega)]
  by_cases e : f = t
  · subst e
    simp
  · have e2 : ¬ nI f = nI t := fun z => e ((nI_eq (by omega) (by omega)).mp z)
    simp [e, e2]
theorem kE_ {P : Prop} [Decidable P] {L : Bool} {X : Int32} : (if (if P then (1 : Int32) else if L = true then 2 else 0) = 0 then X else if (if P then (1 : Int32) else if L = true then 2 else 0) = 1 then -2 else -3) = (if P then -2 else if L = true then -3 else X) := by
  by_cases e : P <;> cases L <;> simp [e]
theorem kP_ {P : Prop} [Decidable P] {L : Bool} {A B : Prop} : (((if P then (1 : Int32) else if L = true then 2 else 0) = 0 → A) ∧ (¬ (if P then (1 : Int32) else if L = true then 2 else 0) = 0 → B)) ↔ ((¬ P → L = false → A) ∧ ((P ∨ L = true) → B)) := by
  by_cases e : P <;> cases L <;> simp [e]
theorem n_cpl (l : Launch) (hl0 : l.stackTraces = false) (D : va_G) (a : Nat → Nat) (cI cL cO : ClassId) {I : Nat → Nat → Int32} {J : Nat → Nat → Int64} {f t : Nat} {x : Int32} (hf : f < 3) (ht : t < 3) (hx : x = 0 ∨ x = 12 ∨ x = -12) (sz : Nat) : Met l yL_couples wsL_couples ({ frames := 9, cells := 3, slots := 18, locals := 147 } : Room) (va_Pc [.ref (a 0), .int (nI f), .int (nI t), .int x] (tB D (oty cI cL cO) (oc a cI cL cO I J) sz)) (gQ (oc a cI cL cO I J) sz (if f = t then -2 else if ldt I t f = true then -3 else nI (ccN (u2 I (20 + f) t x))) (fun H => (¬ f = t → ldt I t f = false → va_P D vwCl (oc a cI cL cO (u2 I (20 + f) t x) J) H) ∧ ((f = t ∨ ldt I t f = true) → va_P D vwCl (oc a cI cL cO I J) H))) 3 18 (tA (oc a cI cL cO I J) sz) := by
  have q := n_couples l hl0 D a cI cL cO (I := I) (J := J) (h := h0) (nI f) (nI t) x sz
  rw [k_cpl hf ht hx, nI_clamp (show f < 2 ^ 31 by omega), nI_clamp (show t < 2 ^ 31 by omega), cc_N] at q
  simp only [kE_, kP_] at q
  exact q
