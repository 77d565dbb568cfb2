/-! ===== pure words ===== -/
def bI (b : Bool) : Int32 := if b then 1 else 0
theorem bI_t : bI true = 1 := rfl
theorem bI_f : bI false = 0 := rfl
theorem bI_eq0 {b : Bool} (h : bI b = 0) : b = false := by cases b; rfl; exact absurd h (by decide)
theorem bI_ne0 {b : Bool} (h : ¬ bI b = 0) : b = true := by cases b; exact absurd rfl h; rfl
def u2 (I : Nat → Nat → Int32) (k j : Nat) (x : Int32) : Nat → Nat → Int32 := fun i => if i = k then upd (I k) j x else I i
def u2L (J : Nat → Nat → Int64) (k j : Nat) (x : Int64) : Nat → Nat → Int64 := fun i => if i = k then vp_updL (J k) j x else J i
theorem nI_inc (i : Nat) : nI i + Int32.ofInt 1 = nI (i + 1) := nI_succ i |>.symm

/-! ===== the class: its cells by their places; I 8 0 = drawn, I 8 1 = supply, I (10 + r) = wear of the rank r, I (20 + f) = shifts from f; J 0 held, J 1 reached, J 2 sounding ===== -/
def ocFs (a : Nat → Nat) (I : Nat → Nat → Int32) : List Value := [.ref (a 1), .ref (a 2), .ref (a 3), .ref (a 4), .ref (a 5), .ref (a 6), .int (I 8 0), .ref (a 7), .ref (a 8), .ref (a 9), .int (I 8 1), .ref (a 10), .ref (a 11), .ref (a 12), .ref (a 13)]
def oc (a : Nat → Nat) (cI cL cO : ClassId) (I : Nat → Nat → Int32) (J : Nat → Nat → Int64) : va_W := [(a 0, .inr (0, ocFs a I)),
  (a 1, .inl (cI, 6, .inl (I 0))),
  (a 2, .inl (cI, 6, .inl (I 1))),
  (a 3, .inl (cI, 6, .inl (I 2))),
  (a 4, .inl (cO, 6, .inr (.inr (.inr (.inr (fun i => if i < 6 then some (a (14 + i)) else none)))))),
  (a 5, .inl (cI, 12, .inl (I 3))),
  (a 6, .inl (cI, 12, .inl (I 4))),
  (a 7, .inl (cI, 8, .inl (I 5))),
  (a 8, .inl (cO, 3, .inr (.inr (.inr (.inr (fun i => if i < 3 then some (a (20 + i)) else none)))))),
  (a 9, .inl (cL, 3, .inr (.inl (J 0)))),
  (a 10, .inl (cI, 11, .inl (I 6))),
  (a 11, .inl (cI, 12, .inl (I 7))),
  (a 12, .inl (cL, 3, .inr (.inl (J 1)))),
  (a 13, .inl (cL, 6, .inr (.inl (J 2)))),
  (a 14, .inl (cI, 61, .inl (I 10))),
  (a 15, .inl (cI, 61, .inl (I 11))),
  (a 16, .inl (cI, 61, .inl (I 12))),
  (a 17, .inl (cI, 61, .inl (I 13))),
  (a 18, .inl (cI, 61, .inl (I 14))),
  (a 19, .inl (cI, 61, .inl (I 15))),
  (a 20, .inl (cI, 3, .inl (I 20))),
  (a 21, .inl (cI, 3, .inl (I 21))),
  (a 22, .inl (cI, 3, .inl (I 22)))]
theorem oc_at0 {a : Nat → Nat} {cI cL cO : ClassId} {I : Nat → Nat → Int32} {J : Nat → Nat → Int64} : (oc a cI cL cO I J)[0]? = some (a 0, .inr (0, ocFs a I)) := rfl
theorem oc_at1 {a : Nat → Nat} {cI cL cO : ClassId} {I : Nat → Nat → Int32} {J : Nat → Nat → Int64} : (oc a cI cL cO I J)[1]? = some (a 1, .inl (cI, 6, .inl (I 0))) := rfl
theorem oc_set1 {a : Nat → Nat} {cI cL cO : ClassId} {I : Nat → Nat → Int32} {J : Nat → Nat → Int64} (j : Nat) (x : Int32) : (oc a cI cL cO I J).set 1 (a 1, .inl (cI, 6, .inl (upd (I 0) j x))) = oc a cI cL cO (u2 I 0 j x) J := rfl
theorem oc_at2 {a : Nat → Nat} {cI cL cO : ClassId} {I : Nat → Nat → Int32} {J : Nat → Nat → Int64} : (oc a cI cL cO I J)[2]? = some (a 2, .inl (cI, 6, .inl (I 1))) := rfl
theorem oc_set2 {a : Nat → Nat} {cI cL cO : ClassId} {I : Nat → Nat → Int32} {J : Nat → Nat → Int64} (j : Nat) (x : Int32) : (oc a cI cL cO I J).set 2 (a 2, .inl (cI, 6, .inl (upd (I 1) j x))) = oc a cI cL cO (u2 I 1 j x) J := rfl
theorem oc_at3 {a : Nat → Nat} {cI cL cO : ClassId} {I : Nat → Nat → Int32} {J : Nat → Nat → Int64} : (oc a cI cL cO I J)[3]? = some (a 3, .inl (cI, 6, .inl (I 2))) := rfl
theorem oc_set3 {a : Nat → Nat} {cI cL cO : ClassId} {I : Nat → Nat → Int32} {J : Nat → Nat → Int64} (j : Nat) (x : Int32) : (oc a cI cL cO I J).set 3 (a 3, .inl (cI, 6, .inl (upd (I 2) j x))) = oc a cI cL cO (u2 I 2 j x) J := rfl
theorem oc_at4 {a : Nat → Nat} {cI cL cO : ClassId} {I : Nat → Nat → Int32} {J : Nat → Nat → Int64} : (oc a cI cL cO I J)[4]? = some (a 4, .inl (cO, 6, .inr (.inr (.inr (.inr (fun i => if i < 6 then some (a (14 + i)) else none)))))) := rfl
theorem oc_at5 {a : Nat → Nat} {cI cL cO : ClassId} {I : Nat → Nat → Int32} {J : Nat → Nat → Int64} : (oc a cI cL cO I J)[5]? = some (a 5, .inl (cI, 12, .inl (I 3))) := rfl
theorem oc_set5 {a : Nat → Nat} {cI cL cO : ClassId} {I : Nat → Nat → Int32} {J : Nat → Nat → Int64} (j : Nat) (x : Int32) : (oc a cI cL cO I J).set 5 (a 5, .inl (cI, 12, .inl (upd (I 3) j x))) = oc a cI cL cO (u2 I 3 j x) J := rfl
theorem oc_at6 {a : Nat → Nat} {cI cL cO : ClassId} {I : Nat → Nat → Int32} {J : Nat → Nat → Int64} : (oc a cI cL cO I J)[6]? = some (a 6, .inl (cI, 12, .inl (I 4))) := rfl
theorem oc_set6 {a : Nat → Nat} {cI cL cO : ClassId} {I : Nat → Nat → Int32} {J : Nat → Nat → Int64} (j : Nat) (x : Int32) : (oc a cI cL cO I J).set 6 (a 6, .inl (cI, 12, .inl (upd (I 4) j x))) = oc a cI cL cO (u2 I 4 j x) J := rfl
theorem oc_at7 {a : Nat → Nat} {cI cL cO : ClassId} {I : Nat → Nat → Int32} {J : Nat → Nat → Int64} : (oc a cI cL cO I J)[7]? = some (a 7, .inl (cI, 8, .inl (I 5))) := rfl
theorem oc_set7 {a : Nat → Nat} {cI cL cO : ClassId} {I : Nat → Nat → Int32} {J : Nat → Nat → Int64} (j : Nat) (x : Int32) : (oc a cI cL cO I J).set 7 (a 7, .inl (cI, 8, .inl (upd (I 5) j x))) = oc a cI cL cO (u2 I 5 j x) J := rfl
theorem oc_at8 {a : Nat → Nat} {cI cL cO : ClassId} {I : Nat → Nat → Int32} {J : Nat → Nat → Int64} : (oc a cI cL cO I J)[8]? = some (a 8, .inl (cO, 3, .inr (.inr (.inr (.inr (fun i => if i < 3 then some (a (20 + i)) else none)))))) := rfl
theorem oc_at9 {a : Nat → Nat} {cI cL cO : ClassId} {I : Nat → Nat → Int32} {J : Nat → Nat → Int64} : (oc a cI cL cO I J)[9]? = some (a 9, .inl (cL, 3, .inr (.inl (J 0)))) := rfl
theorem oc_set9 {a : Nat → Nat} {cI cL cO : ClassId} {I : Nat → Nat → Int32} {J : Nat → Nat → Int64} (j : Nat) (x : Int64) : (oc a cI cL cO I J).set 9 (a 9, .inl (cL, 3, .inr (.inl (vp_updL (J 0) j x)))) = oc a cI cL cO I (u2L J 0 j x) := rfl
theorem oc_at10 {a : Nat → Nat} {cI cL cO : ClassId} {I : Nat → Nat → Int32} {J : Nat → Nat → Int64} : (oc a cI cL cO I J)[10]? = some (a 10, .inl (cI, 11, .inl (I 6))) := rfl
theorem oc_set10 {a : Nat → Nat} {cI cL cO : ClassId} {I : Nat → Nat → Int32} {J : Nat → Nat → Int64} (j : Nat) (x : Int32) : (oc a cI cL cO I J).set 10 (a 10, .inl (cI, 11, .inl (upd (I 6) j x))) = oc a cI cL cO (u2 I 6 j x) J := rfl
theorem oc_at11 {a : Nat → Nat} {cI cL cO : ClassId} {I : Nat → Nat → Int32} {J : Nat → Nat → Int64} : (oc a cI cL cO I J)[11]? = some (a 11, .inl (cI, 12, .inl (I 7))) := rfl
theorem oc_set11 {a : Nat → Nat} {cI cL cO : ClassId} {I : Nat → Nat → Int32} {J : Nat → Nat → Int64} (j : Nat) (x : Int32) : (oc a cI cL cO I J).set 11 (a 11, .inl (cI, 12, .inl (upd (I 7) j x))) = oc a cI cL cO (u2 I 7 j x) J := rfl
theorem oc_at12 {a : Nat → Nat} {cI cL cO : ClassId} {I : Nat → Nat → Int32} {J : Nat → Nat → Int64} : (oc a cI cL cO I J)[12]? = some (a 12, .inl (cL, 3, .inr (.inl (J 1)))) := rfl
theorem oc_set12 {a : Nat → Nat} {cI cL cO : ClassId} {I : Nat → Nat → Int32} {J : Nat → Nat → Int64} (j : Nat) (x : Int64) : (oc a cI cL cO I J).set 12 (a 12, .inl (cL, 3, .inr (.inl (vp_updL (J 1) j x)))) = oc a cI cL cO I (u2L J 1 j x) := rfl
theorem oc_at13 {a : Nat → Nat} {cI cL cO : ClassId} {I : Nat → Nat → Int32} {J : Nat → Nat → Int64} : (oc a cI cL cO I J)[13]? = some (a 13, .inl (cL, 6, .inr (.inl (J 2)))) := rfl
theorem oc_set13 {a : Nat → Nat} {cI cL cO : ClassId} {I : Nat → Nat → Int32} {J : Nat → Nat → Int64} (j : Nat) (x : Int64) : (oc a cI cL cO I J).set 13 (a 13, .inl (cL, 6, .inr (.inl (vp_updL (J 2) j x)))) = oc a cI cL cO I (u2L J 2 j x) := rfl
theorem oc_at14 {a : Nat → Nat} {cI cL cO : ClassId} {I : Nat → Nat → Int32} {J : Nat → Nat → Int64} : (oc a cI cL cO I J)[14]? = some (a 14, .inl (cI, 61, .inl (I 10))) := rfl
theorem oc_set14 {a : Nat → Nat} {cI cL cO : ClassId} {I : Nat → Nat → Int32} {J : Nat → Nat → Int64} (j : Nat) (x : Int32) : (oc a cI cL cO I J).set 14 (a 14, .inl (cI, 61, .inl (upd (I 10) j x))) = oc a cI cL cO (u2 I 10 j x) J := rfl
theorem oc_at15 {a : Nat → Nat} {cI cL cO : ClassId} {I : Nat → Nat → Int32} {J : Nat → Nat → Int64} : (oc a cI cL cO I J)[15]? = some (a 15, .inl (cI, 61, .inl (I 11))) := rfl
theorem oc_set15 {a : Nat → Nat} {cI cL cO : ClassId} {I : Nat → Nat → Int32} {J : Nat → Nat → Int64} (j : Nat) (x : Int32) : (oc a cI cL cO I J).set 15 (a 15, .inl (cI, 61, .inl (upd (I 11) j x))) = oc a cI cL cO (u2 I 11 j x) J := rfl
theorem oc_at16 {a : Nat → Nat} {cI cL cO : ClassId} {I : Nat → Nat → Int32} {J : Nat → Nat → Int64} : (oc a cI cL cO I J)[16]? = some (a 16, .inl (cI, 61, .inl (I 12))) := rfl
theorem oc_set16 {a : Nat → Nat} {cI cL cO : ClassId} {I : Nat → Nat → Int32} {J : Nat → Nat → Int64} (j : Nat) (x : Int32) : (oc a cI cL cO I J).set 16 (a 16, .inl (cI, 61, .inl (upd (I 12) j x))) = oc a cI cL cO (u2 I 12 j x) J := rfl
theorem oc_at17 {a : Nat → Nat} {cI cL cO : ClassId} {I : Nat → Nat → Int32} {J : Nat → Nat → Int64} : (oc a cI cL cO I J)[17]? = some (a 17, .inl (cI, 61, .inl (I 13))) := rfl
theorem oc_set17 {a : Nat → Nat} {cI cL cO : ClassId} {I : Nat → Nat → Int32} {J : Nat → Nat → Int64} (j : Nat) (x : Int32) : (oc a cI cL cO I J).set 17 (a 17, .inl (cI, 61, .inl (upd (I 13) j x))) = oc a cI cL cO (u2 I 13 j x) J := rfl
theorem oc_at18 {a : Nat → Nat} {cI cL cO : ClassId} {I : Nat → Nat → Int32} {J : Nat → Nat → Int64} : (oc a cI cL cO I J)[18]? = some (a 18, .inl (cI, 61, .inl (I 14))) := rfl
theorem oc_set18 {a : Nat → Nat} {cI cL cO : ClassId} {I : Nat → Nat → Int32} {J : Nat → Nat → Int64} (j : Nat) (x : Int32) : (oc a cI cL cO I J).set 18 (a 18, .inl (cI, 61, .inl (upd (I 14) j x))) = oc a cI cL cO (u2 I 14 j x) J := rfl
theorem oc_at19 {a : Nat → Nat} {cI cL cO : ClassId} {I : Nat → Nat → Int32} {J : Nat → Nat → Int64} : (oc a cI cL cO I J)[19]? = some (a 19, .inl (cI, 61, .inl (I 15))) := rfl
theorem oc_set19 {a : Nat → Nat} {cI cL cO : ClassId} {I : Nat → Nat → Int32} {J : Nat → Nat → Int64} (j : Nat) (x : Int32) : (oc a cI cL cO I J).set 19 (a 19, .inl (cI, 61, .inl (upd (I 15) j x))) = oc a cI cL cO (u2 I 15 j x) J := rfl
theorem oc_at20 {a : Nat → Nat} {cI cL cO : ClassId} {I : Nat → Nat → Int32} {J : Nat → Nat → Int64} : (oc a cI cL cO I J)[20]? = some (a 20, .inl (cI, 3, .inl (I 20))) := rfl
theorem oc_set20 {a : Nat → Nat} {cI cL cO : ClassId} {I : Nat → Nat → Int32} {J : Nat → Nat → Int64} (j : Nat) (x : Int32) : (oc a cI cL cO I J).set 20 (a 20, .inl (cI, 3, .inl (upd (I 20) j x))) = oc a cI cL cO (u2 I 20 j x) J := rfl
theorem oc_at21 {a : Nat → Nat} {cI cL cO : ClassId} {I : Nat → Nat → Int32} {J : Nat → Nat → Int64} : (oc a cI cL cO I J)[21]? = some (a 21, .inl (cI, 3, .inl (I 21))) := rfl
theorem oc_set21 {a : Nat → Nat} {cI cL cO : ClassId} {I : Nat → Nat → Int32} {J : Nat → Nat → Int64} (j : Nat) (x : Int32) : (oc a cI cL cO I J).set 21 (a 21, .inl (cI, 3, .inl (upd (I 21) j x))) = oc a cI cL cO (u2 I 21 j x) J := rfl
theorem oc_at22 {a : Nat → Nat} {cI cL cO : ClassId} {I : Nat → Nat → Int32} {J : Nat → Nat → Int64} : (oc a cI cL cO I J)[22]? = some (a 22, .inl (cI, 3, .inl (I 22))) := rfl
theorem oc_set22 {a : Nat → Nat} {cI cL cO : ClassId} {I : Nat → Nat → Int32} {J : Nat → Nat → Int64} (j : Nat) (x : Int32) : (oc a cI cL cO I J).set 22 (a 22, .inl (cI, 3, .inl (upd (I 22) j x))) = oc a cI cL cO (u2 I 22 j x) J := rfl
theorem oc_atw {a : Nat → Nat} {cI cL cO : ClassId} {I : Nat → Nat → Int32} {J : Nat → Nat → Int64} {r : Nat} (h : r < 6) : (oc a cI cL cO I J)[14 + r]? = some (a (14 + r), .inl (cI, 61, .inl (I (10 + r)))) := by
  rcases (show r = 0 ∨ r = 1 ∨ r = 2 ∨ r = 3 ∨ r = 4 ∨ r = 5 by omega) with rfl | rfl | rfl | rfl | rfl | rfl <;> rfl
theorem oc_setw {a : Nat → Nat} {cI cL cO : ClassId} {I : Nat → Nat → Int32} {J : Nat → Nat → Int64} {r : Nat} (h : r < 6) (j : Nat) (x : Int32) : (oc a cI cL cO I J).set (14 + r) (a (14 + r), .inl (cI, 61, .inl (upd (I (10 + r)) j x))) = oc a cI cL cO (u2 I (10 + r) j x) J := by
  rcases (show r = 0 ∨ r = 1 ∨ r = 2 ∨ r = 3 ∨ r = 4 ∨ r = 5 by omega) with rfl | rfl | rfl | rfl | rfl | rfl <;> rfl
theorem oc_ats {a : Nat → Nat} {cI cL cO : ClassId} {I : Nat → Nat → Int32} {J : Nat → Nat → Int64} {r : Nat} (h : r < 3) : (oc a cI cL cO I J)[20 + r]? = some (a (20 + r), .inl (cI, 3, .inl (I (20 + r)))) := by
  rcases (show r = 0 ∨ r = 1 ∨ r = 2 by omega) with rfl | rfl | rfl <;> rfl
theorem oc_sets {a : Nat → Nat} {cI cL cO : ClassId} {I : Nat → Nat → Int32} {J : Nat → Nat → Int64} {r : Nat} (h : r < 3) (j : Nat) (x : Int32) : (oc a cI cL cO I J).set (20 + r) (a (20 + r), .inl (cI, 3, .inl (upd (I (20 + r)) j x))) = oc a cI cL cO (u2 I (20 + r) j x) J := by
  rcases (show r = 0 ∨ r = 1 ∨ r = 2 by omega) with rfl | rfl | rfl <;> rfl
theorem oc_putd {a : Nat → Nat} {cI cL cO : ClassId} {I : Nat → Nat → Int32} {J : Nat → Nat → Int64} (x : Int32) : (oc a cI cL cO I J).set 0 (a 0, .inr (0, (ocFs a I).set 6 (.int x))) = oc a cI cL cO (u2 I 8 0 x) J := rfl
theorem oc_puts {a : Nat → Nat} {cI cL cO : ClassId} {I : Nat → Nat → Int32} {J : Nat → Nat → Int64} (x : Int32) : (oc a cI cL cO I J).set 0 (a 0, .inr (0, (ocFs a I).set 10 (.int x))) = oc a cI cL cO (u2 I 8 1 x) J := rfl

/-- the addresses are apart, and of a kind: a thing of the addresses alone -/
theorem wsD_addr {A : Nat → Prop} {w w' : va_W} (h : va_D A w) (e : w.map (fun q => q.1) = w'.map (fun q => q.1)) : va_D A w' := by
  have key : ∀ (i : Nat) (q : Nat × va_E), w'[i]? = some q → ∃ p : Nat × va_E, w[i]? = some p ∧ p.1 = q.1 := by
    intro i q hq
    have h1 : (w'.map (fun q => q.1))[i]? = some q.1 := by rw [List.getElem?_map, hq]; rfl
    rw [← e, List.getElem?_map] at h1
    cases hp : w[i]? with
    | none => rw [hp] at h1; cases h1
    | some p => rw [hp] at h1; exact ⟨p, rfl, Option.some.inj h1⟩
  refine ⟨fun i j p q hi hj hpq => ?_, fun k q hk => ?_⟩
  · obtain ⟨p', h1, h2⟩ := key i p hi
    obtain ⟨q', h3, h4⟩ := key j q hj
    exact h.1 i j p' q' h1 h3 (by rw [h2, h4, hpq])
  · obtain ⟨p', h1, h2⟩ := key k q hk
    rw [← h2]
    exact h.2 k p' h1
theorem oc_D {A : Nat → Prop} {a : Nat → Nat} {cI cL cO : ClassId} {I : Nat → Nat → Int32} {J : Nat → Nat → Int64} (h : va_D A (oc a cI cL cO I J)) (I' : Nat → Nat → Int32) (J' : Nat → Nat → Int64) : va_D A (oc a cI cL cO I' J') := wsD_addr h rfl
/-- the addresses of a world -/
def wA (w : va_W) : Nat → Prop := fun q => ∃ p ∈ w, p.1 = q
theorem wA_D {B : Nat → Prop} {w : va_W} (h : va_D B w) : va_D (wA w) w := ⟨h.1, fun _ q hk => ⟨q, List.mem_of_getElem? hk, rfl⟩⟩
/-- the types of the arrays -/
def oty (cI cL cO : ClassId) : List (ClassId × FieldType) := [(cI, .int), (cL, .long), (cO, .array .int)]
/-- a world as a method's start -/
def oB (D : va_G) (ty : List (ClassId × FieldType)) (w : va_W) : State → Prop := fun U => va_P D vwCl w U.heap ∧ va_K D vwCl ty U
theorem oB_blind {D : va_G} {ty : List (ClassId × FieldType)} {w : va_W} {as : List Value} : FrameBlind (va_Pc as (oB D ty w)) := fun a U g mk q => ⟨q.1, q.2.1, va_K.moved (u := U) (U := U.calling g mk a) (Vm.Alike.refl U.vm) q.2.2⟩
section OR
variable {p : Program} {l : Launch} {e : Env} {R : Room} {s : State} {m : MethodId} {args : Array Value} {below : List Frame} {meth : Method} {c : Code} {H : Heap} {locs : List Loc} {cells slots : Nat} {Q : State → Prop}
variable {cc : ByteArray} {pc : Nat} {ls : Array Slot} {rest : List Value} {D : va_G} {A : Nat → Prop} {ws : va_W} {H0 : Heap} {ty : List (ClassId × FieldType)}
theorem lv_asi {x : Int32} (y : Int32) (h : x = y) (k : W p l e R s m args below meth c H locs cells slots Q (F0 m pc ls (.int y :: rest))) : W p l e R s m args below meth c H locs cells slots Q (F0 m pc ls (.int x :: rest)) := h ▸ k
theorem lv_asl {x : Int64} (y : Int64) (h : x = y) (k : W p l e R s m args below meth c H locs cells slots Q (F0 m pc ls (.long y :: rest))) : W p l e R s m args below meth c H locs cells slots Q (F0 m pc ls (.long x :: rest)) := h ▸ k
theorem nat_ge {x y : Int32} (n i : Nat) (hy : y = nI n) (hx : x = nI i) (hn : n < 2 ^ 31) (hi : i < 2 ^ 31) {P S : Prop} (kt : n ≤ i → P) (kf : i < n → S) : (y ≤ x → P) ∧ (¬ y ≤ x → S) := by
  subst hy; subst hx
  exact ⟨fun h => kt ((nI_leI hn hi).mp h), fun h => kf (Nat.lt_of_not_le fun q => h ((nI_leI hn hi).mpr q))⟩
/-- a loop's test i ≥ n -/
theorem lo_ge (hx : p.tables.exec = Jvm.exec) (hb : c.code = cc) {n i : Nat} {y : Int32} {off : Int} {tgt : Nat} (hy : y = nI n) (hn : n < 2 ^ 31) (hi : i < 2 ^ 31) (hdg : decode cc pc = .ok (.if_icmp .ge off, 3)) (ht : (pc : Int) + off = (tgt : Int)) (kt : n ≤ i → W p l e R s m args below meth c H locs cells slots Q (F0 m tgt ls rest)) (kf : i < n → W p l e R s m args below meth c H locs cells slots Q (F0 m (pc + 3) ls rest)) : W p l e R s m args below meth c H locs cells slots Q (F0 m pc ls (.int y :: .int (nI i) :: rest)) :=
  lv_icmp_ge hx hb hdg ht (nat_ge n i hy rfl hn hi kt kf).1 (nat_ge n i hy rfl hn hi kt kf).2
/-- a loop's test i > n -/
theorem lo_gt (hx : p.tables.exec = Jvm.exec) (hb : c.code = cc) {n i : Nat} {y : Int32} {off : Int} {tgt : Nat} (hy : y = nI n) (hn : n < 2 ^ 31) (hi : i < 2 ^ 31) (hdg : decode cc pc = .ok (.if_icmp .gt off, 3)) (ht : (pc : Int) + off = (tgt : Int)) (kt : n < i → W p l e R s m args below meth c H locs cells slots Q (F0 m tgt ls rest)) (kf : i ≤ n → W p l e R s m args below meth c H locs cells slots Q (F0 m (pc + 3) ls rest)) : W p l e R s m args below meth c H locs cells slots Q (F0 m pc ls (.int y :: .int (nI i) :: rest)) := by
  subst hy
  exact lv_icmp_gt hx hb hdg ht (fun h => kt ((nI_ltI hn hi).mp h)) (fun h => kf (Nat.le_of_not_lt fun q => h ((nI_ltI hn hi).mpr q)))
/-- a loop that leaves the heap as it is -/
theorem W_loop {σ : Type} (i0 N hd : Nat) (Inv : Nat → σ → Array Slot → Prop) (hs : ∀ (i : Nat) (x : σ) (ls : Array Slot), i0 ≤ i → i ≤ N → Inv i x ls → (∀ (y : σ) (ls' : Array Slot), i < N → Inv (i + 1) y ls' → W p l e R s m args below meth c H locs cells slots Q (F0 m hd ls' rest)) → W p l e R s m args below meth c H locs cells slots Q (F0 m hd ls rest)) (x : σ) (hi : i0 ≤ N) (h : Inv i0 x ls) : W p l e R s m args below meth c H locs cells slots Q (F0 m hd ls rest) := by
  have key : ∀ (n i : Nat) (x : σ) (ls : Array Slot), N < i + n → i0 ≤ i → i ≤ N → Inv i x ls → W p l e R s m args below meth c H locs cells slots Q (F0 m hd ls rest) := by
    intro n
    induction n with
    | zero => intro i x ls h1 h0 h2 _; omega
    | succ n ih => intro i x ls h1 h0 h2 h3; exact hs i x ls h0 h2 h3 (fun y ls' h4 h5 => ih (i + 1) y ls' (by omega) (by omega) (by omega) h5)
  exact key (N + 1) i0 x ls (by omega) (Nat.le_refl _) hi h
/-- a loop that writes -/
theorem W_loopH {σ : Type} (i0 N hd : Nat) (Inv : Nat → σ → Heap → List Loc → Array Slot → Prop) (hs : ∀ (i : Nat) (x : σ) (H : Heap) (locs : List Loc) (ls : Array Slot), i0 ≤ i → i ≤ N → Inv i x H locs ls → (∀ (y : σ) (H' : Heap) (locs' : List Loc) (ls' : Array Slot), i < N → Inv (i + 1) y H' locs' ls' → W p l e R s m args below meth c H' locs' cells slots Q (F0 m hd ls' rest)) → W p l e R s m args below meth c H locs cells slots Q (F0 m hd ls rest)) (x : σ) (hi : i0 ≤ N) (h : Inv i0 x H locs ls) : W p l e R s m args below meth c H locs cells slots Q (F0 m hd ls rest) := by
  have key : ∀ (n i : Nat) (x : σ) (H : Heap) (locs : List Loc) (ls : Array Slot), N < i + n → i0 ≤ i → i ≤ N → Inv i x H locs ls → W p l e R s m args below meth c H locs cells slots Q (F0 m hd ls rest) := by
    intro n
    induction n with
    | zero => intro i x H locs ls h1 h0 h2 _; omega
    | succ n ih => intro i x H locs ls h1 h0 h2 h3; exact hs i x H locs ls h0 h2 h3 (fun y H' locs' ls' h4 h5 => ih (i + 1) y H' locs' ls' (by omega) (by omega) (by omega) h5)
  exact key (N + 1) i0 x H locs ls (by omega) (Nat.le_refl _) hi h
/-- reading int[] , long[] at a known place -/
theorem w_ild (hx : p.tables.exec = Jvm.exec) (hb : c.code = cc) (hK : va_K D vwCl ty s) (hP : va_P D vwCl ws H) {q0 n j a : Nat} {cA : ClassId} {f : Nat → Int32} (ht : ty[0]? = some (cA, .int)) (ha : ws[q0]? = some (a, .inl (cA, n, .inl f))) (hj : j < n) (hn : n < 2 ^ 31) (hdg : decode cc pc = .ok (.iaload, 1)) (kk : W p l e R s m args below meth c H locs cells slots Q (F0 m (pc + 1) ls (.int (f j) :: rest))) : W p l e R s m args below meth c H locs cells slots Q (F0 m pc ls (.int (nI j) :: .ref a :: rest)) :=
  va_iald hx hb hK hP q0 0 ha ht (vp_in_nI hj hn) hdg (by rw [nI_clamp (Nat.lt_trans hj hn)]; exact kk)
theorem w_lld (hx : p.tables.exec = Jvm.exec) (hb : c.code = cc) (hK : va_K D vwCl ty s) (hP : va_P D vwCl ws H) {q0 n j a : Nat} {cA : ClassId} {f : Nat → Int64} (ht : ty[1]? = some (cA, .long)) (ha : ws[q0]? = some (a, .inl (cA, n, .inr (.inl f)))) (hj : j < n) (hn : n < 2 ^ 31) (hdg : decode cc pc = .ok (.laload, 1)) (kk : W p l e R s m args below meth c H locs cells slots Q (F0 m (pc + 1) ls (.long (f j) :: rest))) : W p l e R s m args below meth c H locs cells slots Q (F0 m pc ls (.int (nI j) :: .ref a :: rest)) :=
  va_lald hx hb hK hP q0 1 ha ht (vp_in_nI hj hn) hdg (by rw [nI_clamp (Nat.lt_trans hj hn)]; exact kk)
/-- reading a row of int[][] -/
theorem w_qld (hx : p.tables.exec = Jvm.exec) (hb : c.code = cc) (hK : va_K D vwCl ty s) (hP : va_P D vwCl ws H) {q0 n j a : Nat} {cA : ClassId} {g : Nat → Nat} (ht : ty[2]? = some (cA, .array .int)) (ha : ws[q0]? = some (a, .inl (cA, n, .inr (.inr (.inr (.inr (fun i => if i < n then some (g i) else none))))))) (hj : j < n) (hn : n < 2 ^ 31) (hdg : decode cc pc = .ok (.aaload, 1)) (kk : W p l e R s m args below meth c H locs cells slots Q (F0 m (pc + 1) ls (.ref (g j) :: rest))) : W p l e R s m args below meth c H locs cells slots Q (F0 m pc ls (.int (nI j) :: .ref a :: rest)) := by
  have hin := vp_in_nI hj hn
  have hlt : (nI j).toNatClampNeg < n := Nat.not_le.mp fun q => hin (Or.inr q)
  refine W.aald (v := .ref (g j)) (ty := .array .int) hx hb (hP q0 _ ha) ((hK.2 2 _ ht).1 n (fun j => va_rf (if j < n then some (g j) else none))) rfl (fun q => by cases q) (by show ¬ (nI j < 0 ∨ (arrV _ _ _).slots.size ≤ _); rw [arrV_size]; exact hin) ?_ rfl rfl hdg kk
  show (arrV _ _ _).slots[_]? = _
  rw [arrV_read _ _ hlt, nI_clamp (Nat.lt_trans hj hn)]
  show some (va_rf (if j < n then some (g j) else none)) = _
  rw [if_pos hj]
  rfl
/-- writing -/
theorem w_ist (hx : p.tables.exec = Jvm.exec) (hb : c.code = cc) (hK : va_K D vwCl ty s) (hP : va_P D vwCl ws H) (hD : va_D A ws) (hS : va_S A H0 H locs) {q0 n j a : Nat} {cA : ClassId} {f : Nat → Int32} {x : Int32} {w' : va_W} (ht : ty[0]? = some (cA, .int)) (ha : ws[q0]? = some (a, .inl (cA, n, .inl f))) (hw : ws.set q0 (a, .inl (cA, n, .inl (upd f j x))) = w') (hj : j < n) (hn : n < 2 ^ 31) (hdg : decode cc pc = .ok (.iastore, 1)) (kk : ∀ (H1 : Heap) (locs1 : List Loc), va_P D vwCl w' H1 → va_S A H0 H1 locs1 → W p l e R s m args below meth c H1 locs1 cells slots Q (F0 m (pc + 1) ls rest)) : W p l e R s m args below meth c H locs cells slots Q (F0 m pc ls (.int x :: .int (nI j) :: .ref a :: rest)) :=
  va_iast hx hb hK hP hD hS q0 0 ha ht (vp_in_nI hj hn) hdg (fun H1 locs1 h1 _ h3 => kk H1 locs1 (by rw [nI_clamp (Nat.lt_trans hj hn), hw] at h1; exact h1) h3)
theorem w_lst (hx : p.tables.exec = Jvm.exec) (hb : c.code = cc) (hK : va_K D vwCl ty s) (hP : va_P D vwCl ws H) (hD : va_D A ws) (hS : va_S A H0 H locs) {q0 n j a : Nat} {cA : ClassId} {f : Nat → Int64} {x : Int64} {w' : va_W} (ht : ty[1]? = some (cA, .long)) (ha : ws[q0]? = some (a, .inl (cA, n, .inr (.inl f)))) (hw : ws.set q0 (a, .inl (cA, n, .inr (.inl (vp_updL f j x)))) = w') (hj : j < n) (hn : n < 2 ^ 31) (hdg : decode cc pc = .ok (.lastore, 1)) (kk : ∀ (H1 : Heap) (locs1 : List Loc), va_P D vwCl w' H1 → va_S A H0 H1 locs1 → W p l e R s m args below meth c H1 locs1 cells slots Q (F0 m (pc + 1) ls rest)) : W p l e R s m args below meth c H locs cells slots Q (F0 m pc ls (.long x :: .int (nI j) :: .ref a :: rest)) :=
  va_last hx hb hK hP hD hS q0 1 ha ht (vp_in_nI hj hn) hdg (fun H1 locs1 h1 _ h3 => kk H1 locs1 (by rw [nI_clamp (Nat.lt_trans hj hn), hw] at h1; exact h1) h3)

theorem o_get (hx : p.tables.exec = Jvm.exec) (hb : c.code = cc) {index : Nat} {Ts : List Cond} (hts : ∀ w ∈ Ts, w.before args s = true) (hin : ∀ w ∈ u_ws RX0 TX0 15, w ∈ Ts) (hown : s.vm.findClass RX0 = some m.cls) (hK : va_K D vwCl ty s) (hP : va_P D vwCl ws H) {a : Nat} {fs : List Value} (he : ws[0]? = some (a, .inr (0, fs))) (k : Nat) (hk : k < 15) (hlink : (Cond.fieldLink RX0 index (TX0 k).1 (TX0 k).2.1 (TX0 k).2.2.1).before args s = true) {v : Value} (hv : fs[k]? = some v) (hdg : decode cc pc = .ok (.getfield index, 3)) (kk : W p l e R s m args below meth c H locs cells slots Q (F0 m (pc + 3) ls (v :: rest))) : W p l e R s m args below meth c H locs cells slots Q (F0 m pc ls (.ref a :: rest)) :=
  va_get (C := RX0) (T := TX0) (N := 15) (ci := 0) hx hb hts hin hown hK hP 0 he rfl k hk hlink (fun _ h => h) hv hdg kk
theorem o_put (hx : p.tables.exec = Jvm.exec) (hb : c.code = cc) {index : Nat} {Ts : List Cond} (hts : ∀ w ∈ Ts, w.before args s = true) (hin : ∀ w ∈ u_ws RX0 TX0 15, w ∈ Ts) (hown : s.vm.findClass RX0 = some m.cls) (hK : va_K D vwCl ty s) (hP : va_P D vwCl ws H) (hD : va_D A ws) (hS : va_S A H0 H locs) {a : Nat} {fs : List Value} (he : ws[0]? = some (a, .inr (0, fs))) (k : Nat) (hk : k < 15) (hlink : (Cond.fieldLink RX0 index (TX0 k).1 (TX0 k).2.1 (TX0 k).2.2.1).before args s = true) (hfin : (TX0 k).2.2.2 = false) {x : Int32} (hd : parseFieldDescriptor (TX0 k).2.2.1 = some .int) (hl : k < fs.length) {w' : va_W} (hw : ws.set 0 (a, .inr (0, fs.set k (.int x))) = w') (hdg : decode cc pc = .ok (.putfield index, 3)) (kk : ∀ (H1 : Heap) (locs1 : List Loc), va_P D vwCl w' H1 → va_S A H0 H1 locs1 → W p l e R s m args below meth c H1 locs1 cells slots Q (F0 m (pc + 3) ls rest)) : W p l e R s m args below meth c H locs cells slots Q (F0 m pc ls (.int x :: .ref a :: rest)) :=
  va_put (C := RX0) (T := TX0) (N := 15) (ci := 0) (ty := .int) hx hb hts hin tyX0 tyX0_ok nmX0 hown hK hP hD hS 0 he rfl k hk hlink (fun _ h => h) hfin hd rfl rfl hl hdg (fun H1 locs1 h1 _ h3 => kk H1 locs1 (by rw [hw] at h1; exact h1) h3)
/-- a call of a method of the same object that only reads; its answer an int, or a long -/
theorem w_pV {C own : String} {y : MethodName} {bytes : ByteArray} {maxL nL n index ci b : Nat} {ret : Option FieldType} {wk : List Cond} {rm : Room} {w : va_W} {Ts : List Cond} {As st0 : List Value} {E : Int32} {fs : List Value} {qc : vw_C} (S : CallFix p m c cc nL s args Ts own) (hM : Met l y wk rm (va_Pc (.ref b :: As) (oB D ty w)) (vp_Si (fun r => r = E)) 0 0 (fun _ => False)) (cw : CallW R s args own C index y bytes maxL ret wk rm 0 0 n) (hK : va_K D vwCl ty s) (hP : va_P D vwCl w H) (hc : vwCl[ci]? = some qc) (hC : qc.1 = C) (he : w[0]? = some (b, .inr (ci, fs))) (hn : As.length = n) (hsize : ls.size = nL) (hst : st0 = As.reverse ++ .ref b :: rest) (hW : (rest.map fun v => v.category).sum ≤ 8) (hdg : decode cc pc = .ok (.invokevirtual index, 3)) (hf : cells ≤ R.cells ∧ slots ≤ R.slots) (kk : W p l e R s m args below meth c H locs cells slots Q (F0 m (pc + 3) ls (.int E :: rest))) : W p l e R s m args below meth c H locs cells slots Q (F0 m pc ls st0) :=
  vp_callSi (W.runV (As := As) (rest := rest) (b := b) S hM cw ⟨oB_blind, hC ▸ va_recv hK hP hc he, fun U hU hWm => ⟨rfl, by rw [hU]; exact hP, va_K.moved hWm.alike hK⟩⟩ rfl hn hsize hst (lv_room hW) hdg hf) (fun r hr => by rw [hr]; exact kk)
theorem w_pVl {C own : String} {y : MethodName} {bytes : ByteArray} {maxL nL n index ci b : Nat} {ret : Option FieldType} {wk : List Cond} {rm : Room} {w : va_W} {Ts : List Cond} {As st0 : List Value} {E : Int64} {fs : List Value} {qc : vw_C} (S : CallFix p m c cc nL s args Ts own) (hM : Met l y wk rm (va_Pc (.ref b :: As) (oB D ty w)) (vp_Sl (fun r => r = E)) 0 0 (fun _ => False)) (cw : CallW R s args own C index y bytes maxL ret wk rm 0 0 n) (hK : va_K D vwCl ty s) (hP : va_P D vwCl w H) (hc : vwCl[ci]? = some qc) (hC : qc.1 = C) (he : w[0]? = some (b, .inr (ci, fs))) (hn : As.length = n) (hsize : ls.size = nL) (hst : st0 = As.reverse ++ .ref b :: rest) (hW : (rest.map fun v => v.category).sum ≤ 8) (hdg : decode cc pc = .ok (.invokevirtual index, 3)) (hf : cells ≤ R.cells ∧ slots ≤ R.slots) (kk : W p l e R s m args below meth c H locs cells slots Q (F0 m (pc + 3) ls (.long E :: rest))) : W p l e R s m args below meth c H locs cells slots Q (F0 m pc ls st0) :=
  vp_callSl (W.runV (As := As) (rest := rest) (b := b) S hM cw ⟨oB_blind, hC ▸ va_recv hK hP hc he, fun U hU hWm => ⟨rfl, by rw [hU]; exact hP, va_K.moved hWm.alike hK⟩⟩ rfl hn hsize hst (lv_room hW) hdg hf) (fun r hr => by rw [hr]; exact kk)
/-- a static call of a method of numbers alone -/
theorem w_pS {own : String} {y : MethodName} {bytes : ByteArray} {maxL nL n index : Nat} {ret : Option FieldType} {wk : List Cond} {rm : Room} {Ts : List Cond} {As st0 : List Value} {E : Int32} (S : CallFix p m c cc nL s args Ts own) (hM : Met l y wk rm (va_Pc As (fun _ => True)) (vp_Si (fun r => r = E)) 0 0 (fun _ => False)) (cw : CallB R s args own index y bytes maxL ret wk rm 0 0 n ∧ (Cond.static y).before args s = true) (hn : As.length = n) (hsize : ls.size = nL) (hst : st0 = As.reverse ++ rest) (hW : (rest.map fun v => v.category).sum ≤ 8) (hdg : decode cc pc = .ok (.invokestatic index, 3)) (hf : cells ≤ R.cells ∧ slots ≤ R.slots) (kk : W p l e R s m args below meth c H locs cells slots Q (F0 m (pc + 3) ls (.int E :: rest))) : W p l e R s m args below meth c H locs cells slots Q (F0 m pc ls st0) :=
  vp_callSi (W.runS (As := As) (rest := rest) S hM cw ⟨fun _ _ _ _ q => q, fun _ _ _ => ⟨rfl, trivial⟩⟩ rfl hn hsize hst (lv_room hW) hdg hf) (fun r hr => by rw [hr]; exact kk)
theorem w_pSl {own : String} {y : MethodName} {bytes : ByteArray} {maxL nL n index : Nat} {ret : Option FieldType} {wk : List Cond} {rm : Room} {Ts : List Cond} {As st0 : List Value} {E : Int64} (S : CallFix p m c cc nL s args Ts own) (hM : Met l y wk rm (va_Pc As (fun _ => True)) (vp_Sl (fun r => r = E)) 0 0 (fun _ => False)) (cw : CallB R s args own index y bytes maxL ret wk rm 0 0 n ∧ (Cond.static y).before args s = true) (hn : As.length = n) (hsize : ls.size = nL) (hst : st0 = As.reverse ++ rest) (hW : (rest.map fun v => v.category).sum ≤ 8) (hdg : decode cc pc = .ok (.invokestatic index, 3)) (hf : cells ≤ R.cells ∧ slots ≤ R.slots) (kk : W p l e R s m args below meth c H locs cells slots Q (F0 m (pc + 3) ls (.long E :: rest))) : W p l e R s m args below meth c H locs cells slots Q (F0 m pc ls st0) :=
  vp_callSl (W.runS (As := As) (rest := rest) S hM cw ⟨fun _ _ _ _ q => q, fun _ _ _ => ⟨rfl, trivial⟩⟩ rfl hn hsize hst (lv_room hW) hdg hf) (fun r hr => by rw [hr]; exact kk)
/-- a method that writes: its start, and its end -/
def mB (D : va_G) (ty : List (ClassId × FieldType)) (w : va_W) : State → Prop := fun U => va_P D vwCl w U.heap ∧ va_K D vwCl ty U ∧ va_D (fun _ => True) w
theorem mB_blind {w : va_W} {as : List Value} : FrameBlind (va_Pc as (mB D ty w)) := fun a U g mk q => ⟨q.1, q.2.1, va_K.moved (u := U) (U := U.calling g mk a) (Vm.Alike.refl U.vm) q.2.2.1, q.2.2.2⟩
abbrev mQi (D : va_G) (w w' : va_W) (E : Int32) : Array Value → State → Outcome → State → Prop := va_Qi (fun (r : Int32) (_ : Unit) => r = E) (fun _ t => va_P D vwCl w' t.heap) (wA w)
abbrev mQv (D : va_G) (w w' : va_W) : Array Value → State → Outcome → State → Prop := va_Qv (fun (_ : Unit) => True) (fun _ t => va_P D vwCl w' t.heap) (wA w)
theorem wA_in {w : va_W} (hD : va_D A w) : ∀ q, wA w q → A q := fun q ⟨x, hx, e⟩ => by
  obtain ⟨k, hk⟩ := List.getElem?_of_mem hx
  rw [← e]
  exact hD.2 k x hk
theorem w_mVv {C own : String} {y : MethodName} {bytes : ByteArray} {maxL nL n index ci b : Nat} {ret : Option FieldType} {wk : List Cond} {rm : Room} {w w' : va_W} {Ts : List Cond} {As st0 : List Value} {fs : List Value} {qc : vw_C} (S : CallFix p m c cc nL s args Ts own) (hM : Met l y wk rm (va_Pc (.ref b :: As) (mB D ty w)) (mQv D w w') 0 0 (wA w)) (cw : CallW R s args own C index y bytes maxL ret wk rm 0 0 n) (hK : va_K D vwCl ty s) (hP : va_P D vwCl w H) (hD : va_D A w) (hS : va_S A H0 H locs) (hc : vwCl[ci]? = some qc) (hC : qc.1 = C) (he : w[0]? = some (b, .inr (ci, fs))) (hn : As.length = n) (hsize : ls.size = nL) (hst : st0 = As.reverse ++ .ref b :: rest) (hW : (rest.map fun v => v.category).sum ≤ 8) (hdg : decode cc pc = .ok (.invokevirtual index, 3)) (hf : cells ≤ R.cells ∧ slots ≤ R.slots) (kk : ∀ (H1 : Heap) (locs1 : List Loc), va_P D vwCl w' H1 → va_S A H0 H1 locs1 → W p l e R s m args below meth c H1 locs1 cells slots Q (F0 m (pc + 3) ls rest)) : W p l e R s m args below meth c H locs cells slots Q (F0 m pc ls st0) :=
  va_callv (va_runV (As := As) (rest := rest) (b := b) S hM cw ⟨mB_blind, hC ▸ va_recv hK hP hc he, fun U hU hWm => ⟨rfl, by rw [hU]; exact hP, va_K.moved hWm.alike hK, hD.weaken (fun _ _ _ _ => trivial)⟩⟩ rfl hn hsize hst (lv_room hW) hdg hf) hS (fun q _ h => wA_in hD q h) (wA_in hD) (fun _ t H1 locs1 ht _ _ hB _ _ hS1 => kk H1 locs1 (by rw [← ht]; exact hB) hS1)
theorem w_mVi {C own : String} {y : MethodName} {bytes : ByteArray} {maxL nL n index ci b : Nat} {ret : Option FieldType} {wk : List Cond} {rm : Room} {w w' : va_W} {Ts : List Cond} {As st0 : List Value} {E : Int32} {fs : List Value} {qc : vw_C} (S : CallFix p m c cc nL s args Ts own) (hM : Met l y wk rm (va_Pc (.ref b :: As) (mB D ty w)) (mQi D w w' E) 0 0 (wA w)) (cw : CallW R s args own C index y bytes maxL ret wk rm 0 0 n) (hK : va_K D vwCl ty s) (hP : va_P D vwCl w H) (hD : va_D A w) (hS : va_S A H0 H locs) (hc : vwCl[ci]? = some qc) (hC : qc.1 = C) (he : w[0]? = some (b, .inr (ci, fs))) (hn : As.length = n) (hsize : ls.size = nL) (hst : st0 = As.reverse ++ .ref b :: rest) (hW : (rest.map fun v => v.category).sum ≤ 8) (hdg : decode cc pc = .ok (.invokevirtual index, 3)) (hf : cells ≤ R.cells ∧ slots ≤ R.slots) (kk : ∀ (H1 : Heap) (locs1 : List Loc), va_P D vwCl w' H1 → va_S A H0 H1 locs1 → W p l e R s m args below meth c H1 locs1 cells slots Q (F0 m (pc + 3) ls (.int E :: rest))) : W p l e R s m args below meth c H locs cells slots Q (F0 m pc ls st0) :=
  va_calli (va_runV (As := As) (rest := rest) (b := b) S hM cw ⟨mB_blind, hC ▸ va_recv hK hP hc he, fun U hU hWm => ⟨rfl, by rw [hU]; exact hP, va_K.moved hWm.alike hK, hD.weaken (fun _ _ _ _ => trivial)⟩⟩ rfl hn hsize hst (lv_room hW) hdg hf) hS (fun q _ h => wA_in hD q h) (wA_in hD) (fun r _ t H1 locs1 ht _ hr hB _ _ hS1 => by rw [hr]; exact kk H1 locs1 (by rw [← ht]; exact hB) hS1)
/-- the ends -/
theorem e_i {E v : Int32} (hx : p.tables.exec = Jvm.exec) (hb : c.code = cc) {rt : FieldType} (hr : meth.sig.returnType = some rt) (hn : narrow rt (.int v) = .int v) (hlocks : meth.locks = false) (he : v = E) (hdg : decode cc pc = .ok (.ireturn, 1)) : W p l e R s m args below meth c s.heap [] cells slots (MQ below (vp_Si (fun r => r = E)) args s cells slots (fun _ => False)) (F0 m pc ls [.int v]) :=
  W.zret hx hb hr hn (fun t ht _ => ⟨v, rfl, he, ht⟩) (fun _ h => by cases h) hdg hlocks
theorem e_l {E v : Int64} (hx : p.tables.exec = Jvm.exec) (hb : c.code = cc) (hr : meth.sig.returnType = some .long) (hlocks : meth.locks = false) (he : v = E) (hdg : decode cc pc = .ok (.lreturn, 1)) : W p l e R s m args below meth c s.heap [] cells slots (MQ below (vp_Sl (fun r => r = E)) args s cells slots (fun _ => False)) (F0 m pc ls [.long v]) :=
  W.lret hx hb hr (fun t ht _ => ⟨v, rfl, he, ht⟩) (fun _ h => by cases h) hdg hlocks
theorem e_mi {E v : Int32} {w w' w2 : va_W} (hx : p.tables.exec = Jvm.exec) (hb : c.code = cc) {rt : FieldType} (hr : meth.sig.returnType = some rt) (hn : narrow rt (.int v) = .int v) (hlocks : meth.locks = false) (hP : va_P D vwCl w2 H) (hS : va_S (wA w) s.heap H locs) (hw : w2 = w') (he : v = E) (hdg : decode cc pc = .ok (.ireturn, 1)) : W p l e R s m args below meth c H locs cells slots (MQ below (mQi D w w' E) args s cells slots (wA w)) (F0 m pc ls [.int v]) :=
  W.zret hx hb hr hn (fun t ht _ => ⟨⟨v, (), rfl, he, by show va_P D vwCl w' t.heap; rw [ht, ← hw]; exact hP⟩, hS.F ht⟩) hS.2.2 hdg hlocks
theorem e_mv {w w' w2 : va_W} (hx : p.tables.exec = Jvm.exec) (hb : c.code = cc) (hr : meth.sig.returnType = none) (hlocks : meth.locks = false) (hP : va_P D vwCl w2 H) (hS : va_S (wA w) s.heap H locs) (hw : w2 = w') (hdg : decode cc pc = .ok (.return_, 1)) : W p l e R s m args below meth c H locs cells slots (MQ below (mQv D w w') args s cells slots (wA w)) (F0 m pc ls []) :=
  W.vret hx hb hr (fun t ht _ => ⟨⟨(), rfl, trivial, by show va_P D vwCl w' t.heap; rw [ht, ← hw]; exact hP⟩, hS.F ht⟩) hS.2.2 hdg hlocks
end OR

