/-! ===== counting bits: by nibbles ===== -/
theorem fa_andN (a b : Nat) : nI a &&& nI b = nI (a &&& b) := by
  apply Int32.toBitVec_inj.mp
  show (BitVec.ofNat 32 a &&& BitVec.ofNat 32 b) = BitVec.ofNat 32 (a &&& b)
  apply BitVec.eq_of_getLsbD_eq
  intro i hi
  simp [hi]
def hor : List Nat → Nat
  | [] => 0
  | d :: L => d + 16 * hor L
theorem nib_bit (lo hi j : Nat) (h : lo < 16) : (lo + 16 * hi).testBit j = if j < 4 then lo.testBit j else hi.testBit (j - 4) := by
  have e := Nat.testBit_two_pow_mul_add hi (b := lo) (i := 4) h j
  rw [← e]
  congr 1
  omega
theorem nib_and {lo hi c M : Nat} (h : lo < 16) (hc : c < 16) : (lo + 16 * hi) &&& (c + 16 * M) = (lo &&& c) + 16 * (hi &&& M) := by
  have hl : lo &&& c < 16 := Nat.and_lt_two_pow (n := 4) lo hc
  apply Nat.eq_of_testBit_eq
  intro j
  simp only [Nat.testBit_and, nib_bit _ _ _ h, nib_bit _ _ _ hc, nib_bit _ _ _ hl]
  by_cases q : j < 4
  · simp [q]
  · simp [q]
theorem nib_sh {lo hi c M d : Nat} (h : lo < 16) (hd : d ≤ 4) (hc : c < 2 ^ (4 - d)) : (lo + 16 * hi) / 2 ^ d &&& (c + 16 * M) = (lo / 2 ^ d &&& c) + 16 * (hi / 2 ^ d &&& M) := by
  have h16 : (2 : Nat) ^ (4 - d) ≤ 16 := Nat.le_trans (Nat.pow_le_pow_right (by decide) (Nat.sub_le 4 d)) (by decide)
  have hc16 : c < 16 := Nat.lt_of_lt_of_le hc h16
  have hl : lo / 2 ^ d &&& c < 16 := Nat.and_lt_two_pow (n := 4) _ hc16
  apply Nat.eq_of_testBit_eq
  intro j
  simp only [Nat.testBit_and, Nat.testBit_div_two_pow, nib_bit _ _ _ h, nib_bit _ _ _ hc16, nib_bit _ _ _ hl]
  by_cases q : j < 4
  · by_cases q2 : j < 4 - d
    · have e1 : j + d < 4 := by omega
      simp [q, e1]
    · have hz : c.testBit j = false := Nat.testBit_lt_two_pow (Nat.lt_of_lt_of_le hc (Nat.pow_le_pow_right (by decide) (by omega)))
      simp [q, hz]
  · have e1 : ¬ j + d < 4 := by omega
    have e2 : j + d - 4 = j - 4 + d := by omega
    simp [q, e1, e2]
def q1 (n M : Nat) : Nat := n - (n / 2 &&& M)
def q2 (n M : Nat) : Nat := (n &&& M) + (n / 4 &&& M)
theorem q1_nib {lo hi M : Nat} (h : lo < 16) : q1 (lo + 16 * hi) (5 + 16 * M) = q1 lo 5 + 16 * q1 hi M := by
  have e : (lo + 16 * hi) / 2 &&& (5 + 16 * M) = (lo / 2 &&& 5) + 16 * (hi / 2 &&& M) := nib_sh (d := 1) h (by decide) (by decide)
  have b1 : lo / 2 &&& 5 ≤ lo := Nat.le_trans Nat.and_le_left (Nat.div_le_self _ _)
  have b2 : hi / 2 &&& M ≤ hi := Nat.le_trans Nat.and_le_left (Nat.div_le_self _ _)
  unfold q1
  rw [e]
  omega
theorem q2_nib {lo hi M : Nat} (h : lo < 16) : q2 (lo + 16 * hi) (3 + 16 * M) = q2 lo 3 + 16 * q2 hi M := by
  have e : (lo + 16 * hi) / 4 &&& (3 + 16 * M) = (lo / 4 &&& 3) + 16 * (hi / 4 &&& M) := nib_sh (d := 2) h (by decide) (by decide)
  have e2 : (lo + 16 * hi) &&& (3 + 16 * M) = (lo &&& 3) + 16 * (hi &&& M) := nib_and h (by decide)
  unfold q2
  rw [e, e2]
  omega
def c4 (d : Nat) : Nat := q2 (q1 d 5) 3
theorem f_hor : ∀ L : List Nat, (∀ d ∈ L, d < 16) → q2 (q1 (hor L) (hor (L.map fun _ => 5))) (hor (L.map fun _ => 3)) = hor (L.map c4)
  | [], _ => by decide
  | d :: L, h => by
    have hd := h d (by simp)
    have ih := f_hor L (fun x hx => h x (by simp [hx]))
    have b : q1 d 5 < 16 := Nat.lt_of_le_of_lt (Nat.sub_le _ _) hd
    show q2 (q1 (d + 16 * hor L) (5 + 16 * hor (L.map fun _ => 5))) (3 + 16 * hor (L.map fun _ => 3)) = c4 d + 16 * hor (L.map c4)
    rw [q1_nib hd, q2_nib b, ih]
    rfl
theorem hor_and : ∀ L K : List Nat, L.length = K.length → (∀ d ∈ L, d < 16) → (∀ d ∈ K, d < 16) → hor L &&& hor K = hor (List.zipWith (fun x y => x &&& y) L K)
  | [], [], _, _, _ => by decide
  | d :: L, c :: K, hl, h1, h2 => by
    have ih := hor_and L K (by simpa using hl) (fun x hx => h1 x (by simp [hx])) (fun x hx => h2 x (by simp [hx]))
    show (d + 16 * hor L) &&& (c + 16 * hor K) = (d &&& c) + 16 * hor (List.zipWith (fun x y => x &&& y) L K)
    rw [nib_and (h1 d (by simp)) (h2 c (by simp)), ih]
  | [], _ :: _, hl, _, _ => by simp at hl
  | _ :: _, [], hl, _, _ => by simp at hl
def dgs : Nat → Nat → List Nat
  | 0, _ => []
  | N + 1, n => n % 16 :: dgs N (n / 16)
theorem dgs_len : ∀ N n, (dgs N n).length = N
  | 0, _ => rfl
  | N + 1, n => by simp [dgs, dgs_len N]
theorem dgs_lt : ∀ N n, ∀ d ∈ dgs N n, d < 16
  | 0, _, d, h => by simp [dgs] at h
  | N + 1, n, d, h => by
    simp only [dgs, List.mem_cons] at h
    rcases h with h | h
    · omega
    · exact dgs_lt N _ d h
theorem dgs_hor : ∀ N n, n < 16 ^ N → hor (dgs N n) = n
  | 0, n, h => by simp at h; simp [dgs, hor, h]
  | N + 1, n, h => by
    have h2 : n / 16 < 16 ^ N := by rw [Nat.pow_succ] at h; omega
    show n % 16 + 16 * hor (dgs N (n / 16)) = n
    rw [dgs_hor N _ h2]
    omega
def pcN (n : Nat) : Nat → Nat
  | 0 => 0
  | k + 1 => pcN n k + (if n.testBit k = true then 1 else 0)
theorem pcN_le (n : Nat) : ∀ k, pcN n k ≤ k
  | 0 => Nat.le_refl 0
  | k + 1 => by
    have := pcN_le n k
    simp only [pcN]
    split <;> omega
theorem pcN_cong {n m : Nat} : ∀ k, (∀ j, j < k → n.testBit j = m.testBit j) → pcN n k = pcN m k
  | 0, _ => rfl
  | k + 1, h => by
    simp only [pcN]
    rw [pcN_cong k (fun j hj => h j (by omega)), h k (by omega)]
theorem pcN_top {n a : Nat} (h : n < 2 ^ a) : ∀ k, pcN n (a + k) = pcN n a
  | 0 => rfl
  | k + 1 => by
    have hz : n.testBit (a + k) = false := Nat.testBit_lt_two_pow (Nat.lt_of_lt_of_le h (Nat.pow_le_pow_right (by decide) (by omega)))
    show pcN n (a + k) + (if n.testBit (a + k) = true then 1 else 0) = _
    rw [pcN_top h k, hz]
    rfl
theorem pcN_split {lo : Nat} (hi : Nat) (h : lo < 16) : ∀ k, pcN (lo + 16 * hi) (4 + k) = pcN lo 4 + pcN hi k
  | 0 => pcN_cong 4 (fun j hj => by rw [nib_bit _ _ _ h, if_pos hj])
  | k + 1 => by
    show pcN (lo + 16 * hi) (4 + k) + (if (lo + 16 * hi).testBit (4 + k) = true then 1 else 0) = pcN lo 4 + (pcN hi k + (if hi.testBit k = true then 1 else 0))
    rw [pcN_split hi h k, nib_bit _ _ _ h, if_neg (show ¬ 4 + k < 4 by omega), Nat.add_sub_cancel_left]
    omega
theorem c4_pc : ∀ d, d < 16 → c4 d = pcN d 4 := by decide
theorem c4_le : ∀ d, d < 16 → c4 d ≤ 4 := by decide
theorem pc_hor : ∀ L : List Nat, (∀ d ∈ L, d < 16) → pcN (hor L) (4 * L.length) = (L.map c4).sum
  | [], _ => rfl
  | d :: L, h => by
    have hd := h d (by simp)
    have ih := pc_hor L (fun x hx => h x (by simp [hx]))
    show pcN (d + 16 * hor L) (4 * (L.length + 1)) = c4 d + (L.map c4).sum
    rw [show 4 * (L.length + 1) = 4 + 4 * L.length by omega, pcN_split _ hd, ih, c4_pc d hd]
theorem and15 {x : Nat} (h : x < 16) : x &&& 15 = x := by
  have e := Nat.and_two_pow_sub_one_eq_mod x 4
  have e2 : x &&& 15 = x % 16 := e
  omega

theorem hor_div {d : Nat} (L : List Nat) (h : d < 16) : hor (d :: L) / 16 = hor L := by
  show (d + 16 * hor L) / 16 = hor L
  omega
theorem hor_add : ∀ L K : List Nat, L.length = K.length → hor L + hor K = hor (List.zipWith (fun x y => x + y) L K)
  | [], [], _ => rfl
  | d :: L, c :: K, hl => by
    have ih := hor_add L K (by simpa using hl)
    show (d + 16 * hor L) + (c + 16 * hor K) = (d + c) + 16 * hor (List.zipWith (fun x y => x + y) L K)
    rw [← ih]
    omega
  | [], _ :: _, hl => by simp at hl
  | _ :: _, [], hl => by simp at hl
theorem hor_snoc0 : ∀ L : List Nat, hor (L ++ [0]) = hor L
  | [] => rfl
  | d :: L => by
    show d + 16 * hor (L ++ [0]) = d + 16 * hor L
    rw [hor_snoc0 L]
def hb : List Nat → Nat
  | [] => 0
  | d :: L => d + 256 * hb L
theorem hb_div {d : Nat} (L : List Nat) (h : d < 256) : hb (d :: L) / 256 = hb L := by
  show (d + 256 * hb L) / 256 = hb L
  omega
theorem hb_add : ∀ L K : List Nat, L.length = K.length → hb L + hb K = hb (List.zipWith (fun x y => x + y) L K)
  | [], [], _ => rfl
  | d :: L, c :: K, hl => by
    have ih := hb_add L K (by simpa using hl)
    show (d + 256 * hb L) + (c + 256 * hb K) = (d + c) + 256 * hb (List.zipWith (fun x y => x + y) L K)
    rw [← ih]
    omega
  | [], _ :: _, hl => by simp at hl
  | _ :: _, [], hl => by simp at hl
theorem hb_snoc0 : ∀ L : List Nat, hb (L ++ [0]) = hb L
  | [] => rfl
  | d :: L => by
    show d + 256 * hb (L ++ [0]) = d + 256 * hb L
    rw [hb_snoc0 L]
theorem hb_lt : ∀ L : List Nat, (∀ d ∈ L, d < 256) → hb L < 256 ^ L.length
  | [], _ => by decide
  | d :: L, h => by
    have ih := hb_lt L (fun x hx => h x (by simp [hx]))
    have hd := h d (by simp)
    show d + 256 * hb L < 256 ^ (L.length + 1)
    rw [Nat.pow_succ]
    omega
theorem hor_lt : ∀ L : List Nat, (∀ d ∈ L, d < 16) → hor L < 16 ^ L.length
  | [], _ => by decide
  | d :: L, h => by
    have ih := hor_lt L (fun x hx => h x (by simp [hx]))
    have hd := h d (by simp)
    show d + 16 * hor L < 16 ^ (L.length + 1)
    rw [Nat.pow_succ]
    omega
theorem hor_hb (d : Nat) (L : List Nat) (t : Nat) (h : hor L = t) : hor (d :: 0 :: L) = d + 256 * t := by
  subst h
  show d + 16 * (0 + 16 * hor L) = d + 256 * hor L
  omega
theorem le_add2 {a b p q r : Nat} (h1 : a ≤ p) (h2 : b ≤ q) (h3 : p + q = r) : a + b ≤ r := h3 ▸ Nat.add_le_add h1 h2
theorem all_c {α : Type} {p : α → Prop} {a : α} {l : List α} (h : p a) (t : ∀ x ∈ l, p x) : ∀ x ∈ a :: l, p x := List.forall_mem_cons.mpr ⟨h, t⟩
theorem all_n {α : Type} {p : α → Prop} : ∀ x ∈ ([] : List α), p x := fun _ h => nomatch h
theorem sw64_3 {x0 x1 x2 x3 x4 x5 x6 x7 x8 x9 x10 x11 x12 x13 x14 x15 : Nat} (h0 : x0 ≤ 4) (h1 : x1 ≤ 4) (h2 : x2 ≤ 4) (h3 : x3 ≤ 4) (h4 : x4 ≤ 4) (h5 : x5 ≤ 4) (h6 : x6 ≤ 4) (h7 : x7 ≤ 4) (h8 : x8 ≤ 4) (h9 : x9 ≤ 4) (h10 : x10 ≤ 4) (h11 : x11 ≤ 4) (h12 : x12 ≤ 4) (h13 : x13 ≤ 4) (h14 : x14 ≤ 4) (h15 : x15 ≤ 4) : (hor [x0, x1, x2, x3, x4, x5, x6, x7, x8, x9, x10, x11, x12, x13, x14, x15] + hor [x0, x1, x2, x3, x4, x5, x6, x7, x8, x9, x10, x11, x12, x13, x14, x15] / 16) &&& 1085102592571150095 = hb [x0 + x1, x2 + x3, x4 + x5, x6 + x7, x8 + x9, x10 + x11, x12 + x13, x14 + x15] := by
  have e0 : hor [x0, x1, x2, x3, x4, x5, x6, x7, x8, x9, x10, x11, x12, x13, x14, x15] / 16 = hor [x1, x2, x3, x4, x5, x6, x7, x8, x9, x10, x11, x12, x13, x14, x15, 0] := (hor_div _ (Nat.lt_of_le_of_lt h0 (by decide))).trans (hor_snoc0 _).symm
  have e1 : hor [x0, x1, x2, x3, x4, x5, x6, x7, x8, x9, x10, x11, x12, x13, x14, x15] + hor [x1, x2, x3, x4, x5, x6, x7, x8, x9, x10, x11, x12, x13, x14, x15, 0] = hor [x0 + x1, x1 + x2, x2 + x3, x3 + x4, x4 + x5, x5 + x6, x6 + x7, x7 + x8, x8 + x9, x9 + x10, x10 + x11, x11 + x12, x12 + x13, x13 + x14, x14 + x15, x15 + 0] := hor_add _ _ rfl
  have e2 : 1085102592571150095 = hor [15, 0, 15, 0, 15, 0, 15, 0, 15, 0, 15, 0, 15, 0, 15, 0] := by decide
  have e3 := hor_and [x0 + x1, x1 + x2, x2 + x3, x3 + x4, x4 + x5, x5 + x6, x6 + x7, x7 + x8, x8 + x9, x9 + x10, x10 + x11, x11 + x12, x12 + x13, x13 + x14, x14 + x15, x15 + 0] [15, 0, 15, 0, 15, 0, 15, 0, 15, 0, 15, 0, 15, 0, 15, 0] rfl (all_c (Nat.lt_of_le_of_lt (Nat.add_le_add h0 h1) (by decide)) (all_c (Nat.lt_of_le_of_lt (Nat.add_le_add h1 h2) (by decide)) (all_c (Nat.lt_of_le_of_lt (Nat.add_le_add h2 h3) (by decide)) (all_c (Nat.lt_of_le_of_lt (Nat.add_le_add h3 h4) (by decide)) (all_c (Nat.lt_of_le_of_lt (Nat.add_le_add h4 h5) (by decide)) (all_c (Nat.lt_of_le_of_lt (Nat.add_le_add h5 h6) (by decide)) (all_c (Nat.lt_of_le_of_lt (Nat.add_le_add h6 h7) (by decide)) (all_c (Nat.lt_of_le_of_lt (Nat.add_le_add h7 h8) (by decide)) (all_c (Nat.lt_of_le_of_lt (Nat.add_le_add h8 h9) (by decide)) (all_c (Nat.lt_of_le_of_lt (Nat.add_le_add h9 h10) (by decide)) (all_c (Nat.lt_of_le_of_lt (Nat.add_le_add h10 h11) (by decide)) (all_c (Nat.lt_of_le_of_lt (Nat.add_le_add h11 h12) (by decide)) (all_c (Nat.lt_of_le_of_lt (Nat.add_le_add h12 h13) (by decide)) (all_c (Nat.lt_of_le_of_lt (Nat.add_le_add h13 h14) (by decide)) (all_c (Nat.lt_of_le_of_lt (Nat.add_le_add h14 h15) (by decide)) (all_c (Nat.lt_of_le_of_lt (Nat.add_le_add h15 (Nat.le_refl 0)) (by decide)) all_n)))))))))))))))) (by decide)
  rw [e0, e1, e2, e3]
  simp only [List.zipWith_cons_cons, List.zipWith_nil_left, Nat.and_zero]
  rw [and15 (Nat.lt_of_le_of_lt (Nat.add_le_add h0 h1) (by decide)), and15 (Nat.lt_of_le_of_lt (Nat.add_le_add h2 h3) (by decide)), and15 (Nat.lt_of_le_of_lt (Nat.add_le_add h4 h5) (by decide)), and15 (Nat.lt_of_le_of_lt (Nat.add_le_add h6 h7) (by decide)), and15 (Nat.lt_of_le_of_lt (Nat.add_le_add h8 h9) (by decide)), and15 (Nat.lt_of_le_of_lt (Nat.add_le_add h10 h11) (by decide)), and15 (Nat.lt_of_le_of_lt (Nat.add_le_add h12 h13) (by decide)), and15 (Nat.lt_of_le_of_lt (Nat.add_le_add h14 h15) (by decide))]
  exact (hor_hb _ _ _ (hor_hb _ _ _ (hor_hb _ _ _ (hor_hb _ _ _ (hor_hb _ _ _ (hor_hb _ _ _ (hor_hb _ _ _ (hor_hb _ _ _ rfl))))))))
theorem sw32_3 {x0 x1 x2 x3 x4 x5 x6 x7 : Nat} (h0 : x0 ≤ 4) (h1 : x1 ≤ 4) (h2 : x2 ≤ 4) (h3 : x3 ≤ 4) (h4 : x4 ≤ 4) (h5 : x5 ≤ 4) (h6 : x6 ≤ 4) (h7 : x7 ≤ 4) : (hor [x0, x1, x2, x3, x4, x5, x6, x7] + hor [x0, x1, x2, x3, x4, x5, x6, x7] / 16) &&& 252645135 = hb [x0 + x1, x2 + x3, x4 + x5, x6 + x7] := by
  have e0 : hor [x0, x1, x2, x3, x4, x5, x6, x7] / 16 = hor [x1, x2, x3, x4, x5, x6, x7, 0] := (hor_div _ (Nat.lt_of_le_of_lt h0 (by decide))).trans (hor_snoc0 _).symm
  have e1 : hor [x0, x1, x2, x3, x4, x5, x6, x7] + hor [x1, x2, x3, x4, x5, x6, x7, 0] = hor [x0 + x1, x1 + x2, x2 + x3, x3 + x4, x4 + x5, x5 + x6, x6 + x7, x7 + 0] := hor_add _ _ rfl
  have e2 : 252645135 = hor [15, 0, 15, 0, 15, 0, 15, 0] := by decide
  have e3 := hor_and [x0 + x1, x1 + x2, x2 + x3, x3 + x4, x4 + x5, x5 + x6, x6 + x7, x7 + 0] [15, 0, 15, 0, 15, 0, 15, 0] rfl (all_c (Nat.lt_of_le_of_lt (Nat.add_le_add h0 h1) (by decide)) (all_c (Nat.lt_of_le_of_lt (Nat.add_le_add h1 h2) (by decide)) (all_c (Nat.lt_of_le_of_lt (Nat.add_le_add h2 h3) (by decide)) (all_c (Nat.lt_of_le_of_lt (Nat.add_le_add h3 h4) (by decide)) (all_c (Nat.lt_of_le_of_lt (Nat.add_le_add h4 h5) (by decide)) (all_c (Nat.lt_of_le_of_lt (Nat.add_le_add h5 h6) (by decide)) (all_c (Nat.lt_of_le_of_lt (Nat.add_le_add h6 h7) (by decide)) (all_c (Nat.lt_of_le_of_lt (Nat.add_le_add h7 (Nat.le_refl 0)) (by decide)) all_n)))))))) (by decide)
  rw [e0, e1, e2, e3]
  simp only [List.zipWith_cons_cons, List.zipWith_nil_left, Nat.and_zero]
  rw [and15 (Nat.lt_of_le_of_lt (Nat.add_le_add h0 h1) (by decide)), and15 (Nat.lt_of_le_of_lt (Nat.add_le_add h2 h3) (by decide)), and15 (Nat.lt_of_le_of_lt (Nat.add_le_add h4 h5) (by decide)), and15 (Nat.lt_of_le_of_lt (Nat.add_le_add h6 h7) (by decide))]
  exact (hor_hb _ _ _ (hor_hb _ _ _ (hor_hb _ _ _ (hor_hb _ _ _ rfl))))
def plA (n : Nat) : Nat := q2 (q1 n 6148914691236517205) 3689348814741910323
def pl3 (n : Nat) : Nat := (plA n + plA n / 16) &&& 1085102592571150095
def pl4 (n : Nat) : Nat := pl3 n + pl3 n / 256
def pl5 (n : Nat) : Nat := pl4 n + pl4 n / 65536
def pl6 (n : Nat) : Nat := pl5 n + pl5 n / 4294967296
set_option maxRecDepth 20000 in
theorem pl_fin {n g0 g1 g2 g3 g4 g5 g6 g7 : Nat} (k0 : g0 ≤ 8) (k1 : g1 ≤ 8) (k2 : g2 ≤ 8) (k3 : g3 ≤ 8) (k4 : g4 ≤ 8) (k5 : g5 ≤ 8) (k6 : g6 ≤ 8) (k7 : g7 ≤ 8) (h3 : pl3 n = hb [g0, g1, g2, g3, g4, g5, g6, g7]) : pl6 n % 128 = g0 + g1 + g2 + g3 + g4 + g5 + g6 + g7 ∧ pl3 n < 2 ^ 64 ∧ pl4 n < 2 ^ 64 ∧ pl5 n < 2 ^ 64 := by
  have l3 : pl3 n < 2 ^ 64 := by
    rw [h3]
    exact Nat.lt_of_lt_of_le (hb_lt _ (all_c (Nat.lt_of_le_of_lt k0 (by decide)) (all_c (Nat.lt_of_le_of_lt k1 (by decide)) (all_c (Nat.lt_of_le_of_lt k2 (by decide)) (all_c (Nat.lt_of_le_of_lt k3 (by decide)) (all_c (Nat.lt_of_le_of_lt k4 (by decide)) (all_c (Nat.lt_of_le_of_lt k5 (by decide)) (all_c (Nat.lt_of_le_of_lt k6 (by decide)) (all_c (Nat.lt_of_le_of_lt k7 (by decide)) all_n))))))))) (show (256 : Nat) ^ 8 ≤ 2 ^ 64 by decide)
  have v0 : hb [g0, g1, g2, g3, g4, g5, g6, g7] / 256 = hb [g1, g2, g3, g4, g5, g6, g7, 0] := by
    have w0 : hb [g0, g1, g2, g3, g4, g5, g6, g7] / 256 = hb [g1, g2, g3, g4, g5, g6, g7] := hb_div _ (Nat.lt_of_le_of_lt k0 (by decide))
    rw [w0]
    exact (hb_snoc0 _).symm
  have h4 : pl4 n = hb [g0 + g1, g1 + g2, g2 + g3, g3 + g4, g4 + g5, g5 + g6, g6 + g7, g7 + 0] := by
    unfold pl4
    rw [h3, v0]
    exact hb_add _ _ rfl
  have l4 : pl4 n < 2 ^ 64 := by
    rw [h4]
    exact Nat.lt_of_lt_of_le (hb_lt _ (all_c (Nat.lt_of_le_of_lt (le_add2 (r := 16) k0 k1 rfl) (by decide)) (all_c (Nat.lt_of_le_of_lt (le_add2 (r := 16) k1 k2 rfl) (by decide)) (all_c (Nat.lt_of_le_of_lt (le_add2 (r := 16) k2 k3 rfl) (by decide)) (all_c (Nat.lt_of_le_of_lt (le_add2 (r := 16) k3 k4 rfl) (by decide)) (all_c (Nat.lt_of_le_of_lt (le_add2 (r := 16) k4 k5 rfl) (by decide)) (all_c (Nat.lt_of_le_of_lt (le_add2 (r := 16) k5 k6 rfl) (by decide)) (all_c (Nat.lt_of_le_of_lt (le_add2 (r := 16) k6 k7 rfl) (by decide)) (all_c (Nat.lt_of_le_of_lt (le_add2 (r := 8) k7 (Nat.le_refl 0) rfl) (by decide)) all_n))))))))) (show (256 : Nat) ^ 8 ≤ 2 ^ 64 by decide)
  have v1 : hb [g0 + g1, g1 + g2, g2 + g3, g3 + g4, g4 + g5, g5 + g6, g6 + g7, g7 + 0] / 65536 = hb [g2 + g3, g3 + g4, g4 + g5, g5 + g6, g6 + g7, g7 + 0, 0, 0] := by
    have w0 : hb [g0 + g1, g1 + g2, g2 + g3, g3 + g4, g4 + g5, g5 + g6, g6 + g7, g7 + 0] / 256 = hb [g1 + g2, g2 + g3, g3 + g4, g4 + g5, g5 + g6, g6 + g7, g7 + 0] := hb_div _ (Nat.lt_of_le_of_lt (le_add2 (r := 16) k0 k1 rfl) (by decide))
    have w1 : hb [g1 + g2, g2 + g3, g3 + g4, g4 + g5, g5 + g6, g6 + g7, g7 + 0] / 256 = hb [g2 + g3, g3 + g4, g4 + g5, g5 + g6, g6 + g7, g7 + 0] := hb_div _ (Nat.lt_of_le_of_lt (le_add2 (r := 16) k1 k2 rfl) (by decide))
    rw [show (65536 : Nat) = 256 * 256 from rfl, ← Nat.div_div_eq_div_mul]
    rw [w0, w1]
    exact ((hb_snoc0 (_ ++ [0])).trans (hb_snoc0 _)).symm
  have h5 : pl5 n = hb [(g0 + g1) + (g2 + g3), (g1 + g2) + (g3 + g4), (g2 + g3) + (g4 + g5), (g3 + g4) + (g5 + g6), (g4 + g5) + (g6 + g7), (g5 + g6) + (g7 + 0), (g6 + g7) + 0, (g7 + 0) + 0] := by
    unfold pl5
    rw [h4, v1]
    exact hb_add _ _ rfl
  have l5 : pl5 n < 2 ^ 64 := by
    rw [h5]
    exact Nat.lt_of_lt_of_le (hb_lt _ (all_c (Nat.lt_of_le_of_lt (le_add2 (r := 32) (le_add2 (r := 16) k0 k1 rfl) (le_add2 (r := 16) k2 k3 rfl) rfl) (by decide)) (all_c (Nat.lt_of_le_of_lt (le_add2 (r := 32) (le_add2 (r := 16) k1 k2 rfl) (le_add2 (r := 16) k3 k4 rfl) rfl) (by decide)) (all_c (Nat.lt_of_le_of_lt (le_add2 (r := 32) (le_add2 (r := 16) k2 k3 rfl) (le_add2 (r := 16) k4 k5 rfl) rfl) (by decide)) (all_c (Nat.lt_of_le_of_lt (le_add2 (r := 32) (le_add2 (r := 16) k3 k4 rfl) (le_add2 (r := 16) k5 k6 rfl) rfl) (by decide)) (all_c (Nat.lt_of_le_of_lt (le_add2 (r := 32) (le_add2 (r := 16) k4 k5 rfl) (le_add2 (r := 16) k6 k7 rfl) rfl) (by decide)) (all_c (Nat.lt_of_le_of_lt (le_add2 (r := 24) (le_add2 (r := 16) k5 k6 rfl) (le_add2 (r := 8) k7 (Nat.le_refl 0) rfl) rfl) (by decide)) (all_c (Nat.lt_of_le_of_lt (le_add2 (r := 16) (le_add2 (r := 16) k6 k7 rfl) (Nat.le_refl 0) rfl) (by decide)) (all_c (Nat.lt_of_le_of_lt (le_add2 (r := 8) (le_add2 (r := 8) k7 (Nat.le_refl 0) rfl) (Nat.le_refl 0) rfl) (by decide)) all_n))))))))) (show (256 : Nat) ^ 8 ≤ 2 ^ 64 by decide)
  have v2 : hb [(g0 + g1) + (g2 + g3), (g1 + g2) + (g3 + g4), (g2 + g3) + (g4 + g5), (g3 + g4) + (g5 + g6), (g4 + g5) + (g6 + g7), (g5 + g6) + (g7 + 0), (g6 + g7) + 0, (g7 + 0) + 0] / 4294967296 = hb [(g4 + g5) + (g6 + g7), (g5 + g6) + (g7 + 0), (g6 + g7) + 0, (g7 + 0) + 0, 0, 0, 0, 0] := by
    have w0 : hb [(g0 + g1) + (g2 + g3), (g1 + g2) + (g3 + g4), (g2 + g3) + (g4 + g5), (g3 + g4) + (g5 + g6), (g4 + g5) + (g6 + g7), (g5 + g6) + (g7 + 0), (g6 + g7) + 0, (g7 + 0) + 0] / 256 = hb [(g1 + g2) + (g3 + g4), (g2 + g3) + (g4 + g5), (g3 + g4) + (g5 + g6), (g4 + g5) + (g6 + g7), (g5 + g6) + (g7 + 0), (g6 + g7) + 0, (g7 + 0) + 0] := hb_div _ (Nat.lt_of_le_of_lt (le_add2 (r := 32) (le_add2 (r := 16) k0 k1 rfl) (le_add2 (r := 16) k2 k3 rfl) rfl) (by decide))
    have w1 : hb [(g1 + g2) + (g3 + g4), (g2 + g3) + (g4 + g5), (g3 + g4) + (g5 + g6), (g4 + g5) + (g6 + g7), (g5 + g6) + (g7 + 0), (g6 + g7) + 0, (g7 + 0) + 0] / 256 = hb [(g2 + g3) + (g4 + g5), (g3 + g4) + (g5 + g6), (g4 + g5) + (g6 + g7), (g5 + g6) + (g7 + 0), (g6 + g7) + 0, (g7 + 0) + 0] := hb_div _ (Nat.lt_of_le_of_lt (le_add2 (r := 32) (le_add2 (r := 16) k1 k2 rfl) (le_add2 (r := 16) k3 k4 rfl) rfl) (by decide))
    have w2 : hb [(g2 + g3) + (g4 + g5), (g3 + g4) + (g5 + g6), (g4 + g5) + (g6 + g7), (g5 + g6) + (g7 + 0), (g6 + g7) + 0, (g7 + 0) + 0] / 256 = hb [(g3 + g4) + (g5 + g6), (g4 + g5) + (g6 + g7), (g5 + g6) + (g7 + 0), (g6 + g7) + 0, (g7 + 0) + 0] := hb_div _ (Nat.lt_of_le_of_lt (le_add2 (r := 32) (le_add2 (r := 16) k2 k3 rfl) (le_add2 (r := 16) k4 k5 rfl) rfl) (by decide))
    have w3 : hb [(g3 + g4) + (g5 + g6), (g4 + g5) + (g6 + g7), (g5 + g6) + (g7 + 0), (g6 + g7) + 0, (g7 + 0) + 0] / 256 = hb [(g4 + g5) + (g6 + g7), (g5 + g6) + (g7 + 0), (g6 + g7) + 0, (g7 + 0) + 0] := hb_div _ (Nat.lt_of_le_of_lt (le_add2 (r := 32) (le_add2 (r := 16) k3 k4 rfl) (le_add2 (r := 16) k5 k6 rfl) rfl) (by decide))
    rw [show (4294967296 : Nat) = 256 * 256 * 256 * 256 from rfl, ← Nat.div_div_eq_div_mul, ← Nat.div_div_eq_div_mul, ← Nat.div_div_eq_div_mul]
    rw [w0, w1, w2, w3]
    exact ((hb_snoc0 (((_ ++ [0]) ++ [0]) ++ [0])).trans ((hb_snoc0 ((_ ++ [0]) ++ [0])).trans ((hb_snoc0 (_ ++ [0])).trans (hb_snoc0 _)))).symm
  have h6 : pl6 n = hb [((g0 + g1) + (g2 + g3)) + ((g4 + g5) + (g6 + g7)), ((g1 + g2) + (g3 + g4)) + ((g5 + g6) + (g7 + 0)), ((g2 + g3) + (g4 + g5)) + ((g6 + g7) + 0), ((g3 + g4) + (g5 + g6)) + ((g7 + 0) + 0), ((g4 + g5) + (g6 + g7)) + 0, ((g5 + g6) + (g7 + 0)) + 0, ((g6 + g7) + 0) + 0, ((g7 + 0) + 0) + 0] := by
    unfold pl6
    rw [h5, v2]
    exact hb_add _ _ rfl
  refine ⟨?_, l3, l4, l5⟩
  rw [h6]
  have lt0 : ((g0 + g1) + (g2 + g3)) + ((g4 + g5) + (g6 + g7)) < 128 := Nat.lt_of_le_of_lt (le_add2 (r := 64) (le_add2 (r := 32) (le_add2 (r := 16) k0 k1 rfl) (le_add2 (r := 16) k2 k3 rfl) rfl) (le_add2 (r := 32) (le_add2 (r := 16) k4 k5 rfl) (le_add2 (r := 16) k6 k7 rfl) rfl) rfl) (by decide)
  generalize hT : hb [((g1 + g2) + (g3 + g4)) + ((g5 + g6) + (g7 + 0)), ((g2 + g3) + (g4 + g5)) + ((g6 + g7) + 0), ((g3 + g4) + (g5 + g6)) + ((g7 + 0) + 0), ((g4 + g5) + (g6 + g7)) + 0, ((g5 + g6) + (g7 + 0)) + 0, ((g6 + g7) + 0) + 0, ((g7 + 0) + 0) + 0] = T
  have e9 : hb [((g0 + g1) + (g2 + g3)) + ((g4 + g5) + (g6 + g7)), ((g1 + g2) + (g3 + g4)) + ((g5 + g6) + (g7 + 0)), ((g2 + g3) + (g4 + g5)) + ((g6 + g7) + 0), ((g3 + g4) + (g5 + g6)) + ((g7 + 0) + 0), ((g4 + g5) + (g6 + g7)) + 0, ((g5 + g6) + (g7 + 0)) + 0, ((g6 + g7) + 0) + 0, ((g7 + 0) + 0) + 0] = ((g0 + g1) + (g2 + g3)) + ((g4 + g5) + (g6 + g7)) + 256 * T := by rw [← hT]; rfl
  rw [e9]
  clear e9 hT l3 l4 l5 v0 v1 v2 h3 h4 h5 h6
  generalize hX : ((g0 + g1) + (g2 + g3)) + ((g4 + g5) + (g6 + g7)) = X at lt0 ⊢
  have e8 : (X + 256 * T) % 128 = X := by omega
  rw [e8, ← hX]
  omega
set_option maxHeartbeats 4000000 in
set_option maxRecDepth 20000 in
theorem pl_ok {n : Nat} (hn : n < 2 ^ 64) : pl6 n % 128 = pcN n 64 ∧ plA n < 2 ^ 64 ∧ pl3 n < 2 ^ 64 ∧ pl4 n < 2 ^ 64 ∧ pl5 n < 2 ^ 64 := by
  have hL := dgs_lt 16 n
  have hl := dgs_len 16 n
  have hh := dgs_hor 16 n (Nat.lt_of_lt_of_le hn (by decide))
  have hp := pc_hor _ hL
  have hf := f_hor _ hL
  rw [hl, hh] at hp
  rw [hh] at hf
  obtain ⟨d0, d1, d2, d3, d4, d5, d6, d7, d8, d9, d10, d11, d12, d13, d14, d15, eL⟩ : ∃ d0 d1 d2 d3 d4 d5 d6 d7 d8 d9 d10 d11 d12 d13 d14 d15, dgs 16 n = [d0, d1, d2, d3, d4, d5, d6, d7, d8, d9, d10, d11, d12, d13, d14, d15] := ⟨_, _, _, _, _, _, _, _, _, _, _, _, _, _, _, _, rfl⟩
  rw [eL] at hL hp hf
  clear eL hl hh
  have m5 : hor [5, 5, 5, 5, 5, 5, 5, 5, 5, 5, 5, 5, 5, 5, 5, 5] = 6148914691236517205 := by decide
  have m3 : hor [3, 3, 3, 3, 3, 3, 3, 3, 3, 3, 3, 3, 3, 3, 3, 3] = 3689348814741910323 := by decide
  have hA : q2 (q1 n (hor [5, 5, 5, 5, 5, 5, 5, 5, 5, 5, 5, 5, 5, 5, 5, 5])) (hor [3, 3, 3, 3, 3, 3, 3, 3, 3, 3, 3, 3, 3, 3, 3, 3]) = hor [c4 d0, c4 d1, c4 d2, c4 d3, c4 d4, c4 d5, c4 d6, c4 d7, c4 d8, c4 d9, c4 d10, c4 d11, c4 d12, c4 d13, c4 d14, c4 d15] := hf
  rw [m5, m3] at hA
  have bd0 := c4_le d0 (hL d0 (by simp))
  have bd1 := c4_le d1 (hL d1 (by simp))
  have bd2 := c4_le d2 (hL d2 (by simp))
  have bd3 := c4_le d3 (hL d3 (by simp))
  have bd4 := c4_le d4 (hL d4 (by simp))
  have bd5 := c4_le d5 (hL d5 (by simp))
  have bd6 := c4_le d6 (hL d6 (by simp))
  have bd7 := c4_le d7 (hL d7 (by simp))
  have bd8 := c4_le d8 (hL d8 (by simp))
  have bd9 := c4_le d9 (hL d9 (by simp))
  have bd10 := c4_le d10 (hL d10 (by simp))
  have bd11 := c4_le d11 (hL d11 (by simp))
  have bd12 := c4_le d12 (hL d12 (by simp))
  have bd13 := c4_le d13 (hL d13 (by simp))
  have bd14 := c4_le d14 (hL d14 (by simp))
  have bd15 := c4_le d15 (hL d15 (by simp))
  have hs : pcN n 64 = [c4 d0, c4 d1, c4 d2, c4 d3, c4 d4, c4 d5, c4 d6, c4 d7, c4 d8, c4 d9, c4 d10, c4 d11, c4 d12, c4 d13, c4 d14, c4 d15].sum := hp
  clear hf hp hL
  generalize c4 d0 = xd0 at hA bd0 hs
  generalize c4 d1 = xd1 at hA bd1 hs
  generalize c4 d2 = xd2 at hA bd2 hs
  generalize c4 d3 = xd3 at hA bd3 hs
  generalize c4 d4 = xd4 at hA bd4 hs
  generalize c4 d5 = xd5 at hA bd5 hs
  generalize c4 d6 = xd6 at hA bd6 hs
  generalize c4 d7 = xd7 at hA bd7 hs
  generalize c4 d8 = xd8 at hA bd8 hs
  generalize c4 d9 = xd9 at hA bd9 hs
  generalize c4 d10 = xd10 at hA bd10 hs
  generalize c4 d11 = xd11 at hA bd11 hs
  generalize c4 d12 = xd12 at hA bd12 hs
  generalize c4 d13 = xd13 at hA bd13 hs
  generalize c4 d14 = xd14 at hA bd14 hs
  generalize c4 d15 = xd15 at hA bd15 hs
  have h3 : pl3 n = hb [xd0 + xd1, xd2 + xd3, xd4 + xd5, xd6 + xd7, xd8 + xd9, xd10 + xd11, xd12 + xd13, xd14 + xd15] := by
    unfold pl3 plA
    rw [hA]
    exact sw64_3 bd0 bd1 bd2 bd3 bd4 bd5 bd6 bd7 bd8 bd9 bd10 bd11 bd12 bd13 bd14 bd15
  obtain ⟨r1, r2⟩ := pl_fin (le_add2 (r := 8) bd0 bd1 rfl) (le_add2 (r := 8) bd2 bd3 rfl) (le_add2 (r := 8) bd4 bd5 rfl) (le_add2 (r := 8) bd6 bd7 rfl) (le_add2 (r := 8) bd8 bd9 rfl) (le_add2 (r := 8) bd10 bd11 rfl) (le_add2 (r := 8) bd12 bd13 rfl) (le_add2 (r := 8) bd14 bd15 rfl) h3
  refine ⟨?_, ?_, r2⟩
  · rw [r1, hs]
    simp only [List.sum_cons, List.sum_nil]
    clear r1 r2 h3 hA hs m5 m3 bd0 bd1 bd2 bd3 bd4 bd5 bd6 bd7 bd8 bd9 bd10 bd11 bd12 bd13 bd14 bd15
    omega
  · unfold plA
    rw [hA]
    exact Nat.lt_of_lt_of_le (hor_lt _ (all_c (Nat.lt_of_le_of_lt bd0 (by decide)) (all_c (Nat.lt_of_le_of_lt bd1 (by decide)) (all_c (Nat.lt_of_le_of_lt bd2 (by decide)) (all_c (Nat.lt_of_le_of_lt bd3 (by decide)) (all_c (Nat.lt_of_le_of_lt bd4 (by decide)) (all_c (Nat.lt_of_le_of_lt bd5 (by decide)) (all_c (Nat.lt_of_le_of_lt bd6 (by decide)) (all_c (Nat.lt_of_le_of_lt bd7 (by decide)) (all_c (Nat.lt_of_le_of_lt bd8 (by decide)) (all_c (Nat.lt_of_le_of_lt bd9 (by decide)) (all_c (Nat.lt_of_le_of_lt bd10 (by decide)) (all_c (Nat.lt_of_le_of_lt bd11 (by decide)) (all_c (Nat.lt_of_le_of_lt bd12 (by decide)) (all_c (Nat.lt_of_le_of_lt bd13 (by decide)) (all_c (Nat.lt_of_le_of_lt bd14 (by decide)) (all_c (Nat.lt_of_le_of_lt bd15 (by decide)) all_n))))))))))))))))) (show (16 : Nat) ^ 16 ≤ 2 ^ 64 by decide)
def piA (n : Nat) : Nat := q2 (q1 n 1431655765) 858993459
def pi3 (n : Nat) : Nat := (piA n + piA n / 16) &&& 252645135
def pi4 (n : Nat) : Nat := pi3 n + pi3 n / 256
def pi5 (n : Nat) : Nat := pi4 n + pi4 n / 65536
set_option maxRecDepth 20000 in
theorem pi_fin {n g0 g1 g2 g3 : Nat} (k0 : g0 ≤ 8) (k1 : g1 ≤ 8) (k2 : g2 ≤ 8) (k3 : g3 ≤ 8) (h3 : pi3 n = hb [g0, g1, g2, g3]) : pi5 n % 64 = g0 + g1 + g2 + g3 ∧ pi3 n < 2 ^ 32 ∧ pi4 n < 2 ^ 32 := by
  have l3 : pi3 n < 2 ^ 32 := by
    rw [h3]
    exact Nat.lt_of_lt_of_le (hb_lt _ (all_c (Nat.lt_of_le_of_lt k0 (by decide)) (all_c (Nat.lt_of_le_of_lt k1 (by decide)) (all_c (Nat.lt_of_le_of_lt k2 (by decide)) (all_c (Nat.lt_of_le_of_lt k3 (by decide)) all_n))))) (show (256 : Nat) ^ 4 ≤ 2 ^ 32 by decide)
  have v0 : hb [g0, g1, g2, g3] / 256 = hb [g1, g2, g3, 0] := by
    have w0 : hb [g0, g1, g2, g3] / 256 = hb [g1, g2, g3] := hb_div _ (Nat.lt_of_le_of_lt k0 (by decide))
    rw [w0]
    exact (hb_snoc0 _).symm
  have h4 : pi4 n = hb [g0 + g1, g1 + g2, g2 + g3, g3 + 0] := by
    unfold pi4
    rw [h3, v0]
    exact hb_add _ _ rfl
  have l4 : pi4 n < 2 ^ 32 := by
    rw [h4]
    exact Nat.lt_of_lt_of_le (hb_lt _ (all_c (Nat.lt_of_le_of_lt (le_add2 (r := 16) k0 k1 rfl) (by decide)) (all_c (Nat.lt_of_le_of_lt (le_add2 (r := 16) k1 k2 rfl) (by decide)) (all_c (Nat.lt_of_le_of_lt (le_add2 (r := 16) k2 k3 rfl) (by decide)) (all_c (Nat.lt_of_le_of_lt (le_add2 (r := 8) k3 (Nat.le_refl 0) rfl) (by decide)) all_n))))) (show (256 : Nat) ^ 4 ≤ 2 ^ 32 by decide)
  have v1 : hb [g0 + g1, g1 + g2, g2 + g3, g3 + 0] / 65536 = hb [g2 + g3, g3 + 0, 0, 0] := by
    have w0 : hb [g0 + g1, g1 + g2, g2 + g3, g3 + 0] / 256 = hb [g1 + g2, g2 + g3, g3 + 0] := hb_div _ (Nat.lt_of_le_of_lt (le_add2 (r := 16) k0 k1 rfl) (by decide))
    have w1 : hb [g1 + g2, g2 + g3, g3 + 0] / 256 = hb [g2 + g3, g3 + 0] := hb_div _ (Nat.lt_of_le_of_lt (le_add2 (r := 16) k1 k2 rfl) (by decide))
    rw [show (65536 : Nat) = 256 * 256 from rfl, ← Nat.div_div_eq_div_mul]
    rw [w0, w1]
    exact ((hb_snoc0 (_ ++ [0])).trans (hb_snoc0 _)).symm
  have h5 : pi5 n = hb [(g0 + g1) + (g2 + g3), (g1 + g2) + (g3 + 0), (g2 + g3) + 0, (g3 + 0) + 0] := by
    unfold pi5
    rw [h4, v1]
    exact hb_add _ _ rfl
  refine ⟨?_, l3, l4⟩
  rw [h5]
  have lt0 : (g0 + g1) + (g2 + g3) < 64 := Nat.lt_of_le_of_lt (le_add2 (r := 32) (le_add2 (r := 16) k0 k1 rfl) (le_add2 (r := 16) k2 k3 rfl) rfl) (by decide)
  generalize hT : hb [(g1 + g2) + (g3 + 0), (g2 + g3) + 0, (g3 + 0) + 0] = T
  have e9 : hb [(g0 + g1) + (g2 + g3), (g1 + g2) + (g3 + 0), (g2 + g3) + 0, (g3 + 0) + 0] = (g0 + g1) + (g2 + g3) + 256 * T := by rw [← hT]; rfl
  rw [e9]
  clear e9 hT l3 l4 v0 v1 h3 h4 h5
  generalize hX : (g0 + g1) + (g2 + g3) = X at lt0 ⊢
  have e8 : (X + 256 * T) % 64 = X := by omega
  rw [e8, ← hX]
  omega
set_option maxHeartbeats 4000000 in
set_option maxRecDepth 20000 in
theorem pi_ok {n : Nat} (hn : n < 2 ^ 32) : pi5 n % 64 = pcN n 32 ∧ piA n < 2 ^ 32 ∧ pi3 n < 2 ^ 32 ∧ pi4 n < 2 ^ 32 := by
  have hL := dgs_lt 8 n
  have hl := dgs_len 8 n
  have hh := dgs_hor 8 n (Nat.lt_of_lt_of_le hn (by decide))
  have hp := pc_hor _ hL
  have hf := f_hor _ hL
  rw [hl, hh] at hp
  rw [hh] at hf
  obtain ⟨d0, d1, d2, d3, d4, d5, d6, d7, eL⟩ : ∃ d0 d1 d2 d3 d4 d5 d6 d7, dgs 8 n = [d0, d1, d2, d3, d4, d5, d6, d7] := ⟨_, _, _, _, _, _, _, _, rfl⟩
  rw [eL] at hL hp hf
  clear eL hl hh
  have m5 : hor [5, 5, 5, 5, 5, 5, 5, 5] = 1431655765 := by decide
  have m3 : hor [3, 3, 3, 3, 3, 3, 3, 3] = 858993459 := by decide
  have hA : q2 (q1 n (hor [5, 5, 5, 5, 5, 5, 5, 5])) (hor [3, 3, 3, 3, 3, 3, 3, 3]) = hor [c4 d0, c4 d1, c4 d2, c4 d3, c4 d4, c4 d5, c4 d6, c4 d7] := hf
  rw [m5, m3] at hA
  have bd0 := c4_le d0 (hL d0 (by simp))
  have bd1 := c4_le d1 (hL d1 (by simp))
  have bd2 := c4_le d2 (hL d2 (by simp))
  have bd3 := c4_le d3 (hL d3 (by simp))
  have bd4 := c4_le d4 (hL d4 (by simp))
  have bd5 := c4_le d5 (hL d5 (by simp))
  have bd6 := c4_le d6 (hL d6 (by simp))
  have bd7 := c4_le d7 (hL d7 (by simp))
  have hs : pcN n 32 = [c4 d0, c4 d1, c4 d2, c4 d3, c4 d4, c4 d5, c4 d6, c4 d7].sum := hp
  clear hf hp hL
  generalize c4 d0 = xd0 at hA bd0 hs
  generalize c4 d1 = xd1 at hA bd1 hs
  generalize c4 d2 = xd2 at hA bd2 hs
  generalize c4 d3 = xd3 at hA bd3 hs
  generalize c4 d4 = xd4 at hA bd4 hs
  generalize c4 d5 = xd5 at hA bd5 hs
  generalize c4 d6 = xd6 at hA bd6 hs
  generalize c4 d7 = xd7 at hA bd7 hs
  have h3 : pi3 n = hb [xd0 + xd1, xd2 + xd3, xd4 + xd5, xd6 + xd7] := by
    unfold pi3 piA
    rw [hA]
    exact sw32_3 bd0 bd1 bd2 bd3 bd4 bd5 bd6 bd7
  obtain ⟨r1, r2⟩ := pi_fin (le_add2 (r := 8) bd0 bd1 rfl) (le_add2 (r := 8) bd2 bd3 rfl) (le_add2 (r := 8) bd4 bd5 rfl) (le_add2 (r := 8) bd6 bd7 rfl) h3
  refine ⟨?_, ?_, r2⟩
  · rw [r1, hs]
    simp only [List.sum_cons, List.sum_nil]
    clear r1 r2 h3 hA hs m5 m3 bd0 bd1 bd2 bd3 bd4 bd5 bd6 bd7
    omega
  · unfold piA
    rw [hA]
    exact Nat.lt_of_lt_of_le (hor_lt _ (all_c (Nat.lt_of_le_of_lt bd0 (by decide)) (all_c (Nat.lt_of_le_of_lt bd1 (by decide)) (all_c (Nat.lt_of_le_of_lt bd2 (by decide)) (all_c (Nat.lt_of_le_of_lt bd3 (by decide)) (all_c (Nat.lt_of_le_of_lt bd4 (by decide)) (all_c (Nat.lt_of_le_of_lt bd5 (by decide)) (all_c (Nat.lt_of_le_of_lt bd6 (by decide)) (all_c (Nat.lt_of_le_of_lt bd7 (by decide)) all_n))))))))) (show (16 : Nat) ^ 8 ≤ 2 ^ 32 by decide)
theorem q1_le (n M : Nat) : q1 n M ≤ n := Nat.sub_le _ _
theorem bcL_pc {n : Nat} (hn : n < 2 ^ 61) : bcL (lN n) = nI (pcN n 61) := by
  have h64 : n < 2 ^ 64 := Nat.lt_of_lt_of_le hn (by decide)
  obtain ⟨k1, k2, k3, b4, b5⟩ := pl_ok h64
  have a1 : bcL1 (lN n) = lN (q1 n 6148914691236517205) := by
    have e := wb_shr h64 (k := 1) (by decide)
    have e2 : ((lN n).toUInt64 >>> ((1 : Int32).toInt64.toUInt64 &&& Int64.toUInt64 63)).toInt64 = lN (n / 2) := e
    unfold bcL1
    rw [e2, show (6148914691236517205 : Int64) = lN 6148914691236517205 from rfl, fb_andL, lN_sub (Nat.le_trans Nat.and_le_left (Nat.div_le_self _ _))]
    rfl
  have b1 : q1 n 6148914691236517205 < 2 ^ 64 := Nat.lt_of_le_of_lt (q1_le _ _) h64
  have a2 : bcL2 (lN n) = lN (plA n) := by
    have e := wb_shr b1 (k := 2) (by decide)
    have e2 : ((lN (q1 n 6148914691236517205)).toUInt64 >>> ((2 : Int32).toInt64.toUInt64 &&& Int64.toUInt64 63)).toInt64 = lN (q1 n 6148914691236517205 / 4) := e
    unfold bcL2
    rw [a1, e2, show (3689348814741910323 : Int64) = lN 3689348814741910323 from rfl, fb_andL, fb_andL, lN_add]
    rfl
  have a3 : bcL3 (lN n) = lN (pl3 n) := by
    have e := wb_shr (n := plA n) k2 (k := 4) (by decide)
    have e2 : ((lN (plA n)).toUInt64 >>> ((4 : Int32).toInt64.toUInt64 &&& Int64.toUInt64 63)).toInt64 = lN (plA n / 16) := e
    unfold bcL3
    rw [a2, e2, lN_add, show (1085102592571150095 : Int64) = lN 1085102592571150095 from rfl, fb_andL]
    rfl
  have a4 : bcL4 (lN n) = lN (pl4 n) := by
    have e := wb_shr (n := pl3 n) k3 (k := 8) (by decide)
    have e2 : ((lN (pl3 n)).toUInt64 >>> ((8 : Int32).toInt64.toUInt64 &&& Int64.toUInt64 63)).toInt64 = lN (pl3 n / 256) := e
    unfold bcL4
    rw [a3, e2, lN_add]
    rfl
  have a5 : bcL5 (lN n) = lN (pl5 n) := by
    have e := wb_shr b4 (k := 16) (by decide)
    have e2 : ((lN (pl4 n)).toUInt64 >>> ((16 : Int32).toInt64.toUInt64 &&& Int64.toUInt64 63)).toInt64 = lN (pl4 n / 65536) := e
    unfold bcL5
    rw [a4, e2, lN_add]
    rfl
  have a6 : bcL6 (lN n) = lN (pl6 n) := by
    have e := wb_shr b5 (k := 32) (by decide)
    have e2 : ((lN (pl5 n)).toUInt64 >>> ((32 : Int32).toInt64.toUInt64 &&& Int64.toUInt64 63)).toInt64 = lN (pl5 n / 4294967296) := e
    unfold bcL6
    rw [a5, e2, lN_add]
    rfl
  unfold bcL
  rw [a6, lN_i, show (127 : Int32) = nI 127 from rfl, fa_andN, show (127 : Nat) = 2 ^ 7 - 1 from rfl, Nat.and_two_pow_sub_one_eq_mod]
  have e9 := pcN_top hn 3
  rw [show pl6 n % 2 ^ 7 = pcN n 64 from k1, show (64 : Nat) = 61 + 3 from rfl, e9]
theorem bcI_pc {n : Nat} (hn : n < 2 ^ 12) : bcI (nI n) = nI (pcN n 12) := by
  have h32 : n < 2 ^ 32 := Nat.lt_of_lt_of_le hn (by decide)
  obtain ⟨k1, k2, k3, b4⟩ := pi_ok h32
  have sh : ∀ (x : Nat), x < 2 ^ 32 → ∀ k : Nat, k < 32 → ((nI x).toUInt32 >>> ((nI k).toUInt32 &&& Int32.toUInt32 31)).toInt32 = nI (x / 2 ^ k) := fun x hx k hk => pk_ushrN hx (nI k) k (by
    have : ∀ k, k < 32 → (((nI k).toUInt32 &&& Int32.toUInt32 31).toBitVec % 32).toNat = k := by decide
    exact this k hk)
  have a1 : bcI1 (nI n) = nI (q1 n 1431655765) := by
    have e2 : ((nI n).toUInt32 >>> ((1 : Int32).toUInt32 &&& Int32.toUInt32 31)).toInt32 = nI (n / 2) := sh n h32 1 (by decide)
    unfold bcI1
    rw [e2, show (1431655765 : Int32) = nI 1431655765 from rfl, fa_andN, pk_sub (Nat.le_trans Nat.and_le_left (Nat.div_le_self _ _))]
    rfl
  have b1 : q1 n 1431655765 < 2 ^ 32 := Nat.lt_of_le_of_lt (q1_le _ _) h32
  have a2 : bcI2 (nI n) = nI (piA n) := by
    have e2 : ((nI (q1 n 1431655765)).toUInt32 >>> ((2 : Int32).toUInt32 &&& Int32.toUInt32 31)).toInt32 = nI (q1 n 1431655765 / 4) := sh _ b1 2 (by decide)
    unfold bcI2
    rw [a1, e2, show (858993459 : Int32) = nI 858993459 from rfl, fa_andN, fa_andN, nI_add]
    rfl
  have a3 : bcI3 (nI n) = nI (pi3 n) := by
    have e2 : ((nI (piA n)).toUInt32 >>> ((4 : Int32).toUInt32 &&& Int32.toUInt32 31)).toInt32 = nI (piA n / 16) := sh _ k2 4 (by decide)
    unfold bcI3
    rw [a2, e2, nI_add, show (252645135 : Int32) = nI 252645135 from rfl, fa_andN]
    rfl
  have a4 : bcI4 (nI n) = nI (pi4 n) := by
    have e2 : ((nI (pi3 n)).toUInt32 >>> ((8 : Int32).toUInt32 &&& Int32.toUInt32 31)).toInt32 = nI (pi3 n / 256) := sh _ k3 8 (by decide)
    unfold bcI4
    rw [a3, e2, nI_add]
    rfl
  have a5 : bcI5 (nI n) = nI (pi5 n) := by
    have e2 : ((nI (pi4 n)).toUInt32 >>> ((16 : Int32).toUInt32 &&& Int32.toUInt32 31)).toInt32 = nI (pi4 n / 65536) := sh _ b4 16 (by decide)
    unfold bcI5
    rw [a4, e2, nI_add]
    rfl
  unfold bcI
  rw [a5, show (63 : Int32) = nI 63 from rfl, fa_andN, show (63 : Nat) = 2 ^ 6 - 1 from rfl, Nat.and_two_pow_sub_one_eq_mod]
  have e9 := pcN_top hn 20
  rw [show pi5 n % 2 ^ 6 = pcN n 32 from k1, show (32 : Nat) = 12 + 20 from rfl, e9]
/-! ===== a set of keys is a number below 2^61 ===== -/
theorem kb_lN {k : Nat} (h63 : k < 63) : kb (nI k) = lN (2 ^ k) := by
  have e := wb_shl 1 (k := k) (by omega)
  rw [Nat.one_mul] at e
  exact e
theorem hk_lN {n k : Nat} (h61 : k < 61) : hk (lN n) (nI k) = n.testBit k := by
  unfold hk
  rw [kb_lN (by omega)]
  have e := fb_bitL (n := n) (j := k) (by omega)
  cases h : n.testBit k
  · rw [decide_eq_true (e.mpr h)]; rfl
  · rw [decide_eq_false (fun q => by rw [e.mp q] at h; cases h)]; rfl
