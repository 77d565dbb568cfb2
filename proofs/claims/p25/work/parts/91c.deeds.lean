/-! ===== the deeds of a turn ===== -/
set_option maxHeartbeats 1000000 in
set_option maxRecDepth 100000 in
theorem deed_10 {p : Program} {l : Launch} {e : Env} {s : State} {m : MethodId} {below : List Frame} {meth : Method} {c : Code} {H : Heap} {locs : List Loc} {Q : State → Prop} {ls : Array Slot} {D : va_G} {a : Nat → Nat} {q1 q2 b L T t Y m9 st n9 p9 su cp he c9 s9 : Nat} {cI cL cO : ClassId} {xs : Nat → Int32} {I : Nat → Nat → Int32} {J : Nat → Nat → Int64} {h : Nat → Nat} {W9 Dn : Nat → Int32} (C : LC p l s m c D a q1 q2 b cI cL cO L xs) (hLI : LI I J h W9 Dn su cp he) (hP1 : va_P D vwCl (oc a cI cL cO I J) H) (hP2 : va_P D vwCl (la cI q1 q2 W9 Dn) H) (hS : va_S (fr s) s.heap H locs) (hY : Y < 2 ^ 28) (hm : m9 < 3) (hst : st < 12) (hn9 : nd I h = n9) (hp9 : pp I h = p9) (hR : c9 + 2800 ≤ 683036 ∧ s9 + 17000 ≤ 7052515) (K : LK p l e s m below meth c Q D a q1 q2 b cI cL cO T t c9 s9) (hl : lv_has ls 22 [(0, .ref b), (1, .ref (a 0)), (2, .ref q1), (3, .ref q2), (4, .int (nI su)), (5, .int (nI cp)), (6, .int (nI he)), (7, .int (nI 1)), (8, .int (nI T)), (9, .int (nI t)), (11, .int (nI Y)), (13, .int (nI m9)), (14, .int (nI st)), (15, .int (nI n9)), (16, .int (nI p9))]) : W p l e room_1 s m #[Value.ref b] below meth c H locs c9 s9 Q (F0 m 892 ls []) := by
  have hD := C.D
  have C' := C
  obtain ⟨hl0, S, hK, -, hES, hEH, hX, hbl, hL⟩ := C'
  have hx := S.1
  have hb := S.2.1
  have hown := S.2.2.2.1
  have hts := S.2.2.2.2
  have hA : ∀ z9 : Nat, s.heap.size ≤ z9 → fr s z9 := fun _ h => h
  obtain ⟨hG, hJ, hW, hDn, hsu, hcp, hhe⟩ := hLI
  have bn : n9 ≤ 5124 := hn9 ▸ nd_bd hG _
  have bp : p9 ≤ 366 := hp9 ▸ pp_bd _
  have bc : cp ≤ 3 := hcp ▸ cc_3 hG
  obtain ⟨d9, hd9, ed⟩ := hG.2.2.1
  refine lv_iconst (v := (nI 0)) hx hb dL_law_892 (by decide) ?_
  refine lv_istore (lv' := [(17, .int (nI 0)), (0, .ref b), (1, .ref (a 0)), (2, .ref q1), (3, .ref q2), (4, .int (nI su)), (5, .int (nI cp)), (6, .int (nI he)), (7, .int (nI 1)), (8, .int (nI T)), (9, .int (nI t)), (11, .int (nI Y)), (13, .int (nI m9)), (14, .int (nI st)), (15, .int (nI n9)), (16, .int (nI p9))]) hx hb dL_law_893 hl (by decide) rfl (fun ls hl => ?_)
  refine lv_iconst (v := (nI 0)) hx hb dL_law_895 (by decide) ?_
  refine lv_istore (lv' := [(18, .int (nI 0)), (17, .int (nI 0)), (0, .ref b), (1, .ref (a 0)), (2, .ref q1), (3, .ref q2), (4, .int (nI su)), (5, .int (nI cp)), (6, .int (nI he)), (7, .int (nI 1)), (8, .int (nI T)), (9, .int (nI t)), (11, .int (nI Y)), (13, .int (nI m9)), (14, .int (nI st)), (15, .int (nI n9)), (16, .int (nI p9))]) hx hb dL_law_896 hl (by decide) rfl (fun ls hl => ?_)
  refine W_loop (σ := Unit) 0 12 898 (fun i9 _ ls => lv_has ls 22 [(17, .int (nI (pcN d9 i9))), (18, .int (nI i9)), (0, .ref b), (1, .ref (a 0)), (2, .ref q1), (3, .ref q2), (4, .int (nI su)), (5, .int (nI cp)), (6, .int (nI he)), (7, .int (nI 1)), (8, .int (nI T)), (9, .int (nI t)), (11, .int (nI Y)), (13, .int (nI m9)), (14, .int (nI st)), (15, .int (nI n9)), (16, .int (nI p9))]) (fun i9 _ ls g_i h_i hl ih_i => ?_) () (by decide) (lv_sub hl [1, 0, 2, 3, 4, 5, 6, 7, 8, 9, 10, 11, 12, 13, 14, 15, 16] rfl)
  refine lv_iload hx hb dL_law_898 (lv_at hl 1 rfl) ?_
  refine lv_bipush (v := (nI 12)) hx hb dL_law_900 (by decide) ?_
  refine lv_icmp_ge (tgt := 920) hx hb dL_law_902 (by decide) (fun c1 => ?_) (fun c1 => ?_)
  · have c2 := (nI_leI (a := 12) (b := i9) (by omega) (by omega)).mp c1
    obtain rfl : i9 = 12 := by omega
    refine lv_aload_n hx hb dL_law_920 rfl (lv_at hl 3 rfl) ?_
    refine lv_iload hx hb dL_law_921 (lv_at hl 12 rfl) ?_
    refine lv_bipush (v := (nI 7)) hx hb dL_law_923 (by decide) ?_
    refine lv_iand hx hb dL_law_925 ?_
    refine lv_asi (nI (Y % 8)) (pk_andN (by omega) 3 (by decide)) ?_
    refine l_thi (As := [.int (nI (Y % 8))]) (rest := []) S (n_keep l D a cI cL cO hl0 (by omega) ed hd9 H.size) (cwV 1 hts gL_law_X0_keep rfl rfl rfl (by decide +kernel) ⟨Nat.le_of_ble_eq_true rfl, Nat.le_of_ble_eq_true rfl⟩) hK hP1 hP2 (hD _ _ _ _) hES hEH hS hA rfl rfl oc_at0 rfl hl.1 rfl (Nat.le_of_ble_eq_true rfl) dL_law_926 ⟨by show _ ≤ 683036; omega, by show _ ≤ 7052515; omega⟩ (fun H locs hP1 hP2 hS => ?_)
    have hG2 := gi_keep hG (r := Y % 8)
    have hn2 : nd (u2 I 5 (Y % 8) (I 8 0)) h = n9 := nd_keep.trans hn9
    have ed2 : (u2 I 5 (Y % 8) (I 8 0)) 8 0 = nI d9 := ed
    have ek : (u2 I 5 (Y % 8) (I 8 0)) 5 (Y % 8) = nI d9 := (upd_at _ _ _).trans ed
    have hc2 : ccN (u2 I 5 (Y % 8) (I 8 0)) = cp := (cc_same (fun f hf => u2_ne (by omega) _ _)).trans hcp
    have hs2 : suN (u2 I 5 (Y % 8) (I 8 0)) = su := hsu
    have hW2 : ∀ r, r < 6 → W9 r = (u2 I 5 (Y % 8) (I 8 0)) 1 r := hW
    have hD2 : ∀ k, k < 12 → Dn k = bI (dr ((u2 I 5 (Y % 8) (I 8 0)) 8 0) (nI k)) := hDn
    have hpc : pcN d9 12 ≤ 12 := pcN_le _ _
    generalize u2 I 5 (Y % 8) (I 8 0) = I2 at *
    have hid : u2 I2 8 0 (nI d9) = I2 := by rw [← ed2]; exact u2_id _ _ _
    refine lv_iload hx hb dL_law_929 (lv_at hl 0 rfl) ?_
    refine lv_icmp_ne (tgt := 959) hx hb dL_law_931 (by decide) (fun z => absurd ((nI_eq (a := pcN d9 12) (b := pcN d9 12) (by omega) (by omega)).mpr (by omega)) z) (fun _ => ?_)
    refine lv_aload_n hx hb dL_law_934 rfl (lv_at hl 3 rfl) ?_
    refine lv_iload hx hb dL_law_935 (lv_at hl 12 rfl) ?_
    refine lv_bipush (v := (nI 7)) hx hb dL_law_937 (by decide) ?_
    refine lv_iand hx hb dL_law_939 ?_
    refine lv_asi (nI (Y % 8)) (pk_andN (by omega) 3 (by decide)) ?_
    refine l_thi (As := [.int (nI (Y % 8))]) (rest := []) S (n_recall l D a cI cL cO hl0 (by omega) ed2 hd9 ek hd9 H.size) (cwV 1 hts gL_law_X0_recall rfl rfl rfl (by decide +kernel) ⟨Nat.le_of_ble_eq_true rfl, Nat.le_of_ble_eq_true rfl⟩) hK hP1 hP2 (hD _ _ _ _) hES hEH hS hA rfl rfl oc_at0 rfl hl.1 rfl (Nat.le_of_ble_eq_true rfl) dL_law_940 ⟨by show _ ≤ 683036; omega, by show _ ≤ 7052515; omega⟩ (fun H locs hP1 hP2 hS => ?_)
    rw [hid] at hP1
    refine lv_asi (nI 0) (by rw [Nat.xor_self]; rfl) ?_
    refine lv_if_ne (tgt := 959) hx hb dL_law_943 (by decide) (fun z => absurd ((nI_eq (a := 0) (b := 0) (by omega) (by omega)).mpr (by omega)) z) (fun _ => ?_)
    refine lv_aload_n hx hb dL_law_946 rfl (lv_at hl 3 rfl) ?_
    refine l_cls (As := []) (rest := []) S (n_need l D a cI cL cO hG2 hJ) (cwV 0 hts gL_law_X0_need rfl rfl rfl (by decide +kernel) ⟨Nat.le_of_ble_eq_true rfl, Nat.le_of_ble_eq_true rfl⟩) hK hP1 hP2 (hD _ _ _ _) hS rfl rfl oc_at0 rfl hl.1 rfl (Nat.le_of_ble_eq_true rfl) dL_law_947 ⟨by show _ ≤ 683036; omega, by show _ ≤ 7052515; omega⟩ (fun H locs hP1 hP2 hS => ?_)
    have hJ := g_J hG2 hJ
    generalize fsW I2 J 0 0 = J at hJ hP1
    refine lv_asi (nI n9) (congrArg nI hn2) ?_
    refine lv_iload hx hb dL_law_950 (lv_at hl 15 rfl) ?_
    refine lv_icmp_ne (tgt := 959) hx hb dL_law_952 (by decide) (fun z => absurd ((nI_eq (a := n9) (b := n9) (by omega) (by omega)).mpr (by omega)) z) (fun _ => ?_)
    refine lv_iconst (v := (nI 1)) hx hb dL_law_955 (by decide) ?_
    refine lv_goto (tgt := 960) hx hb dL_law_956 (by decide) ?_
    refine lv_istore (lv' := [(7, .int (nI 1)), (17, .int (nI (pcN d9 12))), (18, .int (nI 12)), (0, .ref b), (1, .ref (a 0)), (2, .ref q1), (3, .ref q2), (4, .int (nI su)), (5, .int (nI cp)), (6, .int (nI he)), (8, .int (nI T)), (9, .int (nI t)), (11, .int (nI Y)), (13, .int (nI m9)), (14, .int (nI st)), (15, .int (nI n9)), (16, .int (nI p9))]) hx hb dL_law_960 hl (by decide) rfl (fun ls hl => ?_)
    refine lv_goto (tgt := 1518) hx hb dL_law_962 (by decide) ?_
    refine W.widen (k := c9 + 200) (n := s9 + 1200) (by omega) (by omega) ?_
    exact K H _ ls I2 J h W9 Dn su cp he ⟨hG2, hJ, hW2, hD2, hs2, hc2, hhe⟩ hP1 hP2 hS (lv_sub hl [0, 3, 4, 5, 6, 7, 8, 9, 10, 11] rfl)
  · have c2 : i9 < 12 := Nat.lt_of_not_le (fun q => c1 ((nI_leI (a := 12) (b := i9) (by omega) (by omega)).mpr q))
    refine lv_iload hx hb dL_law_905 (lv_at hl 0 rfl) ?_
    refine lv_aload_n hx hb dL_law_907 rfl (lv_at hl 5 rfl) ?_
    refine lv_iload hx hb dL_law_908 (lv_at hl 1 rfl) ?_
    refine w_ild hx hb hK hP2 rfl (q0 := 1) rfl (c2) (by decide) dL_law_910 ?_
    refine lv_asi (nI (if d9.testBit i9 = true then 1 else 0)) ((hDn i9 c2).trans (by rw [ed, dr_bit c2]; cases d9.testBit i9 <;> rfl)) ?_
    refine lv_iadd hx hb dL_law_911 ?_
    refine lv_asi (nI ((pcN d9 i9) + (if d9.testBit i9 = true then 1 else 0))) (nI_add _ _) ?_
    refine lv_istore (lv' := [(17, .int (nI ((pcN d9 i9) + (if d9.testBit i9 = true then 1 else 0)))), (18, .int (nI i9)), (0, .ref b), (1, .ref (a 0)), (2, .ref q1), (3, .ref q2), (4, .int (nI su)), (5, .int (nI cp)), (6, .int (nI he)), (7, .int (nI 1)), (8, .int (nI T)), (9, .int (nI t)), (11, .int (nI Y)), (13, .int (nI m9)), (14, .int (nI st)), (15, .int (nI n9)), (16, .int (nI p9))]) hx hb dL_law_912 hl (by decide) rfl (fun ls hl => ?_)
    refine lv_iinc (v := (nI (i9 + 1))) (lv' := [(18, .int (nI (i9 + 1))), (17, .int (nI ((pcN d9 i9) + (if d9.testBit i9 = true then 1 else 0)))), (0, .ref b), (1, .ref (a 0)), (2, .ref q1), (3, .ref q2), (4, .int (nI su)), (5, .int (nI cp)), (6, .int (nI he)), (7, .int (nI 1)), (8, .int (nI T)), (9, .int (nI t)), (11, .int (nI Y)), (13, .int (nI m9)), (14, .int (nI st)), (15, .int (nI n9)), (16, .int (nI p9))]) hx hb dL_law_914 hl (k := 1) rfl (nI_inc _) (by decide) rfl (fun ls hl => ?_)
    refine lv_goto (tgt := 898) hx hb dL_law_917 (by decide) ?_
    exact ih_i () ls (by omega) (lv_sub hl [1, 0, 2, 3, 4, 5, 6, 7, 8, 9, 10, 11, 12, 13, 14, 15, 16] rfl)
theorem pc_mono {x : Nat} {i : Nat} : ∀ n, i ≤ n → pcN x i ≤ pcN x n
  | 0, hi => by
    obtain rfl : i = 0 := by omega
    exact Nat.le_refl _
  | n + 1, hi => by
    by_cases e : i = n + 1
    · rw [e]
      exact Nat.le_refl _
    · exact Nat.le_trans (pc_mono n (by omega)) (Nat.le_add_right _ _)
theorem lv_as2 {p : Program} {l : Launch} {e : Env} {R : Room} {s : State} {m : MethodId} {args : Array Value} {below : List Frame} {meth : Method} {c : Code} {H : Heap} {locs : List Loc} {cells slots : Nat} {Q : State → Prop} {pc : Nat} {ls : Array Slot} {rest : List Value} {z x : Int32} (y : Int32) (h : x = y) (k : W p l e R s m args below meth c H locs cells slots Q (F0 m pc ls (.int z :: .int y :: rest))) : W p l e R s m args below meth c H locs cells slots Q (F0 m pc ls (.int z :: .int x :: rest)) := h ▸ k
set_option maxHeartbeats 1000000 in
set_option maxRecDepth 100000 in
theorem loop_11 {p : Program} {l : Launch} {e : Env} {s : State} {m : MethodId} {below : List Frame} {meth : Method} {c : Code} {Q : State → Prop} {D : va_G} {a : Nat → Nat} {q1 q2 b L T t Y m9 st n9 p9 su cp he c9 s9 d9 e9 : Nat} {cI cL cO : ClassId} {xs : Nat → Int32} {I : Nat → Nat → Int32} {W9 : Nat → Int32} (C : LC p l s m c D a q1 q2 b cI cL cO L xs) (hd9 : d9 < 4096) (he9 : e9 < 4096) (ed : I 8 0 = nI e9) (hR : c9 + 2800 ≤ 683036 ∧ s9 + 17000 ≤ 7052515) {J : Nat → Nat → Int64} (kend : ∀ (H : Heap) (locs : List Loc) (ls : Array Slot) (Dn : Nat → Int32), (∀ k, k < 12 → Dn k = bI (e9.testBit k)) → va_P D vwCl (oc a cI cL cO I J) H → va_P D vwCl (la cI q1 q2 W9 Dn) H → va_S (fr s) s.heap H locs → lv_has ls 22 [(17, .int (nI (pcN (d9 ^^^ e9) 12 - pcN (d9 ^^^ e9) 12))), (18, .int (nI 12)), (0, .ref b), (1, .ref (a 0)), (2, .ref q1), (3, .ref q2), (4, .int (nI su)), (5, .int (nI cp)), (6, .int (nI he)), (7, .int (nI 1)), (8, .int (nI T)), (9, .int (nI t)), (11, .int (nI Y)), (13, .int (nI m9)), (14, .int (nI st)), (15, .int (nI n9)), (16, .int (nI p9))] → W p l e room_1 s m #[Value.ref b] below meth c H locs (c9 + 1 + 2 * 12) (s9 + 6 + 12 * 12) Q (F0 m 1077 ls [])) : ∀ d i9, d + i9 = 12 → ∀ (H : Heap) (locs : List Loc) (ls : Array Slot) (Dn : Nat → Int32), (∀ k, k < 12 → Dn k = bI ((if k < i9 then e9 else d9).testBit k)) → va_P D vwCl (oc a cI cL cO I J) H → va_P D vwCl (la cI q1 q2 W9 Dn) H → va_S (fr s) s.heap H locs → lv_has ls 22 [(17, .int (nI (pcN (d9 ^^^ e9) 12 - pcN (d9 ^^^ e9) i9))), (18, .int (nI i9)), (0, .ref b), (1, .ref (a 0)), (2, .ref q1), (3, .ref q2), (4, .int (nI su)), (5, .int (nI cp)), (6, .int (nI he)), (7, .int (nI 1)), (8, .int (nI T)), (9, .int (nI t)), (11, .int (nI Y)), (13, .int (nI m9)), (14, .int (nI st)), (15, .int (nI n9)), (16, .int (nI p9))] → W p l e room_1 s m #[Value.ref b] below meth c H locs (c9 + 1 + 2 * i9) (s9 + 6 + 12 * i9) Q (F0 m 986 ls []) := by
  have hD := C.D
  obtain ⟨hl0, S, hK, -, hES, hEH, hX, hbl, hL⟩ := C
  have hx := S.1
  have hb := S.2.1
  have hown := S.2.2.2.1
  have hts := S.2.2.2.2
  have hA : ∀ z9 : Nat, s.heap.size ≤ z9 → fr s z9 := fun _ h => h
  intro d
  induction d with
  | zero =>
    intro i9 hi H locs ls Dn hDn hP1 hP2 hS hl
    obtain rfl : i9 = 12 := by omega
    refine lv_iload hx hb dL_law_986 (lv_at hl 1 rfl) ?_
    refine lv_bipush (v := (nI 12)) hx hb dL_law_988 (by decide) ?_
    refine lv_icmp_ge (tgt := 1077) hx hb dL_law_990 (by decide) (fun _ => ?_) (fun z => absurd ((nI_leI (a := 12) (b := 12) (by omega) (by omega)).mpr (by omega)) z)
    exact kend H locs ls Dn (fun k hk => by rw [hDn k hk, if_pos hk]) hP1 hP2 hS hl
  | succ d ih =>
    intro i9 hi H locs ls Dn hDn hP1 hP2 hS hl
    have hi12 : i9 < 12 := by omega
    have hpm := pc_mono (x := d9 ^^^ e9) (i := i9 + 1) 12 (by omega)
    have hps : pcN (d9 ^^^ e9) (i9 + 1) = pcN (d9 ^^^ e9) i9 + (if (d9 ^^^ e9).testBit i9 = true then 1 else 0) := rfl
    have hdi := hDn i9 hi12
    rw [if_neg (Nat.lt_irrefl i9)] at hdi
    have hpl : pcN (d9 ^^^ e9) 12 ≤ 12 := pcN_le _ _
    rw [Nat.testBit_xor] at hps
    refine lv_iload hx hb dL_law_986 (lv_at hl 1 rfl) ?_
    refine lv_bipush (v := (nI 12)) hx hb dL_law_988 (by decide) ?_
    refine lv_icmp_ge (tgt := 1077) hx hb dL_law_990 (by decide) (fun z => absurd ((nI_leI (a := 12) (b := i9) (by omega) (by omega)).mp z) (by omega)) (fun _ => ?_)
    refine lv_aload_n hx hb dL_law_993 rfl (lv_at hl 3 rfl) ?_
    refine lv_iload hx hb dL_law_994 (lv_at hl 1 rfl) ?_
    refine lv_iconst (v := (nI 1)) hx hb dL_law_996 (by decide) ?_
    refine lv_asi (bI true) rfl ?_
    refine l_thi (As := [.int (nI i9), .int (bI true)]) (rest := []) S (n_draw l D a cI cL cO hl0 (b := true) hi12 ed H.size) (cwV 2 hts gL_law_X0_draw rfl rfl rfl (by decide +kernel) ⟨Nat.le_of_ble_eq_true rfl, Nat.le_of_ble_eq_true rfl⟩) hK hP1 hP2 (hD _ _ _ _) hES hEH hS hA rfl rfl oc_at0 rfl hl.1 rfl (Nat.le_of_ble_eq_true rfl) dL_law_997 ⟨by show _ ≤ 683036; omega, by show _ ≤ 7052515; omega⟩ (fun H locs hP1 hP2 hS => ?_)
    refine lv_istore (lv' := [(19, .int (bI (e9.testBit i9))), (17, .int (nI (pcN (d9 ^^^ e9) 12 - pcN (d9 ^^^ e9) i9))), (18, .int (nI i9)), (0, .ref b), (1, .ref (a 0)), (2, .ref q1), (3, .ref q2), (4, .int (nI su)), (5, .int (nI cp)), (6, .int (nI he)), (7, .int (nI 1)), (8, .int (nI T)), (9, .int (nI t)), (11, .int (nI Y)), (13, .int (nI m9)), (14, .int (nI st)), (15, .int (nI n9)), (16, .int (nI p9))]) hx hb dL_law_1000 hl (by decide) rfl (fun ls hl => ?_)
    refine lv_aload_n hx hb dL_law_1002 rfl (lv_at hl 4 rfl) ?_
    refine lv_iload hx hb dL_law_1003 (lv_at hl 2 rfl) ?_
    refine lv_iload hx hb dL_law_1005 (lv_at hl 0 rfl) ?_
    have ed3 : (u2 I 8 0 (nI (drw e9 i9 true))) 8 0 = nI (drw e9 i9 true) := rfl
    refine l_thi (As := [.int (nI i9), .int (bI (e9.testBit i9))]) (rest := []) S (n_draw l D a cI cL cO hl0 (b := e9.testBit i9) hi12 ed3 H.size) (cwV 2 hts gL_law_X0_draw rfl rfl rfl (by decide +kernel) ⟨Nat.le_of_ble_eq_true rfl, Nat.le_of_ble_eq_true rfl⟩) hK hP1 hP2 (hD _ _ _ _) hES hEH hS hA rfl rfl oc_at0 rfl hl.1 rfl (Nat.le_of_ble_eq_true rfl) dL_law_1007 ⟨by show _ ≤ 683036; omega, by show _ ≤ 7052515; omega⟩ (fun H locs hP1 hP2 hS => ?_)
    rw [drw_back, u2_u2, ← ed, u2_id] at hP1
    have e1 : (drw e9 i9 true).testBit i9 = true := by rw [drw_bit, if_pos rfl]
    refine lv_asi (nI 1) (by rw [e1]; rfl) ?_
    refine lv_istore (lv' := [(20, .int (nI 1)), (19, .int (bI (e9.testBit i9))), (17, .int (nI (pcN (d9 ^^^ e9) 12 - pcN (d9 ^^^ e9) i9))), (18, .int (nI i9)), (0, .ref b), (1, .ref (a 0)), (2, .ref q1), (3, .ref q2), (4, .int (nI su)), (5, .int (nI cp)), (6, .int (nI he)), (7, .int (nI 1)), (8, .int (nI T)), (9, .int (nI t)), (11, .int (nI Y)), (13, .int (nI m9)), (14, .int (nI st)), (15, .int (nI n9)), (16, .int (nI p9))]) hx hb dL_law_1010 hl (by decide) rfl (fun ls hl => ?_)
    refine lv_iload hx hb dL_law_1012 (lv_at hl 2 rfl) ?_
    refine lv_iload hx hb dL_law_1014 (lv_at hl 1 rfl) ?_
    refine lv_aload_n hx hb dL_law_1016 rfl (lv_at hl 7 rfl) ?_
    refine lv_iload hx hb dL_law_1017 (lv_at hl 3 rfl) ?_
    refine w_ild hx hb hK hP2 rfl (q0 := 1) rfl (hi12) (by decide) dL_law_1019 ?_
    cases hd8 : d9.testBit i9 with
    | true =>
      rw [hd8] at hdi hps
      refine lv_asi (nI 1) (hdi) ?_
      refine lv_iconst (v := (nI 1)) hx hb dL_law_1020 (by decide) ?_
      refine lv_icmp_ne (tgt := 1028) hx hb dL_law_1021 (by decide) (fun z => absurd ((nI_eq (a := 1) (b := 1) (by omega) (by omega)).mpr (by omega)) z) (fun _ => ?_)
      refine lv_iconst (v := (nI 1)) hx hb dL_law_1024 (by decide) ?_
      refine lv_goto (tgt := 1029) hx hb dL_law_1025 (by decide) ?_
      cases he8 : e9.testBit i9 with
      | true =>
        rw [he8] at hps
        have hps : pcN (d9 ^^^ e9) (i9 + 1) = pcN (d9 ^^^ e9) i9 + 0 := hps
        rw [he8] at hl
        have hl : lv_has ls 22 [(20, .int (nI 1)), (19, .int (nI 1)), (17, .int (nI (pcN (d9 ^^^ e9) 12 - pcN (d9 ^^^ e9) i9))), (18, .int (nI i9)), (0, .ref b), (1, .ref (a 0)), (2, .ref q1), (3, .ref q2), (4, .int (nI su)), (5, .int (nI cp)), (6, .int (nI he)), (7, .int (nI 1)), (8, .int (nI T)), (9, .int (nI t)), (11, .int (nI Y)), (13, .int (nI m9)), (14, .int (nI st)), (15, .int (nI n9)), (16, .int (nI p9))] := hl
        refine lv_as2 (nI 1) (by first | rfl | (rw [he8]; rfl)) ?_
        refine lv_icmp_ne (tgt := 1036) hx hb dL_law_1029 (by decide) (fun z => absurd ((nI_eq (a := 1) (b := 1) (by omega) (by omega)).mpr (by omega)) z) (fun _ => ?_)
        refine lv_iconst (v := (nI 0)) hx hb dL_law_1032 (by decide) ?_
        refine lv_goto (tgt := 1037) hx hb dL_law_1033 (by decide) ?_
        refine lv_isub hx hb dL_law_1037 ?_
        refine lv_asi (nI ((pcN (d9 ^^^ e9) 12 - pcN (d9 ^^^ e9) i9) - 0)) (pk_sub (by omega)) ?_
        refine lv_istore (lv' := [(17, .int (nI ((pcN (d9 ^^^ e9) 12 - pcN (d9 ^^^ e9) i9) - 0))), (20, .int (nI 1)), (19, .int (nI 1)), (18, .int (nI i9)), (0, .ref b), (1, .ref (a 0)), (2, .ref q1), (3, .ref q2), (4, .int (nI su)), (5, .int (nI cp)), (6, .int (nI he)), (7, .int (nI 1)), (8, .int (nI T)), (9, .int (nI t)), (11, .int (nI Y)), (13, .int (nI m9)), (14, .int (nI st)), (15, .int (nI n9)), (16, .int (nI p9))]) hx hb dL_law_1038 hl (by decide) rfl (fun ls hl => ?_)
        refine lv_aload_n hx hb dL_law_1040 rfl (lv_at hl 7 rfl) ?_
        refine lv_iload hx hb dL_law_1041 (lv_at hl 3 rfl) ?_
        refine lv_iload hx hb dL_law_1043 (lv_at hl 2 rfl) ?_
        refine lv_if_eq (tgt := 1052) hx hb dL_law_1045 (by decide) (fun z => absurd ((nI_eq (a := 1) (b := 0) (by omega) (by omega)).mp z) (by omega)) (fun _ => ?_)
        refine lv_iconst (v := (nI 1)) hx hb dL_law_1048 (by decide) ?_
        refine lv_goto (tgt := 1053) hx hb dL_law_1049 (by decide) ?_
        refine w_ist (w' := oc a cI cL cO I J ++ la cI q1 q2 W9 (upd Dn i9 (nI 1))) hx hb hK (va_P.app hP1 hP2) (hD _ _ _ _) hS rfl (q0 := 24) rfl rfl (hi12) (by decide) dL_law_1053 (fun H locs hP hS => ?_)
        have hP1 := hP.fst
        have hP2 := hP.snd
        refine lv_iload hx hb dL_law_1054 (lv_at hl 11 rfl) ?_
        refine lv_if_eq (tgt := 1068) hx hb dL_law_1056 (by decide) (fun z => absurd ((nI_eq (a := 1) (b := 0) (by omega) (by omega)).mp z) (by omega)) (fun _ => ?_)
        refine lv_iload hx hb dL_law_1059 (lv_at hl 1 rfl) ?_
        refine lv_if_eq (tgt := 1068) hx hb dL_law_1061 (by decide) (fun z => absurd ((nI_eq (a := 1) (b := 0) (by omega) (by omega)).mp z) (by omega)) (fun _ => ?_)
        refine lv_iconst (v := (nI 1)) hx hb dL_law_1064 (by decide) ?_
        refine lv_goto (tgt := 1069) hx hb dL_law_1065 (by decide) ?_
        refine lv_istore (lv' := [(7, .int (nI 1)), (17, .int (nI ((pcN (d9 ^^^ e9) 12 - pcN (d9 ^^^ e9) i9) - 0))), (20, .int (nI 1)), (19, .int (nI 1)), (18, .int (nI i9)), (0, .ref b), (1, .ref (a 0)), (2, .ref q1), (3, .ref q2), (4, .int (nI su)), (5, .int (nI cp)), (6, .int (nI he)), (8, .int (nI T)), (9, .int (nI t)), (11, .int (nI Y)), (13, .int (nI m9)), (14, .int (nI st)), (15, .int (nI n9)), (16, .int (nI p9))]) hx hb dL_law_1069 hl (by decide) rfl (fun ls hl => ?_)
        refine lv_iinc (v := (nI (i9 + 1))) (lv' := [(18, .int (nI (i9 + 1))), (7, .int (nI 1)), (17, .int (nI ((pcN (d9 ^^^ e9) 12 - pcN (d9 ^^^ e9) i9) - 0))), (20, .int (nI 1)), (19, .int (nI 1)), (0, .ref b), (1, .ref (a 0)), (2, .ref q1), (3, .ref q2), (4, .int (nI su)), (5, .int (nI cp)), (6, .int (nI he)), (8, .int (nI T)), (9, .int (nI t)), (11, .int (nI Y)), (13, .int (nI m9)), (14, .int (nI st)), (15, .int (nI n9)), (16, .int (nI p9))]) hx hb dL_law_1071 hl (k := 4) rfl (nI_inc _) (by decide) rfl (fun ls hl => ?_)
        refine lv_goto (tgt := 986) hx hb dL_law_1074 (by decide) ?_
        have e7 : (pcN (d9 ^^^ e9) 12 - pcN (d9 ^^^ e9) i9) - 0 = pcN (d9 ^^^ e9) 12 - pcN (d9 ^^^ e9) (i9 + 1) := by omega
        rw [e7] at hl
        refine W.widen (k := c9 + 1 + 2 * (i9 + 1)) (n := s9 + 6 + 12 * (i9 + 1)) (by omega) (by omega) ?_
        refine ih (i9 + 1) (by omega) H _ ls (upd Dn i9 (nI 1)) (fun k hk => ?_) hP1 hP2 hS (lv_sub hl [2, 0, 5, 6, 7, 8, 9, 10, 11, 1, 12, 13, 14, 15, 16, 17, 18] rfl)
        show upd Dn i9 (nI 1) k = _
        by_cases q : k = i9
        · rw [q, upd_at, if_pos (Nat.lt_succ_self i9), he8]
          rfl
        · rw [upd_ne q, hDn k hk]
          by_cases q2 : k < i9
          · rw [if_pos q2, if_pos (by omega)]
          · rw [if_neg q2, if_neg (by omega)]
      | false =>
        rw [he8] at hps
        have hps : pcN (d9 ^^^ e9) (i9 + 1) = pcN (d9 ^^^ e9) i9 + 1 := hps
        rw [he8] at hl
        have hl : lv_has ls 22 [(20, .int (nI 1)), (19, .int (nI 0)), (17, .int (nI (pcN (d9 ^^^ e9) 12 - pcN (d9 ^^^ e9) i9))), (18, .int (nI i9)), (0, .ref b), (1, .ref (a 0)), (2, .ref q1), (3, .ref q2), (4, .int (nI su)), (5, .int (nI cp)), (6, .int (nI he)), (7, .int (nI 1)), (8, .int (nI T)), (9, .int (nI t)), (11, .int (nI Y)), (13, .int (nI m9)), (14, .int (nI st)), (15, .int (nI n9)), (16, .int (nI p9))] := hl
        refine lv_as2 (nI 0) (by first | rfl | (rw [he8]; rfl)) ?_
        refine lv_icmp_ne (tgt := 1036) hx hb dL_law_1029 (by decide) (fun _ => ?_) (fun z => absurd ((nI_eq (a := 0) (b := 1) (by omega) (by omega)).mp z) (by omega))
        refine lv_iconst (v := (nI 1)) hx hb dL_law_1036 (by decide) ?_
        refine lv_isub hx hb dL_law_1037 ?_
        refine lv_asi (nI ((pcN (d9 ^^^ e9) 12 - pcN (d9 ^^^ e9) i9) - 1)) (pk_sub (by omega)) ?_
        refine lv_istore (lv' := [(17, .int (nI ((pcN (d9 ^^^ e9) 12 - pcN (d9 ^^^ e9) i9) - 1))), (20, .int (nI 1)), (19, .int (nI 0)), (18, .int (nI i9)), (0, .ref b), (1, .ref (a 0)), (2, .ref q1), (3, .ref q2), (4, .int (nI su)), (5, .int (nI cp)), (6, .int (nI he)), (7, .int (nI 1)), (8, .int (nI T)), (9, .int (nI t)), (11, .int (nI Y)), (13, .int (nI m9)), (14, .int (nI st)), (15, .int (nI n9)), (16, .int (nI p9))]) hx hb dL_law_1038 hl (by decide) rfl (fun ls hl => ?_)
        refine lv_aload_n hx hb dL_law_1040 rfl (lv_at hl 7 rfl) ?_
        refine lv_iload hx hb dL_law_1041 (lv_at hl 3 rfl) ?_
        refine lv_iload hx hb dL_law_1043 (lv_at hl 2 rfl) ?_
        refine lv_if_eq (tgt := 1052) hx hb dL_law_1045 (by decide) (fun _ => ?_) (fun z => absurd ((nI_eq (a := 0) (b := 0) (by omega) (by omega)).mpr (by omega)) z)
        refine lv_iconst (v := (nI 0)) hx hb dL_law_1052 (by decide) ?_
        refine w_ist (w' := oc a cI cL cO I J ++ la cI q1 q2 W9 (upd Dn i9 (nI 0))) hx hb hK (va_P.app hP1 hP2) (hD _ _ _ _) hS rfl (q0 := 24) rfl rfl (hi12) (by decide) dL_law_1053 (fun H locs hP hS => ?_)
        have hP1 := hP.fst
        have hP2 := hP.snd
        refine lv_iload hx hb dL_law_1054 (lv_at hl 11 rfl) ?_
        refine lv_if_eq (tgt := 1068) hx hb dL_law_1056 (by decide) (fun z => absurd ((nI_eq (a := 1) (b := 0) (by omega) (by omega)).mp z) (by omega)) (fun _ => ?_)
        refine lv_iload hx hb dL_law_1059 (lv_at hl 1 rfl) ?_
        refine lv_if_eq (tgt := 1068) hx hb dL_law_1061 (by decide) (fun z => absurd ((nI_eq (a := 1) (b := 0) (by omega) (by omega)).mp z) (by omega)) (fun _ => ?_)
        refine lv_iconst (v := (nI 1)) hx hb dL_law_1064 (by decide) ?_
        refine lv_goto (tgt := 1069) hx hb dL_law_1065 (by decide) ?_
        refine lv_istore (lv' := [(7, .int (nI 1)), (17, .int (nI ((pcN (d9 ^^^ e9) 12 - pcN (d9 ^^^ e9) i9) - 1))), (20, .int (nI 1)), (19, .int (nI 0)), (18, .int (nI i9)), (0, .ref b), (1, .ref (a 0)), (2, .ref q1), (3, .ref q2), (4, .int (nI su)), (5, .int (nI cp)), (6, .int (nI he)), (8, .int (nI T)), (9, .int (nI t)), (11, .int (nI Y)), (13, .int (nI m9)), (14, .int (nI st)), (15, .int (nI n9)), (16, .int (nI p9))]) hx hb dL_law_1069 hl (by decide) rfl (fun ls hl => ?_)
        refine lv_iinc (v := (nI (i9 + 1))) (lv' := [(18, .int (nI (i9 + 1))), (7, .int (nI 1)), (17, .int (nI ((pcN (d9 ^^^ e9) 12 - pcN (d9 ^^^ e9) i9) - 1))), (20, .int (nI 1)), (19, .int (nI 0)), (0, .ref b), (1, .ref (a 0)), (2, .ref q1), (3, .ref q2), (4, .int (nI su)), (5, .int (nI cp)), (6, .int (nI he)), (8, .int (nI T)), (9, .int (nI t)), (11, .int (nI Y)), (13, .int (nI m9)), (14, .int (nI st)), (15, .int (nI n9)), (16, .int (nI p9))]) hx hb dL_law_1071 hl (k := 4) rfl (nI_inc _) (by decide) rfl (fun ls hl => ?_)
        refine lv_goto (tgt := 986) hx hb dL_law_1074 (by decide) ?_
        have e7 : (pcN (d9 ^^^ e9) 12 - pcN (d9 ^^^ e9) i9) - 1 = pcN (d9 ^^^ e9) 12 - pcN (d9 ^^^ e9) (i9 + 1) := by omega
        rw [e7] at hl
        refine W.widen (k := c9 + 1 + 2 * (i9 + 1)) (n := s9 + 6 + 12 * (i9 + 1)) (by omega) (by omega) ?_
        refine ih (i9 + 1) (by omega) H _ ls (upd Dn i9 (nI 0)) (fun k hk => ?_) hP1 hP2 hS (lv_sub hl [2, 0, 5, 6, 7, 8, 9, 10, 11, 1, 12, 13, 14, 15, 16, 17, 18] rfl)
        show upd Dn i9 (nI 0) k = _
        by_cases q : k = i9
        · rw [q, upd_at, if_pos (Nat.lt_succ_self i9), he8]
          rfl
        · rw [upd_ne q, hDn k hk]
          by_cases q2 : k < i9
          · rw [if_pos q2, if_pos (by omega)]
          · rw [if_neg q2, if_neg (by omega)]
    | false =>
      rw [hd8] at hdi hps
      refine lv_asi (nI 0) (hdi) ?_
      refine lv_iconst (v := (nI 1)) hx hb dL_law_1020 (by decide) ?_
      refine lv_icmp_ne (tgt := 1028) hx hb dL_law_1021 (by decide) (fun _ => ?_) (fun z => absurd ((nI_eq (a := 0) (b := 1) (by omega) (by omega)).mp z) (by omega))
      refine lv_iconst (v := (nI 0)) hx hb dL_law_1028 (by decide) ?_
      cases he8 : e9.testBit i9 with
      | true =>
        rw [he8] at hps
        have hps : pcN (d9 ^^^ e9) (i9 + 1) = pcN (d9 ^^^ e9) i9 + 1 := hps
        rw [he8] at hl
        have hl : lv_has ls 22 [(20, .int (nI 1)), (19, .int (nI 1)), (17, .int (nI (pcN (d9 ^^^ e9) 12 - pcN (d9 ^^^ e9) i9))), (18, .int (nI i9)), (0, .ref b), (1, .ref (a 0)), (2, .ref q1), (3, .ref q2), (4, .int (nI su)), (5, .int (nI cp)), (6, .int (nI he)), (7, .int (nI 1)), (8, .int (nI T)), (9, .int (nI t)), (11, .int (nI Y)), (13, .int (nI m9)), (14, .int (nI st)), (15, .int (nI n9)), (16, .int (nI p9))] := hl
        refine lv_as2 (nI 1) (by first | rfl | (rw [he8]; rfl)) ?_
        refine lv_icmp_ne (tgt := 1036) hx hb dL_law_1029 (by decide) (fun _ => ?_) (fun z => absurd ((nI_eq (a := 1) (b := 0) (by omega) (by omega)).mp z) (by omega))
        refine lv_iconst (v := (nI 1)) hx hb dL_law_1036 (by decide) ?_
        refine lv_isub hx hb dL_law_1037 ?_
        refine lv_asi (nI ((pcN (d9 ^^^ e9) 12 - pcN (d9 ^^^ e9) i9) - 1)) (pk_sub (by omega)) ?_
        refine lv_istore (lv' := [(17, .int (nI ((pcN (d9 ^^^ e9) 12 - pcN (d9 ^^^ e9) i9) - 1))), (20, .int (nI 1)), (19, .int (nI 1)), (18, .int (nI i9)), (0, .ref b), (1, .ref (a 0)), (2, .ref q1), (3, .ref q2), (4, .int (nI su)), (5, .int (nI cp)), (6, .int (nI he)), (7, .int (nI 1)), (8, .int (nI T)), (9, .int (nI t)), (11, .int (nI Y)), (13, .int (nI m9)), (14, .int (nI st)), (15, .int (nI n9)), (16, .int (nI p9))]) hx hb dL_law_1038 hl (by decide) rfl (fun ls hl => ?_)
        refine lv_aload_n hx hb dL_law_1040 rfl (lv_at hl 7 rfl) ?_
        refine lv_iload hx hb dL_law_1041 (lv_at hl 3 rfl) ?_
        refine lv_iload hx hb dL_law_1043 (lv_at hl 2 rfl) ?_
        refine lv_if_eq (tgt := 1052) hx hb dL_law_1045 (by decide) (fun z => absurd ((nI_eq (a := 1) (b := 0) (by omega) (by omega)).mp z) (by omega)) (fun _ => ?_)
        refine lv_iconst (v := (nI 1)) hx hb dL_law_1048 (by decide) ?_
        refine lv_goto (tgt := 1053) hx hb dL_law_1049 (by decide) ?_
        refine w_ist (w' := oc a cI cL cO I J ++ la cI q1 q2 W9 (upd Dn i9 (nI 1))) hx hb hK (va_P.app hP1 hP2) (hD _ _ _ _) hS rfl (q0 := 24) rfl rfl (hi12) (by decide) dL_law_1053 (fun H locs hP hS => ?_)
        have hP1 := hP.fst
        have hP2 := hP.snd
        refine lv_iload hx hb dL_law_1054 (lv_at hl 11 rfl) ?_
        refine lv_if_eq (tgt := 1068) hx hb dL_law_1056 (by decide) (fun z => absurd ((nI_eq (a := 1) (b := 0) (by omega) (by omega)).mp z) (by omega)) (fun _ => ?_)
        refine lv_iload hx hb dL_law_1059 (lv_at hl 1 rfl) ?_
        refine lv_if_eq (tgt := 1068) hx hb dL_law_1061 (by decide) (fun z => absurd ((nI_eq (a := 1) (b := 0) (by omega) (by omega)).mp z) (by omega)) (fun _ => ?_)
        refine lv_iconst (v := (nI 1)) hx hb dL_law_1064 (by decide) ?_
        refine lv_goto (tgt := 1069) hx hb dL_law_1065 (by decide) ?_
        refine lv_istore (lv' := [(7, .int (nI 1)), (17, .int (nI ((pcN (d9 ^^^ e9) 12 - pcN (d9 ^^^ e9) i9) - 1))), (20, .int (nI 1)), (19, .int (nI 1)), (18, .int (nI i9)), (0, .ref b), (1, .ref (a 0)), (2, .ref q1), (3, .ref q2), (4, .int (nI su)), (5, .int (nI cp)), (6, .int (nI he)), (8, .int (nI T)), (9, .int (nI t)), (11, .int (nI Y)), (13, .int (nI m9)), (14, .int (nI st)), (15, .int (nI n9)), (16, .int (nI p9))]) hx hb dL_law_1069 hl (by decide) rfl (fun ls hl => ?_)
        refine lv_iinc (v := (nI (i9 + 1))) (lv' := [(18, .int (nI (i9 + 1))), (7, .int (nI 1)), (17, .int (nI ((pcN (d9 ^^^ e9) 12 - pcN (d9 ^^^ e9) i9) - 1))), (20, .int (nI 1)), (19, .int (nI 1)), (0, .ref b), (1, .ref (a 0)), (2, .ref q1), (3, .ref q2), (4, .int (nI su)), (5, .int (nI cp)), (6, .int (nI he)), (8, .int (nI T)), (9, .int (nI t)), (11, .int (nI Y)), (13, .int (nI m9)), (14, .int (nI st)), (15, .int (nI n9)), (16, .int (nI p9))]) hx hb dL_law_1071 hl (k := 4) rfl (nI_inc _) (by decide) rfl (fun ls hl => ?_)
        refine lv_goto (tgt := 986) hx hb dL_law_1074 (by decide) ?_
        have e7 : (pcN (d9 ^^^ e9) 12 - pcN (d9 ^^^ e9) i9) - 1 = pcN (d9 ^^^ e9) 12 - pcN (d9 ^^^ e9) (i9 + 1) := by omega
        rw [e7] at hl
        refine W.widen (k := c9 + 1 + 2 * (i9 + 1)) (n := s9 + 6 + 12 * (i9 + 1)) (by omega) (by omega) ?_
        refine ih (i9 + 1) (by omega) H _ ls (upd Dn i9 (nI 1)) (fun k hk => ?_) hP1 hP2 hS (lv_sub hl [2, 0, 5, 6, 7, 8, 9, 10, 11, 1, 12, 13, 14, 15, 16, 17, 18] rfl)
        show upd Dn i9 (nI 1) k = _
        by_cases q : k = i9
        · rw [q, upd_at, if_pos (Nat.lt_succ_self i9), he8]
          rfl
        · rw [upd_ne q, hDn k hk]
          by_cases q2 : k < i9
          · rw [if_pos q2, if_pos (by omega)]
          · rw [if_neg q2, if_neg (by omega)]
      | false =>
        rw [he8] at hps
        have hps : pcN (d9 ^^^ e9) (i9 + 1) = pcN (d9 ^^^ e9) i9 + 0 := hps
        rw [he8] at hl
        have hl : lv_has ls 22 [(20, .int (nI 1)), (19, .int (nI 0)), (17, .int (nI (pcN (d9 ^^^ e9) 12 - pcN (d9 ^^^ e9) i9))), (18, .int (nI i9)), (0, .ref b), (1, .ref (a 0)), (2, .ref q1), (3, .ref q2), (4, .int (nI su)), (5, .int (nI cp)), (6, .int (nI he)), (7, .int (nI 1)), (8, .int (nI T)), (9, .int (nI t)), (11, .int (nI Y)), (13, .int (nI m9)), (14, .int (nI st)), (15, .int (nI n9)), (16, .int (nI p9))] := hl
        refine lv_as2 (nI 0) (by first | rfl | (rw [he8]; rfl)) ?_
        refine lv_icmp_ne (tgt := 1036) hx hb dL_law_1029 (by decide) (fun z => absurd ((nI_eq (a := 0) (b := 0) (by omega) (by omega)).mpr (by omega)) z) (fun _ => ?_)
        refine lv_iconst (v := (nI 0)) hx hb dL_law_1032 (by decide) ?_
        refine lv_goto (tgt := 1037) hx hb dL_law_1033 (by decide) ?_
        refine lv_isub hx hb dL_law_1037 ?_
        refine lv_asi (nI ((pcN (d9 ^^^ e9) 12 - pcN (d9 ^^^ e9) i9) - 0)) (pk_sub (by omega)) ?_
        refine lv_istore (lv' := [(17, .int (nI ((pcN (d9 ^^^ e9) 12 - pcN (d9 ^^^ e9) i9) - 0))), (20, .int (nI 1)), (19, .int (nI 0)), (18, .int (nI i9)), (0, .ref b), (1, .ref (a 0)), (2, .ref q1), (3, .ref q2), (4, .int (nI su)), (5, .int (nI cp)), (6, .int (nI he)), (7, .int (nI 1)), (8, .int (nI T)), (9, .int (nI t)), (11, .int (nI Y)), (13, .int (nI m9)), (14, .int (nI st)), (15, .int (nI n9)), (16, .int (nI p9))]) hx hb dL_law_1038 hl (by decide) rfl (fun ls hl => ?_)
        refine lv_aload_n hx hb dL_law_1040 rfl (lv_at hl 7 rfl) ?_
        refine lv_iload hx hb dL_law_1041 (lv_at hl 3 rfl) ?_
        refine lv_iload hx hb dL_law_1043 (lv_at hl 2 rfl) ?_
        refine lv_if_eq (tgt := 1052) hx hb dL_law_1045 (by decide) (fun _ => ?_) (fun z => absurd ((nI_eq (a := 0) (b := 0) (by omega) (by omega)).mpr (by omega)) z)
        refine lv_iconst (v := (nI 0)) hx hb dL_law_1052 (by decide) ?_
        refine w_ist (w' := oc a cI cL cO I J ++ la cI q1 q2 W9 (upd Dn i9 (nI 0))) hx hb hK (va_P.app hP1 hP2) (hD _ _ _ _) hS rfl (q0 := 24) rfl rfl (hi12) (by decide) dL_law_1053 (fun H locs hP hS => ?_)
        have hP1 := hP.fst
        have hP2 := hP.snd
        refine lv_iload hx hb dL_law_1054 (lv_at hl 11 rfl) ?_
        refine lv_if_eq (tgt := 1068) hx hb dL_law_1056 (by decide) (fun z => absurd ((nI_eq (a := 1) (b := 0) (by omega) (by omega)).mp z) (by omega)) (fun _ => ?_)
        refine lv_iload hx hb dL_law_1059 (lv_at hl 1 rfl) ?_
        refine lv_if_eq (tgt := 1068) hx hb dL_law_1061 (by decide) (fun z => absurd ((nI_eq (a := 1) (b := 0) (by omega) (by omega)).mp z) (by omega)) (fun _ => ?_)
        refine lv_iconst (v := (nI 1)) hx hb dL_law_1064 (by decide) ?_
        refine lv_goto (tgt := 1069) hx hb dL_law_1065 (by decide) ?_
        refine lv_istore (lv' := [(7, .int (nI 1)), (17, .int (nI ((pcN (d9 ^^^ e9) 12 - pcN (d9 ^^^ e9) i9) - 0))), (20, .int (nI 1)), (19, .int (nI 0)), (18, .int (nI i9)), (0, .ref b), (1, .ref (a 0)), (2, .ref q1), (3, .ref q2), (4, .int (nI su)), (5, .int (nI cp)), (6, .int (nI he)), (8, .int (nI T)), (9, .int (nI t)), (11, .int (nI Y)), (13, .int (nI m9)), (14, .int (nI st)), (15, .int (nI n9)), (16, .int (nI p9))]) hx hb dL_law_1069 hl (by decide) rfl (fun ls hl => ?_)
        refine lv_iinc (v := (nI (i9 + 1))) (lv' := [(18, .int (nI (i9 + 1))), (7, .int (nI 1)), (17, .int (nI ((pcN (d9 ^^^ e9) 12 - pcN (d9 ^^^ e9) i9) - 0))), (20, .int (nI 1)), (19, .int (nI 0)), (0, .ref b), (1, .ref (a 0)), (2, .ref q1), (3, .ref q2), (4, .int (nI su)), (5, .int (nI cp)), (6, .int (nI he)), (8, .int (nI T)), (9, .int (nI t)), (11, .int (nI Y)), (13, .int (nI m9)), (14, .int (nI st)), (15, .int (nI n9)), (16, .int (nI p9))]) hx hb dL_law_1071 hl (k := 4) rfl (nI_inc _) (by decide) rfl (fun ls hl => ?_)
        refine lv_goto (tgt := 986) hx hb dL_law_1074 (by decide) ?_
        have e7 : (pcN (d9 ^^^ e9) 12 - pcN (d9 ^^^ e9) i9) - 0 = pcN (d9 ^^^ e9) 12 - pcN (d9 ^^^ e9) (i9 + 1) := by omega
        rw [e7] at hl
        refine W.widen (k := c9 + 1 + 2 * (i9 + 1)) (n := s9 + 6 + 12 * (i9 + 1)) (by omega) (by omega) ?_
        refine ih (i9 + 1) (by omega) H _ ls (upd Dn i9 (nI 0)) (fun k hk => ?_) hP1 hP2 hS (lv_sub hl [2, 0, 5, 6, 7, 8, 9, 10, 11, 1, 12, 13, 14, 15, 16, 17, 18] rfl)
        show upd Dn i9 (nI 0) k = _
        by_cases q : k = i9
        · rw [q, upd_at, if_pos (Nat.lt_succ_self i9), he8]
          rfl
        · rw [upd_ne q, hDn k hk]
          by_cases q2 : k < i9
          · rw [if_pos q2, if_pos (by omega)]
          · rw [if_neg q2, if_neg (by omega)]
set_option maxHeartbeats 1000000 in
set_option maxRecDepth 100000 in
theorem deed_11 {p : Program} {l : Launch} {e : Env} {s : State} {m : MethodId} {below : List Frame} {meth : Method} {c : Code} {H : Heap} {locs : List Loc} {Q : State → Prop} {ls : Array Slot} {D : va_G} {a : Nat → Nat} {q1 q2 b L T t Y m9 st n9 p9 su cp he c9 s9 : Nat} {cI cL cO : ClassId} {xs : Nat → Int32} {I : Nat → Nat → Int32} {J : Nat → Nat → Int64} {h : Nat → Nat} {W9 Dn : Nat → Int32} (C : LC p l s m c D a q1 q2 b cI cL cO L xs) (hLI : LI I J h W9 Dn su cp he) (hP1 : va_P D vwCl (oc a cI cL cO I J) H) (hP2 : va_P D vwCl (la cI q1 q2 W9 Dn) H) (hS : va_S (fr s) s.heap H locs) (hY : Y < 2 ^ 28) (hm : m9 < 3) (hst : st < 12) (hn9 : nd I h = n9) (hp9 : pp I h = p9) (hR : c9 + 2800 ≤ 683036 ∧ s9 + 17000 ≤ 7052515) (K : LK p l e s m below meth c Q D a q1 q2 b cI cL cO T t c9 s9) (hl : lv_has ls 22 [(0, .ref b), (1, .ref (a 0)), (2, .ref q1), (3, .ref q2), (4, .int (nI su)), (5, .int (nI cp)), (6, .int (nI he)), (7, .int (nI 1)), (8, .int (nI T)), (9, .int (nI t)), (11, .int (nI Y)), (13, .int (nI m9)), (14, .int (nI st)), (15, .int (nI n9)), (16, .int (nI p9))]) : W p l e room_1 s m #[Value.ref b] below meth c H locs c9 s9 Q (F0 m 972 ls []) := by
  have hD := C.D
  have C' := C
  obtain ⟨hl0, S, hK, -, hES, hEH, hX, hbl, hL⟩ := C'
  have hx := S.1
  have hb := S.2.1
  have hown := S.2.2.2.1
  have hts := S.2.2.2.2
  have hA : ∀ z9 : Nat, s.heap.size ≤ z9 → fr s z9 := fun _ h => h
  obtain ⟨hG, hJ, hW, hDn, hsu, hcp, hhe⟩ := hLI
  have bn : n9 ≤ 5124 := hn9 ▸ nd_bd hG _
  have bp : p9 ≤ 366 := hp9 ▸ pp_bd _
  have bc : cp ≤ 3 := hcp ▸ cc_3 hG
  obtain ⟨d9, hd9, ed⟩ := hG.2.2.1
  obtain ⟨e9, he9, ee⟩ := hG.2.2.2.2.2.2.2.1 (Y % 8) (by omega)
  refine lv_aload_n hx hb dL_law_972 rfl (lv_at hl 1 rfl) ?_
  refine lv_iload hx hb dL_law_973 (lv_at hl 10 rfl) ?_
  refine lv_bipush (v := (nI 7)) hx hb dL_law_975 (by decide) ?_
  refine lv_iand hx hb dL_law_977 ?_
  refine lv_asi (nI (Y % 8)) (pk_andN (by omega) 3 (by decide)) ?_
  refine l_thi (As := [.int (nI (Y % 8))]) (rest := []) S (n_recall l D a cI cL cO hl0 (by omega) ed hd9 ee he9 H.size) (cwV 1 hts gL_law_X0_recall rfl rfl rfl (by decide +kernel) ⟨Nat.le_of_ble_eq_true rfl, Nat.le_of_ble_eq_true rfl⟩) hK hP1 hP2 (hD _ _ _ _) hES hEH hS hA rfl rfl oc_at0 rfl hl.1 rfl (Nat.le_of_ble_eq_true rfl) dL_law_978 ⟨by show _ ≤ 683036; omega, by show _ ≤ 7052515; omega⟩ (fun H locs hP1 hP2 hS => ?_)
  have hG2 := gi_d hG he9
  have ed2 : (u2 I 8 0 (nI e9)) 8 0 = nI e9 := rfl
  have hc2 : ccN (u2 I 8 0 (nI e9)) = cp := (cc_same (fun f hf => u2_ne (by omega) _ _)).trans hcp
  have hs2 : suN (u2 I 8 0 (nI e9)) = su := hsu
  have hW2 : ∀ r, r < 6 → W9 r = (u2 I 8 0 (nI e9)) 1 r := hW
  generalize u2 I 8 0 (nI e9) = I2 at *
  refine lv_istore (lv' := [(17, .int (nI (pcN (d9 ^^^ e9) 12))), (0, .ref b), (1, .ref (a 0)), (2, .ref q1), (3, .ref q2), (4, .int (nI su)), (5, .int (nI cp)), (6, .int (nI he)), (7, .int (nI 1)), (8, .int (nI T)), (9, .int (nI t)), (11, .int (nI Y)), (13, .int (nI m9)), (14, .int (nI st)), (15, .int (nI n9)), (16, .int (nI p9))]) hx hb dL_law_981 hl (by decide) rfl (fun ls hl => ?_)
  refine lv_iconst (v := (nI 0)) hx hb dL_law_983 (by decide) ?_
  refine lv_istore (lv' := [(18, .int (nI 0)), (17, .int (nI (pcN (d9 ^^^ e9) 12))), (0, .ref b), (1, .ref (a 0)), (2, .ref q1), (3, .ref q2), (4, .int (nI su)), (5, .int (nI cp)), (6, .int (nI he)), (7, .int (nI 1)), (8, .int (nI T)), (9, .int (nI t)), (11, .int (nI Y)), (13, .int (nI m9)), (14, .int (nI st)), (15, .int (nI n9)), (16, .int (nI p9))]) hx hb dL_law_984 hl (by decide) rfl (fun ls hl => ?_)
  refine loop_11 C hd9 he9 ed2 hR (fun H locs ls Dn hDn hP1 hP2 hS hl => ?_) 12 0 rfl H _ ls Dn (fun k hk => by rw [if_neg (Nat.not_lt_zero k), hDn k hk, ed, dr_bit hk]) hP1 hP2 hS (lv_sub hl [1, 0, 2, 3, 4, 5, 6, 7, 8, 9, 10, 11, 12, 13, 14, 15, 16] rfl)
  refine lv_iload hx hb dL_law_1077 (lv_at hl 9 rfl) ?_
  refine lv_if_eq (tgt := 1091) hx hb dL_law_1079 (by decide) (fun z => absurd ((nI_eq (a := 1) (b := 0) (by omega) (by omega)).mp z) (by omega)) (fun _ => ?_)
  refine lv_iload hx hb dL_law_1082 (lv_at hl 0 rfl) ?_
  refine lv_asi (nI 0) (congrArg nI (Nat.sub_self _)) ?_
  refine lv_if_ne (tgt := 1091) hx hb dL_law_1084 (by decide) (fun z => absurd ((nI_eq (a := 0) (b := 0) (by omega) (by omega)).mpr (by omega)) z) (fun _ => ?_)
  refine lv_iconst (v := (nI 1)) hx hb dL_law_1087 (by decide) ?_
  refine lv_goto (tgt := 1092) hx hb dL_law_1088 (by decide) ?_
  refine lv_istore (lv' := [(7, .int (nI 1)), (17, .int (nI (pcN (d9 ^^^ e9) 12 - pcN (d9 ^^^ e9) 12))), (18, .int (nI 12)), (0, .ref b), (1, .ref (a 0)), (2, .ref q1), (3, .ref q2), (4, .int (nI su)), (5, .int (nI cp)), (6, .int (nI he)), (8, .int (nI T)), (9, .int (nI t)), (11, .int (nI Y)), (13, .int (nI m9)), (14, .int (nI st)), (15, .int (nI n9)), (16, .int (nI p9))]) hx hb dL_law_1092 hl (by decide) rfl (fun ls hl => ?_)
  refine lv_goto (tgt := 1518) hx hb dL_law_1094 (by decide) ?_
  refine W.widen (k := c9 + 200) (n := s9 + 1200) (by omega) (by omega) ?_
  exact K H _ ls I2 J h W9 Dn su cp he ⟨hG2, hJ, hW2, (fun k hk => by rw [hDn k hk, ed2, dr_bit hk]), hs2, hc2, hhe⟩ hP1 hP2 hS (lv_sub hl [0, 3, 4, 5, 6, 7, 8, 9, 10, 11] rfl)
set_option maxHeartbeats 1000000 in
set_option maxRecDepth 100000 in
theorem deed_12 {p : Program} {l : Launch} {e : Env} {s : State} {m : MethodId} {below : List Frame} {meth : Method} {c : Code} {H : Heap} {locs : List Loc} {Q : State → Prop} {ls : Array Slot} {D : va_G} {a : Nat → Nat} {q1 q2 b L T t Y m9 st n9 p9 su cp he c9 s9 : Nat} {cI cL cO : ClassId} {xs : Nat → Int32} {I : Nat → Nat → Int32} {J : Nat → Nat → Int64} {h : Nat → Nat} {W9 Dn : Nat → Int32} (C : LC p l s m c D a q1 q2 b cI cL cO L xs) (hLI : LI I J h W9 Dn su cp he) (hP1 : va_P D vwCl (oc a cI cL cO I J) H) (hP2 : va_P D vwCl (la cI q1 q2 W9 Dn) H) (hS : va_S (fr s) s.heap H locs) (hY : Y < 2 ^ 28) (hm : m9 < 3) (hst : st < 12) (hn9 : nd I h = n9) (hp9 : pp I h = p9) (hR : c9 + 2800 ≤ 683036 ∧ s9 + 17000 ≤ 7052515) (K : LK p l e s m below meth c Q D a q1 q2 b cI cL cO T t c9 s9) (hl : lv_has ls 22 [(0, .ref b), (1, .ref (a 0)), (2, .ref q1), (3, .ref q2), (4, .int (nI su)), (5, .int (nI cp)), (6, .int (nI he)), (7, .int (nI 1)), (8, .int (nI T)), (9, .int (nI t)), (11, .int (nI Y)), (13, .int (nI m9)), (14, .int (nI st)), (15, .int (nI n9)), (16, .int (nI p9))]) : W p l e room_1 s m #[Value.ref b] below meth c H locs c9 s9 Q (F0 m 1104 ls []) := by
  have hD := C.D
  have C' := C
  obtain ⟨hl0, S, hK, -, hES, hEH, hX, hbl, hL⟩ := C'
  have hx := S.1
  have hb := S.2.1
  have hown := S.2.2.2.1
  have hts := S.2.2.2.2
  have hA : ∀ z9 : Nat, s.heap.size ≤ z9 → fr s z9 := fun _ h => h
  obtain ⟨hG, hJ, hW, hDn, hsu, hcp, hhe⟩ := hLI
  have bn : n9 ≤ 5124 := hn9 ▸ nd_bd hG _
  have bp : p9 ≤ 366 := hp9 ▸ pp_bd _
  have bc : cp ≤ 3 := hcp ▸ cc_3 hG
  obtain ⟨tm, htm, ht1, ht5⟩ : ∃ tm, tm = 1 + Y / 4 % 50 ∧ 1 ≤ tm ∧ tm ≤ 50 := ⟨_, rfl, by omega, by omega⟩
  obtain ⟨r9, hr9, hr6⟩ : ∃ r9, r9 = Y % 6 ∧ r9 < 6 := ⟨_, rfl, by omega⟩
  obtain ⟨k9, hk9, hk61⟩ : ∃ k9, k9 = Y / 32 % 61 ∧ k9 < 61 := ⟨_, rfl, by omega⟩
  refine lv_iconst (v := (nI 1)) hx hb dL_law_1104 (by decide) ?_
  refine lv_iload hx hb dL_law_1105 (lv_at hl 10 rfl) ?_
  refine lv_iconst (v := (nI 2)) hx hb dL_law_1107 (by decide) ?_
  refine lv_ishr hx hb dL_law_1108 ?_
  refine lv_asi (nI (Y / 4)) (pk_shrN (by omega) _ 2 (by decide)) ?_
  refine lv_bipush (v := (nI 50)) hx hb dL_law_1109 (by decide) ?_
  refine lv_irem hx hb dL_law_1111 (by decide) ?_
  refine lv_asi (nI ((Y / 4) % 50)) (pk_rem (by omega) (by omega) (by omega)) ?_
  refine lv_iadd hx hb dL_law_1112 ?_
  refine lv_asi (nI (1 + ((Y / 4) % 50))) (nI_add _ _) ?_
  refine lv_asi (nI tm) (congrArg nI htm.symm) ?_
  refine lv_istore (lv' := [(17, .int (nI tm)), (0, .ref b), (1, .ref (a 0)), (2, .ref q1), (3, .ref q2), (4, .int (nI su)), (5, .int (nI cp)), (6, .int (nI he)), (7, .int (nI 1)), (8, .int (nI T)), (9, .int (nI t)), (11, .int (nI Y)), (13, .int (nI m9)), (14, .int (nI st)), (15, .int (nI n9)), (16, .int (nI p9))]) hx hb dL_law_1113 hl (by decide) rfl (fun ls hl => ?_)
  refine lv_iload hx hb dL_law_1115 (lv_at hl 11 rfl) ?_
  refine lv_bipush (v := (nI 6)) hx hb dL_law_1117 (by decide) ?_
  refine lv_irem hx hb dL_law_1119 (by decide) ?_
  refine lv_asi (nI (Y % 6)) (pk_rem (by omega) (by omega) (by omega)) ?_
  refine lv_asi (nI r9) (congrArg nI hr9.symm) ?_
  refine lv_istore (lv' := [(18, .int (nI r9)), (17, .int (nI tm)), (0, .ref b), (1, .ref (a 0)), (2, .ref q1), (3, .ref q2), (4, .int (nI su)), (5, .int (nI cp)), (6, .int (nI he)), (7, .int (nI 1)), (8, .int (nI T)), (9, .int (nI t)), (11, .int (nI Y)), (13, .int (nI m9)), (14, .int (nI st)), (15, .int (nI n9)), (16, .int (nI p9))]) hx hb dL_law_1120 hl (by decide) rfl (fun ls hl => ?_)
  refine lv_iload hx hb dL_law_1122 (lv_at hl 12 rfl) ?_
  refine lv_iconst (v := (nI 5)) hx hb dL_law_1124 (by decide) ?_
  refine lv_ishr hx hb dL_law_1125 ?_
  refine lv_asi (nI (Y / 32)) (pk_shrN (by omega) _ 5 (by decide)) ?_
  refine lv_bipush (v := (nI 61)) hx hb dL_law_1126 (by decide) ?_
  refine lv_irem hx hb dL_law_1128 (by decide) ?_
  refine lv_asi (nI ((Y / 32) % 61)) (pk_rem (by omega) (by omega) (by omega)) ?_
  refine lv_asi (nI k9) (congrArg nI hk9.symm) ?_
  refine lv_istore (lv' := [(19, .int (nI k9)), (18, .int (nI r9)), (17, .int (nI tm)), (0, .ref b), (1, .ref (a 0)), (2, .ref q1), (3, .ref q2), (4, .int (nI su)), (5, .int (nI cp)), (6, .int (nI he)), (7, .int (nI 1)), (8, .int (nI T)), (9, .int (nI t)), (11, .int (nI Y)), (13, .int (nI m9)), (14, .int (nI st)), (15, .int (nI n9)), (16, .int (nI p9))]) hx hb dL_law_1129 hl (by decide) rfl (fun ls hl => ?_)
  refine lv_aload_n hx hb dL_law_1131 rfl (lv_at hl 4 rfl) ?_
  refine lv_iload hx hb dL_law_1132 (lv_at hl 1 rfl) ?_
  refine lv_iload hx hb dL_law_1134 (lv_at hl 0 rfl) ?_
  refine l_thi (As := [.int (nI r9), .int (nI k9)]) (rest := []) S (n_sounds l D a cI cL cO hl0 hG hJ hr6 hk61 H.size) (cwV 2 hts gL_law_X0_sounds rfl rfl rfl (by decide +kernel) ⟨Nat.le_of_ble_eq_true rfl, Nat.le_of_ble_eq_true rfl⟩) hK hP1 hP2 (hD _ _ _ _) hES hEH hS hA rfl rfl oc_at0 rfl hl.1 rfl (Nat.le_of_ble_eq_true rfl) dL_law_1136 ⟨by show _ ≤ 683036; omega, by show _ ≤ 7052515; omega⟩ (fun H locs hP1 hP2 hS => ?_)
  have hJ := g_J hG hJ
  generalize fsW I J 0 0 = J at hJ hP1
  refine lv_istore (lv' := [(20, .int (bI (sB I h r9 k9))), (19, .int (nI k9)), (18, .int (nI r9)), (17, .int (nI tm)), (0, .ref b), (1, .ref (a 0)), (2, .ref q1), (3, .ref q2), (4, .int (nI su)), (5, .int (nI cp)), (6, .int (nI he)), (7, .int (nI 1)), (8, .int (nI T)), (9, .int (nI t)), (11, .int (nI Y)), (13, .int (nI m9)), (14, .int (nI st)), (15, .int (nI n9)), (16, .int (nI p9))]) hx hb dL_law_1139 hl (by decide) rfl (fun ls hl => ?_)
  refine lv_aload_n hx hb dL_law_1141 rfl (lv_at hl 5 rfl) ?_
  refine lv_iload hx hb dL_law_1142 (lv_at hl 2 rfl) ?_
  refine lv_iload hx hb dL_law_1144 (lv_at hl 1 rfl) ?_
  refine l_thi (As := [.int (nI r9), .int (nI k9)]) (rest := []) S (n_wear l D a cI cL cO hl0 hr6 hk61 H.size) (cwV 2 hts gL_law_X0_wear rfl rfl rfl (by decide +kernel) ⟨Nat.le_of_ble_eq_true rfl, Nat.le_of_ble_eq_true rfl⟩) hK hP1 hP2 (hD _ _ _ _) hES hEH hS hA rfl rfl oc_at0 rfl hl.1 rfl (Nat.le_of_ble_eq_true rfl) dL_law_1146 ⟨by show _ ≤ 683036; omega, by show _ ≤ 7052515; omega⟩ (fun H locs hP1 hP2 hS => ?_)
  refine lv_istore (lv' := [(21, .int (I (10 + r9) k9)), (20, .int (bI (sB I h r9 k9))), (19, .int (nI k9)), (18, .int (nI r9)), (17, .int (nI tm)), (0, .ref b), (1, .ref (a 0)), (2, .ref q1), (3, .ref q2), (4, .int (nI su)), (5, .int (nI cp)), (6, .int (nI he)), (7, .int (nI 1)), (8, .int (nI T)), (9, .int (nI t)), (11, .int (nI Y)), (13, .int (nI m9)), (14, .int (nI st)), (15, .int (nI n9)), (16, .int (nI p9))]) hx hb dL_law_1149 hl (by decide) rfl (fun ls hl => ?_)
  refine lv_aload_n hx hb dL_law_1151 rfl (lv_at hl 6 rfl) ?_
  refine lv_iload hx hb dL_law_1152 (lv_at hl 4 rfl) ?_
  refine l_thi (As := [.int (nI tm)]) (rest := []) S (n_sound l D a cI cL cO hl0 hG hJ ht1 ht5 H.size) (cwV 1 hts gL_law_X0_sound rfl rfl rfl (by decide +kernel) ⟨Nat.le_of_ble_eq_true rfl, Nat.le_of_ble_eq_true rfl⟩) hK hP1 hP2 (hD _ _ _ _) hES hEH hS hA rfl rfl oc_at0 rfl hl.1 rfl (Nat.le_of_ble_eq_true rfl) dL_law_1154 ⟨by show _ ≤ 683036; omega, by show _ ≤ 7052515; omega⟩ (fun H locs hP1 hP2 hS => ?_)
  have so := so_at hG hJ tm
  have hG2 := gi_so hG hJ ht5
  have hle : pp (mSo I J tm) h ≤ p9 := hp9 ▸ pp_so hG hJ ht5
  have h50 : tm = 50 → pp (mSo I J tm) h = 0 := fun q => pp_so50 hG hJ q
  have hwr := so.1 r9 k9 hr6 hk61
  have n2 := so.2
  have hc2 : ccN (mSo I J tm) = cp := (cc_same (fun f hf => n2 _ (Or.inr (by omega)))).trans hcp
  clear so
  generalize mSo I J tm = I2 at *
  have hs2 : suN I2 = su := by unfold suN; rw [n2 8 (by decide)]; exact hsu
  have hW2 : ∀ r, r < 6 → W9 r = I2 1 r := by rw [n2 1 (by decide)]; exact hW
  have hD2 : ∀ k, k < 12 → Dn k = bI (dr (I2 8 0) (nI k)) := by rw [n2 8 (by decide)]; exact hDn
  have hJ := g_J hG hJ
  generalize fsW I J 0 0 = J at hJ hP1
  refine lv_asi (nI p9) (congrArg nI hp9) ?_
  refine lv_iload hx hb dL_law_1157 (lv_at hl 19 rfl) ?_
  refine lv_icmp_ne (tgt := 1215) hx hb dL_law_1159 (by decide) (fun z => absurd ((nI_eq (a := p9) (b := p9) (by omega) (by omega)).mpr (by omega)) z) (fun _ => ?_)
  refine lv_aload_n hx hb dL_law_1162 rfl (lv_at hl 6 rfl) ?_
  refine lv_iload hx hb dL_law_1163 (lv_at hl 3 rfl) ?_
  refine lv_iload hx hb dL_law_1165 (lv_at hl 2 rfl) ?_
  refine l_thi (As := [.int (nI r9), .int (nI k9)]) (rest := []) S (n_wear l D a cI cL cO hl0 hr6 hk61 H.size) (cwV 2 hts gL_law_X0_wear rfl rfl rfl (by decide +kernel) ⟨Nat.le_of_ble_eq_true rfl, Nat.le_of_ble_eq_true rfl⟩) hK hP1 hP2 (hD _ _ _ _) hES hEH hS hA rfl rfl oc_at0 rfl hl.1 rfl (Nat.le_of_ble_eq_true rfl) dL_law_1167 ⟨by show _ ≤ 683036; omega, by show _ ≤ 7052515; omega⟩ (fun H locs hP1 hP2 hS => ?_)
  refine lv_iload hx hb dL_law_1170 (lv_at hl 1 rfl) ?_
  cases hb9 : sB I h r9 k9 with
  | true =>
    rw [hb9] at hwr
    refine lv_asi (nI 1) (by first | rfl | (rw [hb9]; rfl)) ?_
    refine lv_if_eq (tgt := 1183) hx hb dL_law_1172 (by decide) (fun z => absurd ((nI_eq (a := 1) (b := 0) (by omega) (by omega)).mp z) (by omega)) (fun _ => ?_)
    refine lv_iload hx hb dL_law_1175 (lv_at hl 0 rfl) ?_
    refine lv_iload hx hb dL_law_1177 (lv_at hl 4 rfl) ?_
    refine lv_iadd hx hb dL_law_1179 ?_
    refine lv_goto (tgt := 1185) hx hb dL_law_1180 (by decide) ?_
    refine lv_icmp_ne (tgt := 1215) hx hb dL_law_1185 (by decide) (fun z => absurd (hwr.trans (if_pos rfl)) z) (fun _ => ?_)
    refine lv_aload_n hx hb dL_law_1188 rfl (lv_at hl 6 rfl) ?_
    refine l_cls (As := []) (rest := []) S (n_pipes l D a cI cL cO hG2 hJ) (cwV 0 hts gL_law_X0_pipes rfl rfl rfl (by decide +kernel) ⟨Nat.le_of_ble_eq_true rfl, Nat.le_of_ble_eq_true rfl⟩) hK hP1 hP2 (hD _ _ _ _) hS rfl rfl oc_at0 rfl hl.1 rfl (Nat.le_of_ble_eq_true rfl) dL_law_1189 ⟨by show _ ≤ 683036; omega, by show _ ≤ 7052515; omega⟩ (fun H locs hP1 hP2 hS => ?_)
    have hJ := g_J hG2 hJ
    generalize fsW I2 J 0 0 = J at hJ hP1
    refine lv_iload hx hb dL_law_1192 (lv_at hl 19 rfl) ?_
    refine lv_icmp_gt (tgt := 1215) hx hb dL_law_1194 (by decide) (fun z => absurd ((nI_ltI (a := p9) (b := pp I2 h) (by omega) (by omega)).mp z) (by omega)) (fun _ => ?_)
    refine lv_iload hx hb dL_law_1197 (lv_at hl 4 rfl) ?_
    refine lv_bipush (v := (nI 50)) hx hb dL_law_1199 (by decide) ?_
    refine lv_icmp_lt (tgt := 1211) hx hb dL_law_1201 (by decide) (fun c1 => ?_) (fun c1 => ?_)
    · skip
      refine lv_iconst (v := (nI 1)) hx hb dL_law_1211 (by decide) ?_
      refine lv_goto (tgt := 1216) hx hb dL_law_1212 (by decide) ?_
      refine lv_istore (lv' := [(7, .int (nI 1)), (21, .int (I (10 + r9) k9)), (20, .int (bI (sB I h r9 k9))), (19, .int (nI k9)), (18, .int (nI r9)), (17, .int (nI tm)), (0, .ref b), (1, .ref (a 0)), (2, .ref q1), (3, .ref q2), (4, .int (nI su)), (5, .int (nI cp)), (6, .int (nI he)), (8, .int (nI T)), (9, .int (nI t)), (11, .int (nI Y)), (13, .int (nI m9)), (14, .int (nI st)), (15, .int (nI n9)), (16, .int (nI p9))]) hx hb dL_law_1216 hl (by decide) rfl (fun ls hl => ?_)
      refine lv_goto (tgt := 1518) hx hb dL_law_1218 (by decide) ?_
      refine W.widen (k := c9 + 200) (n := s9 + 1200) (by omega) (by omega) ?_
      exact K H _ ls I2 J h W9 Dn su cp he ⟨hG2, hJ, hW2, hD2, hs2, hc2, hhe⟩ hP1 hP2 hS (lv_sub hl [0, 6, 7, 8, 9, 10, 11, 12, 13, 14] rfl)
    · have e50 : tm = 50 := by
        have q : ¬ tm < 50 := fun q => c1 ((nI_ltI (a := tm) (b := 50) (by omega) (by omega)).mpr q)
        omega
      refine lv_aload_n hx hb dL_law_1204 rfl (lv_at hl 6 rfl) ?_
      refine l_cls (As := []) (rest := []) S (n_pipes l D a cI cL cO hG2 hJ) (cwV 0 hts gL_law_X0_pipes rfl rfl rfl (by decide +kernel) ⟨Nat.le_of_ble_eq_true rfl, Nat.le_of_ble_eq_true rfl⟩) hK hP1 hP2 (hD _ _ _ _) hS rfl rfl oc_at0 rfl hl.1 rfl (Nat.le_of_ble_eq_true rfl) dL_law_1205 ⟨by show _ ≤ 683036; omega, by show _ ≤ 7052515; omega⟩ (fun H locs hP1 hP2 hS => ?_)
      have hJ := g_J hG2 hJ
      generalize fsW I2 J 0 0 = J at hJ hP1
      refine lv_asi (nI 0) (congrArg nI (h50 e50)) ?_
      refine lv_if_ne (tgt := 1215) hx hb dL_law_1208 (by decide) (fun z => absurd ((nI_eq (a := 0) (b := 0) (by omega) (by omega)).mpr (by omega)) z) (fun _ => ?_)
      refine lv_iconst (v := (nI 1)) hx hb dL_law_1211 (by decide) ?_
      refine lv_goto (tgt := 1216) hx hb dL_law_1212 (by decide) ?_
      refine lv_istore (lv' := [(7, .int (nI 1)), (21, .int (I (10 + r9) k9)), (20, .int (bI (sB I h r9 k9))), (19, .int (nI k9)), (18, .int (nI r9)), (17, .int (nI tm)), (0, .ref b), (1, .ref (a 0)), (2, .ref q1), (3, .ref q2), (4, .int (nI su)), (5, .int (nI cp)), (6, .int (nI he)), (8, .int (nI T)), (9, .int (nI t)), (11, .int (nI Y)), (13, .int (nI m9)), (14, .int (nI st)), (15, .int (nI n9)), (16, .int (nI p9))]) hx hb dL_law_1216 hl (by decide) rfl (fun ls hl => ?_)
      refine lv_goto (tgt := 1518) hx hb dL_law_1218 (by decide) ?_
      refine W.widen (k := c9 + 200) (n := s9 + 1200) (by omega) (by omega) ?_
      exact K H _ ls I2 J h W9 Dn su cp he ⟨hG2, hJ, hW2, hD2, hs2, hc2, hhe⟩ hP1 hP2 hS (lv_sub hl [0, 6, 7, 8, 9, 10, 11, 12, 13, 14] rfl)
  | false =>
    rw [hb9] at hwr
    refine lv_asi (nI 0) (by first | rfl | (rw [hb9]; rfl)) ?_
    refine lv_if_eq (tgt := 1183) hx hb dL_law_1172 (by decide) (fun _ => ?_) (fun z => absurd ((nI_eq (a := 0) (b := 0) (by omega) (by omega)).mpr (by omega)) z)
    refine lv_iload hx hb dL_law_1183 (lv_at hl 0 rfl) ?_
    refine lv_icmp_ne (tgt := 1215) hx hb dL_law_1185 (by decide) (fun z => absurd (hwr.trans (if_neg Bool.false_ne_true)) z) (fun _ => ?_)
    refine lv_aload_n hx hb dL_law_1188 rfl (lv_at hl 6 rfl) ?_
    refine l_cls (As := []) (rest := []) S (n_pipes l D a cI cL cO hG2 hJ) (cwV 0 hts gL_law_X0_pipes rfl rfl rfl (by decide +kernel) ⟨Nat.le_of_ble_eq_true rfl, Nat.le_of_ble_eq_true rfl⟩) hK hP1 hP2 (hD _ _ _ _) hS rfl rfl oc_at0 rfl hl.1 rfl (Nat.le_of_ble_eq_true rfl) dL_law_1189 ⟨by show _ ≤ 683036; omega, by show _ ≤ 7052515; omega⟩ (fun H locs hP1 hP2 hS => ?_)
    have hJ := g_J hG2 hJ
    generalize fsW I2 J 0 0 = J at hJ hP1
    refine lv_iload hx hb dL_law_1192 (lv_at hl 19 rfl) ?_
    refine lv_icmp_gt (tgt := 1215) hx hb dL_law_1194 (by decide) (fun z => absurd ((nI_ltI (a := p9) (b := pp I2 h) (by omega) (by omega)).mp z) (by omega)) (fun _ => ?_)
    refine lv_iload hx hb dL_law_1197 (lv_at hl 4 rfl) ?_
    refine lv_bipush (v := (nI 50)) hx hb dL_law_1199 (by decide) ?_
    refine lv_icmp_lt (tgt := 1211) hx hb dL_law_1201 (by decide) (fun c1 => ?_) (fun c1 => ?_)
    · skip
      refine lv_iconst (v := (nI 1)) hx hb dL_law_1211 (by decide) ?_
      refine lv_goto (tgt := 1216) hx hb dL_law_1212 (by decide) ?_
      refine lv_istore (lv' := [(7, .int (nI 1)), (21, .int (I (10 + r9) k9)), (20, .int (bI (sB I h r9 k9))), (19, .int (nI k9)), (18, .int (nI r9)), (17, .int (nI tm)), (0, .ref b), (1, .ref (a 0)), (2, .ref q1), (3, .ref q2), (4, .int (nI su)), (5, .int (nI cp)), (6, .int (nI he)), (8, .int (nI T)), (9, .int (nI t)), (11, .int (nI Y)), (13, .int (nI m9)), (14, .int (nI st)), (15, .int (nI n9)), (16, .int (nI p9))]) hx hb dL_law_1216 hl (by decide) rfl (fun ls hl => ?_)
      refine lv_goto (tgt := 1518) hx hb dL_law_1218 (by decide) ?_
      refine W.widen (k := c9 + 200) (n := s9 + 1200) (by omega) (by omega) ?_
      exact K H _ ls I2 J h W9 Dn su cp he ⟨hG2, hJ, hW2, hD2, hs2, hc2, hhe⟩ hP1 hP2 hS (lv_sub hl [0, 6, 7, 8, 9, 10, 11, 12, 13, 14] rfl)
    · have e50 : tm = 50 := by
        have q : ¬ tm < 50 := fun q => c1 ((nI_ltI (a := tm) (b := 50) (by omega) (by omega)).mpr q)
        omega
      refine lv_aload_n hx hb dL_law_1204 rfl (lv_at hl 6 rfl) ?_
      refine l_cls (As := []) (rest := []) S (n_pipes l D a cI cL cO hG2 hJ) (cwV 0 hts gL_law_X0_pipes rfl rfl rfl (by decide +kernel) ⟨Nat.le_of_ble_eq_true rfl, Nat.le_of_ble_eq_true rfl⟩) hK hP1 hP2 (hD _ _ _ _) hS rfl rfl oc_at0 rfl hl.1 rfl (Nat.le_of_ble_eq_true rfl) dL_law_1205 ⟨by show _ ≤ 683036; omega, by show _ ≤ 7052515; omega⟩ (fun H locs hP1 hP2 hS => ?_)
      have hJ := g_J hG2 hJ
      generalize fsW I2 J 0 0 = J at hJ hP1
      refine lv_asi (nI 0) (congrArg nI (h50 e50)) ?_
      refine lv_if_ne (tgt := 1215) hx hb dL_law_1208 (by decide) (fun z => absurd ((nI_eq (a := 0) (b := 0) (by omega) (by omega)).mpr (by omega)) z) (fun _ => ?_)
      refine lv_iconst (v := (nI 1)) hx hb dL_law_1211 (by decide) ?_
      refine lv_goto (tgt := 1216) hx hb dL_law_1212 (by decide) ?_
      refine lv_istore (lv' := [(7, .int (nI 1)), (21, .int (I (10 + r9) k9)), (20, .int (bI (sB I h r9 k9))), (19, .int (nI k9)), (18, .int (nI r9)), (17, .int (nI tm)), (0, .ref b), (1, .ref (a 0)), (2, .ref q1), (3, .ref q2), (4, .int (nI su)), (5, .int (nI cp)), (6, .int (nI he)), (8, .int (nI T)), (9, .int (nI t)), (11, .int (nI Y)), (13, .int (nI m9)), (14, .int (nI st)), (15, .int (nI n9)), (16, .int (nI p9))]) hx hb dL_law_1216 hl (by decide) rfl (fun ls hl => ?_)
      refine lv_goto (tgt := 1518) hx hb dL_law_1218 (by decide) ?_
      refine W.widen (k := c9 + 200) (n := s9 + 1200) (by omega) (by omega) ?_
      exact K H _ ls I2 J h W9 Dn su cp he ⟨hG2, hJ, hW2, hD2, hs2, hc2, hhe⟩ hP1 hP2 hS (lv_sub hl [0, 6, 7, 8, 9, 10, 11, 12, 13, 14] rfl)
