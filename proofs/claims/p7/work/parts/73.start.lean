/-! THE START: constructors, cell by cell; F and G by the lists of what was put, the latest first -/
def fl : List (Nat × Nat × Value) → Nat → Nat → Value
  | [] => fun a k => if a = 90 ∧ k = 10 then .long 0 else .null
  | e :: l => up2 (fl l) e.1 e.2.1 e.2.2
def gx : List (Nat × Nat × Int) → Nat → Nat → Int
  | [] => fun _ _ => 0
  | e :: l => up2 (gx l) e.1 e.2.1 e.2.2
def LF : List (Nat × Nat × Value) := [(90, 65, .ref 135), (90, 64, .ref 134), (90, 63, .ref 133), (90, 62, .ref 132), (90, 61, .ref 131), (90, 60, .ref 130), (90, 55, .ref 129), (90, 54, .ref 128), (90, 52, .ref 127), (90, 51, .ref 126), (90, 50, .ref 125), (90, 49, .ref 124), (90, 48, .ref 123), (90, 47, .ref 122), (90, 46, .ref 121), (90, 44, .ref 120), (90, 43, .ref 119), (90, 42, .ref 118), (90, 37, .ref 117), (90, 36, .ref 116), (90, 35, .ref 115), (90, 34, .ref 114), (90, 31, .ref 113), (90, 30, .ref 112), (90, 29, .ref 111), (90, 28, .ref 110), (90, 27, .ref 109), (90, 26, .ref 108), (90, 25, .ref 107), (90, 24, .ref 106), (90, 23, .ref 105), (90, 22, .ref 104), (90, 21, .ref 103), (90, 20, .ref 102), (90, 19, .ref 101), (90, 18, .ref 100), (90, 17, .ref 99), (90, 16, .ref 98), (90, 15, .ref 97), (90, 14, .ref 96), (90, 13, .ref 95), (90, 12, .ref 94), (90, 11, .ref 93), (90, 1, .ref 92), (90, 0, .ref 91), (42, 8, .ref 78), (0, 8, .ref 85), (85, 3, .ref 89), (85, 2, .ref 88), (85, 1, .ref 87), (85, 0, .ref 86), (0, 7, .ref 80), (80, 3, .ref 84), (80, 2, .ref 83), (80, 1, .ref 82), (80, 0, .ref 81), (0, 6, .ref 61), (61, 11, .ref 79), (61, 10, .ref 78), (61, 9, .ref 75), (75, 1, .ref 77), (75, 0, .ref 76), (61, 8, .ref 74), (61, 7, .ref 73), (61, 6, .ref 70), (70, 1, .ref 72), (70, 0, .ref 71), (61, 5, .ref 69), (61, 4, .ref 68), (61, 3, .ref 67), (61, 2, .ref 66), (61, 1, .ref 65), (61, 0, .ref 62), (62, 1, .ref 64), (62, 0, .ref 63), (0, 4, .ref 42), (42, 2, .ref 57), (57, 1, .ref 31), (57, 0, .ref 48), (57, 4, .ref 60), (57, 3, .ref 59), (57, 2, .ref 58), (42, 1, .ref 48), (48, 0, .ref 31), (48, 8, .ref 56), (48, 7, .ref 55), (48, 6, .ref 54), (48, 5, .ref 53), (48, 4, .ref 52), (48, 3, .ref 51), (48, 2, .ref 50), (48, 1, .ref 49), (42, 0, .ref 31), (42, 8, .ref 47), (42, 6, .ref 46), (42, 5, .ref 45), (42, 4, .ref 44), (42, 3, .ref 43), (0, 3, .ref 31), (31, 7, .ref 41), (31, 6, .ref 40), (31, 5, .ref 39), (31, 4, .ref 38), (31, 3, .ref 37), (31, 2, .ref 34), (34, 1, .ref 36), (34, 0, .ref 35), (31, 1, .ref 33), (31, 0, .ref 32), (0, 2, .ref 27), (27, 2, .ref 30), (27, 1, .ref 29), (27, 0, .ref 28), (0, 1, .ref 2), (2, 3, .ref 1), (2, 4, .ref 22), (22, 3, .ref 26), (22, 2, .ref 25), (22, 1, .ref 24), (22, 0, .ref 23), (2, 2, .ref 3), (3, 11, .ref 21), (3, 10, .ref 20), (3, 9, .ref 17), (17, 1, .ref 19), (17, 0, .ref 18), (3, 8, .ref 16), (3, 7, .ref 15), (3, 6, .ref 12), (12, 1, .ref 14), (12, 0, .ref 13), (3, 5, .ref 11), (3, 4, .ref 10), (3, 3, .ref 9), (3, 2, .ref 8), (3, 1, .ref 7), (3, 0, .ref 4), (4, 1, .ref 6), (4, 0, .ref 5), (0, 0, .ref 1)]
def LG : List (Nat × Nat × Int) := [(90, 58, (-1)), (90, 45, (-1)), (90, 5, (-1)), (42, 10, 0), (42, 9, (-1)), (31, 8, 0), (0, 11, (-1)), (0, 10, (-1)), (0, 9, 0), (85, 6, 0), (85, 5, 0), (85, 4, 0), (80, 6, 0), (80, 5, 0), (80, 4, 0), (61, 15, 50), (61, 14, 0), (61, 13, 0), (61, 12, 0), (75, 2, 0), (70, 2, 0), (62, 2, 0), (0, 5, 0), (48, 11, (-1)), (48, 10, (-1)), (48, 9, 0), (42, 11, 0), (42, 10, 0), (42, 9, (-1)), (42, 7, 0), (31, 8, 0), (34, 2, 0), (27, 3, 0), (2, 9, 0), (2, 8, 0), (2, 7, 0), (2, 6, 3), (2, 5, 0), (22, 4, 0), (3, 15, 50), (3, 14, 0), (3, 13, 0), (3, 12, 0), (17, 2, 0), (12, 2, 0), (4, 2, 0), (2, 1, (-1)), (2, 0, 0)]
abbrev KH (n m k : Nat) : AH := HP (ly0.take n) (fl (LF.drop m)) (gx (LG.drop k)) (fun _ _ => 0) (fun _ _ => 0)
section KR
variable {L : Nat} {xs : Nat → Int32} {mi pc : Nat} {l : AL} {st : List Value} {Q : Option Value → AH → Prop} {n m k : Nat}
theorem tk_len (h : n < 136) : (ly0.take n).length = n := by
  rw [List.length_take, show ly0.length = 136 from by decide +kernel]
  omega
theorem tk_s {x : LK} (hl : ly0[n]? = some x) : ly0.take n ++ [x] = ly0.take (n + 1) := by
  rw [List.take_succ, hl]
  rfl
theorem k_new {i ci N p : Nat} (hi : a_ins mi pc = some (.new i, (ci, N, p))) (hl : ly0[n]? = some (.inl ci)) (hd : (decide (a_new ci = some (fsl ci (fl (LF.drop m) n) (gx (LG.drop k) n))) && decide (nF ci = N)) = true) (hn : n < 136) (kk : Re L xs mi (pc + 3) l (.ref n :: st) (KH (n + 1) m k) Q) : Re L xs mi pc l st (KH n m k) Q := by
  simp only [Bool.and_eq_true, decide_eq_true_eq] at hd
  refine re_nx hi ?_ kk
  have e : h_ps (KH n m k) N (.inr (ci, fsl ci (fl (LF.drop m) n) (gx (LG.drop k) n))) = KH (n + 1) m k := by
    show h_ps (HP (ly0.take n) _ _ _ _) N _ = HP (ly0.take (n + 1)) _ _ _ _
    rw [← tk_s hl]
    refine HP_ps (k := .inl ci) hd.2 ?_
    rw [tk_len hn]
    rfl
  have e2 : (KH n m k).1 = n := tk_len hn
  unfold a_st
  dsimp only
  rw [hd.1]
  dsimp only
  show some (Sum.inl (pc + 3, l, .ref (KH n m k).1 :: st, h_ps (KH n m k) N _)) = _
  rw [e, e2]
theorem k_nar {N : Nat} {t : FieldType} {q : ArrayType} {r : AR} (hi : a_ins mi pc = some (.newarray q, r)) (hl : ly0[n]? = some (.inr (t, N))) (ht : newarray.typeOf q = t) (hn : n < 136) (hN : N * 8 ≤ 536870912) (hd : a_def t N = some (hcl (.inr (t, N)) (fl (LF.drop m) n) (gx (LG.drop k) n) (fun _ => 0) (fun _ => 0))) (kk : Re L xs mi (pc + 2) l (.ref n :: st) (KH (n + 1) m k) Q) : Re L xs mi pc l (V (N : Int) :: st) (KH n m k) Q := by
  refine re_nx hi ?_ kk
  have hz : ¬ Int32.ofInt (N : Int) < 0 := fun e => by have := (oI_lt (a := (N : Int)) (b := 0) ⟨by omega, by omega⟩ (by decide)).mp e; omega
  have hc : (Int32.ofInt (N : Int)).toNatClampNeg = N := by rw [oI_cl (by omega) (by omega)]; omega
  have e : h_ps (KH n m k) N (hcl (.inr (t, N)) (fl (LF.drop m) n) (gx (LG.drop k) n) (fun _ => 0) (fun _ => 0)) = KH (n + 1) m k := by
    show h_ps (HP (ly0.take n) _ _ _ _) N _ = HP (ly0.take (n + 1)) _ _ _ _
    rw [← tk_s hl]
    refine HP_ps (k := .inr (t, N)) rfl ?_
    rw [tk_len hn]
  have e2 : (KH n m k).1 = n := tk_len hn
  unfold a_st V
  dsimp only
  rw [hc, ht, hd]
  dsimp only
  rw [if_pos ⟨hz, hN⟩]
  show some (Sum.inl (pc + 2, l, .ref (KH n m k).1 :: st, h_ps (KH n m k) N _)) = _
  rw [e, e2]
theorem k_putR {i a ci kf p b : Nat} (hi : a_ins mi pc = some (.putfield i, (ci, kf, p))) (hp : (ptR mi ci kf && !isI ci kf) = true) (hl : (ly0.take n)[a]? = some (.inl ci)) (hm : LF.drop m = (a, kf, .ref b) :: LF.drop (m + 1)) (kk : Re L xs mi (pc + 3) l st (KH n m k) Q) : Re L xs mi pc l (.ref b :: .ref a :: st) (KH n (m + 1) k) Q := by
  refine r_putR hi hp hl ?_
  have e : up2 (fl (LF.drop (m + 1))) a kf (.ref b) = fl (LF.drop m) := by rw [hm]; rfl
  rw [e]
  exact kk
theorem k_putI {i a ci kf p : Nat} {z : Int} (hi : a_ins mi pc = some (.putfield i, (ci, kf, p))) (hp : (pt mi ci kf .int && isI ci kf) = true) (hl : (ly0.take n)[a]? = some (.inl ci)) (hm : LG.drop k = (a, kf, z) :: LG.drop (k + 1)) (kk : Re L xs mi (pc + 3) l st (KH n m k) Q) : Re L xs mi pc l (V z :: .ref a :: st) (KH n m (k + 1)) Q := by
  refine r_putI hi hp hl ?_
  have e : up2 (gx (LG.drop (k + 1))) a kf z = gx (LG.drop k) := by rw [hm]; rfl
  rw [e]
  exact kk
theorem k_putZ {i a ci kf p : Nat} {z : Int} (hi : a_ins mi pc = some (.putfield i, (ci, kf, p))) (hp : (pt mi ci kf .boolean && isI ci kf) = true) (hl : (ly0.take n)[a]? = some (.inl ci)) (hz : z = 0 ∨ z = 1) (hm : LG.drop k = (a, kf, z) :: LG.drop (k + 1)) (kk : Re L xs mi (pc + 3) l st (KH n m k) Q) : Re L xs mi pc l (V z :: .ref a :: st) (KH n m (k + 1)) Q := by
  refine r_putZ hi hp hl hz ?_
  have e : up2 (gx (LG.drop (k + 1))) a kf z = gx (LG.drop k) := by rw [hm]; rfl
  rw [e]
  exact kk
theorem k_getR {i a ci kf p b : Nat} (hi : a_ins mi pc = some (.getfield i, (ci, kf, p))) (hk : (decide (kf < nF ci) && !isI ci kf) = true) (hl : (ly0.take n)[a]? = some (.inl ci)) (hv : fl (LF.drop m) a kf = .ref b) (kk : Re L xs mi (pc + 3) l (.ref b :: st) (KH n m k) Q) : Re L xs mi pc l (.ref a :: st) (KH n m k) Q := r_getF hi hk hl hv kk
theorem k_getI {i a ci kf p : Nat} {z : Int} (hi : a_ins mi pc = some (.getfield i, (ci, kf, p))) (hk : (decide (kf < nF ci) && isI ci kf) = true) (hl : (ly0.take n)[a]? = some (.inl ci)) (hv : gx (LG.drop k) a kf = z) (kk : Re L xs mi (pc + 3) l (V z :: st) (KH n m k) Q) : Re L xs mi pc l (.ref a :: st) (KH n m k) Q := by
  refine r_getI hi hk hl ?_
  rw [hv]
  exact kk
theorem k_cV {x mj nn a ci : Nat} {as rest : List Value} (hi : a_ins mi pc = some (.invokevirtual x, (0, mj, nn))) (hn : as.length = nn) (hm : a_rm mi mj = true) (h1 : a_sum rest ≤ 8) (h2 : a_sum (.ref a :: as.reverse) ≤ m_l mj) (hl : (ly0.take n)[a]? = some (.inl ci)) (hc : a_cn ci = (m_y mj).cls) (kk : Re L xs mj 0 (lv_args 0 (.ref a :: as.reverse)) [] (KH n m k) (fun v h' => Re L xs mi (pc + 3) l (v.toList ++ rest) h' Q)) : Re L xs mi pc l (as ++ .ref a :: rest) (KH n m k) Q := r_cV hi hn hm h1 h2 hl hc kk
end KR
set_option maxHeartbeats 8000000 in
theorem k_start {L : Nat} {xs : Nat → Int32} {Q : Option Value → AH → Prop} (K : Re L xs 132 392 [(0, .ref 90)] [] (KH 136 0 0) (fun v h' => Re L xs 0 15 [(0, .float 1000), (1, .ref 0)] (v.toList ++ [.ref 90]) h' Q)) : Re L xs 0 0 [(0, .float 1000)] [] (KH 0 140 48) Q := by
  refine k_new (n := 0) (m := 140) (k := 48) i_0_0 rfl (by decide +kernel) (by decide) ?_
  refine re_nx i_0_3 rfl ?_
  refine r_cI (as := []) i_0_4 (by decide) rfl (by decide +kernel) (Nat.le_of_ble_eq_true rfl) (Nat.le_of_ble_eq_true rfl) ?_
  show Re L xs 1 0 [(0, .ref 0)] [] (KH 1 140 48) _
  refine r_aload_n i_1_0 rfl ?_
  refine r_obj i_1_1 (by decide +kernel) (Nat.le_of_ble_eq_true rfl) ?_
  refine r_aload_n i_1_4 rfl ?_
  refine r_sipush i_1_5 (by decide) ?_
  refine k_nar (n := 1) (m := 140) (k := 48) (N := 2000) i_1_8 rfl rfl (by decide) (by decide) rfl ?_
  refine k_putR (n := 2) (m := 139) (k := 48) i_1_10 (by decide +kernel) rfl rfl ?_
  refine r_aload_n i_1_13 rfl ?_
  refine k_new (n := 2) (m := 139) (k := 48) i_1_14 rfl (by decide +kernel) (by decide) ?_
  refine re_nx i_1_17 rfl ?_
  refine r_aload_n i_1_18 rfl ?_
  refine k_getR (n := 3) (m := 139) (k := 48) (b := 1) i_1_19 rfl rfl (by decide +kernel) ?_
  refine r_cI (as := [.ref 1]) i_1_22 (by decide) rfl (by decide +kernel) (Nat.le_of_ble_eq_true rfl) (Nat.le_of_ble_eq_true rfl) ?_
  show Re L xs 2 0 [(0, .ref 2), (1, .ref 1)] [] (KH 3 139 48) _
  refine r_aload_n i_2_0 rfl ?_
  refine r_obj i_2_1 (by decide +kernel) (Nat.le_of_ble_eq_true rfl) ?_
  refine r_aload_n i_2_4 rfl ?_
  refine r_iconst i_2_5 ?_
  refine k_putI (n := 3) (m := 139) (k := 47) i_2_6 (by decide +kernel) rfl rfl ?_
  refine r_aload_n i_2_9 rfl ?_
  refine r_iconst i_2_10 ?_
  refine k_putI (n := 3) (m := 139) (k := 46) i_2_11 (by decide +kernel) rfl rfl ?_
  refine r_aload_n i_2_14 rfl ?_
  refine k_new (n := 3) (m := 139) (k := 46) i_2_15 rfl (by decide +kernel) (by decide) ?_
  refine re_nx i_2_18 rfl ?_
  refine r_cI (as := []) i_2_19 (by decide) rfl (by decide +kernel) (Nat.le_of_ble_eq_true rfl) (Nat.le_of_ble_eq_true rfl) ?_
  show Re L xs 3 0 [(0, .ref 3)] [] (KH 4 139 46) _
  refine r_aload_n i_3_0 rfl ?_
  refine r_obj i_3_1 (by decide +kernel) (Nat.le_of_ble_eq_true rfl) ?_
  refine r_aload_n i_3_4 rfl ?_
  refine k_new (n := 4) (m := 139) (k := 46) i_3_5 rfl (by decide +kernel) (by decide) ?_
  refine re_nx i_3_8 rfl ?_
  refine r_bipush i_3_9 (by decide) ?_
  refine r_cI (as := [V 80]) i_3_11 (by decide) rfl (by decide +kernel) (Nat.le_of_ble_eq_true rfl) (Nat.le_of_ble_eq_true rfl) ?_
  show Re L xs 4 0 [(0, .ref 4), (1, V 80)] [] (KH 5 139 46) _
  refine r_aload_n i_4_0 rfl ?_
  refine r_obj i_4_1 (by decide +kernel) (Nat.le_of_ble_eq_true rfl) ?_
  refine r_aload_n i_4_4 rfl ?_
  refine r_iconst i_4_5 ?_
  refine k_putI (n := 5) (m := 139) (k := 45) i_4_6 (by decide +kernel) rfl rfl ?_
  refine r_aload_n i_4_9 rfl ?_
  refine r_iload_n i_4_10 rfl ?_
  refine r_bipush i_4_11 (by decide) ?_
  refine r_imul i_4_13 ?_
  show Re L xs 4 14 [(0, .ref 4), (1, V 80)] [V 960, .ref 4] (KH 5 139 45) _
  refine k_nar (n := 5) (m := 139) (k := 45) (N := 960) i_4_14 rfl rfl (by decide) (by decide) rfl ?_
  refine k_putR (n := 6) (m := 138) (k := 45) i_4_16 (by decide +kernel) rfl rfl ?_
  refine r_aload_n i_4_19 rfl ?_
  refine r_iload_n i_4_20 rfl ?_
  refine k_nar (n := 6) (m := 138) (k := 45) (N := 80) i_4_21 rfl rfl (by decide) (by decide) rfl ?_
  refine k_putR (n := 7) (m := 137) (k := 45) i_4_23 (by decide +kernel) rfl rfl ?_
  refine r_vret i_4_26 rfl ?_
  show Re L xs 3 14 [(0, .ref 3)] [.ref 4, .ref 3] (KH 7 137 45) _
  refine k_putR (n := 7) (m := 136) (k := 45) i_3_14 (by decide +kernel) rfl rfl ?_
  refine r_aload_n i_3_17 rfl ?_
  refine r_bipush i_3_18 (by decide) ?_
  refine k_nar (n := 7) (m := 136) (k := 45) (N := 80) i_3_20 rfl rfl (by decide) (by decide) rfl ?_
  refine k_putR (n := 8) (m := 135) (k := 45) i_3_22 (by decide +kernel) rfl rfl ?_
  refine r_aload_n i_3_25 rfl ?_
  refine r_bipush i_3_26 (by decide) ?_
  refine k_nar (n := 8) (m := 135) (k := 45) (N := 80) i_3_28 rfl rfl (by decide) (by decide) rfl ?_
  refine k_putR (n := 9) (m := 134) (k := 45) i_3_30 (by decide +kernel) rfl rfl ?_
  refine r_aload_n i_3_33 rfl ?_
  refine r_bipush i_3_34 (by decide) ?_
  refine k_nar (n := 9) (m := 134) (k := 45) (N := 80) i_3_36 rfl rfl (by decide) (by decide) rfl ?_
  refine k_putR (n := 10) (m := 133) (k := 45) i_3_38 (by decide +kernel) rfl rfl ?_
  refine r_aload_n i_3_41 rfl ?_
  refine r_bipush i_3_42 (by decide) ?_
  refine k_nar (n := 10) (m := 133) (k := 45) (N := 80) i_3_44 rfl rfl (by decide) (by decide) rfl ?_
  refine k_putR (n := 11) (m := 132) (k := 45) i_3_46 (by decide +kernel) rfl rfl ?_
  refine r_aload_n i_3_49 rfl ?_
  refine r_bipush i_3_50 (by decide) ?_
  refine k_nar (n := 11) (m := 132) (k := 45) (N := 80) i_3_52 rfl rfl (by decide) (by decide) rfl ?_
  refine k_putR (n := 12) (m := 131) (k := 45) i_3_54 (by decide +kernel) rfl rfl ?_
  refine r_aload_n i_3_57 rfl ?_
  refine k_new (n := 12) (m := 131) (k := 45) i_3_58 rfl (by decide +kernel) (by decide) ?_
  refine re_nx i_3_61 rfl ?_
  refine r_bipush i_3_62 (by decide) ?_
  refine r_cI (as := [V 20]) i_3_64 (by decide) rfl (by decide +kernel) (Nat.le_of_ble_eq_true rfl) (Nat.le_of_ble_eq_true rfl) ?_
  show Re L xs 4 0 [(0, .ref 12), (1, V 20)] [] (KH 13 131 45) _
  refine r_aload_n i_4_0 rfl ?_
  refine r_obj i_4_1 (by decide +kernel) (Nat.le_of_ble_eq_true rfl) ?_
  refine r_aload_n i_4_4 rfl ?_
  refine r_iconst i_4_5 ?_
  refine k_putI (n := 13) (m := 131) (k := 44) i_4_6 (by decide +kernel) rfl rfl ?_
  refine r_aload_n i_4_9 rfl ?_
  refine r_iload_n i_4_10 rfl ?_
  refine r_bipush i_4_11 (by decide) ?_
  refine r_imul i_4_13 ?_
  show Re L xs 4 14 [(0, .ref 12), (1, V 20)] [V 240, .ref 12] (KH 13 131 44) _
  refine k_nar (n := 13) (m := 131) (k := 44) (N := 240) i_4_14 rfl rfl (by decide) (by decide) rfl ?_
  refine k_putR (n := 14) (m := 130) (k := 44) i_4_16 (by decide +kernel) rfl rfl ?_
  refine r_aload_n i_4_19 rfl ?_
  refine r_iload_n i_4_20 rfl ?_
  refine k_nar (n := 14) (m := 130) (k := 44) (N := 20) i_4_21 rfl rfl (by decide) (by decide) rfl ?_
  refine k_putR (n := 15) (m := 129) (k := 44) i_4_23 (by decide +kernel) rfl rfl ?_
  refine r_vret i_4_26 rfl ?_
  show Re L xs 3 67 [(0, .ref 3)] [.ref 12, .ref 3] (KH 15 129 44) _
  refine k_putR (n := 15) (m := 128) (k := 44) i_3_67 (by decide +kernel) rfl rfl ?_
  refine r_aload_n i_3_70 rfl ?_
  refine r_bipush i_3_71 (by decide) ?_
  refine k_nar (n := 15) (m := 128) (k := 44) (N := 20) i_3_73 rfl rfl (by decide) (by decide) rfl ?_
  refine k_putR (n := 16) (m := 127) (k := 44) i_3_75 (by decide +kernel) rfl rfl ?_
  refine r_aload_n i_3_78 rfl ?_
  refine r_bipush i_3_79 (by decide) ?_
  refine k_nar (n := 16) (m := 127) (k := 44) (N := 20) i_3_81 rfl rfl (by decide) (by decide) rfl ?_
  refine k_putR (n := 17) (m := 126) (k := 44) i_3_83 (by decide +kernel) rfl rfl ?_
  refine r_aload_n i_3_86 rfl ?_
  refine k_new (n := 17) (m := 126) (k := 44) i_3_87 rfl (by decide +kernel) (by decide) ?_
  refine re_nx i_3_90 rfl ?_
  refine r_bipush i_3_91 (by decide) ?_
  refine r_cI (as := [V 20]) i_3_93 (by decide) rfl (by decide +kernel) (Nat.le_of_ble_eq_true rfl) (Nat.le_of_ble_eq_true rfl) ?_
  show Re L xs 4 0 [(0, .ref 17), (1, V 20)] [] (KH 18 126 44) _
  refine r_aload_n i_4_0 rfl ?_
  refine r_obj i_4_1 (by decide +kernel) (Nat.le_of_ble_eq_true rfl) ?_
  refine r_aload_n i_4_4 rfl ?_
  refine r_iconst i_4_5 ?_
  refine k_putI (n := 18) (m := 126) (k := 43) i_4_6 (by decide +kernel) rfl rfl ?_
  refine r_aload_n i_4_9 rfl ?_
  refine r_iload_n i_4_10 rfl ?_
  refine r_bipush i_4_11 (by decide) ?_
  refine r_imul i_4_13 ?_
  show Re L xs 4 14 [(0, .ref 17), (1, V 20)] [V 240, .ref 17] (KH 18 126 43) _
  refine k_nar (n := 18) (m := 126) (k := 43) (N := 240) i_4_14 rfl rfl (by decide) (by decide) rfl ?_
  refine k_putR (n := 19) (m := 125) (k := 43) i_4_16 (by decide +kernel) rfl rfl ?_
  refine r_aload_n i_4_19 rfl ?_
  refine r_iload_n i_4_20 rfl ?_
  refine k_nar (n := 19) (m := 125) (k := 43) (N := 20) i_4_21 rfl rfl (by decide) (by decide) rfl ?_
  refine k_putR (n := 20) (m := 124) (k := 43) i_4_23 (by decide +kernel) rfl rfl ?_
  refine r_vret i_4_26 rfl ?_
  show Re L xs 3 96 [(0, .ref 3)] [.ref 17, .ref 3] (KH 20 124 43) _
  refine k_putR (n := 20) (m := 123) (k := 43) i_3_96 (by decide +kernel) rfl rfl ?_
  refine r_aload_n i_3_99 rfl ?_
  refine r_bipush i_3_100 (by decide) ?_
  refine k_nar (n := 20) (m := 123) (k := 43) (N := 64) i_3_102 rfl rfl (by decide) (by decide) rfl ?_
  refine k_putR (n := 21) (m := 122) (k := 43) i_3_104 (by decide +kernel) rfl rfl ?_
  refine r_aload_n i_3_107 rfl ?_
  refine r_bipush i_3_108 (by decide) ?_
  refine k_nar (n := 21) (m := 122) (k := 43) (N := 64) i_3_110 rfl rfl (by decide) (by decide) rfl ?_
  refine k_putR (n := 22) (m := 121) (k := 43) i_3_112 (by decide +kernel) rfl rfl ?_
  refine r_aload_n i_3_115 rfl ?_
  refine r_iconst i_3_116 ?_
  refine k_putI (n := 22) (m := 121) (k := 42) i_3_117 (by decide +kernel) rfl rfl ?_
  refine r_aload_n i_3_120 rfl ?_
  refine r_iconst i_3_121 ?_
  refine k_putZ (n := 22) (m := 121) (k := 41) i_3_122 (by decide +kernel) rfl (by decide) rfl ?_
  refine r_aload_n i_3_125 rfl ?_
  refine r_iconst i_3_126 ?_
  refine k_putI (n := 22) (m := 121) (k := 40) i_3_127 (by decide +kernel) rfl rfl ?_
  refine r_aload_n i_3_130 rfl ?_
  refine r_bipush i_3_131 (by decide) ?_
  refine k_putI (n := 22) (m := 121) (k := 39) i_3_133 (by decide +kernel) rfl rfl ?_
  refine r_vret i_3_136 rfl ?_
  show Re L xs 2 22 [(0, .ref 2), (1, .ref 1)] [.ref 3, .ref 2] (KH 22 121 39) _
  refine k_putR (n := 22) (m := 120) (k := 39) i_2_22 (by decide +kernel) rfl rfl ?_
  refine r_aload_n i_2_25 rfl ?_
  refine k_new (n := 22) (m := 120) (k := 39) i_2_26 rfl (by decide +kernel) (by decide) ?_
  refine re_nx i_2_29 rfl ?_
  refine r_cI (as := []) i_2_30 (by decide) rfl (by decide +kernel) (Nat.le_of_ble_eq_true rfl) (Nat.le_of_ble_eq_true rfl) ?_
  show Re L xs 5 0 [(0, .ref 22)] [] (KH 23 120 39) _
  refine r_aload_n i_5_0 rfl ?_
  refine r_obj i_5_1 (by decide +kernel) (Nat.le_of_ble_eq_true rfl) ?_
  refine r_aload_n i_5_4 rfl ?_
  refine r_sipush i_5_5 (by decide) ?_
  refine k_nar (n := 23) (m := 120) (k := 39) (N := 2001) i_5_8 rfl rfl (by decide) (by decide) rfl ?_
  refine k_putR (n := 24) (m := 119) (k := 39) i_5_10 (by decide +kernel) rfl rfl ?_
  refine r_aload_n i_5_13 rfl ?_
  refine r_sipush i_5_14 (by decide) ?_
  refine k_nar (n := 24) (m := 119) (k := 39) (N := 2001) i_5_17 rfl rfl (by decide) (by decide) rfl ?_
  refine k_putR (n := 25) (m := 118) (k := 39) i_5_19 (by decide +kernel) rfl rfl ?_
  refine r_aload_n i_5_22 rfl ?_
  refine r_sipush i_5_23 (by decide) ?_
  refine k_nar (n := 25) (m := 118) (k := 39) (N := 2001) i_5_26 rfl rfl (by decide) (by decide) rfl ?_
  refine k_putR (n := 26) (m := 117) (k := 39) i_5_28 (by decide +kernel) rfl rfl ?_
  refine r_aload_n i_5_31 rfl ?_
  refine r_sipush i_5_32 (by decide) ?_
  refine k_nar (n := 26) (m := 117) (k := 39) (N := 2001) i_5_35 rfl rfl (by decide) (by decide) rfl ?_
  refine k_putR (n := 27) (m := 116) (k := 39) i_5_37 (by decide +kernel) rfl rfl ?_
  refine r_aload_n i_5_40 rfl ?_
  refine r_iconst i_5_41 ?_
  refine k_putI (n := 27) (m := 116) (k := 38) i_5_42 (by decide +kernel) rfl rfl ?_
  refine r_vret i_5_45 rfl ?_
  show Re L xs 2 33 [(0, .ref 2), (1, .ref 1)] [.ref 22, .ref 2] (KH 27 116 38) _
  refine k_putR (n := 27) (m := 115) (k := 38) i_2_33 (by decide +kernel) rfl rfl ?_
  refine r_aload_n i_2_36 rfl ?_
  refine r_iconst i_2_37 ?_
  refine k_putI (n := 27) (m := 115) (k := 37) i_2_38 (by decide +kernel) rfl rfl ?_
  refine r_aload_n i_2_41 rfl ?_
  refine r_iconst i_2_42 ?_
  refine k_putI (n := 27) (m := 115) (k := 36) i_2_43 (by decide +kernel) rfl rfl ?_
  refine r_aload_n i_2_46 rfl ?_
  refine r_iconst i_2_47 ?_
  refine k_putI (n := 27) (m := 115) (k := 35) i_2_48 (by decide +kernel) rfl rfl ?_
  refine r_aload_n i_2_51 rfl ?_
  refine r_iconst i_2_52 ?_
  refine k_putI (n := 27) (m := 115) (k := 34) i_2_53 (by decide +kernel) rfl rfl ?_
  refine r_aload_n i_2_56 rfl ?_
  refine r_iconst i_2_57 ?_
  refine k_putI (n := 27) (m := 115) (k := 33) i_2_58 (by decide +kernel) rfl rfl ?_
  refine r_aload_n i_2_61 rfl ?_
  refine r_aload_n i_2_62 rfl ?_
  refine k_putR (n := 27) (m := 114) (k := 33) i_2_63 (by decide +kernel) rfl rfl ?_
  refine r_vret i_2_66 rfl ?_
  show Re L xs 1 25 [(0, .ref 0)] [.ref 2, .ref 0] (KH 27 114 33) _
  refine k_putR (n := 27) (m := 113) (k := 33) i_1_25 (by decide +kernel) rfl rfl ?_
  refine r_aload_n i_1_28 rfl ?_
  refine k_new (n := 27) (m := 113) (k := 33) i_1_29 rfl (by decide +kernel) (by decide) ?_
  refine re_nx i_1_32 rfl ?_
  refine r_cI (as := []) i_1_33 (by decide) rfl (by decide +kernel) (Nat.le_of_ble_eq_true rfl) (Nat.le_of_ble_eq_true rfl) ?_
  show Re L xs 6 0 [(0, .ref 27)] [] (KH 28 113 33) _
  refine r_aload_n i_6_0 rfl ?_
  refine r_obj i_6_1 (by decide +kernel) (Nat.le_of_ble_eq_true rfl) ?_
  refine r_aload_n i_6_4 rfl ?_
  refine r_bipush i_6_5 (by decide) ?_
  refine k_nar (n := 28) (m := 113) (k := 33) (N := 60) i_6_7 rfl rfl (by decide) (by decide) rfl ?_
  refine k_putR (n := 29) (m := 112) (k := 33) i_6_9 (by decide +kernel) rfl rfl ?_
  refine r_aload_n i_6_12 rfl ?_
  refine r_bipush i_6_13 (by decide) ?_
  refine k_nar (n := 29) (m := 112) (k := 33) (N := 60) i_6_15 rfl rfl (by decide) (by decide) rfl ?_
  refine k_putR (n := 30) (m := 111) (k := 33) i_6_17 (by decide +kernel) rfl rfl ?_
  refine r_aload_n i_6_20 rfl ?_
  refine r_bipush i_6_21 (by decide) ?_
  refine k_nar (n := 30) (m := 111) (k := 33) (N := 60) i_6_23 rfl rfl (by decide) (by decide) rfl ?_
  refine k_putR (n := 31) (m := 110) (k := 33) i_6_25 (by decide +kernel) rfl rfl ?_
  refine r_aload_n i_6_28 rfl ?_
  refine r_iconst i_6_29 ?_
  refine k_putI (n := 31) (m := 110) (k := 32) i_6_30 (by decide +kernel) rfl rfl ?_
  refine r_vret i_6_33 rfl ?_
  show Re L xs 1 36 [(0, .ref 0)] [.ref 27, .ref 0] (KH 31 110 32) _
  refine k_putR (n := 31) (m := 109) (k := 32) i_1_36 (by decide +kernel) rfl rfl ?_
  refine r_aload_n i_1_39 rfl ?_
  refine k_new (n := 31) (m := 109) (k := 32) i_1_40 rfl (by decide +kernel) (by decide) ?_
  refine re_nx i_1_43 rfl ?_
  refine r_cI (as := []) i_1_44 (by decide) rfl (by decide +kernel) (Nat.le_of_ble_eq_true rfl) (Nat.le_of_ble_eq_true rfl) ?_
  show Re L xs 7 0 [(0, .ref 31)] [] (KH 32 109 32) _
  refine r_aload_n i_7_0 rfl ?_
  refine r_obj i_7_1 (by decide +kernel) (Nat.le_of_ble_eq_true rfl) ?_
  refine r_aload_n i_7_4 rfl ?_
  refine r_bipush i_7_5 (by decide) ?_
  refine k_nar (n := 32) (m := 109) (k := 32) (N := 14) i_7_7 rfl rfl (by decide) (by decide) rfl ?_
  refine k_putR (n := 33) (m := 108) (k := 32) i_7_9 (by decide +kernel) rfl rfl ?_
  refine r_aload_n i_7_12 rfl ?_
  refine r_bipush i_7_13 (by decide) ?_
  refine k_nar (n := 33) (m := 108) (k := 32) (N := 14) i_7_15 rfl rfl (by decide) (by decide) rfl ?_
  refine k_putR (n := 34) (m := 107) (k := 32) i_7_17 (by decide +kernel) rfl rfl ?_
  refine r_aload_n i_7_20 rfl ?_
  refine k_new (n := 34) (m := 107) (k := 32) i_7_21 rfl (by decide +kernel) (by decide) ?_
  refine re_nx i_7_24 rfl ?_
  refine r_sipush i_7_25 (by decide) ?_
  refine r_cI (as := [V 168]) i_7_28 (by decide) rfl (by decide +kernel) (Nat.le_of_ble_eq_true rfl) (Nat.le_of_ble_eq_true rfl) ?_
  show Re L xs 4 0 [(0, .ref 34), (1, V 168)] [] (KH 35 107 32) _
  refine r_aload_n i_4_0 rfl ?_
  refine r_obj i_4_1 (by decide +kernel) (Nat.le_of_ble_eq_true rfl) ?_
  refine r_aload_n i_4_4 rfl ?_
  refine r_iconst i_4_5 ?_
  refine k_putI (n := 35) (m := 107) (k := 31) i_4_6 (by decide +kernel) rfl rfl ?_
  refine r_aload_n i_4_9 rfl ?_
  refine r_iload_n i_4_10 rfl ?_
  refine r_bipush i_4_11 (by decide) ?_
  refine r_imul i_4_13 ?_
  show Re L xs 4 14 [(0, .ref 34), (1, V 168)] [V 2016, .ref 34] (KH 35 107 31) _
  refine k_nar (n := 35) (m := 107) (k := 31) (N := 2016) i_4_14 rfl rfl (by decide) (by decide) rfl ?_
  refine k_putR (n := 36) (m := 106) (k := 31) i_4_16 (by decide +kernel) rfl rfl ?_
  refine r_aload_n i_4_19 rfl ?_
  refine r_iload_n i_4_20 rfl ?_
  refine k_nar (n := 36) (m := 106) (k := 31) (N := 168) i_4_21 rfl rfl (by decide) (by decide) rfl ?_
  refine k_putR (n := 37) (m := 105) (k := 31) i_4_23 (by decide +kernel) rfl rfl ?_
  refine r_vret i_4_26 rfl ?_
  show Re L xs 7 31 [(0, .ref 31)] [.ref 34, .ref 31] (KH 37 105 31) _
  refine k_putR (n := 37) (m := 104) (k := 31) i_7_31 (by decide +kernel) rfl rfl ?_
  refine r_aload_n i_7_34 rfl ?_
  refine r_sipush i_7_35 (by decide) ?_
  refine k_nar (n := 37) (m := 104) (k := 31) (N := 168) i_7_38 rfl rfl (by decide) (by decide) rfl ?_
  refine k_putR (n := 38) (m := 103) (k := 31) i_7_40 (by decide +kernel) rfl rfl ?_
  refine r_aload_n i_7_43 rfl ?_
  refine r_sipush i_7_44 (by decide) ?_
  refine k_nar (n := 38) (m := 103) (k := 31) (N := 168) i_7_47 rfl rfl (by decide) (by decide) rfl ?_
  refine k_putR (n := 39) (m := 102) (k := 31) i_7_49 (by decide +kernel) rfl rfl ?_
  refine r_aload_n i_7_52 rfl ?_
  refine r_sipush i_7_53 (by decide) ?_
  refine k_nar (n := 39) (m := 102) (k := 31) (N := 168) i_7_56 rfl rfl (by decide) (by decide) rfl ?_
  refine k_putR (n := 40) (m := 101) (k := 31) i_7_58 (by decide +kernel) rfl rfl ?_
  refine r_aload_n i_7_61 rfl ?_
  refine r_sipush i_7_62 (by decide) ?_
  refine k_nar (n := 40) (m := 101) (k := 31) (N := 168) i_7_65 rfl rfl (by decide) (by decide) rfl ?_
  refine k_putR (n := 41) (m := 100) (k := 31) i_7_67 (by decide +kernel) rfl rfl ?_
  refine r_aload_n i_7_70 rfl ?_
  refine r_bipush i_7_71 (by decide) ?_
  refine k_nar (n := 41) (m := 100) (k := 31) (N := 12) i_7_73 rfl rfl (by decide) (by decide) rfl ?_
  refine k_putR (n := 42) (m := 99) (k := 31) i_7_75 (by decide +kernel) rfl rfl ?_
  refine r_aload_n i_7_78 rfl ?_
  refine r_iconst i_7_79 ?_
  refine k_putI (n := 42) (m := 99) (k := 30) i_7_80 (by decide +kernel) rfl rfl ?_
  refine r_vret i_7_83 rfl ?_
  show Re L xs 1 47 [(0, .ref 0)] [.ref 31, .ref 0] (KH 42 99 30) _
  refine k_putR (n := 42) (m := 98) (k := 30) i_1_47 (by decide +kernel) rfl rfl ?_
  refine r_aload_n i_1_50 rfl ?_
  refine k_new (n := 42) (m := 98) (k := 30) i_1_51 rfl (by decide +kernel) (by decide) ?_
  refine re_nx i_1_54 rfl ?_
  refine r_aload_n i_1_55 rfl ?_
  refine k_getR (n := 43) (m := 98) (k := 30) (b := 31) i_1_56 rfl rfl (by decide +kernel) ?_
  refine r_cI (as := [.ref 31]) i_1_59 (by decide) rfl (by decide +kernel) (Nat.le_of_ble_eq_true rfl) (Nat.le_of_ble_eq_true rfl) ?_
  show Re L xs 8 0 [(0, .ref 42), (1, .ref 31)] [] (KH 43 98 30) _
  refine r_aload_n i_8_0 rfl ?_
  refine r_obj i_8_1 (by decide +kernel) (Nat.le_of_ble_eq_true rfl) ?_
  refine r_aload_n i_8_4 rfl ?_
  refine r_sipush i_8_5 (by decide) ?_
  refine k_nar (n := 43) (m := 98) (k := 30) (N := 168) i_8_8 rfl rfl (by decide) (by decide) rfl ?_
  refine k_putR (n := 44) (m := 97) (k := 30) i_8_10 (by decide +kernel) rfl rfl ?_
  refine r_aload_n i_8_13 rfl ?_
  refine r_bipush i_8_14 (by decide) ?_
  refine k_nar (n := 44) (m := 97) (k := 30) (N := 14) i_8_16 rfl rfl (by decide) (by decide) rfl ?_
  refine k_putR (n := 45) (m := 96) (k := 30) i_8_18 (by decide +kernel) rfl rfl ?_
  refine r_aload_n i_8_21 rfl ?_
  refine r_sipush i_8_22 (by decide) ?_
  refine k_nar (n := 45) (m := 96) (k := 30) (N := 2352) i_8_25 rfl rfl (by decide) (by decide) rfl ?_
  refine k_putR (n := 46) (m := 95) (k := 30) i_8_27 (by decide +kernel) rfl rfl ?_
  refine r_aload_n i_8_30 rfl ?_
  refine r_bipush i_8_31 (by decide) ?_
  refine k_nar (n := 46) (m := 95) (k := 30) (N := 14) i_8_33 rfl rfl (by decide) (by decide) rfl ?_
  refine k_putR (n := 47) (m := 94) (k := 30) i_8_35 (by decide +kernel) rfl rfl ?_
  refine r_aload_n i_8_38 rfl ?_
  refine r_iconst i_8_39 ?_
  refine k_putI (n := 47) (m := 94) (k := 29) i_8_40 (by decide +kernel) rfl rfl ?_
  refine r_aload_n i_8_43 rfl ?_
  refine r_bipush i_8_44 (by decide) ?_
  refine k_nar (n := 47) (m := 94) (k := 29) (N := 64) i_8_46 rfl rfl (by decide) (by decide) rfl ?_
  refine k_putR (n := 48) (m := 93) (k := 29) i_8_48 (by decide +kernel) rfl rfl ?_
  refine r_aload_n i_8_51 rfl ?_
  refine r_iconst i_8_52 ?_
  refine k_putI (n := 48) (m := 93) (k := 28) i_8_53 (by decide +kernel) rfl rfl ?_
  refine r_aload_n i_8_56 rfl ?_
  refine r_iconst i_8_57 ?_
  refine k_putZ (n := 48) (m := 93) (k := 27) i_8_58 (by decide +kernel) rfl (by decide) rfl ?_
  refine r_aload_n i_8_61 rfl ?_
  refine r_iconst i_8_62 ?_
  refine k_putZ (n := 48) (m := 93) (k := 26) i_8_63 (by decide +kernel) rfl (by decide) rfl ?_
  refine r_aload_n i_8_66 rfl ?_
  refine r_aload_n i_8_67 rfl ?_
  refine k_putR (n := 48) (m := 92) (k := 26) i_8_68 (by decide +kernel) rfl rfl ?_
  refine r_aload_n i_8_71 rfl ?_
  refine k_new (n := 48) (m := 92) (k := 26) i_8_72 rfl (by decide +kernel) (by decide) ?_
  refine re_nx i_8_75 rfl ?_
  refine r_aload_n i_8_76 rfl ?_
  refine r_cI (as := [.ref 31]) i_8_77 (by decide) rfl (by decide +kernel) (Nat.le_of_ble_eq_true rfl) (Nat.le_of_ble_eq_true rfl) ?_
  show Re L xs 9 0 [(0, .ref 48), (1, .ref 31)] [] (KH 49 92 26) _
  refine r_aload_n i_9_0 rfl ?_
  refine r_obj i_9_1 (by decide +kernel) (Nat.le_of_ble_eq_true rfl) ?_
  refine r_aload_n i_9_4 rfl ?_
  refine r_bipush i_9_5 (by decide) ?_
  refine k_nar (n := 49) (m := 92) (k := 26) (N := 14) i_9_7 rfl rfl (by decide) (by decide) rfl ?_
  refine k_putR (n := 50) (m := 91) (k := 26) i_9_9 (by decide +kernel) rfl rfl ?_
  refine r_aload_n i_9_12 rfl ?_
  refine r_bipush i_9_13 (by decide) ?_
  refine k_nar (n := 50) (m := 91) (k := 26) (N := 14) i_9_15 rfl rfl (by decide) (by decide) rfl ?_
  refine k_putR (n := 51) (m := 90) (k := 26) i_9_17 (by decide +kernel) rfl rfl ?_
  refine r_aload_n i_9_20 rfl ?_
  refine r_sipush i_9_21 (by decide) ?_
  refine k_nar (n := 51) (m := 90) (k := 26) (N := 168) i_9_24 rfl rfl (by decide) (by decide) rfl ?_
  refine k_putR (n := 52) (m := 89) (k := 26) i_9_26 (by decide +kernel) rfl rfl ?_
  refine r_aload_n i_9_29 rfl ?_
  refine r_bipush i_9_30 (by decide) ?_
  refine k_nar (n := 52) (m := 89) (k := 26) (N := 64) i_9_32 rfl rfl (by decide) (by decide) rfl ?_
  refine k_putR (n := 53) (m := 88) (k := 26) i_9_34 (by decide +kernel) rfl rfl ?_
  refine r_aload_n i_9_37 rfl ?_
  refine r_bipush i_9_38 (by decide) ?_
  refine k_nar (n := 53) (m := 88) (k := 26) (N := 14) i_9_40 rfl rfl (by decide) (by decide) rfl ?_
  refine k_putR (n := 54) (m := 87) (k := 26) i_9_42 (by decide +kernel) rfl rfl ?_
  refine r_aload_n i_9_45 rfl ?_
  refine r_sipush i_9_46 (by decide) ?_
  refine k_nar (n := 54) (m := 87) (k := 26) (N := 9520) i_9_49 rfl rfl (by decide) (by decide) rfl ?_
  refine k_putR (n := 55) (m := 86) (k := 26) i_9_51 (by decide +kernel) rfl rfl ?_
  refine r_aload_n i_9_54 rfl ?_
  refine r_sipush i_9_55 (by decide) ?_
  refine k_nar (n := 55) (m := 86) (k := 26) (N := 680) i_9_58 rfl rfl (by decide) (by decide) rfl ?_
  refine k_putR (n := 56) (m := 85) (k := 26) i_9_60 (by decide +kernel) rfl rfl ?_
  refine r_aload_n i_9_63 rfl ?_
  refine r_sipush i_9_64 (by decide) ?_
  refine k_nar (n := 56) (m := 85) (k := 26) (N := 680) i_9_67 rfl rfl (by decide) (by decide) rfl ?_
  refine k_putR (n := 57) (m := 84) (k := 26) i_9_69 (by decide +kernel) rfl rfl ?_
  refine r_aload_n i_9_72 rfl ?_
  refine r_iconst i_9_73 ?_
  refine k_putZ (n := 57) (m := 84) (k := 25) i_9_74 (by decide +kernel) rfl (by decide) rfl ?_
  refine r_aload_n i_9_77 rfl ?_
  refine r_iconst i_9_78 ?_
  refine k_putI (n := 57) (m := 84) (k := 24) i_9_79 (by decide +kernel) rfl rfl ?_
  refine r_aload_n i_9_82 rfl ?_
  refine r_iconst i_9_83 ?_
  refine k_putI (n := 57) (m := 84) (k := 23) i_9_84 (by decide +kernel) rfl rfl ?_
  refine r_aload_n i_9_87 rfl ?_
  refine r_aload_n i_9_88 rfl ?_
  refine k_putR (n := 57) (m := 83) (k := 23) i_9_89 (by decide +kernel) rfl rfl ?_
  refine r_vret i_9_92 rfl ?_
  show Re L xs 8 80 [(0, .ref 42), (1, .ref 31)] [.ref 48, .ref 42] (KH 57 83 23) _
  refine k_putR (n := 57) (m := 82) (k := 23) i_8_80 (by decide +kernel) rfl rfl ?_
  refine r_aload_n i_8_83 rfl ?_
  refine k_new (n := 57) (m := 82) (k := 23) i_8_84 rfl (by decide +kernel) (by decide) ?_
  refine re_nx i_8_87 rfl ?_
  refine r_aload_n i_8_88 rfl ?_
  refine k_getR (n := 58) (m := 82) (k := 23) (b := 48) i_8_89 rfl rfl (by decide +kernel) ?_
  refine r_cI (as := [.ref 48]) i_8_92 (by decide) rfl (by decide +kernel) (Nat.le_of_ble_eq_true rfl) (Nat.le_of_ble_eq_true rfl) ?_
  show Re L xs 10 0 [(0, .ref 57), (1, .ref 48)] [] (KH 58 82 23) _
  refine r_aload_n i_10_0 rfl ?_
  refine r_obj i_10_1 (by decide +kernel) (Nat.le_of_ble_eq_true rfl) ?_
  refine r_aload_n i_10_4 rfl ?_
  refine r_bipush i_10_5 (by decide) ?_
  refine k_nar (n := 58) (m := 82) (k := 23) (N := 101) i_10_7 rfl rfl (by decide) (by decide) rfl ?_
  refine k_putR (n := 59) (m := 81) (k := 23) i_10_9 (by decide +kernel) rfl rfl ?_
  refine r_aload_n i_10_12 rfl ?_
  refine r_iconst i_10_13 ?_
  refine k_nar (n := 59) (m := 81) (k := 23) (N := 0) i_10_14 rfl rfl (by decide) (by decide) rfl ?_
  refine k_putR (n := 60) (m := 80) (k := 23) i_10_16 (by decide +kernel) rfl rfl ?_
  refine r_aload_n i_10_19 rfl ?_
  refine r_iconst i_10_20 ?_
  refine k_nar (n := 60) (m := 80) (k := 23) (N := 0) i_10_21 rfl rfl (by decide) (by decide) rfl ?_
  refine k_putR (n := 61) (m := 79) (k := 23) i_10_23 (by decide +kernel) rfl rfl ?_
  refine r_aload_n i_10_26 rfl ?_
  refine r_aload_n i_10_27 rfl ?_
  refine k_putR (n := 61) (m := 78) (k := 23) i_10_28 (by decide +kernel) rfl rfl ?_
  refine r_aload_n i_10_31 rfl ?_
  refine r_aload_n i_10_32 rfl ?_
  refine k_getR (n := 61) (m := 78) (k := 23) (b := 31) i_10_33 rfl rfl (by decide +kernel) ?_
  refine k_putR (n := 61) (m := 77) (k := 23) i_10_36 (by decide +kernel) rfl rfl ?_
  refine r_vret i_10_39 rfl ?_
  show Re L xs 8 95 [(0, .ref 42), (1, .ref 31)] [.ref 57, .ref 42] (KH 61 77 23) _
  refine k_putR (n := 61) (m := 76) (k := 23) i_8_95 (by decide +kernel) rfl rfl ?_
  refine r_vret i_8_98 rfl ?_
  show Re L xs 1 62 [(0, .ref 0)] [.ref 42, .ref 0] (KH 61 76 23) _
  refine k_putR (n := 61) (m := 75) (k := 23) i_1_62 (by decide +kernel) rfl rfl ?_
  refine r_aload_n i_1_65 rfl ?_
  refine r_iconst i_1_66 ?_
  refine k_putI (n := 61) (m := 75) (k := 22) i_1_67 (by decide +kernel) rfl rfl ?_
  refine r_aload_n i_1_70 rfl ?_
  refine k_new (n := 61) (m := 75) (k := 22) i_1_71 rfl (by decide +kernel) (by decide) ?_
  refine re_nx i_1_74 rfl ?_
  refine r_cI (as := []) i_1_75 (by decide) rfl (by decide +kernel) (Nat.le_of_ble_eq_true rfl) (Nat.le_of_ble_eq_true rfl) ?_
  show Re L xs 3 0 [(0, .ref 61)] [] (KH 62 75 22) _
  refine r_aload_n i_3_0 rfl ?_
  refine r_obj i_3_1 (by decide +kernel) (Nat.le_of_ble_eq_true rfl) ?_
  refine r_aload_n i_3_4 rfl ?_
  refine k_new (n := 62) (m := 75) (k := 22) i_3_5 rfl (by decide +kernel) (by decide) ?_
  refine re_nx i_3_8 rfl ?_
  refine r_bipush i_3_9 (by decide) ?_
  refine r_cI (as := [V 80]) i_3_11 (by decide) rfl (by decide +kernel) (Nat.le_of_ble_eq_true rfl) (Nat.le_of_ble_eq_true rfl) ?_
  show Re L xs 4 0 [(0, .ref 62), (1, V 80)] [] (KH 63 75 22) _
  refine r_aload_n i_4_0 rfl ?_
  refine r_obj i_4_1 (by decide +kernel) (Nat.le_of_ble_eq_true rfl) ?_
  refine r_aload_n i_4_4 rfl ?_
  refine r_iconst i_4_5 ?_
  refine k_putI (n := 63) (m := 75) (k := 21) i_4_6 (by decide +kernel) rfl rfl ?_
  refine r_aload_n i_4_9 rfl ?_
  refine r_iload_n i_4_10 rfl ?_
  refine r_bipush i_4_11 (by decide) ?_
  refine r_imul i_4_13 ?_
  show Re L xs 4 14 [(0, .ref 62), (1, V 80)] [V 960, .ref 62] (KH 63 75 21) _
  refine k_nar (n := 63) (m := 75) (k := 21) (N := 960) i_4_14 rfl rfl (by decide) (by decide) rfl ?_
  refine k_putR (n := 64) (m := 74) (k := 21) i_4_16 (by decide +kernel) rfl rfl ?_
  refine r_aload_n i_4_19 rfl ?_
  refine r_iload_n i_4_20 rfl ?_
  refine k_nar (n := 64) (m := 74) (k := 21) (N := 80) i_4_21 rfl rfl (by decide) (by decide) rfl ?_
  refine k_putR (n := 65) (m := 73) (k := 21) i_4_23 (by decide +kernel) rfl rfl ?_
  refine r_vret i_4_26 rfl ?_
  show Re L xs 3 14 [(0, .ref 61)] [.ref 62, .ref 61] (KH 65 73 21) _
  refine k_putR (n := 65) (m := 72) (k := 21) i_3_14 (by decide +kernel) rfl rfl ?_
  refine r_aload_n i_3_17 rfl ?_
  refine r_bipush i_3_18 (by decide) ?_
  refine k_nar (n := 65) (m := 72) (k := 21) (N := 80) i_3_20 rfl rfl (by decide) (by decide) rfl ?_
  refine k_putR (n := 66) (m := 71) (k := 21) i_3_22 (by decide +kernel) rfl rfl ?_
  refine r_aload_n i_3_25 rfl ?_
  refine r_bipush i_3_26 (by decide) ?_
  refine k_nar (n := 66) (m := 71) (k := 21) (N := 80) i_3_28 rfl rfl (by decide) (by decide) rfl ?_
  refine k_putR (n := 67) (m := 70) (k := 21) i_3_30 (by decide +kernel) rfl rfl ?_
  refine r_aload_n i_3_33 rfl ?_
  refine r_bipush i_3_34 (by decide) ?_
  refine k_nar (n := 67) (m := 70) (k := 21) (N := 80) i_3_36 rfl rfl (by decide) (by decide) rfl ?_
  refine k_putR (n := 68) (m := 69) (k := 21) i_3_38 (by decide +kernel) rfl rfl ?_
  refine r_aload_n i_3_41 rfl ?_
  refine r_bipush i_3_42 (by decide) ?_
  refine k_nar (n := 68) (m := 69) (k := 21) (N := 80) i_3_44 rfl rfl (by decide) (by decide) rfl ?_
  refine k_putR (n := 69) (m := 68) (k := 21) i_3_46 (by decide +kernel) rfl rfl ?_
  refine r_aload_n i_3_49 rfl ?_
  refine r_bipush i_3_50 (by decide) ?_
  refine k_nar (n := 69) (m := 68) (k := 21) (N := 80) i_3_52 rfl rfl (by decide) (by decide) rfl ?_
  refine k_putR (n := 70) (m := 67) (k := 21) i_3_54 (by decide +kernel) rfl rfl ?_
  refine r_aload_n i_3_57 rfl ?_
  refine k_new (n := 70) (m := 67) (k := 21) i_3_58 rfl (by decide +kernel) (by decide) ?_
  refine re_nx i_3_61 rfl ?_
  refine r_bipush i_3_62 (by decide) ?_
  refine r_cI (as := [V 20]) i_3_64 (by decide) rfl (by decide +kernel) (Nat.le_of_ble_eq_true rfl) (Nat.le_of_ble_eq_true rfl) ?_
  show Re L xs 4 0 [(0, .ref 70), (1, V 20)] [] (KH 71 67 21) _
  refine r_aload_n i_4_0 rfl ?_
  refine r_obj i_4_1 (by decide +kernel) (Nat.le_of_ble_eq_true rfl) ?_
  refine r_aload_n i_4_4 rfl ?_
  refine r_iconst i_4_5 ?_
  refine k_putI (n := 71) (m := 67) (k := 20) i_4_6 (by decide +kernel) rfl rfl ?_
  refine r_aload_n i_4_9 rfl ?_
  refine r_iload_n i_4_10 rfl ?_
  refine r_bipush i_4_11 (by decide) ?_
  refine r_imul i_4_13 ?_
  show Re L xs 4 14 [(0, .ref 70), (1, V 20)] [V 240, .ref 70] (KH 71 67 20) _
  refine k_nar (n := 71) (m := 67) (k := 20) (N := 240) i_4_14 rfl rfl (by decide) (by decide) rfl ?_
  refine k_putR (n := 72) (m := 66) (k := 20) i_4_16 (by decide +kernel) rfl rfl ?_
  refine r_aload_n i_4_19 rfl ?_
  refine r_iload_n i_4_20 rfl ?_
  refine k_nar (n := 72) (m := 66) (k := 20) (N := 20) i_4_21 rfl rfl (by decide) (by decide) rfl ?_
  refine k_putR (n := 73) (m := 65) (k := 20) i_4_23 (by decide +kernel) rfl rfl ?_
  refine r_vret i_4_26 rfl ?_
  show Re L xs 3 67 [(0, .ref 61)] [.ref 70, .ref 61] (KH 73 65 20) _
  refine k_putR (n := 73) (m := 64) (k := 20) i_3_67 (by decide +kernel) rfl rfl ?_
  refine r_aload_n i_3_70 rfl ?_
  refine r_bipush i_3_71 (by decide) ?_
  refine k_nar (n := 73) (m := 64) (k := 20) (N := 20) i_3_73 rfl rfl (by decide) (by decide) rfl ?_
  refine k_putR (n := 74) (m := 63) (k := 20) i_3_75 (by decide +kernel) rfl rfl ?_
  refine r_aload_n i_3_78 rfl ?_
  refine r_bipush i_3_79 (by decide) ?_
  refine k_nar (n := 74) (m := 63) (k := 20) (N := 20) i_3_81 rfl rfl (by decide) (by decide) rfl ?_
  refine k_putR (n := 75) (m := 62) (k := 20) i_3_83 (by decide +kernel) rfl rfl ?_
  refine r_aload_n i_3_86 rfl ?_
  refine k_new (n := 75) (m := 62) (k := 20) i_3_87 rfl (by decide +kernel) (by decide) ?_
  refine re_nx i_3_90 rfl ?_
  refine r_bipush i_3_91 (by decide) ?_
  refine r_cI (as := [V 20]) i_3_93 (by decide) rfl (by decide +kernel) (Nat.le_of_ble_eq_true rfl) (Nat.le_of_ble_eq_true rfl) ?_
  show Re L xs 4 0 [(0, .ref 75), (1, V 20)] [] (KH 76 62 20) _
  refine r_aload_n i_4_0 rfl ?_
  refine r_obj i_4_1 (by decide +kernel) (Nat.le_of_ble_eq_true rfl) ?_
  refine r_aload_n i_4_4 rfl ?_
  refine r_iconst i_4_5 ?_
  refine k_putI (n := 76) (m := 62) (k := 19) i_4_6 (by decide +kernel) rfl rfl ?_
  refine r_aload_n i_4_9 rfl ?_
  refine r_iload_n i_4_10 rfl ?_
  refine r_bipush i_4_11 (by decide) ?_
  refine r_imul i_4_13 ?_
  show Re L xs 4 14 [(0, .ref 75), (1, V 20)] [V 240, .ref 75] (KH 76 62 19) _
  refine k_nar (n := 76) (m := 62) (k := 19) (N := 240) i_4_14 rfl rfl (by decide) (by decide) rfl ?_
  refine k_putR (n := 77) (m := 61) (k := 19) i_4_16 (by decide +kernel) rfl rfl ?_
  refine r_aload_n i_4_19 rfl ?_
  refine r_iload_n i_4_20 rfl ?_
  refine k_nar (n := 77) (m := 61) (k := 19) (N := 20) i_4_21 rfl rfl (by decide) (by decide) rfl ?_
  refine k_putR (n := 78) (m := 60) (k := 19) i_4_23 (by decide +kernel) rfl rfl ?_
  refine r_vret i_4_26 rfl ?_
  show Re L xs 3 96 [(0, .ref 61)] [.ref 75, .ref 61] (KH 78 60 19) _
  refine k_putR (n := 78) (m := 59) (k := 19) i_3_96 (by decide +kernel) rfl rfl ?_
  refine r_aload_n i_3_99 rfl ?_
  refine r_bipush i_3_100 (by decide) ?_
  refine k_nar (n := 78) (m := 59) (k := 19) (N := 64) i_3_102 rfl rfl (by decide) (by decide) rfl ?_
  refine k_putR (n := 79) (m := 58) (k := 19) i_3_104 (by decide +kernel) rfl rfl ?_
  refine r_aload_n i_3_107 rfl ?_
  refine r_bipush i_3_108 (by decide) ?_
  refine k_nar (n := 79) (m := 58) (k := 19) (N := 64) i_3_110 rfl rfl (by decide) (by decide) rfl ?_
  refine k_putR (n := 80) (m := 57) (k := 19) i_3_112 (by decide +kernel) rfl rfl ?_
  refine r_aload_n i_3_115 rfl ?_
  refine r_iconst i_3_116 ?_
  refine k_putI (n := 80) (m := 57) (k := 18) i_3_117 (by decide +kernel) rfl rfl ?_
  refine r_aload_n i_3_120 rfl ?_
  refine r_iconst i_3_121 ?_
  refine k_putZ (n := 80) (m := 57) (k := 17) i_3_122 (by decide +kernel) rfl (by decide) rfl ?_
  refine r_aload_n i_3_125 rfl ?_
  refine r_iconst i_3_126 ?_
  refine k_putI (n := 80) (m := 57) (k := 16) i_3_127 (by decide +kernel) rfl rfl ?_
  refine r_aload_n i_3_130 rfl ?_
  refine r_bipush i_3_131 (by decide) ?_
  refine k_putI (n := 80) (m := 57) (k := 15) i_3_133 (by decide +kernel) rfl rfl ?_
  refine r_vret i_3_136 rfl ?_
  show Re L xs 1 78 [(0, .ref 0)] [.ref 61, .ref 0] (KH 80 57 15) _
  refine k_putR (n := 80) (m := 56) (k := 15) i_1_78 (by decide +kernel) rfl rfl ?_
  refine r_aload_n i_1_81 rfl ?_
  refine k_new (n := 80) (m := 56) (k := 15) i_1_82 rfl (by decide +kernel) (by decide) ?_
  refine re_nx i_1_85 rfl ?_
  refine r_cI (as := []) i_1_86 (by decide) rfl (by decide +kernel) (Nat.le_of_ble_eq_true rfl) (Nat.le_of_ble_eq_true rfl) ?_
  show Re L xs 11 0 [(0, .ref 80)] [] (KH 81 56 15) _
  refine r_aload_n i_11_0 rfl ?_
  refine r_obj i_11_1 (by decide +kernel) (Nat.le_of_ble_eq_true rfl) ?_
  refine r_aload_n i_11_4 rfl ?_
  refine r_sipush i_11_5 (by decide) ?_
  refine k_nar (n := 81) (m := 56) (k := 15) (N := 200) i_11_8 rfl rfl (by decide) (by decide) rfl ?_
  refine k_putR (n := 82) (m := 55) (k := 15) i_11_10 (by decide +kernel) rfl rfl ?_
  refine r_aload_n i_11_13 rfl ?_
  refine r_bipush i_11_14 (by decide) ?_
  refine k_nar (n := 82) (m := 55) (k := 15) (N := 14) i_11_16 rfl rfl (by decide) (by decide) rfl ?_
  refine k_putR (n := 83) (m := 54) (k := 15) i_11_18 (by decide +kernel) rfl rfl ?_
  refine r_aload_n i_11_21 rfl ?_
  refine r_bipush i_11_22 (by decide) ?_
  refine k_nar (n := 83) (m := 54) (k := 15) (N := 14) i_11_24 rfl rfl (by decide) (by decide) rfl ?_
  refine k_putR (n := 84) (m := 53) (k := 15) i_11_26 (by decide +kernel) rfl rfl ?_
  refine r_aload_n i_11_29 rfl ?_
  refine r_bipush i_11_30 (by decide) ?_
  refine k_nar (n := 84) (m := 53) (k := 15) (N := 14) i_11_32 rfl rfl (by decide) (by decide) rfl ?_
  refine k_putR (n := 85) (m := 52) (k := 15) i_11_34 (by decide +kernel) rfl rfl ?_
  refine r_aload_n i_11_37 rfl ?_
  refine r_iconst i_11_38 ?_
  refine k_putI (n := 85) (m := 52) (k := 14) i_11_39 (by decide +kernel) rfl rfl ?_
  refine r_aload_n i_11_42 rfl ?_
  refine r_iconst i_11_43 ?_
  refine k_putI (n := 85) (m := 52) (k := 13) i_11_44 (by decide +kernel) rfl rfl ?_
  refine r_aload_n i_11_47 rfl ?_
  refine r_iconst i_11_48 ?_
  refine k_putI (n := 85) (m := 52) (k := 12) i_11_49 (by decide +kernel) rfl rfl ?_
  refine r_vret i_11_52 rfl ?_
  show Re L xs 1 89 [(0, .ref 0)] [.ref 80, .ref 0] (KH 85 52 12) _
  refine k_putR (n := 85) (m := 51) (k := 12) i_1_89 (by decide +kernel) rfl rfl ?_
  refine r_aload_n i_1_92 rfl ?_
  refine k_new (n := 85) (m := 51) (k := 12) i_1_93 rfl (by decide +kernel) (by decide) ?_
  refine re_nx i_1_96 rfl ?_
  refine r_cI (as := []) i_1_97 (by decide) rfl (by decide +kernel) (Nat.le_of_ble_eq_true rfl) (Nat.le_of_ble_eq_true rfl) ?_
  show Re L xs 11 0 [(0, .ref 85)] [] (KH 86 51 12) _
  refine r_aload_n i_11_0 rfl ?_
  refine r_obj i_11_1 (by decide +kernel) (Nat.le_of_ble_eq_true rfl) ?_
  refine r_aload_n i_11_4 rfl ?_
  refine r_sipush i_11_5 (by decide) ?_
  refine k_nar (n := 86) (m := 51) (k := 12) (N := 200) i_11_8 rfl rfl (by decide) (by decide) rfl ?_
  refine k_putR (n := 87) (m := 50) (k := 12) i_11_10 (by decide +kernel) rfl rfl ?_
  refine r_aload_n i_11_13 rfl ?_
  refine r_bipush i_11_14 (by decide) ?_
  refine k_nar (n := 87) (m := 50) (k := 12) (N := 14) i_11_16 rfl rfl (by decide) (by decide) rfl ?_
  refine k_putR (n := 88) (m := 49) (k := 12) i_11_18 (by decide +kernel) rfl rfl ?_
  refine r_aload_n i_11_21 rfl ?_
  refine r_bipush i_11_22 (by decide) ?_
  refine k_nar (n := 88) (m := 49) (k := 12) (N := 14) i_11_24 rfl rfl (by decide) (by decide) rfl ?_
  refine k_putR (n := 89) (m := 48) (k := 12) i_11_26 (by decide +kernel) rfl rfl ?_
  refine r_aload_n i_11_29 rfl ?_
  refine r_bipush i_11_30 (by decide) ?_
  refine k_nar (n := 89) (m := 48) (k := 12) (N := 14) i_11_32 rfl rfl (by decide) (by decide) rfl ?_
  refine k_putR (n := 90) (m := 47) (k := 12) i_11_34 (by decide +kernel) rfl rfl ?_
  refine r_aload_n i_11_37 rfl ?_
  refine r_iconst i_11_38 ?_
  refine k_putI (n := 90) (m := 47) (k := 11) i_11_39 (by decide +kernel) rfl rfl ?_
  refine r_aload_n i_11_42 rfl ?_
  refine r_iconst i_11_43 ?_
  refine k_putI (n := 90) (m := 47) (k := 10) i_11_44 (by decide +kernel) rfl rfl ?_
  refine r_aload_n i_11_47 rfl ?_
  refine r_iconst i_11_48 ?_
  refine k_putI (n := 90) (m := 47) (k := 9) i_11_49 (by decide +kernel) rfl rfl ?_
  refine r_vret i_11_52 rfl ?_
  show Re L xs 1 100 [(0, .ref 0)] [.ref 85, .ref 0] (KH 90 47 9) _
  refine k_putR (n := 90) (m := 46) (k := 9) i_1_100 (by decide +kernel) rfl rfl ?_
  refine r_aload_n i_1_103 rfl ?_
  refine r_iconst i_1_104 ?_
  refine k_putI (n := 90) (m := 46) (k := 8) i_1_105 (by decide +kernel) rfl rfl ?_
  refine r_aload_n i_1_108 rfl ?_
  refine r_iconst i_1_109 ?_
  refine k_putI (n := 90) (m := 46) (k := 7) i_1_110 (by decide +kernel) rfl rfl ?_
  refine r_aload_n i_1_113 rfl ?_
  refine r_iconst i_1_114 ?_
  refine k_putI (n := 90) (m := 46) (k := 6) i_1_115 (by decide +kernel) rfl rfl ?_
  refine r_aload_n i_1_118 rfl ?_
  refine k_cV (n := 90) (m := 46) (k := 6) (as := []) i_1_119 rfl (by decide +kernel) (Nat.le_of_ble_eq_true rfl) (Nat.le_of_ble_eq_true rfl) rfl rfl ?_
  show Re L xs 12 0 [(0, .ref 0)] [] (KH 90 46 6) _
  refine r_aload_n i_12_0 rfl ?_
  refine k_getR (n := 90) (m := 46) (k := 6) (b := 31) i_12_1 rfl rfl (by decide +kernel) ?_
  refine r_aload_n i_12_4 rfl ?_
  refine k_getR (n := 90) (m := 46) (k := 6) (b := 80) i_12_5 rfl rfl (by decide +kernel) ?_
  refine k_getI (n := 90) (m := 46) (k := 6) (z := 0) i_12_8 rfl rfl (by decide +kernel) ?_
  refine k_putI (n := 90) (m := 46) (k := 5) i_12_11 (by decide +kernel) rfl rfl ?_
  refine r_iconst i_12_14 ?_
  refine r_istore_n (l' := [(0, .ref 0), (1, V 0)]) i_12_15 (by decide +kernel) rfl ?_
  refine r_iload_n i_12_16 rfl ?_
  refine r_aload_n i_12_17 rfl ?_
  refine k_getR (n := 90) (m := 46) (k := 5) (b := 80) i_12_18 rfl rfl (by decide +kernel) ?_
  refine k_getI (n := 90) (m := 46) (k := 5) (z := 0) i_12_21 rfl rfl (by decide +kernel) ?_
  refine r_cge (t := 57) i_12_24 (by decide) (by decide) (by decide) (fun _ => ?_) (fun c => absurd c (by decide))
  refine r_aload_n i_12_57 rfl ?_
  refine k_getR (n := 90) (m := 46) (k := 5) (b := 42) i_12_58 rfl rfl (by decide +kernel) ?_
  refine r_aload_n i_12_61 rfl ?_
  refine k_getR (n := 90) (m := 46) (k := 5) (b := 61) i_12_62 rfl rfl (by decide +kernel) ?_
  refine k_getR (n := 90) (m := 46) (k := 5) (b := 78) i_12_65 rfl rfl (by decide +kernel) ?_
  refine r_aload_n i_12_68 rfl ?_
  refine k_getI (n := 90) (m := 46) (k := 5) (z := (-1)) i_12_69 rfl rfl (by decide +kernel) ?_
  refine k_cV (n := 90) (m := 46) (k := 5) (as := [V ((-1)), .ref 78]) i_12_72 rfl (by decide +kernel) (Nat.le_of_ble_eq_true rfl) (Nat.le_of_ble_eq_true rfl) rfl rfl ?_
  show Re L xs 34 0 [(0, .ref 42), (1, .ref 78), (2, V ((-1)))] [] (KH 90 46 5) _
  refine r_aload_n i_34_0 rfl ?_
  refine r_aload_n i_34_1 rfl ?_
  refine k_putR (n := 90) (m := 45) (k := 5) i_34_2 (by decide +kernel) rfl rfl ?_
  refine r_aload_n i_34_5 rfl ?_
  refine r_iload_n i_34_6 rfl ?_
  refine k_putI (n := 90) (m := 45) (k := 4) i_34_7 (by decide +kernel) rfl rfl ?_
  refine r_aload_n i_34_10 rfl ?_
  refine r_iconst i_34_11 ?_
  refine k_putZ (n := 90) (m := 45) (k := 3) i_34_12 (by decide +kernel) rfl (by decide) rfl ?_
  refine r_vret i_34_15 rfl ?_
  show Re L xs 12 75 [(0, .ref 0), (1, V 0)] [] (KH 90 45 3) _
  refine r_vret i_12_75 rfl ?_
  show Re L xs 1 122 [(0, .ref 0)] [] (KH 90 45 3) _
  refine r_vret i_1_122 rfl ?_
  show Re L xs 0 7 [(0, .float 1000)] [.ref 0] (KH 90 45 3) _
  refine r_astore_n (l' := [(0, .float 1000), (1, .ref 0)]) i_0_7 (by decide +kernel) rfl ?_
  refine k_new (n := 90) (m := 45) (k := 3) i_0_8 rfl (by decide +kernel) (by decide) ?_
  refine re_nx i_0_11 rfl ?_
  refine r_cI (as := []) i_0_12 (by decide) rfl (by decide +kernel) (Nat.le_of_ble_eq_true rfl) (Nat.le_of_ble_eq_true rfl) ?_
  show Re L xs 132 0 [(0, .ref 90)] [] (KH 91 45 3) _
  refine r_aload_n i_132_0 rfl ?_
  refine r_obj i_132_1 (by decide +kernel) (Nat.le_of_ble_eq_true rfl) ?_
  refine r_aload_n i_132_4 rfl ?_
  refine r_sipush i_132_5 (by decide) ?_
  refine k_nar (n := 91) (m := 45) (k := 3) (N := 2020) i_132_8 rfl rfl (by decide) (by decide) rfl ?_
  refine k_putR (n := 92) (m := 44) (k := 3) i_132_10 (by decide +kernel) rfl rfl ?_
  refine r_aload_n i_132_13 rfl ?_
  refine r_sipush i_132_14 (by decide) ?_
  refine k_nar (n := 92) (m := 44) (k := 3) (N := 2000) i_132_17 rfl rfl (by decide) (by decide) rfl ?_
  refine k_putR (n := 93) (m := 43) (k := 3) i_132_19 (by decide +kernel) rfl rfl ?_
  refine r_aload_n i_132_22 rfl ?_
  refine r_iconst i_132_23 ?_
  refine k_putI (n := 93) (m := 43) (k := 2) i_132_24 (by decide +kernel) rfl rfl ?_
  refine r_aload_n i_132_27 rfl ?_
  refine r_sipush i_132_28 (by decide) ?_
  refine k_nar (n := 93) (m := 43) (k := 2) (N := 1920) i_132_31 rfl rfl (by decide) (by decide) rfl ?_
  refine k_putR (n := 94) (m := 42) (k := 2) i_132_33 (by decide +kernel) rfl rfl ?_
  refine r_aload_n i_132_36 rfl ?_
  refine r_sipush i_132_37 (by decide) ?_
  refine k_nar (n := 94) (m := 42) (k := 2) (N := 480) i_132_40 rfl rfl (by decide) (by decide) rfl ?_
  refine k_putR (n := 95) (m := 41) (k := 2) i_132_42 (by decide +kernel) rfl rfl ?_
  refine r_aload_n i_132_45 rfl ?_
  refine r_sipush i_132_46 (by decide) ?_
  refine k_nar (n := 95) (m := 41) (k := 2) (N := 480) i_132_49 rfl rfl (by decide) (by decide) rfl ?_
  refine k_putR (n := 96) (m := 40) (k := 2) i_132_51 (by decide +kernel) rfl rfl ?_
  refine r_aload_n i_132_54 rfl ?_
  refine r_sipush i_132_55 (by decide) ?_
  refine k_nar (n := 96) (m := 40) (k := 2) (N := 480) i_132_58 rfl rfl (by decide) (by decide) rfl ?_
  refine k_putR (n := 97) (m := 39) (k := 2) i_132_60 (by decide +kernel) rfl rfl ?_
  refine r_aload_n i_132_63 rfl ?_
  refine r_sipush i_132_64 (by decide) ?_
  refine k_nar (n := 97) (m := 39) (k := 2) (N := 160) i_132_67 rfl rfl (by decide) (by decide) rfl ?_
  refine k_putR (n := 98) (m := 38) (k := 2) i_132_69 (by decide +kernel) rfl rfl ?_
  refine r_aload_n i_132_72 rfl ?_
  refine r_sipush i_132_73 (by decide) ?_
  refine k_nar (n := 98) (m := 38) (k := 2) (N := 160) i_132_76 rfl rfl (by decide) (by decide) rfl ?_
  refine k_putR (n := 99) (m := 37) (k := 2) i_132_78 (by decide +kernel) rfl rfl ?_
  refine r_aload_n i_132_81 rfl ?_
  refine r_sipush i_132_82 (by decide) ?_
  refine k_nar (n := 99) (m := 37) (k := 2) (N := 160) i_132_85 rfl rfl (by decide) (by decide) rfl ?_
  refine k_putR (n := 100) (m := 36) (k := 2) i_132_87 (by decide +kernel) rfl rfl ?_
  refine r_aload_n i_132_90 rfl ?_
  refine r_sipush i_132_91 (by decide) ?_
  refine k_nar (n := 100) (m := 36) (k := 2) (N := 160) i_132_94 rfl rfl (by decide) (by decide) rfl ?_
  refine k_putR (n := 101) (m := 35) (k := 2) i_132_96 (by decide +kernel) rfl rfl ?_
  refine r_aload_n i_132_99 rfl ?_
  refine r_sipush i_132_100 (by decide) ?_
  refine k_nar (n := 101) (m := 35) (k := 2) (N := 160) i_132_103 rfl rfl (by decide) (by decide) rfl ?_
  refine k_putR (n := 102) (m := 34) (k := 2) i_132_105 (by decide +kernel) rfl rfl ?_
  refine r_aload_n i_132_108 rfl ?_
  refine r_bipush i_132_109 (by decide) ?_
  refine k_nar (n := 102) (m := 34) (k := 2) (N := 40) i_132_111 rfl rfl (by decide) (by decide) rfl ?_
  refine k_putR (n := 103) (m := 33) (k := 2) i_132_113 (by decide +kernel) rfl rfl ?_
  refine r_aload_n i_132_116 rfl ?_
  refine r_bipush i_132_117 (by decide) ?_
  refine k_nar (n := 103) (m := 33) (k := 2) (N := 40) i_132_119 rfl rfl (by decide) (by decide) rfl ?_
  refine k_putR (n := 104) (m := 32) (k := 2) i_132_121 (by decide +kernel) rfl rfl ?_
  refine r_aload_n i_132_124 rfl ?_
  refine r_bipush i_132_125 (by decide) ?_
  refine k_nar (n := 104) (m := 32) (k := 2) (N := 40) i_132_127 rfl rfl (by decide) (by decide) rfl ?_
  refine k_putR (n := 105) (m := 31) (k := 2) i_132_129 (by decide +kernel) rfl rfl ?_
  refine r_aload_n i_132_132 rfl ?_
  refine r_bipush i_132_133 (by decide) ?_
  refine k_nar (n := 105) (m := 31) (k := 2) (N := 40) i_132_135 rfl rfl (by decide) (by decide) rfl ?_
  refine k_putR (n := 106) (m := 30) (k := 2) i_132_137 (by decide +kernel) rfl rfl ?_
  refine r_aload_n i_132_140 rfl ?_
  refine r_sipush i_132_141 (by decide) ?_
  refine k_nar (n := 106) (m := 30) (k := 2) (N := 128) i_132_144 rfl rfl (by decide) (by decide) rfl ?_
  refine k_putR (n := 107) (m := 29) (k := 2) i_132_146 (by decide +kernel) rfl rfl ?_
  refine r_aload_n i_132_149 rfl ?_
  refine r_iconst i_132_150 ?_
  refine k_nar (n := 107) (m := 29) (k := 2) (N := 2) i_132_151 rfl rfl (by decide) (by decide) rfl ?_
  refine k_putR (n := 108) (m := 28) (k := 2) i_132_153 (by decide +kernel) rfl rfl ?_
  refine r_aload_n i_132_156 rfl ?_
  refine r_iconst i_132_157 ?_
  refine k_nar (n := 108) (m := 28) (k := 2) (N := 2) i_132_158 rfl rfl (by decide) (by decide) rfl ?_
  refine k_putR (n := 109) (m := 27) (k := 2) i_132_160 (by decide +kernel) rfl rfl ?_
  refine r_aload_n i_132_163 rfl ?_
  refine r_iconst i_132_164 ?_
  refine k_nar (n := 109) (m := 27) (k := 2) (N := 2) i_132_165 rfl rfl (by decide) (by decide) rfl ?_
  refine k_putR (n := 110) (m := 26) (k := 2) i_132_167 (by decide +kernel) rfl rfl ?_
  refine r_aload_n i_132_170 rfl ?_
  refine r_iconst i_132_171 ?_
  refine k_nar (n := 110) (m := 26) (k := 2) (N := 2) i_132_172 rfl rfl (by decide) (by decide) rfl ?_
  refine k_putR (n := 111) (m := 25) (k := 2) i_132_174 (by decide +kernel) rfl rfl ?_
  refine r_aload_n i_132_177 rfl ?_
  refine r_iconst i_132_178 ?_
  refine k_nar (n := 111) (m := 25) (k := 2) (N := 2) i_132_179 rfl rfl (by decide) (by decide) rfl ?_
  refine k_putR (n := 112) (m := 24) (k := 2) i_132_181 (by decide +kernel) rfl rfl ?_
  refine r_aload_n i_132_184 rfl ?_
  refine r_iconst i_132_185 ?_
  refine k_nar (n := 112) (m := 24) (k := 2) (N := 2) i_132_186 rfl rfl (by decide) (by decide) rfl ?_
  refine k_putR (n := 113) (m := 23) (k := 2) i_132_188 (by decide +kernel) rfl rfl ?_
  refine r_aload_n i_132_191 rfl ?_
  refine r_iconst i_132_192 ?_
  refine k_nar (n := 113) (m := 23) (k := 2) (N := 2) i_132_193 rfl rfl (by decide) (by decide) rfl ?_
  refine k_putR (n := 114) (m := 22) (k := 2) i_132_195 (by decide +kernel) rfl rfl ?_
  refine r_aload_n i_132_198 rfl ?_
  refine r_sipush i_132_199 (by decide) ?_
  refine k_nar (n := 114) (m := 22) (k := 2) (N := 200) i_132_202 rfl rfl (by decide) (by decide) rfl ?_
  refine k_putR (n := 115) (m := 21) (k := 2) i_132_204 (by decide +kernel) rfl rfl ?_
  refine r_aload_n i_132_207 rfl ?_
  refine r_bipush i_132_208 (by decide) ?_
  refine k_nar (n := 115) (m := 21) (k := 2) (N := 14) i_132_210 rfl rfl (by decide) (by decide) rfl ?_
  refine k_putR (n := 116) (m := 20) (k := 2) i_132_212 (by decide +kernel) rfl rfl ?_
  refine r_aload_n i_132_215 rfl ?_
  refine r_bipush i_132_216 (by decide) ?_
  refine k_nar (n := 116) (m := 20) (k := 2) (N := 14) i_132_218 rfl rfl (by decide) (by decide) rfl ?_
  refine k_putR (n := 117) (m := 19) (k := 2) i_132_220 (by decide +kernel) rfl rfl ?_
  refine r_aload_n i_132_223 rfl ?_
  refine r_bipush i_132_224 (by decide) ?_
  refine k_nar (n := 117) (m := 19) (k := 2) (N := 14) i_132_226 rfl rfl (by decide) (by decide) rfl ?_
  refine k_putR (n := 118) (m := 18) (k := 2) i_132_228 (by decide +kernel) rfl rfl ?_
  refine r_aload_n i_132_231 rfl ?_
  refine r_bipush i_132_232 (by decide) ?_
  refine k_nar (n := 118) (m := 18) (k := 2) (N := 14) i_132_234 rfl rfl (by decide) (by decide) rfl ?_
  refine k_putR (n := 119) (m := 17) (k := 2) i_132_236 (by decide +kernel) rfl rfl ?_
  refine r_aload_n i_132_239 rfl ?_
  refine r_bipush i_132_240 (by decide) ?_
  refine k_nar (n := 119) (m := 17) (k := 2) (N := 14) i_132_242 rfl rfl (by decide) (by decide) rfl ?_
  refine k_putR (n := 120) (m := 16) (k := 2) i_132_244 (by decide +kernel) rfl rfl ?_
  refine r_aload_n i_132_247 rfl ?_
  refine r_bipush i_132_248 (by decide) ?_
  refine k_nar (n := 120) (m := 16) (k := 2) (N := 14) i_132_250 rfl rfl (by decide) (by decide) rfl ?_
  refine k_putR (n := 121) (m := 15) (k := 2) i_132_252 (by decide +kernel) rfl rfl ?_
  refine r_aload_n i_132_255 rfl ?_
  refine r_iconst i_132_256 ?_
  refine k_putI (n := 121) (m := 15) (k := 1) i_132_257 (by decide +kernel) rfl rfl ?_
  refine r_aload_n i_132_260 rfl ?_
  refine r_sipush i_132_261 (by decide) ?_
  refine k_nar (n := 121) (m := 15) (k := 1) (N := 2184) i_132_264 rfl rfl (by decide) (by decide) rfl ?_
  refine k_putR (n := 122) (m := 14) (k := 1) i_132_266 (by decide +kernel) rfl rfl ?_
  refine r_aload_n i_132_269 rfl ?_
  refine r_bipush i_132_270 (by decide) ?_
  refine k_nar (n := 122) (m := 14) (k := 1) (N := 14) i_132_272 rfl rfl (by decide) (by decide) rfl ?_
  refine k_putR (n := 123) (m := 13) (k := 1) i_132_274 (by decide +kernel) rfl rfl ?_
  refine r_aload_n i_132_277 rfl ?_
  refine r_sipush i_132_278 (by decide) ?_
  refine k_nar (n := 123) (m := 13) (k := 1) (N := 182) i_132_281 rfl rfl (by decide) (by decide) rfl ?_
  refine k_putR (n := 124) (m := 12) (k := 1) i_132_283 (by decide +kernel) rfl rfl ?_
  refine r_aload_n i_132_286 rfl ?_
  refine r_sipush i_132_287 (by decide) ?_
  refine k_nar (n := 124) (m := 12) (k := 1) (N := 182) i_132_290 rfl rfl (by decide) (by decide) rfl ?_
  refine k_putR (n := 125) (m := 11) (k := 1) i_132_292 (by decide +kernel) rfl rfl ?_
  refine r_aload_n i_132_295 rfl ?_
  refine r_sipush i_132_296 (by decide) ?_
  refine k_nar (n := 125) (m := 11) (k := 1) (N := 182) i_132_299 rfl rfl (by decide) (by decide) rfl ?_
  refine k_putR (n := 126) (m := 10) (k := 1) i_132_301 (by decide +kernel) rfl rfl ?_
  refine r_aload_n i_132_304 rfl ?_
  refine r_sipush i_132_305 (by decide) ?_
  refine k_nar (n := 126) (m := 10) (k := 1) (N := 182) i_132_308 rfl rfl (by decide) (by decide) rfl ?_
  refine k_putR (n := 127) (m := 9) (k := 1) i_132_310 (by decide +kernel) rfl rfl ?_
  refine r_aload_n i_132_313 rfl ?_
  refine r_bipush i_132_314 (by decide) ?_
  refine k_nar (n := 127) (m := 9) (k := 1) (N := 80) i_132_316 rfl rfl (by decide) (by decide) rfl ?_
  refine k_putR (n := 128) (m := 8) (k := 1) i_132_318 (by decide +kernel) rfl rfl ?_
  refine r_aload_n i_132_321 rfl ?_
  refine r_sipush i_132_322 (by decide) ?_
  refine k_nar (n := 128) (m := 8) (k := 1) (N := 18928) i_132_325 rfl rfl (by decide) (by decide) rfl ?_
  refine k_putR (n := 129) (m := 7) (k := 1) i_132_327 (by decide +kernel) rfl rfl ?_
  refine r_aload_n i_132_330 rfl ?_
  refine r_sipush i_132_331 (by decide) ?_
  refine k_nar (n := 129) (m := 7) (k := 1) (N := 18928) i_132_334 rfl rfl (by decide) (by decide) rfl ?_
  refine k_putR (n := 130) (m := 6) (k := 1) i_132_336 (by decide +kernel) rfl rfl ?_
  refine r_aload_n i_132_339 rfl ?_
  refine r_iconst i_132_340 ?_
  refine k_putI (n := 130) (m := 6) (k := 0) i_132_341 (by decide +kernel) rfl rfl ?_
  refine r_aload_n i_132_344 rfl ?_
  refine r_bipush i_132_345 (by decide) ?_
  refine k_nar (n := 130) (m := 6) (k := 0) (N := 14) i_132_347 rfl rfl (by decide) (by decide) rfl ?_
  refine k_putR (n := 131) (m := 5) (k := 0) i_132_349 (by decide +kernel) rfl rfl ?_
  refine r_aload_n i_132_352 rfl ?_
  refine r_ldc (v := 273104) i_132_353 (by decide) ?_
  refine k_nar (n := 131) (m := 5) (k := 0) (N := 273104) i_132_355 rfl rfl (by decide) (by decide) rfl ?_
  refine k_putR (n := 132) (m := 4) (k := 0) i_132_357 (by decide +kernel) rfl rfl ?_
  refine r_aload_n i_132_360 rfl ?_
  refine r_bipush i_132_361 (by decide) ?_
  refine k_nar (n := 132) (m := 4) (k := 0) (N := 60) i_132_363 rfl rfl (by decide) (by decide) rfl ?_
  refine k_putR (n := 133) (m := 3) (k := 0) i_132_365 (by decide +kernel) rfl rfl ?_
  refine r_aload_n i_132_368 rfl ?_
  refine r_bipush i_132_369 (by decide) ?_
  refine k_nar (n := 133) (m := 3) (k := 0) (N := 60) i_132_371 rfl rfl (by decide) (by decide) rfl ?_
  refine k_putR (n := 134) (m := 2) (k := 0) i_132_373 (by decide +kernel) rfl rfl ?_
  refine r_aload_n i_132_376 rfl ?_
  refine r_bipush i_132_377 (by decide) ?_
  refine k_nar (n := 134) (m := 2) (k := 0) (N := 60) i_132_379 rfl rfl (by decide) (by decide) rfl ?_
  refine k_putR (n := 135) (m := 1) (k := 0) i_132_381 (by decide +kernel) rfl rfl ?_
  refine r_aload_n i_132_384 rfl ?_
  refine r_bipush i_132_385 (by decide) ?_
  refine k_nar (n := 135) (m := 1) (k := 0) (N := 60) i_132_387 rfl rfl (by decide) (by decide) rfl ?_
  refine k_putR (n := 136) (m := 0) (k := 0) i_132_389 (by decide +kernel) rfl rfl ?_
  exact K
