set_option maxHeartbeats 4000000 in
theorem c_82 {L : Nat} {xs : Nat → Int32} {ly : List LK} {F : Nat → Nat → Value} {G A : Nat → Nat → Int} {B : Nat → Nat → Int64} {Q : Option Value → AH → Prop} {word : Int} (hly : LyOk ly) (hF : RfOk F) (hG : GO G) (hA : AQ A) (in_word : inR word) (hw : 0 ≤ word ∧ word ≤ 13) (K : ∀ (r : Int), (r = lfA A word.toNat) → (0 ≤ r ∧ r ≤ 12) → Q (some (V r)) (HP ly F G A B)) : Re L xs 82 0 [(0, .ref 48), (1, V word)] [] (HP ly F G A B) Q := by
  have z32 := a_32 hA word.toNat
  refine r_bipush i_82_0 (by decide) ?_
  refine r_istore_n (l' := [(0, .ref 48), (1, V word), (2, V 12)]) i_82_2 (by decide +kernel) rfl ?_
  refine r_iconst i_82_3 ?_
  refine r_istore_n (l' := [(0, .ref 48), (1, V word), (2, V 12), (3, V 0)]) i_82_4 (by decide +kernel) rfl ?_
  have lp5B : ∀ (nf : Nat) (v : Int) (k : Int), (0 ≤ k ∧ k ≤ A 32 word.toNat) → (v = mng (A 51) (12 * word.toNat) k.toNat) → (0 ≤ v ∧ v ≤ 12) → (12 - k).toNat < nf → Re L xs 82 5 [(0, .ref 48), (1, V word), (2, V v), (3, V k)] [] (HP ly F G A B) Q := by
    intro nf
    induction nf with
    | zero => intros; omega
    | succ nf ih5B =>
      intro v k  hk hv hv2 hm5
      refine r_iload_n i_82_5 rfl ?_
      refine r_aload_n i_82_6 rfl ?_
      refine r_getF (v := .ref 31) i_82_7 rfl (hly 48 _ rfl) (hF.1 48 0 31 rfl) ?_
      refine r_getF (v := .ref 32) i_82_10 rfl (hly 31 _ rfl) (hF.1 31 0 32 rfl) ?_
      refine r_iload_n i_82_13 rfl ?_
      refine r_iald i_82_14 (hly 32 _ rfl) (by omega) (by omega) (by omega) ?_
      have q_1 := a_32 hA (word.toNat)
      refine r_cge (t := 40) i_82_15 (by decide) (by omega) (by omega) (fun u_2 => ?_) (fun u_2 => ?_)
      · skip
        refine r_iload_n i_82_40 rfl ?_
        exact r_iret i_82_41 rfl rfl (K v (by unfold lfA; rw [show (A 32 word.toNat).toNat = k.toNat from by omega]; exact hv) (by omega))
      · skip
        refine r_iload_n i_82_18 rfl ?_
        refine r_aload_n i_82_19 rfl ?_
        refine r_getF (v := .ref 51) i_82_20 rfl (hly 48 _ rfl) (hF.1 48 3 51 rfl) ?_
        refine r_iload_n i_82_23 rfl ?_
        refine r_bipush i_82_24 (by decide) ?_
        refine r_imul i_82_26 ?_
        refine r_iload_n i_82_27 rfl ?_
        refine r_iadd i_82_28 ?_
        refine r_iald i_82_29 (hly 51 _ rfl) (by omega) (by omega) (by omega) ?_
        have q_3 := a_51 hA (((word * 12) + k).toNat)
        refine r_min (r := (0, 0, 0)) i_82_30 (by decide +kernel) (Nat.le_of_ble_eq_true rfl) (by omega) (by omega) (fun m_4 em_4 => ?_)
        refine r_istore_n (l' := [(0, .ref 48), (1, V word), (2, V m_4), (3, V k)]) i_82_33 (by decide +kernel) rfl ?_
        refine r_iinc (l' := [(0, .ref 48), (1, V word), (2, V m_4), (3, V (k + 1))]) i_82_34 rfl (by decide +kernel) rfl ?_
        refine r_go (t := 5) i_82_37 (by decide) ?_
        exact ih5B m_4 (k + 1)  (by omega) (by first | rfl | exact mng_s (by omega) hv (by rw [show 12 * word.toNat + k.toNat = (word * 12 + k).toNat from by omega]) em_4) (by omega) (by omega)
  exact lp5B _ 12 0  (by omega) (by first | rfl | exact mng_s (by omega) hv (by rw [show 12 * word.toNat + k.toNat = (word * 12 + k).toNat from by omega]) e12) (by omega) (Nat.lt_succ_self _)
set_option maxHeartbeats 4000000 in
theorem c_83 {L : Nat} {xs : Nat → Int32} {ly : List LK} {F : Nat → Nat → Value} {G A : Nat → Nat → Int} {B : Nat → Nat → Int64} {Q : Option Value → AH → Prop} {word : Int} (hly : LyOk ly) (hF : RfOk F) (hG : GO G) (hA : AQ A) (in_word : inR word) (hw : 0 ≤ word ∧ word ≤ 13) (K : ∀ (r : Int), (r = mfA A word.toNat) → (0 ≤ r ∧ r ≤ 12) → Q (some (V r)) (HP ly F G A B)) : Re L xs 83 0 [(0, .ref 48), (1, V word)] [] (HP ly F G A B) Q := by
  have z32 := a_32 hA word.toNat
  refine r_iconst i_83_0 ?_
  refine r_istore_n (l' := [(0, .ref 48), (1, V word), (2, V 0)]) i_83_1 (by decide +kernel) rfl ?_
  refine r_iconst i_83_2 ?_
  refine r_istore_n (l' := [(0, .ref 48), (1, V word), (2, V 0), (3, V 0)]) i_83_3 (by decide +kernel) rfl ?_
  have lp4B : ∀ (nf : Nat) (v : Int) (k : Int), (0 ≤ k ∧ k ≤ A 32 word.toNat) → (v = mxg (A 51) (12 * word.toNat) k.toNat) → (0 ≤ v ∧ v ≤ 12) → (12 - k).toNat < nf → Re L xs 83 4 [(0, .ref 48), (1, V word), (2, V v), (3, V k)] [] (HP ly F G A B) Q := by
    intro nf
    induction nf with
    | zero => intros; omega
    | succ nf ih4B =>
      intro v k  hk hv hv2 hm4
      refine r_iload_n i_83_4 rfl ?_
      refine r_aload_n i_83_5 rfl ?_
      refine r_getF (v := .ref 31) i_83_6 rfl (hly 48 _ rfl) (hF.1 48 0 31 rfl) ?_
      refine r_getF (v := .ref 32) i_83_9 rfl (hly 31 _ rfl) (hF.1 31 0 32 rfl) ?_
      refine r_iload_n i_83_12 rfl ?_
      refine r_iald i_83_13 (hly 32 _ rfl) (by omega) (by omega) (by omega) ?_
      have q_1 := a_32 hA (word.toNat)
      refine r_cge (t := 39) i_83_14 (by decide) (by omega) (by omega) (fun u_2 => ?_) (fun u_2 => ?_)
      · skip
        refine r_iload_n i_83_39 rfl ?_
        exact r_iret i_83_40 rfl rfl (K v (by unfold mfA; rw [show (A 32 word.toNat).toNat = k.toNat from by omega]; exact hv) (by omega))
      · skip
        refine r_iload_n i_83_17 rfl ?_
        refine r_aload_n i_83_18 rfl ?_
        refine r_getF (v := .ref 51) i_83_19 rfl (hly 48 _ rfl) (hF.1 48 3 51 rfl) ?_
        refine r_iload_n i_83_22 rfl ?_
        refine r_bipush i_83_23 (by decide) ?_
        refine r_imul i_83_25 ?_
        refine r_iload_n i_83_26 rfl ?_
        refine r_iadd i_83_27 ?_
        refine r_iald i_83_28 (hly 51 _ rfl) (by omega) (by omega) (by omega) ?_
        have q_3 := a_51 hA (((word * 12) + k).toNat)
        refine r_max (r := (0, 0, 0)) i_83_29 (by decide +kernel) (Nat.le_of_ble_eq_true rfl) (by omega) (by omega) (fun m_4 em_4 => ?_)
        refine r_istore_n (l' := [(0, .ref 48), (1, V word), (2, V m_4), (3, V k)]) i_83_32 (by decide +kernel) rfl ?_
        refine r_iinc (l' := [(0, .ref 48), (1, V word), (2, V m_4), (3, V (k + 1))]) i_83_33 rfl (by decide +kernel) rfl ?_
        refine r_go (t := 4) i_83_36 (by decide) ?_
        exact ih4B m_4 (k + 1)  (by omega) (by first | rfl | exact mxg_s (by omega) hv (by rw [show 12 * word.toNat + k.toNat = (word * 12 + k).toNat from by omega]) em_4) (by omega) (by omega)
  exact lp4B _ 0 0  (by omega) (by first | rfl | exact mxg_s (by omega) hv (by rw [show 12 * word.toNat + k.toNat = (word * 12 + k).toNat from by omega]) e0) (by omega) (Nat.lt_succ_self _)
set_option maxHeartbeats 4000000 in
theorem c_81 {L : Nat} {xs : Nat → Int32} {ly : List LK} {F : Nat → Nat → Value} {G A : Nat → Nat → Int} {B : Nat → Nat → Int64} {Q : Option Value → AH → Prop} {target : Int} (hly : LyOk ly) (hF : RfOk F) (hG : GO G) (hA : AQ A) (in_target : inR target) (hc : ∀ w : Nat, (w : Int) < G 31 8 → 1 ≤ A 32 w) (ht : -200 ≤ target ∧ target ≤ 400) (K : ∀ (G' : Nat → Nat → Int) (A' : Nat → Nat → Int), (GO G') → (AQ A') → (∀ a k, ¬ ((a = 48 ∧ k = 9)) → G' a k = G a k) → (∀ a, ¬ (a = 49 ∨ a = 50) → A' a = A a) → (G' 48 9 = 1 → spV G A') → Q none (HP ly F G' A' B)) : Re L xs 81 0 [(0, .ref 48), (1, V target)] [] (HP ly F G A B) Q := by
  have z8 := g_31_8 hG
  refine r_iconst i_81_0 ?_
  refine r_istore_n (l' := [(0, .ref 48), (1, V target), (2, V 0)]) i_81_1 (by decide +kernel) rfl ?_
  refine r_iconst i_81_2 ?_
  refine r_istore_n (l' := [(0, .ref 48), (1, V target), (2, V 0), (3, V 0)]) i_81_3 (by decide +kernel) rfl ?_
  refine r_iconst i_81_4 ?_
  refine r_istore (l' := [(0, .ref 48), (1, V target), (2, V 0), (3, V 0), (4, V 0)]) i_81_5 (by decide +kernel) rfl ?_
  have lp7B : ∀ (nf : Nat) (least : Int) (most : Int) (p : Int) (A7 : Nat → Nat → Int), (AQ A7) → (∀ a, ¬ (a = 49 ∨ a = 50) → A7 a = A a) → (0 ≤ p ∧ p ≤ G 31 8) → (least = sg (lfA A) p.toNat) → (most = sg (mfA A) p.toNat) → (0 ≤ least ∧ least ≤ most ∧ most ≤ 12 * p) → (∀ j : Nat, (j : Int) < p → A7 49 j = sg (lfA A) (j + 1) ∧ A7 50 j = sg (mfA A) (j + 1)) → (14 - p).toNat < nf → Re L xs 81 7 [(0, .ref 48), (1, V target), (2, V least), (3, V most), (4, V p)] [] (HP ly F G A7 B) Q := by
    intro nf
    induction nf with
    | zero => intros; omega
    | succ nf ih7B =>
      intro least most p A7 hA7 fa7 hp hl hm hr hq hm7
      refine r_iload i_81_7 rfl ?_
      refine r_aload_n i_81_9 rfl ?_
      refine r_getF (v := .ref 31) i_81_10 rfl (hly 48 _ rfl) (hF.1 48 0 31 rfl) ?_
      refine r_getI i_81_13 rfl (hly 31 _ rfl) ?_
      have q_1 := g_31_8 hG
      refine r_cge (t := 59) i_81_16 (by decide) (by omega) (by omega) (fun u_2 => ?_) (fun u_2 => ?_)
      · skip
        refine r_aload_n i_81_59 rfl ?_
        have jn75 : ∀ (b : Int), (0 ≤ b ∧ b ≤ 1) → (b = 1 → least ≤ target ∧ target ≤ most) → Re L xs 81 75 [(0, .ref 48), (1, V target), (2, V least), (3, V most), (4, V p)] [V b, .ref 48] (HP ly F G A7 B) Q := by
          intro b  hb hb1
          have en : p = G 31 8 := by omega
          refine r_putZQ i_81_75 (by decide +kernel) (hly 48 _ rfl) (by omega) (fun G_3 eG_3 => ?_)
          have hG_3 : GO G_3 := by rw [eG_3]; exact gu_48_9 hG (by omega) (by omega)
          refine r_iconst i_81_78 ?_
          refine r_istore_n (l' := [(0, .ref 48), (1, V target), (2, V 0), (3, V most), (4, V p)]) i_81_79 (by decide +kernel) rfl ?_
          refine r_iconst i_81_80 ?_
          refine r_istore_n (l' := [(0, .ref 48), (1, V target), (2, V 0), (3, V 0), (4, V p)]) i_81_81 (by decide +kernel) rfl ?_
          refine r_aload_n i_81_82 rfl ?_
          refine r_getF (v := .ref 31) i_81_83 rfl (hly 48 _ rfl) (hF.1 48 0 31 rfl) ?_
          refine r_getI i_81_86 rfl (hly 31 _ rfl) ?_
          rw [show G_3 31 8 = G 31 8 from by rw [eG_3, up2_n (by omega)]]
          refine r_iconst i_81_89 ?_
          refine r_isub i_81_90 ?_
          refine r_istore (l' := [(0, .ref 48), (1, V target), (2, V 0), (3, V 0), (4, V ((G 31 8) - 1))]) i_81_91 (by decide +kernel) rfl ?_
          have lp93B : ∀ (nf : Nat) (lst : Int) (mst : Int) (w : Int) (A93 : Nat → Nat → Int), (AQ A93) → (∀ a, ¬ (a = 49 ∨ a = 50) → A93 a = A7 a) → (-1 ≤ w ∧ w < G 31 8) → (lst = sg (lfA A) (G 31 8).toNat - sg (lfA A) (w + 1).toNat) → (mst = sg (mfA A) (G 31 8).toNat - sg (mfA A) (w + 1).toNat) → (∀ j : Nat, (j : Int) ≤ w → A93 49 j = sg (lfA A) (j + 1) ∧ A93 50 j = sg (mfA A) (j + 1)) → (∀ j : Nat, w < (j : Int) → (j : Int) < G 31 8 → b = 1 → 0 ≤ A93 50 j - A93 49 j ∧ A93 50 j - A93 49 j ≤ 84) → (w + 1).toNat < nf → Re L xs 81 93 [(0, .ref 48), (1, V target), (2, V lst), (3, V mst), (4, V w)] [] (HP ly F G_3 A93 B) Q := by
            intro nf
            induction nf with
            | zero => intros; omega
            | succ nf ih93B =>
              intro lst mst w A93 hA93 fa93 hw hl2 hm2 hq1 hq2 hm93
              refine r_iload i_81_93 rfl ?_
              refine r_lt0 (t := 162) i_81_95 (by decide) (by omega) (fun u_4 => ?_) (fun u_4 => ?_)
              · skip
                exact r_vret i_81_162 rfl (K G_3 A93 hG_3 hA93 (by intro a k hh; rw [eG_3, up2_n (fun h => hh h)]) (by intro a hh; rw [fa93 a (fun h => h.elim (fun h => hh (Or.inl h)) (fun h => hh (Or.inr h))), fa7 a (fun h => h.elim (fun h => hh (Or.inl h)) (fun h => hh (Or.inr h)))]) (by intro h; rw [show G_3 48 9 = b from by rw [eG_3, up2_s]] at h; intro j hj; exact hq2 j (by omega) hj h))
              · skip
                have s1 := sg_r hA hc (a := 0) (b := w + 1) (by omega) (by omega) (by omega)
                have s2 := sg_r hA hc (a := w + 1) (b := G 31 8) (by omega) (by omega) (by omega)
                have s0 : sg (lfA A) (0 : Int).toNat = 0 := rfl
                have s00 : sg (mfA A) (0 : Int).toNat = 0 := rfl
                have hw1 := hq1 w.toNat (by omega)
                rw [show w.toNat + 1 = (w + 1).toNat from by omega] at hw1
                have hw2 := hw1.1
                have hw3 := hw1.2
                refine r_aload_n i_81_98 rfl ?_
                refine r_getF (v := .ref 49) i_81_99 rfl (hly 48 _ rfl) (hF.1 48 1 49 rfl) ?_
                refine r_iload i_81_102 rfl ?_
                refine r_aload_n i_81_104 rfl ?_
                refine r_getF (v := .ref 49) i_81_105 rfl (hly 48 _ rfl) (hF.1 48 1 49 rfl) ?_
                refine r_iload i_81_108 rfl ?_
                refine r_iald i_81_110 (hly 49 _ rfl) (by omega) (by omega) (by omega) ?_
                have q_5 := a_49 hA93 (w.toNat)
                refine r_iload_n i_81_111 rfl ?_
                refine r_iload_n i_81_112 rfl ?_
                refine r_isub i_81_113 ?_
                refine r_max (r := (0, 0, 0)) i_81_114 (by decide +kernel) (Nat.le_of_ble_eq_true rfl) (by omega) (by omega) (fun m_6 em_6 => ?_)
                refine r_iastQ i_81_117 (hly 49 _ rfl) (by omega) (by omega) (by omega) (fun A_7 eA_7 => ?_)
                have hA_7 : AQ A_7 := by rw [eA_7]; exact au_49 hA93 (by omega) (by omega)
                refine r_aload_n i_81_118 rfl ?_
                refine r_getF (v := .ref 50) i_81_119 rfl (hly 48 _ rfl) (hF.1 48 2 50 rfl) ?_
                refine r_iload i_81_122 rfl ?_
                refine r_aload_n i_81_124 rfl ?_
                refine r_getF (v := .ref 50) i_81_125 rfl (hly 48 _ rfl) (hF.1 48 2 50 rfl) ?_
                refine r_iload i_81_128 rfl ?_
                refine r_iald i_81_130 (hly 50 _ rfl) (by omega) (by omega) (by omega) ?_
                rw [show A_7 50 = A93 50 from by rw [eA_7, up2_a (by omega)]]
                have q_8 := a_50 hA93 (w.toNat)
                refine r_iload_n i_81_131 rfl ?_
                refine r_iload_n i_81_132 rfl ?_
                refine r_isub i_81_133 ?_
                refine r_min (r := (0, 0, 0)) i_81_134 (by decide +kernel) (Nat.le_of_ble_eq_true rfl) (by omega) (by omega) (fun m_9 em_9 => ?_)
                refine r_iastQ i_81_137 (hly 50 _ rfl) (by omega) (by omega) (by omega) (fun A_10 eA_10 => ?_)
                have hA_10 : AQ A_10 := by rw [eA_10]; exact au_50 hA_7 (by omega) (by omega)
                refine r_iload_n i_81_138 rfl ?_
                refine r_aload_n i_81_139 rfl ?_
                refine r_iload i_81_140 rfl ?_
                refine r_cV (as := [V w]) i_81_142 rfl (by decide +kernel) (Nat.le_of_ble_eq_true rfl) (Nat.le_of_ble_eq_true rfl) (hly 48 _ rfl) rfl ?_
                refine c_82 (word := w) hly hF hG_3 hA_10 (by omega) (by omega) (fun r_11 p11_0 p11_1 => ?_)
                show Re L xs 81 145 [(0, .ref 48), (1, V target), (2, V lst), (3, V mst), (4, V w)] [V r_11, V lst] (HP ly F G_3 A_10 B) _
                refine r_iadd i_81_145 ?_
                refine r_istore_n (l' := [(0, .ref 48), (1, V target), (2, V (lst + r_11)), (3, V mst), (4, V w)]) i_81_146 (by decide +kernel) rfl ?_
                rw [lfA_c (by rw [eA_10, up2_a (by omega), eA_7, up2_a (by omega), fa93 51 (by omega), fa7 51 (by omega)]) (by rw [eA_10, up2_a (by omega), eA_7, up2_a (by omega), fa93 32 (by omega), fa7 32 (by omega)])] at p11_0
                refine r_iload_n i_81_147 rfl ?_
                refine r_aload_n i_81_148 rfl ?_
                refine r_iload i_81_149 rfl ?_
                refine r_cV (as := [V w]) i_81_151 rfl (by decide +kernel) (Nat.le_of_ble_eq_true rfl) (Nat.le_of_ble_eq_true rfl) (hly 48 _ rfl) rfl ?_
                refine c_83 (word := w) hly hF hG_3 hA_10 (by omega) (by omega) (fun r_12 p12_0 p12_1 => ?_)
                show Re L xs 81 154 [(0, .ref 48), (1, V target), (2, V (lst + r_11)), (3, V mst), (4, V w)] [V r_12, V mst] (HP ly F G_3 A_10 B) _
                refine r_iadd i_81_154 ?_
                refine r_istore_n (l' := [(0, .ref 48), (1, V target), (2, V (lst + r_11)), (3, V (mst + r_12)), (4, V w)]) i_81_155 (by decide +kernel) rfl ?_
                rw [mfA_c (by rw [eA_10, up2_a (by omega), eA_7, up2_a (by omega), fa93 51 (by omega), fa7 51 (by omega)]) (by rw [eA_10, up2_a (by omega), eA_7, up2_a (by omega), fa93 32 (by omega), fa7 32 (by omega)])] at p12_0
                have x49_1 : A_7 49 = fun i => if i = w.toNat then m_6 else A93 49 i := by rw [eA_7, up2_f]
                have x49 : A_10 49 = fun i => if i = w.toNat then m_6 else A93 49 i := by rw [eA_10, up2_a (by omega), x49_1]
                have x50_1 : A_10 50 = fun i => if i = w.toNat then m_9 else A93 50 i := by rw [eA_10, up2_f, eA_7, up2_a (by omega)]
                have x50 : A_10 50 = fun i => if i = w.toNat then m_9 else A93 50 i := by rw [x50_1]
                refine r_iinc (l' := [(0, .ref 48), (1, V target), (2, V (lst + r_11)), (3, V (mst + r_12)), (4, V (w + (-1)))]) i_81_156 rfl (by decide +kernel) rfl ?_
                refine r_go (t := 93) i_81_159 (by decide) ?_
                exact ih93B (lst + r_11) (mst + r_12) (w + (-1)) A_10 hA_10 (by intro a hh; rw [eA_10, up2_a (fun h => hh (Or.inr h)), eA_7, up2_a (fun h => hh (Or.inl h)), fa93 a (fun h => h.elim (fun h => hh (Or.inl h)) (fun h => hh (Or.inr h)))]) (by omega) (by first | (rw [show G 31 8 - 1 + 1 = G 31 8 from by omega]; omega) | (rw [show w + -1 + 1 = w from by omega]; have hh := sg_s (f := lfA A) (p := w) rfl p11_0 (by omega); omega)) (by first | (rw [show G 31 8 - 1 + 1 = G 31 8 from by omega]; omega) | (rw [show w + -1 + 1 = w from by omega]; have hh := sg_s (f := mfA A) (p := w) rfl p12_0 (by omega); omega)) (by first | (intro j hj; exact hq j (by omega)) | (intro j hj; rw [x49, x50]; dsimp only; rw [if_neg (by omega), if_neg (by omega)]; exact hq1 j (by omega))) (by first | (intro j h1 h2; exfalso; omega) | (intro j h1 h2 h3; have h4 := hb1 h3; rw [hl, hm, en] at h4; rw [x49, x50]; dsimp only; exact if e : j = w.toNat then (by rw [if_pos e, if_pos e]; omega) else (by rw [if_neg e, if_neg e]; exact hq2 j (by omega) h2 h3))) (by omega)
          exact lp93B _ 0 0 ((G 31 8) - 1) A7 hA7 (by intro a hh; rfl) (by omega) (by first | (rw [show G 31 8 - 1 + 1 = G 31 8 from by omega]; omega) | (rw [show w + -1 + 1 = w from by omega]; have hh := sg_s (f := lfA A) (p := w) rfl zzp0 (by omega); omega)) (by first | (rw [show G 31 8 - 1 + 1 = G 31 8 from by omega]; omega) | (rw [show w + -1 + 1 = w from by omega]; have hh := sg_s (f := mfA A) (p := w) rfl zzp0 (by omega); omega)) (by first | (intro j hj; exact hq j (by omega)) | (intro j hj; rw [x49, x50]; dsimp only; rw [if_neg (by omega), if_neg (by omega)]; exact hq1 j (by omega))) (by first | (intro j h1 h2; exfalso; omega) | (intro j h1 h2 h3; have h4 := hb1 h3; rw [hl, hm, en] at h4; rw [x49, x50]; dsimp only; exact if e : j = w.toNat then (by rw [if_pos e, if_pos e]; omega) else (by rw [if_neg e, if_neg e]; exact hq2 j (by omega) h2 h3))) (Nat.lt_succ_self _)
        refine r_iload_n i_81_60 rfl ?_
        refine r_iload_n i_81_61 rfl ?_
        refine r_cgt (t := 74) i_81_62 (by decide) (by omega) (by omega) (fun u_13 => ?_) (fun u_13 => ?_)
        · skip
          refine r_iconst i_81_74 ?_
          exact jn75 0  (by omega) (by omega)
        · skip
          refine r_iload_n i_81_65 rfl ?_
          refine r_iload_n i_81_66 rfl ?_
          refine r_cgt (t := 74) i_81_67 (by decide) (by omega) (by omega) (fun u_14 => ?_) (fun u_14 => ?_)
          · skip
            refine r_iconst i_81_74 ?_
            exact jn75 0  (by omega) (by omega)
          · skip
            refine r_iconst i_81_70 ?_
            refine r_go (t := 75) i_81_71 (by decide) ?_
            exact jn75 1  (by omega) (by omega)
      · skip
        have hc1 := (lm_rg hA p.toNat).2.2 (hc p.toNat (by omega))
        refine r_iload_n i_81_19 rfl ?_
        refine r_aload_n i_81_20 rfl ?_
        refine r_iload i_81_21 rfl ?_
        refine r_cV (as := [V p]) i_81_23 rfl (by decide +kernel) (Nat.le_of_ble_eq_true rfl) (Nat.le_of_ble_eq_true rfl) (hly 48 _ rfl) rfl ?_
        refine c_82 (word := p) hly hF hG hA7 (by omega) (by omega) (fun r_15 p15_0 p15_1 => ?_)
        show Re L xs 81 26 [(0, .ref 48), (1, V target), (2, V least), (3, V most), (4, V p)] [V r_15, V least] (HP ly F G A7 B) _
        refine r_iadd i_81_26 ?_
        refine r_istore_n (l' := [(0, .ref 48), (1, V target), (2, V (least + r_15)), (3, V most), (4, V p)]) i_81_27 (by decide +kernel) rfl ?_
        rw [lfA_c (by rw [fa7 51 (by omega)]) (by rw [fa7 32 (by omega)])] at p15_0
        refine r_iload_n i_81_28 rfl ?_
        refine r_aload_n i_81_29 rfl ?_
        refine r_iload i_81_30 rfl ?_
        refine r_cV (as := [V p]) i_81_32 rfl (by decide +kernel) (Nat.le_of_ble_eq_true rfl) (Nat.le_of_ble_eq_true rfl) (hly 48 _ rfl) rfl ?_
        refine c_83 (word := p) hly hF hG hA7 (by omega) (by omega) (fun r_16 p16_0 p16_1 => ?_)
        show Re L xs 81 35 [(0, .ref 48), (1, V target), (2, V (least + r_15)), (3, V most), (4, V p)] [V r_16, V most] (HP ly F G A7 B) _
        refine r_iadd i_81_35 ?_
        refine r_istore_n (l' := [(0, .ref 48), (1, V target), (2, V (least + r_15)), (3, V (most + r_16)), (4, V p)]) i_81_36 (by decide +kernel) rfl ?_
        rw [mfA_c (by rw [fa7 51 (by omega)]) (by rw [fa7 32 (by omega)])] at p16_0
        refine r_aload_n i_81_37 rfl ?_
        refine r_getF (v := .ref 49) i_81_38 rfl (hly 48 _ rfl) (hF.1 48 1 49 rfl) ?_
        refine r_iload i_81_41 rfl ?_
        refine r_iload_n i_81_43 rfl ?_
        refine r_iastQ i_81_44 (hly 49 _ rfl) (by omega) (by omega) (by omega) (fun A_17 eA_17 => ?_)
        have hA_17 : AQ A_17 := by rw [eA_17]; exact au_49 hA7 (by omega) (by omega)
        refine r_aload_n i_81_45 rfl ?_
        refine r_getF (v := .ref 50) i_81_46 rfl (hly 48 _ rfl) (hF.1 48 2 50 rfl) ?_
        refine r_iload i_81_49 rfl ?_
        refine r_iload_n i_81_51 rfl ?_
        refine r_iastQ i_81_52 (hly 50 _ rfl) (by omega) (by omega) (by omega) (fun A_18 eA_18 => ?_)
        have hA_18 : AQ A_18 := by rw [eA_18]; exact au_50 hA_17 (by omega) (by omega)
        have x49_1 : A_17 49 = fun i => if i = p.toNat then least + r_15 else A7 49 i := by rw [eA_17, up2_f]
        have x49 : A_18 49 = fun i => if i = p.toNat then least + r_15 else A7 49 i := by rw [eA_18, up2_a (by omega), x49_1]
        have x50_1 : A_18 50 = fun i => if i = p.toNat then most + r_16 else A7 50 i := by rw [eA_18, up2_f, eA_17, up2_a (by omega)]
        have x50 : A_18 50 = fun i => if i = p.toNat then most + r_16 else A7 50 i := by rw [x50_1]
        refine r_iinc (l' := [(0, .ref 48), (1, V target), (2, V (least + r_15)), (3, V (most + r_16)), (4, V (p + 1))]) i_81_53 rfl (by decide +kernel) rfl ?_
        refine r_go (t := 7) i_81_56 (by decide) ?_
        exact ih7B (least + r_15) (most + r_16) (p + 1) A_18 hA_18 (by intro a hh; rw [eA_18, up2_a (fun h => hh (Or.inr h)), eA_17, up2_a (fun h => hh (Or.inl h)), fa7 a (fun h => h.elim (fun h => hh (Or.inl h)) (fun h => hh (Or.inr h)))]) (by omega) (by first | rfl | exact sg_s hl p15_0 (by omega)) (by first | rfl | exact sg_s hm p16_0 (by omega)) (by omega) (by first | (intro j hj; exfalso; omega) | (intro j hj; rw [x49, x50]; dsimp only; exact if e : j = p.toNat then (by rw [if_pos e, if_pos e, e, show p.toNat + 1 = (p + 1).toNat from by omega]; exact ⟨sg_s hl p15_0 (by omega), sg_s hm p16_0 (by omega)⟩) else (by rw [if_neg e, if_neg e]; exact hq j (by omega)))) (by omega)
  exact lp7B _ 0 0 0 A hA (by intro a hh; rfl) (by omega) (by first | rfl | exact sg_s hl zzp0 (by omega)) (by first | rfl | exact sg_s hm zzp0 (by omega)) (by omega) (by first | (intro j hj; exfalso; omega) | (intro j hj; rw [x49, x50]; dsimp only; exact if e : j = p.toNat then (by rw [if_pos e, if_pos e, e, show p.toNat + 1 = (p + 1).toNat from by omega]; exact ⟨sg_s hl zzp0 (by omega), sg_s hm zzp0 (by omega)⟩) else (by rw [if_neg e, if_neg e]; exact hq j (by omega)))) (Nat.lt_succ_self _)
set_option maxHeartbeats 4000000 in
theorem c_88 {L : Nat} {xs : Nat → Int32} {ly : List LK} {F : Nat → Nat → Value} {G A : Nat → Nat → Int} {B : Nat → Nat → Int64} {Q : Option Value → AH → Prop} {word : Int} {kind : Int} (hly : LyOk ly) (hF : RfOk F) (hG : GO G) (hA : AQ A) (in_word : inR word) (in_kind : inR kind) (hw : 0 ≤ word ∧ word ≤ 13) (K : ∀ (r : Int), (0 ≤ r ∧ r ≤ 1) → (r = 1 ↔ hkB (A 53 word.toNat) kind) → Q (some (V r)) (HP ly F G A B)) : Re L xs 88 0 [(0, .ref 48), (1, V word), (2, V kind)] [] (HP ly F G A B) Q := by
  refine r_aload_n i_88_0 rfl ?_
  refine r_getF (v := .ref 53) i_88_1 rfl (hly 48 _ rfl) (hF.1 48 5 53 rfl) ?_
  refine r_iload_n i_88_4 rfl ?_
  refine r_iald i_88_5 (hly 53 _ rfl) (by omega) (by omega) (by omega) ?_
  have q_1 := a_53 hA (word.toNat)
  refine r_iload_n i_88_6 rfl ?_
  refine r_bin (z := (Int32.ofInt (A 53 (word.toNat)) >>> (Int32.ofInt kind &&& 31)).toInt) i_88_7 rfl (oI_of _) ?_
  refine r_iconst i_88_8 ?_
  refine r_bin (z := (Int32.ofInt ((Int32.ofInt (A 53 (word.toNat)) >>> (Int32.ofInt kind &&& 31)).toInt) &&& Int32.ofInt 1).toInt) i_88_9 rfl (oI_of _) ?_
  have hzz : inR ((Int32.ofInt ((Int32.ofInt (A 53 (word.toNat)) >>> (Int32.ofInt kind &&& 31)).toInt) &&& Int32.ofInt 1).toInt) := x_rng _
  refine r_eq0 (t := 17) i_88_10 (by decide) (by omega) (fun u_2 => ?_) (fun u_2 => ?_)
  · skip
    refine r_iconst i_88_17 ?_
    exact r_iret i_88_18 rfl (nar_Z (by omega)) (K 0 (by omega) (by unfold hkB hkE; constructor <;> (intro h; omega)))
  · skip
    refine r_iconst i_88_13 ?_
    refine r_go (t := 18) i_88_14 (by decide) ?_
    exact r_iret i_88_18 rfl (nar_Z (by omega)) (K 1 (by omega) (by unfold hkB hkE; constructor <;> (intro h; omega)))
set_option maxHeartbeats 4000000 in
theorem c_80 {L : Nat} {xs : Nat → Int32} {ly : List LK} {F : Nat → Nat → Value} {G A : Nat → Nat → Int} {B : Nat → Nat → Int64} {Q : Option Value → AH → Prop} {q : Nat} {metre : Int} (hly : LyOk ly) (hF : RfOk F) (hG : GO G) (hA : AQ A) (in_metre : inR metre) (hc : ∀ w : Nat, (w : Int) < G 31 8 → 1 ≤ A 32 w) (hmt : -1 ≤ metre ∧ metre ≤ 400) (K : ∀ (F' : Nat → Nat → Value) (G' : Nat → Nat → Int) (A' : Nat → Nat → Int), (RfOk F') → (GO G') → (AQ A') → (∀ a k, ¬ ((a = 48 ∧ k = 4)) → F' a k = F a k) → (∀ a k, ¬ ((a = 48 ∧ k = 9)) → G' a k = G a k) → (∀ a, ¬ (a = 51 ∨ a = 53 ∨ a = 49 ∨ a = 50) → A' a = A a) → (F' 48 4 = .ref q) → (G' 48 9 = 1 → spV G A') → (0 < G 31 8 → ksV A') → Q none (HP ly F' G' A' B)) : Re L xs 80 0 [(0, .ref 48), (1, .ref q), (2, V metre)] [] (HP ly F G A B) Q := by
  have z8 := g_31_8 hG
  refine r_aload_n i_80_0 rfl ?_
  refine r_aload_n i_80_1 rfl ?_
  refine r_putRQ i_80_2 (by decide +kernel) (hly 48 _ rfl) (fun F_1 eF_1 => ?_)
  have hF_1 : RfOk F_1 := by rw [eF_1]; exact RfOk.up hF rfl (by omega)
  refine r_iload_n i_80_5 rfl ?_
  refine r_istore_n (l' := [(0, .ref 48), (1, .ref q), (2, V metre), (3, V metre)]) i_80_6 (by decide +kernel) rfl ?_
  refine r_iconst i_80_7 ?_
  refine r_istore (l' := [(0, .ref 48), (1, .ref q), (2, V metre), (3, V metre), (4, V 0)]) i_80_8 (by decide +kernel) rfl ?_
  have lp10B : ∀ (nf : Nat) (tg : Int) (w : Int) (l5 : Int) (l6 : Int) (A10 : Nat → Nat → Int), (AQ A10) → (∀ a, ¬ (a = 51 ∨ a = 53) → A10 a = A a) → (0 ≤ w ∧ w ≤ G 31 8) → (metre - 12 * w ≤ tg ∧ tg ≤ metre) → (0 < w → ksV A10) → (14 - w).toNat < nf → Re L xs 80 10 [(0, .ref 48), (1, .ref q), (2, V metre), (3, V tg), (4, V w), (5, V l5), (6, V l6)] [] (HP ly F_1 G A10 B) Q := by
    intro nf
    induction nf with
    | zero => intros; omega
    | succ nf ih10B =>
      intro tg w l5 l6 A10 hA10 fa10 hw ht hks hm10
      refine r_iload i_80_10 rfl ?_
      refine r_aload_n i_80_12 rfl ?_
      refine r_getF (v := .ref 31) i_80_13 rfl (hly 48 _ rfl) (hF_1.1 48 0 31 rfl) ?_
      refine r_getI i_80_16 rfl (hly 31 _ rfl) ?_
      have q_2 := g_31_8 hG
      refine r_cge (t := 132) i_80_19 (by decide) (by omega) (by omega) (fun u_3 => ?_) (fun u_3 => ?_)
      · skip
        refine r_aload_n i_80_132 rfl ?_
        have jn143 : ∀ (tg2 : Int), (-200 ≤ tg2 ∧ tg2 ≤ 400) → Re L xs 80 143 [(0, .ref 48), (1, .ref q), (2, V metre), (3, V tg), (4, V w), (5, V l5), (6, V l6)] [V tg2, .ref 48] (HP ly F_1 G A10 B) Q := by
          intro tg2  htg
          refine r_cV (as := [V tg2]) i_80_143 rfl (by decide +kernel) (Nat.le_of_ble_eq_true rfl) (Nat.le_of_ble_eq_true rfl) (hly 48 _ rfl) rfl ?_
          refine c_81 (target := tg2) hly hF_1 hG hA10 (by omega) (by intro j hj; rw [show A10 32 = A 32 from by rw [fa10 32 (by omega)]]; exact hc j hj) (by omega) (fun G_4 A_5 hG_4 hA_5 fg5 fa5 p5_0 => ?_)
          show Re L xs 80 146 [(0, .ref 48), (1, .ref q), (2, V metre), (3, V tg), (4, V w), (5, V l5), (6, V l6)] [] (HP ly F_1 G_4 A_5 B) _
          exact r_vret i_80_146 rfl (K F_1 G_4 A_5 hF_1 hG_4 hA_5 (by intro a k hh; rw [eF_1, up2_n (fun h => hh h)]) (by intro a k hh; rw [fg5 a k (fun h => hh h)]) (by intro a hh; rw [fa5 a (fun h => h.elim (fun h => hh (Or.inr (Or.inr (Or.inl h)))) (fun h => hh (Or.inr (Or.inr (Or.inr h))))), fa10 a (fun h => h.elim (fun h => hh (Or.inl h)) (fun h => hh (Or.inr (Or.inl h))))]) (by rw [eF_1, up2_s]) (by exact p5_0) (by intro h; exact ksV_c (by rw [fa5 32 (by omega)]) (by rw [fa5 53 (by omega)]) (by rw [fa5 37 (by omega)]) (hks (by omega))))
        refine r_iload_n i_80_133 rfl ?_
        refine r_iconst i_80_134 ?_
        refine r_cne (t := 142) i_80_135 (by decide) (by omega) (by omega) (fun u_6 => ?_) (fun u_6 => ?_)
        · skip
          refine r_iload_n i_80_142 rfl ?_
          exact jn143 tg  (by omega)
        · skip
          refine r_iconst i_80_138 ?_
          refine r_go (t := 143) i_80_139 (by decide) ?_
          exact jn143 0  (by omega)
      · skip
        refine r_iload_n i_80_22 rfl ?_
        refine r_aload_n i_80_23 rfl ?_
        refine r_getF (v := .ref 31) i_80_24 rfl (hly 48 _ rfl) (hF_1.1 48 0 31 rfl) ?_
        refine r_getF (v := .ref 33) i_80_27 rfl (hly 31 _ rfl) (hF_1.1 31 1 33 rfl) ?_
        refine r_iload i_80_30 rfl ?_
        refine r_iald i_80_32 (hly 33 _ rfl) (by omega) (by omega) (by omega) ?_
        rw [show A10 33 = A 33 from by rw [fa10 33 (by omega)]]
        have q_7 := a_33 hA (w.toNat)
        refine r_isub i_80_33 ?_
        refine r_istore_n (l' := [(0, .ref 48), (1, .ref q), (2, V metre), (3, V (tg - (A 33 (w.toNat)))), (4, V w), (5, V l5), (6, V l6)]) i_80_34 (by decide +kernel) rfl ?_
        refine r_aload_n i_80_35 rfl ?_
        refine r_getF (v := .ref 53) i_80_36 rfl (hly 48 _ rfl) (hF_1.1 48 5 53 rfl) ?_
        refine r_iload i_80_39 rfl ?_
        refine r_iconst i_80_41 ?_
        refine r_iastQ i_80_42 (hly 53 _ rfl) (by omega) (by omega) (by omega) (fun A_8 eA_8 => ?_)
        have hA_8 : AQ A_8 := by rw [eA_8]; exact au_53 hA10 (by omega) (by omega)
        refine r_iload i_80_43 rfl ?_
        refine r_bipush i_80_45 (by decide) ?_
        refine r_imul i_80_47 ?_
        refine r_istore (l' := [(0, .ref 48), (1, .ref q), (2, V metre), (3, V (tg - (A 33 (w.toNat)))), (4, V w), (5, V (w * 12)), (6, V l6)]) i_80_48 (by decide +kernel) rfl ?_
        refine r_iload i_80_50 rfl ?_
        refine r_istore (l' := [(0, .ref 48), (1, .ref q), (2, V metre), (3, V (tg - (A 33 (w.toNat)))), (4, V w), (5, V (w * 12)), (6, V (w * 12))]) i_80_52 (by decide +kernel) rfl ?_
        have lp54B : ∀ (nf : Nat) (s : Int) (A54 : Nat → Nat → Int), (AQ A54) → (∀ a, ¬ (a = 51 ∨ a = 53) → A54 a = A_8 a) → (w * 12 ≤ s ∧ s ≤ w * 12 + 12) → (w = 0 → ∀ j : Nat, (j : Int) < s → hkB (A54 53 0) (A54 37 j)) → (0 < w → ksV A54) → (w * 12 + 12 - s).toNat < nf → Re L xs 80 54 [(0, .ref 48), (1, .ref q), (2, V metre), (3, V (tg - (A 33 (w.toNat)))), (4, V w), (5, V (w * 12)), (6, V s)] [] (HP ly F_1 G A54 B) Q := by
          intro nf
          induction nf with
          | zero => intros; omega
          | succ nf ih54B =>
            intro s A54 hA54 fa54 hs hk1 hk2 hm54
            refine r_iload i_80_54 rfl ?_
            refine r_iload i_80_56 rfl ?_
            refine r_aload_n i_80_58 rfl ?_
            refine r_getF (v := .ref 31) i_80_59 rfl (hly 48 _ rfl) (hF_1.1 48 0 31 rfl) ?_
            refine r_getF (v := .ref 32) i_80_62 rfl (hly 31 _ rfl) (hF_1.1 31 0 32 rfl) ?_
            refine r_iload i_80_65 rfl ?_
            refine r_iald i_80_67 (hly 32 _ rfl) (by omega) (by omega) (by omega) ?_
            rw [show A54 32 = A 32 from by rw [fa54 32 (by omega), eA_8, up2_a (by omega), fa10 32 (by omega)]]
            have q_9 := a_32 hA (w.toNat)
            refine r_iadd i_80_68 ?_
            refine r_cge (t := 126) i_80_69 (by decide) (by omega) (by omega) (fun u_10 => ?_) (fun u_10 => ?_)
            · skip
              refine r_iinc (l' := [(0, .ref 48), (1, .ref q), (2, V metre), (3, V (tg - (A 33 (w.toNat)))), (4, V (w + 1)), (5, V (w * 12)), (6, V s)]) i_80_126 rfl (by decide +kernel) rfl ?_
              refine r_go (t := 10) i_80_129 (by decide) ?_
              exact ih10B (tg - (A 33 (w.toNat))) (w + 1) (w * 12) s A54 hA54 (by intro a hh; rw [fa54 a (fun h => h.elim (fun h => hh (Or.inl h)) (fun h => hh (Or.inr h))), eA_8, up2_a (fun h => hh (Or.inr h)), fa10 a (fun h => h.elim (fun h => hh (Or.inl h)) (fun h => hh (Or.inr h)))]) (by omega) (by omega) (by first | (intro h; exfalso; omega) | (intro _; exact if e : w = 0 then (by intro j hj; rw [show A54 32 = A 32 from by rw [fa54 32 (by omega), eA_8, up2_a (by omega), fa10 32 (by omega)], ← show w.toNat = 0 from by omega] at hj; exact hk1 e j (by omega)) else hk2 (by omega))) (by omega)
            · skip
              refine r_aload_n i_80_72 rfl ?_
              refine r_getF (v := .ref 51) i_80_73 rfl (hly 48 _ rfl) (hF_1.1 48 3 51 rfl) ?_
              refine r_iload i_80_76 rfl ?_
              have jn97 : ∀ (v : Int), (0 ≤ v ∧ v ≤ 12) → Re L xs 80 97 [(0, .ref 48), (1, .ref q), (2, V metre), (3, V (tg - (A 33 (w.toNat)))), (4, V w), (5, V (w * 12)), (6, V s)] [V v, V s, .ref 51] (HP ly F_1 G A54 B) Q := by
                intro v  hv
                refine r_iastQ i_80_97 (hly 51 _ rfl) (by omega) (by omega) (by omega) (fun A_11 eA_11 => ?_)
                have hA_11 : AQ A_11 := by rw [eA_11]; exact au_51 hA54 (by omega) (by omega)
                refine r_aload_n i_80_98 rfl ?_
                refine r_getF (v := .ref 53) i_80_99 rfl (hly 48 _ rfl) (hF_1.1 48 5 53 rfl) ?_
                refine r_iload i_80_102 rfl ?_
                refine re_nx i_80_104 rfl ?_
                refine r_iald i_80_105 (hly 53 _ rfl) (by omega) (by omega) (by omega) ?_
                rw [show A_11 53 = A54 53 from by rw [eA_11, up2_a (by omega)]]
                have q_12 := a_53 hA54 (w.toNat)
                refine r_iconst i_80_106 ?_
                refine r_aload_n i_80_107 rfl ?_
                refine r_getF (v := .ref 31) i_80_108 rfl (hly 48 _ rfl) (hF_1.1 48 0 31 rfl) ?_
                refine r_getF (v := .ref 37) i_80_111 rfl (hly 31 _ rfl) (hF_1.1 31 3 37 rfl) ?_
                refine r_iload i_80_114 rfl ?_
                refine r_iald i_80_116 (hly 37 _ rfl) (by omega) (by omega) (by omega) ?_
                rw [show A_11 37 = A 37 from by rw [eA_11, up2_a (by omega), fa54 37 (by omega), eA_8, up2_a (by omega), fa10 37 (by omega)]]
                have q_13 := a_37 hA (s.toNat)
                refine r_bin (z := (Int32.ofInt 1 <<< (Int32.ofInt (A 37 (s.toNat)) &&& 31)).toInt) i_80_117 rfl (oI_of _) ?_
                refine r_bin (z := (Int32.ofInt (A54 53 (w.toNat)) ||| Int32.ofInt ((Int32.ofInt 1 <<< (Int32.ofInt (A 37 (s.toNat)) &&& 31)).toInt)).toInt) i_80_118 rfl (oI_of _) ?_
                have hor := orE_r (a := A54 53 w.toNat) (k := A 37 s.toNat) (a_53 hA54 _).1 (a_53 hA54 _).2 (a_37 hA _).1 (a_37 hA _).2
                have hor1 := hor.1
                have hor2 := hor.2.1
                unfold orE at hor1 hor2
                refine r_iastQ i_80_119 (hly 53 _ rfl) (by omega) (by omega) (by omega) (fun A_14 eA_14 => ?_)
                have hA_14 : AQ A_14 := by rw [eA_14]; exact au_53 hA_11 (by omega) (by omega)
                have x53_1 : A_14 53 = fun i => if i = w.toNat then (Int32.ofInt (A54 53 (w.toNat)) ||| Int32.ofInt ((Int32.ofInt 1 <<< (Int32.ofInt (A 37 (s.toNat)) &&& 31)).toInt)).toInt else A54 53 i := by rw [eA_14, up2_f, eA_11, up2_a (by omega)]
                have x53 : A_14 53 = fun i => if i = w.toNat then (Int32.ofInt (A54 53 (w.toNat)) ||| Int32.ofInt ((Int32.ofInt 1 <<< (Int32.ofInt (A 37 (s.toNat)) &&& 31)).toInt)).toInt else A54 53 i := by rw [x53_1]
                refine r_iinc (l' := [(0, .ref 48), (1, .ref q), (2, V metre), (3, V (tg - (A 33 (w.toNat)))), (4, V w), (5, V (w * 12)), (6, V (s + 1))]) i_80_120 rfl (by decide +kernel) rfl ?_
                refine r_go (t := 54) i_80_123 (by decide) ?_
                exact ih54B (s + 1) A_14 hA_14 (by intro a hh; rw [eA_14, up2_a (fun h => hh (Or.inr h)), eA_11, up2_a (fun h => hh (Or.inl h)), fa54 a (fun h => h.elim (fun h => hh (Or.inl h)) (fun h => hh (Or.inr h)))]) (by omega) (by first | (intro h j hj; exfalso; omega) | (intro h; exact ks_1 (A1 := A54) hA54 (hk1 h) h (by omega) x53 (by rw [show A54 37 = A 37 from by rw [fa54 37 (by omega), eA_8, up2_a (by omega), fa10 37 (by omega)]]; rfl) (by rw [eA_14, up2_a (by omega), eA_11, up2_a (by omega)]))) (by first | (intro h; exact ks_2 (A1 := A10) (hks h) h (by rw [eA_14, up2_f]) (by rw [eA_14, up2_a (by omega), eA_11, up2_a (by omega), fa54 32 (by omega), eA_8, up2_a (by omega)]) (by rw [eA_14, up2_a (by omega), eA_11, up2_a (by omega), fa54 37 (by omega), eA_8, up2_a (by omega)])) | (intro h; exact ks_2 (A1 := A54) (hk2 h) h x53 (by rw [eA_14, up2_a (by omega), eA_11, up2_a (by omega)]) (by rw [eA_14, up2_a (by omega), eA_11, up2_a (by omega)]))) (by omega)
              refine r_iload_n i_80_78 rfl ?_
              refine r_iconst i_80_79 ?_
              refine r_cne (t := 87) i_80_80 (by decide) (by omega) (by omega) (fun u_15 => ?_) (fun u_15 => ?_)
              · skip
                refine r_aload_n i_80_87 rfl ?_
                refine r_getF (v := .ref 31) i_80_88 rfl (hly 48 _ rfl) (hF_1.1 48 0 31 rfl) ?_
                refine r_getF (v := .ref 39) i_80_91 rfl (hly 31 _ rfl) (hF_1.1 31 5 39 rfl) ?_
                refine r_iload i_80_94 rfl ?_
                refine r_iald i_80_96 (hly 39 _ rfl) (by omega) (by omega) (by omega) ?_
                rw [show A54 39 = A 39 from by rw [fa54 39 (by omega), eA_8, up2_a (by omega), fa10 39 (by omega)]]
                have q_16 := a_39 hA (s.toNat)
                exact jn97 (A 39 (s.toNat))  (by omega)
              · skip
                refine r_iconst i_80_83 ?_
                refine r_go (t := 97) i_80_84 (by decide) ?_
                exact jn97 0  (by omega)
        exact lp54B _ (w * 12) A_8 hA_8 (by intro a hh; rfl) (by omega) (by first | (intro h j hj; exfalso; omega) | (intro h; exact ks_1 (A1 := A54) hA54 (hk1 h) h (by omega) x53 (by rw [show A54 37 = A 37 from by fail]; rfl) (by fail))) (by first | (intro h; exact ks_2 (A1 := A10) (hks h) h (by rw [eA_8, up2_f]) (by rw [eA_8, up2_a (by omega)]) (by rw [eA_8, up2_a (by omega)])) | (intro h; exact ks_2 (A1 := A54) (hk2 h) h x53 (by fail) (by fail))) (Nat.lt_succ_self _)
  have lp10A34 : ∀ (nf : Nat) (tg : Int) (w : Int) (A10 : Nat → Nat → Int), (AQ A10) → (∀ a, ¬ (a = 51 ∨ a = 53) → A10 a = A a) → (0 ≤ w ∧ w ≤ G 31 8) → (metre - 12 * w ≤ tg ∧ tg ≤ metre) → (0 < w → ksV A10) → (14 - w).toNat < nf → Re L xs 80 10 [(0, .ref 48), (1, .ref q), (2, V metre), (3, V tg), (4, V w)] [] (HP ly F_1 G A10 B) Q := by
    intro nf
    induction nf with
    | zero => intros; omega
    | succ nf ih10A34 =>
      intro tg w A10 hA10 fa10 hw ht hks hm10
      refine r_iload i_80_10 rfl ?_
      refine r_aload_n i_80_12 rfl ?_
      refine r_getF (v := .ref 31) i_80_13 rfl (hly 48 _ rfl) (hF_1.1 48 0 31 rfl) ?_
      refine r_getI i_80_16 rfl (hly 31 _ rfl) ?_
      have q_17 := g_31_8 hG
      refine r_cge (t := 132) i_80_19 (by decide) (by omega) (by omega) (fun u_18 => ?_) (fun u_18 => ?_)
      · skip
        refine r_aload_n i_80_132 rfl ?_
        have jn143 : ∀ (tg2 : Int), (-200 ≤ tg2 ∧ tg2 ≤ 400) → Re L xs 80 143 [(0, .ref 48), (1, .ref q), (2, V metre), (3, V tg), (4, V w)] [V tg2, .ref 48] (HP ly F_1 G A10 B) Q := by
          intro tg2  htg
          refine r_cV (as := [V tg2]) i_80_143 rfl (by decide +kernel) (Nat.le_of_ble_eq_true rfl) (Nat.le_of_ble_eq_true rfl) (hly 48 _ rfl) rfl ?_
          refine c_81 (target := tg2) hly hF_1 hG hA10 (by omega) (by intro j hj; rw [show A10 32 = A 32 from by rw [fa10 32 (by omega)]]; exact hc j hj) (by omega) (fun G_19 A_20 hG_19 hA_20 fg20 fa20 p20_0 => ?_)
          show Re L xs 80 146 [(0, .ref 48), (1, .ref q), (2, V metre), (3, V tg), (4, V w)] [] (HP ly F_1 G_19 A_20 B) _
          exact r_vret i_80_146 rfl (K F_1 G_19 A_20 hF_1 hG_19 hA_20 (by intro a k hh; rw [eF_1, up2_n (fun h => hh h)]) (by intro a k hh; rw [fg20 a k (fun h => hh h)]) (by intro a hh; rw [fa20 a (fun h => h.elim (fun h => hh (Or.inr (Or.inr (Or.inl h)))) (fun h => hh (Or.inr (Or.inr (Or.inr h))))), fa10 a (fun h => h.elim (fun h => hh (Or.inl h)) (fun h => hh (Or.inr (Or.inl h))))]) (by rw [eF_1, up2_s]) (by exact p20_0) (by intro h; exact ksV_c (by rw [fa20 32 (by omega)]) (by rw [fa20 53 (by omega)]) (by rw [fa20 37 (by omega)]) (hks (by omega))))
        refine r_iload_n i_80_133 rfl ?_
        refine r_iconst i_80_134 ?_
        refine r_cne (t := 142) i_80_135 (by decide) (by omega) (by omega) (fun u_21 => ?_) (fun u_21 => ?_)
        · skip
          refine r_iload_n i_80_142 rfl ?_
          exact jn143 tg  (by omega)
        · skip
          refine r_iconst i_80_138 ?_
          refine r_go (t := 143) i_80_139 (by decide) ?_
          exact jn143 0  (by omega)
      · skip
        refine r_iload_n i_80_22 rfl ?_
        refine r_aload_n i_80_23 rfl ?_
        refine r_getF (v := .ref 31) i_80_24 rfl (hly 48 _ rfl) (hF_1.1 48 0 31 rfl) ?_
        refine r_getF (v := .ref 33) i_80_27 rfl (hly 31 _ rfl) (hF_1.1 31 1 33 rfl) ?_
        refine r_iload i_80_30 rfl ?_
        refine r_iald i_80_32 (hly 33 _ rfl) (by omega) (by omega) (by omega) ?_
        rw [show A10 33 = A 33 from by rw [fa10 33 (by omega)]]
        have q_22 := a_33 hA (w.toNat)
        refine r_isub i_80_33 ?_
        refine r_istore_n (l' := [(0, .ref 48), (1, .ref q), (2, V metre), (3, V (tg - (A 33 (w.toNat)))), (4, V w)]) i_80_34 (by decide +kernel) rfl ?_
        refine r_aload_n i_80_35 rfl ?_
        refine r_getF (v := .ref 53) i_80_36 rfl (hly 48 _ rfl) (hF_1.1 48 5 53 rfl) ?_
        refine r_iload i_80_39 rfl ?_
        refine r_iconst i_80_41 ?_
        refine r_iastQ i_80_42 (hly 53 _ rfl) (by omega) (by omega) (by omega) (fun A_23 eA_23 => ?_)
        have hA_23 : AQ A_23 := by rw [eA_23]; exact au_53 hA10 (by omega) (by omega)
        refine r_iload i_80_43 rfl ?_
        refine r_bipush i_80_45 (by decide) ?_
        refine r_imul i_80_47 ?_
        refine r_istore (l' := [(0, .ref 48), (1, .ref q), (2, V metre), (3, V (tg - (A 33 (w.toNat)))), (4, V w), (5, V (w * 12))]) i_80_48 (by decide +kernel) rfl ?_
        refine r_iload i_80_50 rfl ?_
        refine r_istore (l' := [(0, .ref 48), (1, .ref q), (2, V metre), (3, V (tg - (A 33 (w.toNat)))), (4, V w), (5, V (w * 12)), (6, V (w * 12))]) i_80_52 (by decide +kernel) rfl ?_
        have lp54B : ∀ (nf : Nat) (s : Int) (A54 : Nat → Nat → Int), (AQ A54) → (∀ a, ¬ (a = 51 ∨ a = 53) → A54 a = A_23 a) → (w * 12 ≤ s ∧ s ≤ w * 12 + 12) → (w = 0 → ∀ j : Nat, (j : Int) < s → hkB (A54 53 0) (A54 37 j)) → (0 < w → ksV A54) → (w * 12 + 12 - s).toNat < nf → Re L xs 80 54 [(0, .ref 48), (1, .ref q), (2, V metre), (3, V (tg - (A 33 (w.toNat)))), (4, V w), (5, V (w * 12)), (6, V s)] [] (HP ly F_1 G A54 B) Q := by
          intro nf
          induction nf with
          | zero => intros; omega
          | succ nf ih54B =>
            intro s A54 hA54 fa54 hs hk1 hk2 hm54
            refine r_iload i_80_54 rfl ?_
            refine r_iload i_80_56 rfl ?_
            refine r_aload_n i_80_58 rfl ?_
            refine r_getF (v := .ref 31) i_80_59 rfl (hly 48 _ rfl) (hF_1.1 48 0 31 rfl) ?_
            refine r_getF (v := .ref 32) i_80_62 rfl (hly 31 _ rfl) (hF_1.1 31 0 32 rfl) ?_
            refine r_iload i_80_65 rfl ?_
            refine r_iald i_80_67 (hly 32 _ rfl) (by omega) (by omega) (by omega) ?_
            rw [show A54 32 = A 32 from by rw [fa54 32 (by omega), eA_23, up2_a (by omega), fa10 32 (by omega)]]
            have q_24 := a_32 hA (w.toNat)
            refine r_iadd i_80_68 ?_
            refine r_cge (t := 126) i_80_69 (by decide) (by omega) (by omega) (fun u_25 => ?_) (fun u_25 => ?_)
            · skip
              refine r_iinc (l' := [(0, .ref 48), (1, .ref q), (2, V metre), (3, V (tg - (A 33 (w.toNat)))), (4, V (w + 1)), (5, V (w * 12)), (6, V s)]) i_80_126 rfl (by decide +kernel) rfl ?_
              refine r_go (t := 10) i_80_129 (by decide) ?_
              exact lp10B _ (tg - (A 33 (w.toNat))) (w + 1) (w * 12) s A54 hA54 (by intro a hh; rw [fa54 a (fun h => h.elim (fun h => hh (Or.inl h)) (fun h => hh (Or.inr h))), eA_23, up2_a (fun h => hh (Or.inr h)), fa10 a (fun h => h.elim (fun h => hh (Or.inl h)) (fun h => hh (Or.inr h)))]) (by omega) (by omega) (by first | (intro h; exfalso; omega) | (intro _; exact if e : w = 0 then (by intro j hj; rw [show A54 32 = A 32 from by rw [fa54 32 (by omega), eA_23, up2_a (by omega), fa10 32 (by omega)], ← show w.toNat = 0 from by omega] at hj; exact hk1 e j (by omega)) else hk2 (by omega))) (Nat.lt_succ_self _)
            · skip
              refine r_aload_n i_80_72 rfl ?_
              refine r_getF (v := .ref 51) i_80_73 rfl (hly 48 _ rfl) (hF_1.1 48 3 51 rfl) ?_
              refine r_iload i_80_76 rfl ?_
              have jn97 : ∀ (v : Int), (0 ≤ v ∧ v ≤ 12) → Re L xs 80 97 [(0, .ref 48), (1, .ref q), (2, V metre), (3, V (tg - (A 33 (w.toNat)))), (4, V w), (5, V (w * 12)), (6, V s)] [V v, V s, .ref 51] (HP ly F_1 G A54 B) Q := by
                intro v  hv
                refine r_iastQ i_80_97 (hly 51 _ rfl) (by omega) (by omega) (by omega) (fun A_26 eA_26 => ?_)
                have hA_26 : AQ A_26 := by rw [eA_26]; exact au_51 hA54 (by omega) (by omega)
                refine r_aload_n i_80_98 rfl ?_
                refine r_getF (v := .ref 53) i_80_99 rfl (hly 48 _ rfl) (hF_1.1 48 5 53 rfl) ?_
                refine r_iload i_80_102 rfl ?_
                refine re_nx i_80_104 rfl ?_
                refine r_iald i_80_105 (hly 53 _ rfl) (by omega) (by omega) (by omega) ?_
                rw [show A_26 53 = A54 53 from by rw [eA_26, up2_a (by omega)]]
                have q_27 := a_53 hA54 (w.toNat)
                refine r_iconst i_80_106 ?_
                refine r_aload_n i_80_107 rfl ?_
                refine r_getF (v := .ref 31) i_80_108 rfl (hly 48 _ rfl) (hF_1.1 48 0 31 rfl) ?_
                refine r_getF (v := .ref 37) i_80_111 rfl (hly 31 _ rfl) (hF_1.1 31 3 37 rfl) ?_
                refine r_iload i_80_114 rfl ?_
                refine r_iald i_80_116 (hly 37 _ rfl) (by omega) (by omega) (by omega) ?_
                rw [show A_26 37 = A 37 from by rw [eA_26, up2_a (by omega), fa54 37 (by omega), eA_23, up2_a (by omega), fa10 37 (by omega)]]
                have q_28 := a_37 hA (s.toNat)
                refine r_bin (z := (Int32.ofInt 1 <<< (Int32.ofInt (A 37 (s.toNat)) &&& 31)).toInt) i_80_117 rfl (oI_of _) ?_
                refine r_bin (z := (Int32.ofInt (A54 53 (w.toNat)) ||| Int32.ofInt ((Int32.ofInt 1 <<< (Int32.ofInt (A 37 (s.toNat)) &&& 31)).toInt)).toInt) i_80_118 rfl (oI_of _) ?_
                have hor := orE_r (a := A54 53 w.toNat) (k := A 37 s.toNat) (a_53 hA54 _).1 (a_53 hA54 _).2 (a_37 hA _).1 (a_37 hA _).2
                have hor1 := hor.1
                have hor2 := hor.2.1
                unfold orE at hor1 hor2
                refine r_iastQ i_80_119 (hly 53 _ rfl) (by omega) (by omega) (by omega) (fun A_29 eA_29 => ?_)
                have hA_29 : AQ A_29 := by rw [eA_29]; exact au_53 hA_26 (by omega) (by omega)
                have x53_1 : A_29 53 = fun i => if i = w.toNat then (Int32.ofInt (A54 53 (w.toNat)) ||| Int32.ofInt ((Int32.ofInt 1 <<< (Int32.ofInt (A 37 (s.toNat)) &&& 31)).toInt)).toInt else A54 53 i := by rw [eA_29, up2_f, eA_26, up2_a (by omega)]
                have x53 : A_29 53 = fun i => if i = w.toNat then (Int32.ofInt (A54 53 (w.toNat)) ||| Int32.ofInt ((Int32.ofInt 1 <<< (Int32.ofInt (A 37 (s.toNat)) &&& 31)).toInt)).toInt else A54 53 i := by rw [x53_1]
                refine r_iinc (l' := [(0, .ref 48), (1, .ref q), (2, V metre), (3, V (tg - (A 33 (w.toNat)))), (4, V w), (5, V (w * 12)), (6, V (s + 1))]) i_80_120 rfl (by decide +kernel) rfl ?_
                refine r_go (t := 54) i_80_123 (by decide) ?_
                exact ih54B (s + 1) A_29 hA_29 (by intro a hh; rw [eA_29, up2_a (fun h => hh (Or.inr h)), eA_26, up2_a (fun h => hh (Or.inl h)), fa54 a (fun h => h.elim (fun h => hh (Or.inl h)) (fun h => hh (Or.inr h)))]) (by omega) (by first | (intro h j hj; exfalso; omega) | (intro h; exact ks_1 (A1 := A54) hA54 (hk1 h) h (by omega) x53 (by rw [show A54 37 = A 37 from by rw [fa54 37 (by omega), eA_23, up2_a (by omega), fa10 37 (by omega)]]; rfl) (by rw [eA_29, up2_a (by omega), eA_26, up2_a (by omega)]))) (by first | (intro h; exact ks_2 (A1 := A10) (hks h) h (by rw [eA_29, up2_f]) (by rw [eA_29, up2_a (by omega), eA_26, up2_a (by omega), fa54 32 (by omega), eA_23, up2_a (by omega)]) (by rw [eA_29, up2_a (by omega), eA_26, up2_a (by omega), fa54 37 (by omega), eA_23, up2_a (by omega)])) | (intro h; exact ks_2 (A1 := A54) (hk2 h) h x53 (by rw [eA_29, up2_a (by omega), eA_26, up2_a (by omega)]) (by rw [eA_29, up2_a (by omega), eA_26, up2_a (by omega)]))) (by omega)
              refine r_iload_n i_80_78 rfl ?_
              refine r_iconst i_80_79 ?_
              refine r_cne (t := 87) i_80_80 (by decide) (by omega) (by omega) (fun u_30 => ?_) (fun u_30 => ?_)
              · skip
                refine r_aload_n i_80_87 rfl ?_
                refine r_getF (v := .ref 31) i_80_88 rfl (hly 48 _ rfl) (hF_1.1 48 0 31 rfl) ?_
                refine r_getF (v := .ref 39) i_80_91 rfl (hly 31 _ rfl) (hF_1.1 31 5 39 rfl) ?_
                refine r_iload i_80_94 rfl ?_
                refine r_iald i_80_96 (hly 39 _ rfl) (by omega) (by omega) (by omega) ?_
                rw [show A54 39 = A 39 from by rw [fa54 39 (by omega), eA_23, up2_a (by omega), fa10 39 (by omega)]]
                have q_31 := a_39 hA (s.toNat)
                exact jn97 (A 39 (s.toNat))  (by omega)
              · skip
                refine r_iconst i_80_83 ?_
                refine r_go (t := 97) i_80_84 (by decide) ?_
                exact jn97 0  (by omega)
        exact lp54B _ (w * 12) A_23 hA_23 (by intro a hh; rfl) (by omega) (by first | (intro h j hj; exfalso; omega) | (intro h; exact ks_1 (A1 := A54) hA54 (hk1 h) h (by omega) x53 (by rw [show A54 37 = A 37 from by fail]; rfl) (by fail))) (by first | (intro h; exact ks_2 (A1 := A10) (hks h) h (by rw [eA_23, up2_f]) (by rw [eA_23, up2_a (by omega)]) (by rw [eA_23, up2_a (by omega)])) | (intro h; exact ks_2 (A1 := A54) (hk2 h) h x53 (by fail) (by fail))) (Nat.lt_succ_self _)
  exact lp10A34 _ metre 0 A hA (by intro a hh; rfl) (by omega) (by omega) (by first | (intro h; exfalso; omega) | (intro _; exact if e : w = 0 then (by intro j hj; rw [show A54 32 = A 32 from by fail, ← show w.toNat = 0 from by omega] at hj; exact hk1 e j (by omega)) else hk2 (by omega))) (Nat.lt_succ_self _)
