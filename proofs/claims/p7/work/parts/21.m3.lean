theorem aup_row {A : Nat → Nat → Int} {row cap i : Nat} {z : Int} (hrow : (row = 93 ∧ cap = 1920) ∨ ((row = 94 ∨ row = 95 ∨ row = 96) ∧ cap = 480)) (h : AQ A) (h1 : -128 ≤ z) (h2 : z ≤ 127) : AQ (up2 A row i z) := by
  rcases hrow with ⟨rfl, -⟩ | ⟨rfl | rfl | rfl, -⟩
  · exact au_93 h h1 h2
  · exact au_94 h h1 h2
  · exact au_95 h h1 h2
  · exact au_96 h h1 h2
theorem and3 (z : Int) : Int32.ofInt z &&& Int32.ofInt 3 = Int32.ofInt (z % 4) := by
  rw [pk_and (Int32.ofInt z) (m := Int32.ofInt 3) 2 (by decide)]
  show Int32.ofNat _ = _
  rw [← Int32.ofInt_eq_ofNat]
  congr 1
  have e : (Int32.ofInt z).toBitVec.toNat = (z % 4294967296).toNat := by
    show (BitVec.ofInt 32 z).toNat = _
    rw [BitVec.toNat_ofInt]
    rfl
  rw [e]
  omega
theorem b8_rng (x : Int32) : -128 ≤ x.toInt8.toInt32.toInt ∧ x.toInt8.toInt32.toInt < 128 := by
  rw [Int8.toInt_toInt32]
  have h1 := Int8.le_toInt x.toInt8
  have h2 := Int8.toInt_lt x.toInt8
  omega

set_option maxHeartbeats 4000000 in
theorem c_147 {L : Nat} {xs : Nat → Int32} {ly : List LK} {F : Nat → Nat → Value} {G A : Nat → Nat → Int} {B : Nat → Nat → Int64} {Q : Option Value → AH → Prop} {row : Nat} {spot : Int} {cap : Nat} (hly : LyOk ly) (hF : RfOk F) (hG : GO G) (hA : AQ A) (in_spot : inR spot) (hrow : (row = 93 ∧ cap = 1920) ∨ ((row = 94 ∨ row = 95 ∨ row = 96) ∧ cap = 480)) (hs : 0 ≤ spot ∧ 12 * spot + 12 ≤ cap) (ht : G 90 6 ≤ G 90 7 ∧ G 90 7 ≤ G 90 3 ∧ (G 90 8 = 2 → G 90 7 - G 90 6 ≤ 12)) (ht2 : G 90 8 = 2) (K : ∀ (r : Int) (F' : Nat → Nat → Value) (G' : Nat → Nat → Int) (A' : Nat → Nat → Int), (RfOk F') → (GO G') → (AQ A') → (∀ a k, ¬ ((a = 90 ∧ k = 10)) → F' a k = F a k) → (∀ a k, ¬ ((a = 90 ∧ k = 6) ∨ (a = 90 ∧ k = 7) ∨ (a = 90 ∧ k = 8) ∨ (a = 90 ∧ k = 9)) → G' a k = G a k) → (∀ a, ¬ (a = row) → A' a = A a) → (G' 90 6 ≤ G' 90 7 ∧ G' 90 7 ≤ G 90 3 ∧ (G' 90 8 = 2 → G' 90 7 - G' 90 6 ≤ 12)) → (G 90 7 ≤ G' 90 6) → (G' 90 8 ≠ 0 → G' 90 6 < G' 90 7) → (0 ≤ r ∧ r ≤ 12) → Q (some (V r)) (HP ly F' G' A' B)) : Re L xs 147 0 [(0, .ref 90), (1, .ref row), (2, V spot)] [] (HP ly F G A B) Q := by
  have z3 := g_90_3 hG
  have z6 := g_90_6 hG
  have z7 := g_90_7 hG
  have hlr : ly[row]? = some (.inr (.byte, cap)) := by rcases hrow with ⟨rfl, rfl⟩ | ⟨rfl | rfl | rfl, rfl⟩ <;> exact hly _ _ rfl
  refine r_aload_n i_147_0 rfl ?_
  refine r_getI i_147_1 rfl (hly 90 _ rfl) ?_
  have q_1 := g_90_7 hG
  refine r_aload_n i_147_4 rfl ?_
  refine r_getI i_147_5 rfl (hly 90 _ rfl) ?_
  have q_2 := g_90_6 hG
  refine r_isub i_147_8 ?_
  refine r_istore_n (l' := [(0, .ref 90), (1, .ref row), (2, V spot), (3, V ((G 90 7) - (G 90 6)))]) i_147_9 (by decide +kernel) rfl ?_
  refine r_iconst i_147_10 ?_
  refine r_istore (l' := [(0, .ref 90), (1, .ref row), (2, V spot), (3, V ((G 90 7) - (G 90 6))), (4, V 0)]) i_147_11 (by decide +kernel) rfl ?_
  have lp13B : ∀ (nf : Nat) (k : Int) (A1 : Nat → Nat → Int), (AQ A1) → (∀ a, ¬ (a = row) → A1 a = A a) → (0 ≤ k ∧ k ≤ G 90 7 - G 90 6) → (G 90 7 - G 90 6 - k).toNat < nf → Re L xs 147 13 [(0, .ref 90), (1, .ref row), (2, V spot), (3, V ((G 90 7) - (G 90 6))), (4, V k)] [] (HP ly F G A1 B) Q := by
    intro nf
    induction nf with
    | zero => intros; omega
    | succ nf ih13B =>
      intro k A1 hA1 fa13 hk hm13
      refine r_iload i_147_13 rfl ?_
      refine r_iload_n i_147_15 rfl ?_
      refine r_cge (t := 46) i_147_16 (by decide) (by omega) (by omega) (fun c_3 => ?_) (fun c_3 => ?_)
      · skip
        refine r_aload_n i_147_46 rfl ?_
        refine r_cV (as := []) i_147_47 rfl (by decide +kernel) (Nat.le_of_ble_eq_true rfl) (Nat.le_of_ble_eq_true rfl) (hly 90 _ rfl) rfl ?_
        have q_4 := g_90_3 hG
        refine c_135  hly hF hG hA1 (by omega) (fun F_5 G_6 hF_5 hG_6 ff6 fg6 p6_0 p6_1 p6_2 => ?_)
        show Re L xs 147 50 [(0, .ref 90), (1, .ref row), (2, V spot), (3, V ((G 90 7) - (G 90 6))), (4, V k)] [] (HP ly F_5 G_6 A1 B) _
        refine r_iload_n i_147_50 rfl ?_
        exact r_iret i_147_51 rfl rfl (K ((G 90 7) - (G 90 6)) F_5 G_6 A1 hF_5 hG_6 hA1 (by intro a k hh; rw [ff6 a k (by omega)]) (by intro a k hh; rw [fg6 a k (by omega)]) (by intro a hh; rw [fa13 a (by omega)]) (by omega) (by omega) (by omega) (by omega))
      · skip
        refine r_aload_n i_147_19 rfl ?_
        refine r_bipush i_147_20 (by decide) ?_
        refine r_iload_n i_147_22 rfl ?_
        refine r_imul i_147_23 ?_
        refine r_iload i_147_24 rfl ?_
        refine r_iadd i_147_26 ?_
        refine r_aload_n i_147_27 rfl ?_
        refine r_getF (v := .ref 92) i_147_28 rfl (hly 90 _ rfl) (hF.1 90 1 92 rfl) ?_
        refine r_aload_n i_147_31 rfl ?_
        refine r_getI i_147_32 rfl (hly 90 _ rfl) ?_
        refine r_iload i_147_35 rfl ?_
        refine r_iadd i_147_37 ?_
        refine r_bald i_147_38 (hly 92 _ rfl) (by omega) (by omega) (by omega) ?_
        rw [show A1 92 = A 92 from by rw [fa13 92 (by omega)]]
        have q_7 := a_92 hA (((G 90 6) + k).toNat)
        refine r_bastQ i_147_39 (hlr) (by omega) (by omega) (by omega) (by omega) (fun A_8 eA_8 => ?_)
        have hA_8 : AQ A_8 := by rw [eA_8]; exact aup_row hrow hA1 (by omega) (by omega)
        refine r_iinc (l' := [(0, .ref 90), (1, .ref row), (2, V spot), (3, V ((G 90 7) - (G 90 6))), (4, V (k + 1))]) i_147_40 rfl (by decide +kernel) rfl ?_
        refine r_go (t := 13) i_147_43 (by decide) ?_
        exact ih13B (k + 1) A_8 hA_8 (by intro a hh; rw [eA_8, up2_a (by omega), fa13 a (by omega)]) (by omega) (by omega)
  exact lp13B _ 0 A hA (by intro a hh; rfl) (by omega) (Nat.lt_succ_self _)
set_option maxHeartbeats 4000000 in
theorem c_148 {L : Nat} {xs : Nat → Int32} {ly : List LK} {F : Nat → Nat → Value} {G A : Nat → Nat → Int} {B : Nat → Nat → Int64} {Q : Option Value → AH → Prop} {most : Int} (hly : LyOk ly) (hF : RfOk F) (hG : GO G) (hA : AQ A) (in_most : inR most) (ht : G 90 6 ≤ G 90 7 ∧ G 90 7 ≤ G 90 3 ∧ (G 90 8 = 2 → G 90 7 - G 90 6 ≤ 12)) (K : ∀ (r : Int) (F' : Nat → Nat → Value) (G' : Nat → Nat → Int), (RfOk F') → (GO G') → (∀ a k, ¬ ((a = 90 ∧ k = 10)) → F' a k = F a k) → (∀ a k, ¬ ((a = 90 ∧ k = 4) ∨ (a = 90 ∧ k = 5) ∨ (a = 90 ∧ k = 6) ∨ (a = 90 ∧ k = 7) ∨ (a = 90 ∧ k = 8) ∨ (a = 90 ∧ k = 9)) → G' a k = G a k) → (G' 90 6 ≤ G' 90 7 ∧ G' 90 7 ≤ G 90 3 ∧ (G' 90 8 = 2 → G' 90 7 - G' 90 6 ≤ 12)) → (G 90 6 ≤ G' 90 6) → (0 ≤ r ∧ r ≤ 999999) → (G' 90 4 = 0 → G 90 4 = 0 ∧ r ≤ most) → ((G 90 4 ≠ 0 → G' 90 4 ≠ 0)) → Q (some (V r)) (HP ly F' G' A B)) : Re L xs 148 0 [(0, .ref 90), (1, V most)] [] (HP ly F G A B) Q := by
  refine r_aload_n i_148_0 rfl ?_
  refine r_cV (as := []) i_148_1 rfl (by decide +kernel) (Nat.le_of_ble_eq_true rfl) (Nat.le_of_ble_eq_true rfl) (hly 90 _ rfl) rfl ?_
  have q_1 := g_90_4 hG
  refine c_140  hly hF hG hA  (fun r_2 p2_0 p2_1 => ?_)
  show Re L xs 148 4 [(0, .ref 90), (1, V most)] [V r_2] (HP ly F G A B) _
  refine r_ne0 (t := 9) i_148_4 (by decide) (by omega) (fun c_3 => ?_) (fun c_3 => ?_)
  · skip
    refine r_aload_n i_148_9 rfl ?_
    refine r_getI i_148_10 rfl (hly 90 _ rfl) ?_
    have q_4 := g_90_8 hG
    refine r_iconst i_148_13 ?_
    refine r_ceq (t := 21) i_148_14 (by decide) (by omega) (by omega) (fun c_5 => ?_) (fun c_5 => ?_)
    · skip
      refine r_aload_n i_148_21 rfl ?_
      refine r_cV (as := []) i_148_22 rfl (by decide +kernel) (Nat.le_of_ble_eq_true rfl) (Nat.le_of_ble_eq_true rfl) (hly 90 _ rfl) rfl ?_
      refine c_140  hly hF hG hA  (fun r_6 p6_0 p6_1 => ?_)
      show Re L xs 148 25 [(0, .ref 90), (1, V most)] [V r_6] (HP ly F G A B) _
      refine r_eq0 (t := 45) i_148_25 (by decide) (by omega) (fun c_7 => ?_) (fun c_7 => ?_)
      · skip
        refine r_aload_n i_148_45 rfl ?_
        refine r_getI i_148_46 rfl (hly 90 _ rfl) ?_
        have q_8 := g_90_9 hG
        refine r_istore_n (l' := [(0, .ref 90), (1, V most), (2, V (G 90 9))]) i_148_49 (by decide +kernel) rfl ?_
        refine r_aload_n i_148_50 rfl ?_
        refine r_cV (as := []) i_148_51 rfl (by decide +kernel) (Nat.le_of_ble_eq_true rfl) (Nat.le_of_ble_eq_true rfl) (hly 90 _ rfl) rfl ?_
        refine c_140  hly hF hG hA  (fun r_9 p9_0 p9_1 => ?_)
        show Re L xs 148 54 [(0, .ref 90), (1, V most), (2, V (G 90 9))] [V r_9] (HP ly F G A B) _
        refine r_eq0 (t := 61) i_148_54 (by decide) (by omega) (fun c_10 => ?_) (fun c_10 => ?_)
        · skip
          refine r_iload_n i_148_61 rfl ?_
          exact r_iret i_148_62 rfl rfl (K (G 90 9) F G hF hG (by intro a k hh; rfl) (by intro a k hh; rfl) (by omega) (by omega) (by omega) (by omega) (by omega))
        · skip
          refine r_aload_n i_148_57 rfl ?_
          refine r_cV (as := []) i_148_58 rfl (by decide +kernel) (Nat.le_of_ble_eq_true rfl) (Nat.le_of_ble_eq_true rfl) (hly 90 _ rfl) rfl ?_
          have q_11 := g_90_7 hG
          have q_12 := g_90_3 hG
          refine c_135  hly hF hG hA (by omega) (fun F_13 G_14 hF_13 hG_14 ff14 fg14 p14_0 p14_1 p14_2 => ?_)
          show Re L xs 148 61 [(0, .ref 90), (1, V most), (2, V (G 90 9))] [] (HP ly F_13 G_14 A B) _
          refine r_iload_n i_148_61 rfl ?_
          exact r_iret i_148_62 rfl rfl (K (G 90 9) F_13 G_14 hF_13 hG_14 (by intro a k hh; rw [ff14 a k (by omega)]) (by intro a k hh; rw [fg14 a k (by omega)]) (by omega) (by omega) (by omega) (by rw [show G_14 90 4 = G 90 4 from by rw [fg14 90 4 (by omega)]] <;> omega) (by rw [show G_14 90 4 = G 90 4 from by rw [fg14 90 4 (by omega)]] <;> omega))
      · skip
        refine r_aload_n i_148_28 rfl ?_
        refine r_getI i_148_29 rfl (hly 90 _ rfl) ?_
        have q_15 := g_90_9 hG
        refine r_iload_n i_148_32 rfl ?_
        refine r_cle (t := 45) i_148_33 (by decide) (by omega) (by omega) (fun c_16 => ?_) (fun c_16 => ?_)
        · skip
          refine r_aload_n i_148_45 rfl ?_
          refine r_getI i_148_46 rfl (hly 90 _ rfl) ?_
          refine r_istore_n (l' := [(0, .ref 90), (1, V most), (2, V (G 90 9))]) i_148_49 (by decide +kernel) rfl ?_
          refine r_aload_n i_148_50 rfl ?_
          refine r_cV (as := []) i_148_51 rfl (by decide +kernel) (Nat.le_of_ble_eq_true rfl) (Nat.le_of_ble_eq_true rfl) (hly 90 _ rfl) rfl ?_
          refine c_140  hly hF hG hA  (fun r_17 p17_0 p17_1 => ?_)
          show Re L xs 148 54 [(0, .ref 90), (1, V most), (2, V (G 90 9))] [V r_17] (HP ly F G A B) _
          refine r_eq0 (t := 61) i_148_54 (by decide) (by omega) (fun c_18 => ?_) (fun c_18 => ?_)
          · skip
            refine r_iload_n i_148_61 rfl ?_
            exact r_iret i_148_62 rfl rfl (K (G 90 9) F G hF hG (by intro a k hh; rfl) (by intro a k hh; rfl) (by omega) (by omega) (by omega) (by omega) (by omega))
          · skip
            refine r_aload_n i_148_57 rfl ?_
            refine r_cV (as := []) i_148_58 rfl (by decide +kernel) (Nat.le_of_ble_eq_true rfl) (Nat.le_of_ble_eq_true rfl) (hly 90 _ rfl) rfl ?_
            have q_19 := g_90_7 hG
            have q_20 := g_90_3 hG
            refine c_135  hly hF hG hA (by omega) (fun F_21 G_22 hF_21 hG_22 ff22 fg22 p22_0 p22_1 p22_2 => ?_)
            show Re L xs 148 61 [(0, .ref 90), (1, V most), (2, V (G 90 9))] [] (HP ly F_21 G_22 A B) _
            refine r_iload_n i_148_61 rfl ?_
            exact r_iret i_148_62 rfl rfl (K (G 90 9) F_21 G_22 hF_21 hG_22 (by intro a k hh; rw [ff22 a k (by omega)]) (by intro a k hh; rw [fg22 a k (by omega)]) (by omega) (by omega) (by omega) (by rw [show G_22 90 4 = G 90 4 from by rw [fg22 90 4 (by omega)]] <;> omega) (by rw [show G_22 90 4 = G 90 4 from by rw [fg22 90 4 (by omega)]] <;> omega))
        · skip
          refine r_aload_n i_148_36 rfl ?_
          refine r_iconst i_148_37 ?_
          refine r_aload_n i_148_38 rfl ?_
          refine r_getI i_148_39 rfl (hly 90 _ rfl) ?_
          have q_23 := g_90_6 hG
          refine r_cV (as := [V (G 90 6), V 4]) i_148_42 rfl (by decide +kernel) (Nat.le_of_ble_eq_true rfl) (Nat.le_of_ble_eq_true rfl) (hly 90 _ rfl) rfl ?_
          refine c_144 (kind := 4) (place := G 90 6) hly hF hG hA (by omega) (by omega) (by omega) (by omega) (fun G_24 hG_24 fg24 p24_0 => ?_)
          show Re L xs 148 45 [(0, .ref 90), (1, V most)] [] (HP ly F G_24 A B) _
          refine r_aload_n i_148_45 rfl ?_
          refine r_getI i_148_46 rfl (hly 90 _ rfl) ?_
          rw [show G_24 90 9 = G 90 9 from by rw [fg24 90 9 (by omega)]]
          refine r_istore_n (l' := [(0, .ref 90), (1, V most), (2, V (G 90 9))]) i_148_49 (by decide +kernel) rfl ?_
          refine r_aload_n i_148_50 rfl ?_
          refine r_cV (as := []) i_148_51 rfl (by decide +kernel) (Nat.le_of_ble_eq_true rfl) (Nat.le_of_ble_eq_true rfl) (hly 90 _ rfl) rfl ?_
          have q_25 := g_90_4 hG_24
          refine c_140  hly hF hG_24 hA  (fun r_26 p26_0 p26_1 => ?_)
          show Re L xs 148 54 [(0, .ref 90), (1, V most), (2, V (G 90 9))] [V r_26] (HP ly F G_24 A B) _
          refine r_eq0 (t := 61) i_148_54 (by decide) (by omega) (fun c_27 => ?_) (fun c_27 => ?_)
          · skip
            refine r_iload_n i_148_61 rfl ?_
            exact r_iret i_148_62 rfl rfl (K (G 90 9) F G_24 hF hG_24 (by intro a k hh; rfl) (by intro a k hh; rw [fg24 a k (by omega)]) (by rw [show G_24 90 6 = G 90 6 from by rw [fg24 90 6 (by omega)]] <;> rw [show G_24 90 7 = G 90 7 from by rw [fg24 90 7 (by omega)]] <;> rw [show G_24 90 8 = G 90 8 from by rw [fg24 90 8 (by omega)]] <;> omega) (by rw [show G_24 90 6 = G 90 6 from by rw [fg24 90 6 (by omega)]] <;> omega) (by omega) (by omega) (by omega))
          · skip
            refine r_aload_n i_148_57 rfl ?_
            refine r_cV (as := []) i_148_58 rfl (by decide +kernel) (Nat.le_of_ble_eq_true rfl) (Nat.le_of_ble_eq_true rfl) (hly 90 _ rfl) rfl ?_
            have w_28 : G_24 90 7 = G 90 7 := by rw [fg24 90 7 (by omega)]
            have q_29 := g_90_7 hG
            have w_30 : G_24 90 3 = G 90 3 := by rw [fg24 90 3 (by omega)]
            have q_31 := g_90_3 hG
            refine c_135  hly hF hG_24 hA (by omega) (fun F_32 G_33 hF_32 hG_33 ff33 fg33 p33_0 p33_1 p33_2 => ?_)
            show Re L xs 148 61 [(0, .ref 90), (1, V most), (2, V (G 90 9))] [] (HP ly F_32 G_33 A B) _
            refine r_iload_n i_148_61 rfl ?_
            exact r_iret i_148_62 rfl rfl (K (G 90 9) F_32 G_33 hF_32 hG_33 (by intro a k hh; rw [ff33 a k (by omega)]) (by intro a k hh; rw [fg33 a k (by omega), fg24 a k (by omega)]) (by omega) (by omega) (by omega) (by rw [show G_33 90 4 = G_24 90 4 from by rw [fg33 90 4 (by omega)]] <;> omega) (by rw [show G_33 90 4 = G_24 90 4 from by rw [fg33 90 4 (by omega)]] <;> omega))
    · skip
      refine r_aload_n i_148_17 rfl ?_
      refine r_cV (as := []) i_148_18 rfl (by decide +kernel) (Nat.le_of_ble_eq_true rfl) (Nat.le_of_ble_eq_true rfl) (hly 90 _ rfl) rfl ?_
      refine c_143  hly hF hG hA  (fun G_34 hG_34 fg34 p34_0 => ?_)
      show Re L xs 148 21 [(0, .ref 90), (1, V most)] [] (HP ly F G_34 A B) _
      refine r_aload_n i_148_21 rfl ?_
      refine r_cV (as := []) i_148_22 rfl (by decide +kernel) (Nat.le_of_ble_eq_true rfl) (Nat.le_of_ble_eq_true rfl) (hly 90 _ rfl) rfl ?_
      have q_35 := g_90_4 hG_34
      refine c_140  hly hF hG_34 hA  (fun r_36 p36_0 p36_1 => ?_)
      show Re L xs 148 25 [(0, .ref 90), (1, V most)] [V r_36] (HP ly F G_34 A B) _
      refine r_eq0 (t := 45) i_148_25 (by decide) (by omega) (fun c_37 => ?_) (fun c_37 => ?_)
      · skip
        refine r_aload_n i_148_45 rfl ?_
        refine r_getI i_148_46 rfl (hly 90 _ rfl) ?_
        rw [show G_34 90 9 = G 90 9 from by rw [fg34 90 9 (by omega)]]
        have q_38 := g_90_9 hG
        refine r_istore_n (l' := [(0, .ref 90), (1, V most), (2, V (G 90 9))]) i_148_49 (by decide +kernel) rfl ?_
        refine r_aload_n i_148_50 rfl ?_
        refine r_cV (as := []) i_148_51 rfl (by decide +kernel) (Nat.le_of_ble_eq_true rfl) (Nat.le_of_ble_eq_true rfl) (hly 90 _ rfl) rfl ?_
        refine c_140  hly hF hG_34 hA  (fun r_39 p39_0 p39_1 => ?_)
        show Re L xs 148 54 [(0, .ref 90), (1, V most), (2, V (G 90 9))] [V r_39] (HP ly F G_34 A B) _
        refine r_eq0 (t := 61) i_148_54 (by decide) (by omega) (fun c_40 => ?_) (fun c_40 => ?_)
        · skip
          refine r_iload_n i_148_61 rfl ?_
          exact r_iret i_148_62 rfl rfl (K (G 90 9) F G_34 hF hG_34 (by intro a k hh; rfl) (by intro a k hh; rw [fg34 a k (by omega)]) (by rw [show G_34 90 6 = G 90 6 from by rw [fg34 90 6 (by omega)]] <;> rw [show G_34 90 7 = G 90 7 from by rw [fg34 90 7 (by omega)]] <;> rw [show G_34 90 8 = G 90 8 from by rw [fg34 90 8 (by omega)]] <;> omega) (by rw [show G_34 90 6 = G 90 6 from by rw [fg34 90 6 (by omega)]] <;> omega) (by omega) (by omega) (by omega))
        · skip
          refine r_aload_n i_148_57 rfl ?_
          refine r_cV (as := []) i_148_58 rfl (by decide +kernel) (Nat.le_of_ble_eq_true rfl) (Nat.le_of_ble_eq_true rfl) (hly 90 _ rfl) rfl ?_
          have w_41 : G_34 90 7 = G 90 7 := by rw [fg34 90 7 (by omega)]
          have q_42 := g_90_7 hG
          have w_43 : G_34 90 3 = G 90 3 := by rw [fg34 90 3 (by omega)]
          have q_44 := g_90_3 hG
          refine c_135  hly hF hG_34 hA (by omega) (fun F_45 G_46 hF_45 hG_46 ff46 fg46 p46_0 p46_1 p46_2 => ?_)
          show Re L xs 148 61 [(0, .ref 90), (1, V most), (2, V (G 90 9))] [] (HP ly F_45 G_46 A B) _
          refine r_iload_n i_148_61 rfl ?_
          exact r_iret i_148_62 rfl rfl (K (G 90 9) F_45 G_46 hF_45 hG_46 (by intro a k hh; rw [ff46 a k (by omega)]) (by intro a k hh; rw [fg46 a k (by omega), fg34 a k (by omega)]) (by omega) (by omega) (by omega) (by rw [show G_46 90 4 = G_34 90 4 from by rw [fg46 90 4 (by omega)]] <;> omega) (by rw [show G_46 90 4 = G_34 90 4 from by rw [fg46 90 4 (by omega)]] <;> omega))
      · skip
        refine r_aload_n i_148_28 rfl ?_
        refine r_getI i_148_29 rfl (hly 90 _ rfl) ?_
        rw [show G_34 90 9 = G 90 9 from by rw [fg34 90 9 (by omega)]]
        have q_47 := g_90_9 hG
        refine r_iload_n i_148_32 rfl ?_
        refine r_cle (t := 45) i_148_33 (by decide) (by omega) (by omega) (fun c_48 => ?_) (fun c_48 => ?_)
        · skip
          refine r_aload_n i_148_45 rfl ?_
          refine r_getI i_148_46 rfl (hly 90 _ rfl) ?_
          rw [show G_34 90 9 = G 90 9 from by rw [fg34 90 9 (by omega)]]
          refine r_istore_n (l' := [(0, .ref 90), (1, V most), (2, V (G 90 9))]) i_148_49 (by decide +kernel) rfl ?_
          refine r_aload_n i_148_50 rfl ?_
          refine r_cV (as := []) i_148_51 rfl (by decide +kernel) (Nat.le_of_ble_eq_true rfl) (Nat.le_of_ble_eq_true rfl) (hly 90 _ rfl) rfl ?_
          refine c_140  hly hF hG_34 hA  (fun r_49 p49_0 p49_1 => ?_)
          show Re L xs 148 54 [(0, .ref 90), (1, V most), (2, V (G 90 9))] [V r_49] (HP ly F G_34 A B) _
          refine r_eq0 (t := 61) i_148_54 (by decide) (by omega) (fun c_50 => ?_) (fun c_50 => ?_)
          · skip
            refine r_iload_n i_148_61 rfl ?_
            exact r_iret i_148_62 rfl rfl (K (G 90 9) F G_34 hF hG_34 (by intro a k hh; rfl) (by intro a k hh; rw [fg34 a k (by omega)]) (by rw [show G_34 90 6 = G 90 6 from by rw [fg34 90 6 (by omega)]] <;> rw [show G_34 90 7 = G 90 7 from by rw [fg34 90 7 (by omega)]] <;> rw [show G_34 90 8 = G 90 8 from by rw [fg34 90 8 (by omega)]] <;> omega) (by rw [show G_34 90 6 = G 90 6 from by rw [fg34 90 6 (by omega)]] <;> omega) (by omega) (by omega) (by omega))
          · skip
            refine r_aload_n i_148_57 rfl ?_
            refine r_cV (as := []) i_148_58 rfl (by decide +kernel) (Nat.le_of_ble_eq_true rfl) (Nat.le_of_ble_eq_true rfl) (hly 90 _ rfl) rfl ?_
            have w_51 : G_34 90 7 = G 90 7 := by rw [fg34 90 7 (by omega)]
            have q_52 := g_90_7 hG
            have w_53 : G_34 90 3 = G 90 3 := by rw [fg34 90 3 (by omega)]
            have q_54 := g_90_3 hG
            refine c_135  hly hF hG_34 hA (by omega) (fun F_55 G_56 hF_55 hG_56 ff56 fg56 p56_0 p56_1 p56_2 => ?_)
            show Re L xs 148 61 [(0, .ref 90), (1, V most), (2, V (G 90 9))] [] (HP ly F_55 G_56 A B) _
            refine r_iload_n i_148_61 rfl ?_
            exact r_iret i_148_62 rfl rfl (K (G 90 9) F_55 G_56 hF_55 hG_56 (by intro a k hh; rw [ff56 a k (by omega)]) (by intro a k hh; rw [fg56 a k (by omega), fg34 a k (by omega)]) (by omega) (by omega) (by omega) (by rw [show G_56 90 4 = G_34 90 4 from by rw [fg56 90 4 (by omega)]] <;> omega) (by rw [show G_56 90 4 = G_34 90 4 from by rw [fg56 90 4 (by omega)]] <;> omega))
        · skip
          refine r_aload_n i_148_36 rfl ?_
          refine r_iconst i_148_37 ?_
          refine r_aload_n i_148_38 rfl ?_
          refine r_getI i_148_39 rfl (hly 90 _ rfl) ?_
          rw [show G_34 90 6 = G 90 6 from by rw [fg34 90 6 (by omega)]]
          have q_57 := g_90_6 hG
          refine r_cV (as := [V (G 90 6), V 4]) i_148_42 rfl (by decide +kernel) (Nat.le_of_ble_eq_true rfl) (Nat.le_of_ble_eq_true rfl) (hly 90 _ rfl) rfl ?_
          refine c_144 (kind := 4) (place := G 90 6) hly hF hG_34 hA (by omega) (by omega) (by omega) (by omega) (fun G_58 hG_58 fg58 p58_0 => ?_)
          show Re L xs 148 45 [(0, .ref 90), (1, V most)] [] (HP ly F G_58 A B) _
          refine r_aload_n i_148_45 rfl ?_
          refine r_getI i_148_46 rfl (hly 90 _ rfl) ?_
          rw [show G_58 90 9 = G 90 9 from by rw [fg58 90 9 (by omega), fg34 90 9 (by omega)]]
          refine r_istore_n (l' := [(0, .ref 90), (1, V most), (2, V (G 90 9))]) i_148_49 (by decide +kernel) rfl ?_
          refine r_aload_n i_148_50 rfl ?_
          refine r_cV (as := []) i_148_51 rfl (by decide +kernel) (Nat.le_of_ble_eq_true rfl) (Nat.le_of_ble_eq_true rfl) (hly 90 _ rfl) rfl ?_
          have q_59 := g_90_4 hG_58
          refine c_140  hly hF hG_58 hA  (fun r_60 p60_0 p60_1 => ?_)
          show Re L xs 148 54 [(0, .ref 90), (1, V most), (2, V (G 90 9))] [V r_60] (HP ly F G_58 A B) _
          refine r_eq0 (t := 61) i_148_54 (by decide) (by omega) (fun c_61 => ?_) (fun c_61 => ?_)
          · skip
            refine r_iload_n i_148_61 rfl ?_
            exact r_iret i_148_62 rfl rfl (K (G 90 9) F G_58 hF hG_58 (by intro a k hh; rfl) (by intro a k hh; rw [fg58 a k (by omega), fg34 a k (by omega)]) (by rw [show G_58 90 6 = G 90 6 from by rw [fg58 90 6 (by omega), fg34 90 6 (by omega)]] <;> rw [show G_58 90 7 = G 90 7 from by rw [fg58 90 7 (by omega), fg34 90 7 (by omega)]] <;> rw [show G_58 90 8 = G 90 8 from by rw [fg58 90 8 (by omega), fg34 90 8 (by omega)]] <;> omega) (by rw [show G_58 90 6 = G 90 6 from by rw [fg58 90 6 (by omega), fg34 90 6 (by omega)]] <;> omega) (by omega) (by omega) (by omega))
          · skip
            refine r_aload_n i_148_57 rfl ?_
            refine r_cV (as := []) i_148_58 rfl (by decide +kernel) (Nat.le_of_ble_eq_true rfl) (Nat.le_of_ble_eq_true rfl) (hly 90 _ rfl) rfl ?_
            have w_62 : G_58 90 7 = G 90 7 := by rw [fg58 90 7 (by omega), fg34 90 7 (by omega)]
            have q_63 := g_90_7 hG
            have w_64 : G_58 90 3 = G 90 3 := by rw [fg58 90 3 (by omega), fg34 90 3 (by omega)]
            have q_65 := g_90_3 hG
            refine c_135  hly hF hG_58 hA (by omega) (fun F_66 G_67 hF_66 hG_67 ff67 fg67 p67_0 p67_1 p67_2 => ?_)
            show Re L xs 148 61 [(0, .ref 90), (1, V most), (2, V (G 90 9))] [] (HP ly F_66 G_67 A B) _
            refine r_iload_n i_148_61 rfl ?_
            exact r_iret i_148_62 rfl rfl (K (G 90 9) F_66 G_67 hF_66 hG_67 (by intro a k hh; rw [ff67 a k (by omega)]) (by intro a k hh; rw [fg67 a k (by omega), fg58 a k (by omega), fg34 a k (by omega)]) (by omega) (by omega) (by omega) (by rw [show G_67 90 4 = G_58 90 4 from by rw [fg67 90 4 (by omega)]] <;> omega) (by rw [show G_67 90 4 = G_58 90 4 from by rw [fg67 90 4 (by omega)]] <;> omega))
  · skip
    refine r_iconst i_148_7 ?_
    exact r_iret i_148_8 rfl rfl (K 0 F G hF hG (by intro a k hh; rfl) (by intro a k hh; rfl) (by omega) (by omega) (by omega) (by omega) (by omega))
set_option maxHeartbeats 4000000 in
theorem c_210 {L : Nat} {xs : Nat → Int32} {ly : List LK} {F : Nat → Nat → Value} {G A : Nat → Nat → Int} {B : Nat → Nat → Int64} {Q : Option Value → AH → Prop} {a : Int} {b : Int} {c : Int} {d : Int} {e : Int} (hly : LyOk ly) (hF : RfOk F) (hG : GO G) (hA : AQ A) (in_a : inR a) (in_b : inR b) (in_c : inR c) (in_d : inR d) (in_e : inR e) (K : ∀ (r : Int) (G' : Nat → Nat → Int) (A' : Nat → Nat → Int), (GO G') → (AQ A') → (∀ a k, ¬ ((a = 90 ∧ k = 2)) → G' a k = G a k) → (∀ a, ¬ (a = 91) → A' a = A a) → Q (some (V r)) (HP ly F G' A' B)) : Re L xs 210 0 [(0, .ref 90), (1, V a), (2, V b), (3, V c), (4, V d), (5, V e)] [] (HP ly F G A B) Q := by
  refine r_aload_n i_210_0 rfl ?_
  refine r_getI i_210_1 rfl (hly 90 _ rfl) ?_
  have q_1 := g_90_2 hG
  refine r_bipush i_210_4 (by decide) ?_
  refine r_iadd i_210_6 ?_
  refine r_sipush i_210_7 (by decide) ?_
  refine r_cle (t := 15) i_210_10 (by decide) (by omega) (by omega) (fun c_2 => ?_) (fun c_2 => ?_)
  · skip
    refine r_iconst i_210_15 ?_
    refine r_istore (l' := [(0, .ref 90), (1, V a), (2, V b), (3, V c), (4, V d), (5, V e), (6, V 0)]) i_210_16 (by decide +kernel) rfl ?_
    have lp18B : ∀ (nf : Nat) (k : Int) (v7 : Int) (A1 : Nat → Nat → Int), (AQ A1) → (∀ a, ¬ (a = 91) → A1 a = A a) → (0 ≤ k ∧ k ≤ 20) → (20 - k).toNat < nf → Re L xs 210 18 [(0, .ref 90), (1, V a), (2, V b), (3, V c), (4, V d), (5, V e), (6, V k), (7, V v7)] [] (HP ly F G A1 B) Q := by
      intro nf
      induction nf with
      | zero => intros; omega
      | succ nf ih18B =>
        intro k v7 A1 hA1 fa18 hk hm18
        refine r_iload i_210_18 rfl ?_
        refine r_bipush i_210_20 (by decide) ?_
        refine r_cge (t := 105) i_210_22 (by decide) (by omega) (by omega) (fun c_3 => ?_) (fun c_3 => ?_)
        · skip
          refine r_aload_n i_210_105 rfl ?_
          refine re_nx i_210_106 rfl ?_
          refine r_getI i_210_107 rfl (hly 90 _ rfl) ?_
          refine r_bipush i_210_110 (by decide) ?_
          refine r_iadd i_210_112 ?_
          refine r_putIQ i_210_113 (by decide +kernel) (hly 90 _ rfl) (fun G_4 eG_4 => ?_)
          have hG_4 : GO G_4 := by rw [eG_4]; exact gu_90_2 hG (by omega) (by omega)
          refine r_aload_n i_210_116 rfl ?_
          refine r_getI i_210_117 rfl (hly 90 _ rfl) ?_
          rw [show G_4 90 2 = (G 90 2) + 20 from by rw [eG_4, up2_s]]
          exact r_iret i_210_120 rfl rfl (K ((G 90 2) + 20) G_4 A1 hG_4 hA1 (by intro a k hh; rw [eG_4, up2_n (by omega)]) (by intro a hh; rw [fa18 a (by omega)]))
        · skip
          have jn71 : ∀ (v : Int), (inR v) → Re L xs 210 71 [(0, .ref 90), (1, V a), (2, V b), (3, V c), (4, V d), (5, V e), (6, V k), (7, V v7)] [V v] (HP ly F G A1 B) Q := by
            intro v  hv
            refine r_istore (l' := [(0, .ref 90), (1, V a), (2, V b), (3, V c), (4, V d), (5, V e), (6, V k), (7, V v)]) i_210_71 (by decide +kernel) rfl ?_
            refine r_aload_n i_210_73 rfl ?_
            refine r_getF (v := .ref 91) i_210_74 rfl (hly 90 _ rfl) (hF.1 90 0 91 rfl) ?_
            refine r_aload_n i_210_77 rfl ?_
            refine r_getI i_210_78 rfl (hly 90 _ rfl) ?_
            refine r_iload i_210_81 rfl ?_
            refine r_iadd i_210_83 ?_
            refine r_iload i_210_84 rfl ?_
            refine r_bipush i_210_86 (by decide) ?_
            refine r_bipush i_210_88 (by decide) ?_
            refine r_iload i_210_90 rfl ?_
            refine r_iconst i_210_92 ?_
            refine r_bin (z := k % 4) i_210_93 rfl (and3 _) ?_
            refine r_imul i_210_94 ?_
            refine r_isub i_210_95 ?_
            refine r_bin (z := (Int32.ofInt v >>> (Int32.ofInt (24 - (8 * (k % 4))) &&& 31)).toInt) i_210_96 rfl (oI_of _) ?_
            refine r_un (z := (Int32.ofInt ((Int32.ofInt v >>> (Int32.ofInt (24 - (8 * (k % 4))) &&& 31)).toInt)).toInt8.toInt32.toInt) i_210_97 rfl (oI_of _) ?_
            have hb8 := b8_rng (Int32.ofInt ((Int32.ofInt v >>> (Int32.ofInt (24 - (8 * (k % 4))) &&& 31)).toInt))
            refine r_bastQ i_210_98 (hly 91 _ rfl) (by omega) (by omega) (by omega) (by omega) (fun A_5 eA_5 => ?_)
            have hA_5 : AQ A_5 := by rw [eA_5]; exact au_91 hA1 (by omega) (by omega)
            refine r_iinc (l' := [(0, .ref 90), (1, V a), (2, V b), (3, V c), (4, V d), (5, V e), (6, V (k + 1)), (7, V v)]) i_210_99 rfl (by decide +kernel) rfl ?_
            refine r_go (t := 18) i_210_102 (by decide) ?_
            exact ih18B (k + 1) v A_5 hA_5 (by intro a hh; rw [eA_5, up2_a (by omega), fa18 a (by omega)]) (by omega) (by omega)
          refine r_iload i_210_25 rfl ?_
          refine r_iconst i_210_27 ?_
          refine r_cge (t := 35) i_210_28 (by decide) (by omega) (by omega) (fun c_6 => ?_) (fun c_6 => ?_)
          · skip
            refine r_iload i_210_35 rfl ?_
            refine r_bipush i_210_37 (by decide) ?_
            refine r_cge (t := 46) i_210_39 (by decide) (by omega) (by omega) (fun c_7 => ?_) (fun c_7 => ?_)
            · skip
              refine r_iload i_210_46 rfl ?_
              refine r_bipush i_210_48 (by decide) ?_
              refine r_cge (t := 57) i_210_50 (by decide) (by omega) (by omega) (fun c_8 => ?_) (fun c_8 => ?_)
              · skip
                refine r_iload i_210_57 rfl ?_
                refine r_bipush i_210_59 (by decide) ?_
                refine r_cge (t := 69) i_210_61 (by decide) (by omega) (by omega) (fun c_9 => ?_) (fun c_9 => ?_)
                · skip
                  refine r_iload i_210_69 rfl ?_
                  exact jn71 e  (by omega)
                · skip
                  refine r_iload i_210_64 rfl ?_
                  refine r_go (t := 71) i_210_66 (by decide) ?_
                  exact jn71 d  (by omega)
              · skip
                refine r_iload_n i_210_53 rfl ?_
                refine r_go (t := 71) i_210_54 (by decide) ?_
                exact jn71 c  (by omega)
            · skip
              refine r_iload_n i_210_42 rfl ?_
              refine r_go (t := 71) i_210_43 (by decide) ?_
              exact jn71 b  (by omega)
          · skip
            refine r_iload_n i_210_31 rfl ?_
            refine r_go (t := 71) i_210_32 (by decide) ?_
            exact jn71 a  (by omega)
    have lp18A6 : ∀ (nf : Nat) (k : Int) (A1 : Nat → Nat → Int), (AQ A1) → (∀ a, ¬ (a = 91) → A1 a = A a) → (0 ≤ k ∧ k ≤ 20) → (20 - k).toNat < nf → Re L xs 210 18 [(0, .ref 90), (1, V a), (2, V b), (3, V c), (4, V d), (5, V e), (6, V k)] [] (HP ly F G A1 B) Q := by
      intro nf
      induction nf with
      | zero => intros; omega
      | succ nf ih18A6 =>
        intro k A1 hA1 fa18 hk hm18
        refine r_iload i_210_18 rfl ?_
        refine r_bipush i_210_20 (by decide) ?_
        refine r_cge (t := 105) i_210_22 (by decide) (by omega) (by omega) (fun c_10 => ?_) (fun c_10 => ?_)
        · skip
          refine r_aload_n i_210_105 rfl ?_
          refine re_nx i_210_106 rfl ?_
          refine r_getI i_210_107 rfl (hly 90 _ rfl) ?_
          refine r_bipush i_210_110 (by decide) ?_
          refine r_iadd i_210_112 ?_
          refine r_putIQ i_210_113 (by decide +kernel) (hly 90 _ rfl) (fun G_11 eG_11 => ?_)
          have hG_11 : GO G_11 := by rw [eG_11]; exact gu_90_2 hG (by omega) (by omega)
          refine r_aload_n i_210_116 rfl ?_
          refine r_getI i_210_117 rfl (hly 90 _ rfl) ?_
          rw [show G_11 90 2 = (G 90 2) + 20 from by rw [eG_11, up2_s]]
          exact r_iret i_210_120 rfl rfl (K ((G 90 2) + 20) G_11 A1 hG_11 hA1 (by intro a k hh; rw [eG_11, up2_n (by omega)]) (by intro a hh; rw [fa18 a (by omega)]))
        · skip
          have jn71 : ∀ (v : Int), (inR v) → Re L xs 210 71 [(0, .ref 90), (1, V a), (2, V b), (3, V c), (4, V d), (5, V e), (6, V k)] [V v] (HP ly F G A1 B) Q := by
            intro v  hv
            refine r_istore (l' := [(0, .ref 90), (1, V a), (2, V b), (3, V c), (4, V d), (5, V e), (6, V k), (7, V v)]) i_210_71 (by decide +kernel) rfl ?_
            refine r_aload_n i_210_73 rfl ?_
            refine r_getF (v := .ref 91) i_210_74 rfl (hly 90 _ rfl) (hF.1 90 0 91 rfl) ?_
            refine r_aload_n i_210_77 rfl ?_
            refine r_getI i_210_78 rfl (hly 90 _ rfl) ?_
            refine r_iload i_210_81 rfl ?_
            refine r_iadd i_210_83 ?_
            refine r_iload i_210_84 rfl ?_
            refine r_bipush i_210_86 (by decide) ?_
            refine r_bipush i_210_88 (by decide) ?_
            refine r_iload i_210_90 rfl ?_
            refine r_iconst i_210_92 ?_
            refine r_bin (z := k % 4) i_210_93 rfl (and3 _) ?_
            refine r_imul i_210_94 ?_
            refine r_isub i_210_95 ?_
            refine r_bin (z := (Int32.ofInt v >>> (Int32.ofInt (24 - (8 * (k % 4))) &&& 31)).toInt) i_210_96 rfl (oI_of _) ?_
            refine r_un (z := (Int32.ofInt ((Int32.ofInt v >>> (Int32.ofInt (24 - (8 * (k % 4))) &&& 31)).toInt)).toInt8.toInt32.toInt) i_210_97 rfl (oI_of _) ?_
            have hb8 := b8_rng (Int32.ofInt ((Int32.ofInt v >>> (Int32.ofInt (24 - (8 * (k % 4))) &&& 31)).toInt))
            refine r_bastQ i_210_98 (hly 91 _ rfl) (by omega) (by omega) (by omega) (by omega) (fun A_12 eA_12 => ?_)
            have hA_12 : AQ A_12 := by rw [eA_12]; exact au_91 hA1 (by omega) (by omega)
            refine r_iinc (l' := [(0, .ref 90), (1, V a), (2, V b), (3, V c), (4, V d), (5, V e), (6, V (k + 1)), (7, V v)]) i_210_99 rfl (by decide +kernel) rfl ?_
            refine r_go (t := 18) i_210_102 (by decide) ?_
            exact lp18B _ (k + 1) v A_12 hA_12 (by intro a hh; rw [eA_12, up2_a (by omega), fa18 a (by omega)]) (by omega) (Nat.lt_succ_self _)
          refine r_iload i_210_25 rfl ?_
          refine r_iconst i_210_27 ?_
          refine r_cge (t := 35) i_210_28 (by decide) (by omega) (by omega) (fun c_13 => ?_) (fun c_13 => ?_)
          · skip
            refine r_iload i_210_35 rfl ?_
            refine r_bipush i_210_37 (by decide) ?_
            refine r_cge (t := 46) i_210_39 (by decide) (by omega) (by omega) (fun c_14 => ?_) (fun c_14 => ?_)
            · skip
              refine r_iload i_210_46 rfl ?_
              refine r_bipush i_210_48 (by decide) ?_
              refine r_cge (t := 57) i_210_50 (by decide) (by omega) (by omega) (fun c_15 => ?_) (fun c_15 => ?_)
              · skip
                refine r_iload i_210_57 rfl ?_
                refine r_bipush i_210_59 (by decide) ?_
                refine r_cge (t := 69) i_210_61 (by decide) (by omega) (by omega) (fun c_16 => ?_) (fun c_16 => ?_)
                · skip
                  refine r_iload i_210_69 rfl ?_
                  exact jn71 e  (by omega)
                · skip
                  refine r_iload i_210_64 rfl ?_
                  refine r_go (t := 71) i_210_66 (by decide) ?_
                  exact jn71 d  (by omega)
              · skip
                refine r_iload_n i_210_53 rfl ?_
                refine r_go (t := 71) i_210_54 (by decide) ?_
                exact jn71 c  (by omega)
            · skip
              refine r_iload_n i_210_42 rfl ?_
              refine r_go (t := 71) i_210_43 (by decide) ?_
              exact jn71 b  (by omega)
          · skip
            refine r_iload_n i_210_31 rfl ?_
            refine r_go (t := 71) i_210_32 (by decide) ?_
            exact jn71 a  (by omega)
    exact lp18A6 _ 0 A hA (by intro a hh; rfl) (by omega) (Nat.lt_succ_self _)
  · skip
    refine r_iconst i_210_13 ?_
    exact r_iret i_210_14 rfl rfl (K ((-1)) G A hG hA (by intro a k hh; rfl) (by intro a hh; rfl))
