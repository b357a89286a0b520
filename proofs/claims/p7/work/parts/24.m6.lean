set_option maxHeartbeats 4000000 in
theorem c_141 {L : Nat} {xs : Nat → Int32} {ly : List LK} {F : Nat → Nat → Value} {G A : Nat → Nat → Int} {B : Nat → Nat → Int64} {Q : Option Value → AH → Prop}  (hly : LyOk ly) (hF : RfOk F) (hG : GO G) (hA : AQ A) (ht : G 90 6 ≤ G 90 7 ∧ G 90 7 ≤ G 90 3 ∧ (G 90 8 = 2 → G 90 7 - G 90 6 ≤ 12)) (hg : G 90 4 = 0) (ht0 : G 90 6 < G 90 7) (K : ∀ (F' : Nat → Nat → Value) (G' : Nat → Nat → Int) (A' : Nat → Nat → Int), (RfOk F') → (GO G') → (AQ A') → (∀ a k, ¬ ((a = 90 ∧ k = 10)) → F' a k = F a k) → (∀ a k, ¬ ((a = 90 ∧ k = 4) ∨ (a = 90 ∧ k = 5) ∨ (a = 90 ∧ k = 6) ∨ (a = 90 ∧ k = 7) ∨ (a = 90 ∧ k = 8) ∨ (a = 90 ∧ k = 9)) → G' a k = G a k) → (∀ a, ¬ (a = 93 ∨ a = 97 ∨ a = 98 ∨ a = 99 ∨ a = 100 ∨ a = 101 ∨ a = 107 ∨ a = 94 ∨ a = 95 ∨ a = 102 ∨ a = 103 ∨ a = 104 ∨ a = 108 ∨ a = 96 ∨ a = 105 ∨ a = 109 ∨ a = 106 ∨ a = 110 ∨ a = 111 ∨ a = 112 ∨ a = 113) → A' a = A a) → (G' 90 6 ≤ G' 90 7 ∧ G' 90 7 ≤ G 90 3 ∧ (G' 90 8 = 2 → G' 90 7 - G' 90 6 ≤ 12)) → (G 90 6 ≤ G' 90 6) → (G' 90 4 = 0 → G 90 6 < G' 90 6) → (G' 90 4 = 0 → bkV A (G 90 33).toNat → bkV A' (G 90 33).toNat) → (∀ b, b ≤ 1 → ¬ b = (G 90 33).toNat → bkE A A' b) → (G' 90 4 = 0 → G' 90 8 ≠ 0 → G' 90 6 < G' 90 7) → Q none (HP ly F' G' A' B)) : Re L xs 141 0 [(0, .ref 90)] [] (HP ly F G A B) Q := by
  have z33 := g_90_33 hG
  have zw7 := a_107 hA (G 90 33).toNat
  have zw8 := a_108 hA (G 90 33).toNat
  have zw9 := a_109 hA (G 90 33).toNat
  have zw10 := a_110 hA (G 90 33).toNat
  have z6 := g_90_6 hG
  refine r_aload_n i_141_0 rfl ?_
  refine r_ldc2 (v := 2003792484) i_141_1 (by decide) ?_
  refine r_cV (as := [.long 2003792484]) i_141_4 rfl (by decide +kernel) (Nat.le_of_ble_eq_true rfl) (Nat.le_of_ble_eq_true rfl) (hly 90 _ rfl) rfl ?_
  refine c_142 (w := 2003792484) hly hF hG hA  (fun r_1 p1_0 => ?_)
  show Re L xs 141 7 [(0, .ref 90)] [V r_1] (HP ly F G A B) _
  refine r_istore_n (l' := [(0, .ref 90), (1, V r_1)]) i_141_7 (by decide +kernel) rfl ?_
  refine r_aload_n i_141_8 rfl ?_
  refine r_ldc2 (v := 6647396) i_141_9 (by decide) ?_
  refine r_cV (as := [.long 6647396]) i_141_12 rfl (by decide +kernel) (Nat.le_of_ble_eq_true rfl) (Nat.le_of_ble_eq_true rfl) (hly 90 _ rfl) rfl ?_
  refine c_142 (w := 6647396) hly hF hG hA  (fun r_2 p2_0 => ?_)
  show Re L xs 141 15 [(0, .ref 90), (1, V r_1)] [V r_2] (HP ly F G A B) _
  refine r_istore_n (l' := [(0, .ref 90), (1, V r_1), (2, V r_2)]) i_141_15 (by decide +kernel) rfl ?_
  refine r_aload_n i_141_16 rfl ?_
  refine r_ldc2 (v := 1851878757) i_141_17 (by decide) ?_
  refine r_cV (as := [.long 1851878757]) i_141_20 rfl (by decide +kernel) (Nat.le_of_ble_eq_true rfl) (Nat.le_of_ble_eq_true rfl) (hly 90 _ rfl) rfl ?_
  refine c_142 (w := 1851878757) hly hF hG hA  (fun r_3 p3_0 => ?_)
  show Re L xs 141 23 [(0, .ref 90), (1, V r_1), (2, V r_2)] [V r_3] (HP ly F G A B) _
  refine r_istore_n (l' := [(0, .ref 90), (1, V r_1), (2, V r_2), (3, V r_3)]) i_141_23 (by decide +kernel) rfl ?_
  refine r_aload_n i_141_24 rfl ?_
  refine r_ldc2 (v := 1885432178) i_141_25 (by decide) ?_
  refine r_cV (as := [.long 1885432178]) i_141_28 rfl (by decide +kernel) (Nat.le_of_ble_eq_true rfl) (Nat.le_of_ble_eq_true rfl) (hly 90 _ rfl) rfl ?_
  refine c_142 (w := 1885432178) hly hF hG hA  (fun r_4 p4_0 => ?_)
  show Re L xs 141 31 [(0, .ref 90), (1, V r_1), (2, V r_2), (3, V r_3)] [V r_4] (HP ly F G A B) _
  refine r_istore (l' := [(0, .ref 90), (1, V r_1), (2, V r_2), (3, V r_3), (4, V r_4)]) i_141_31 (by decide +kernel) rfl ?_
  refine r_aload_n i_141_33 rfl ?_
  refine r_ldc2 (v := 6447474) i_141_34 (by decide) ?_
  refine r_cV (as := [.long 6447474]) i_141_37 rfl (by decide +kernel) (Nat.le_of_ble_eq_true rfl) (Nat.le_of_ble_eq_true rfl) (hly 90 _ rfl) rfl ?_
  refine c_142 (w := 6447474) hly hF hG hA  (fun r_5 p5_0 => ?_)
  show Re L xs 141 40 [(0, .ref 90), (1, V r_1), (2, V r_2), (3, V r_3), (4, V r_4)] [V r_5] (HP ly F G A B) _
  refine r_istore (l' := [(0, .ref 90), (1, V r_1), (2, V r_2), (3, V r_3), (4, V r_4), (5, V r_5)]) i_141_40 (by decide +kernel) rfl ?_
  have jn179 : ∀ (full : Int), ((0 ≤ r_1 ∧ r_1 ≤ 1) ∧ (0 ≤ r_2 ∧ r_2 ≤ 1) ∧ (0 ≤ r_3 ∧ r_3 ≤ 1) ∧ (0 ≤ r_4 ∧ r_4 ≤ 1) ∧ (0 ≤ r_5 ∧ r_5 ≤ 1)) → (0 ≤ full ∧ full ≤ 1) → (A 107 (G 90 33).toNat ≤ 79 + full + (1 - r_1)) → (A 108 (G 90 33).toNat ≤ 19 + full + r_1 + (1 - r_2)) → (A 109 (G 90 33).toNat ≤ 19 + full + r_1 + r_2 + (1 - r_3)) → (A 110 (G 90 33).toNat ≤ 39 + full + r_1 + r_2 + r_3 + (1 - r_4)) → (A 110 (G 90 33).toNat ≤ 39 + full + r_1 + r_2 + r_3 + (1 - r_5)) → Re L xs 141 179 [(0, .ref 90), (1, V r_1), (2, V r_2), (3, V r_3), (4, V r_4), (5, V r_5)] [V full] (HP ly F G A B) Q := by
    intro full  hr hf hf1 hf2 hf3 hf4 hf5
    clear p1_0 p2_0 p3_0 p4_0 p5_0
    refine r_istore (l' := [(0, .ref 90), (1, V r_1), (2, V r_2), (3, V r_3), (4, V r_4), (5, V r_5), (6, V full)]) i_141_179 (by decide +kernel) rfl ?_
    have jn190 : ∀ (G190 : Nat → Nat → Int), (GO G190) → (∀ a k, ¬ ((a = 90 ∧ k = 4) ∨ (a = 90 ∧ k = 5)) → G190 a k = G a k) → (G190 90 4 = 0 → full = 0) → Re L xs 141 190 [(0, .ref 90), (1, V r_1), (2, V r_2), (3, V r_3), (4, V r_4), (5, V r_5), (6, V full)] [] (HP ly F G190 A B) Q := by
      intro G190 hG190 fg190 hj
      refine r_aload_n i_141_190 rfl ?_
      refine r_cV (as := []) i_141_191 rfl (by decide +kernel) (Nat.le_of_ble_eq_true rfl) (Nat.le_of_ble_eq_true rfl) (hly 90 _ rfl) rfl ?_
      have q_6 := g_90_4 hG190
      refine c_140  hly hF hG190 hA  (fun r_7 p7_0 p7_1 => ?_)
      show Re L xs 141 194 [(0, .ref 90), (1, V r_1), (2, V r_2), (3, V r_3), (4, V r_4), (5, V r_5), (6, V full)] [V r_7] (HP ly F G190 A B) _
      refine r_ne0 (t := 198) i_141_194 (by decide) (by omega) (fun c_8 => ?_) (fun c_8 => ?_)
      · skip
        refine r_aload_n i_141_198 rfl ?_
        refine r_cV (as := []) i_141_199 rfl (by decide +kernel) (Nat.le_of_ble_eq_true rfl) (Nat.le_of_ble_eq_true rfl) (hly 90 _ rfl) rfl ?_
        have w_9 : G190 90 7 = G 90 7 := by rw [fg190 90 7 (by omega)]
        have q_10 := g_90_7 hG
        have w_11 : G190 90 3 = G 90 3 := by rw [fg190 90 3 (by omega)]
        have q_12 := g_90_3 hG
        refine c_135  hly hF hG190 hA (by omega) (fun F_13 G_14 hF_13 hG_14 ff14 fg14 p14_0 p14_1 p14_2 => ?_)
        show Re L xs 141 202 [(0, .ref 90), (1, V r_1), (2, V r_2), (3, V r_3), (4, V r_4), (5, V r_5), (6, V full)] [] (HP ly F_13 G_14 A B) _
        have jn258 : ∀ (F258 : Nat → Nat → Value) (G258 : Nat → Nat → Int) (A258 : Nat → Nat → Int), (RfOk F258) → (GO G258) → (AQ A258) → (∀ a k, ¬ ((a = 90 ∧ k = 10)) → F258 a k = F_13 a k) → (∀ a k, ¬ ((a = 90 ∧ k = 4) ∨ (a = 90 ∧ k = 5) ∨ (a = 90 ∧ k = 6) ∨ (a = 90 ∧ k = 7) ∨ (a = 90 ∧ k = 8) ∨ (a = 90 ∧ k = 9)) → G258 a k = G_14 a k) → (∀ a, ¬ (a = 93 ∨ a = 97 ∨ a = 98 ∨ a = 99 ∨ a = 100 ∨ a = 101 ∨ a = 107 ∨ a = 94 ∨ a = 95 ∨ a = 102 ∨ a = 103 ∨ a = 104 ∨ a = 108 ∨ a = 96 ∨ a = 105 ∨ a = 109 ∨ a = 106 ∨ a = 110 ∨ a = 111 ∨ a = 112 ∨ a = 113) → A258 a = A a) → (G258 90 6 ≤ G258 90 7 ∧ G258 90 7 ≤ G 90 3 ∧ (G258 90 8 = 2 → G258 90 7 - G258 90 6 ≤ 12)) → (G 90 7 ≤ G258 90 6) → (G258 90 4 = 0 → bkV A (G 90 33).toNat → bkV A258 (G 90 33).toNat) → (∀ b, b ≤ 1 → ¬ b = (G 90 33).toNat → bkE A A258 b) → Re L xs 141 258 [(0, .ref 90), (1, V r_1), (2, V r_2), (3, V r_3), (4, V r_4), (5, V r_5), (6, V full)] [] (HP ly F258 G258 A258 B) Q := by
          intro F258 G258 A258 hF258 hG258 hA258 ff258 fg258 fa258 hj2 hj3 hb1 hb2
          clear hr hf hf1 hf2 hf3 hf4 hf5 hj q_6 p7_0 p7_1 c_8 w_9 q_10 w_11 q_12 p14_0 p14_1 p14_2
          have jn277 : ∀ (G277 : Nat → Nat → Int), (GO G277) → (∀ a k, ¬ ((a = 90 ∧ k = 4) ∨ (a = 90 ∧ k = 5)) → G277 a k = G258 a k) → (G277 90 4 = 0 → G258 90 4 = 0) → Re L xs 141 277 [(0, .ref 90), (1, V r_1), (2, V r_2), (3, V r_3), (4, V r_4), (5, V r_5), (6, V full)] [] (HP ly F258 G277 A258 B) Q := by
            intro G277 hG277 fg277 hj5
            refine r_aload_n i_141_277 rfl ?_
            refine r_cV (as := []) i_141_278 rfl (by decide +kernel) (Nat.le_of_ble_eq_true rfl) (Nat.le_of_ble_eq_true rfl) (hly 90 _ rfl) rfl ?_
            have q_15 := g_90_4 hG277
            refine c_140  hly hF258 hG277 hA258  (fun r_16 p16_0 p16_1 => ?_)
            show Re L xs 141 281 [(0, .ref 90), (1, V r_1), (2, V r_2), (3, V r_3), (4, V r_4), (5, V r_5), (6, V full)] [V r_16] (HP ly F258 G277 A258 B) _
            refine r_eq0 (t := 288) i_141_281 (by decide) (by omega) (fun c_17 => ?_) (fun c_17 => ?_)
            · skip
              exact r_vret i_141_288 rfl (K F258 G277 A258 hF258 hG277 hA258 (by intro a k hh; rw [ff258 a k (by omega), ff14 a k (by omega)]) (by intro a k hh; rw [fg277 a k (by omega), fg258 a k (by omega), fg14 a k (by omega), fg190 a k (by omega)]) (by intro a hh; rw [fa258 a (by omega)]) (by rw [show G277 90 6 = G258 90 6 from by rw [fg277 90 6 (by omega)]] <;> rw [show G277 90 7 = G258 90 7 from by rw [fg277 90 7 (by omega)]] <;> rw [show G277 90 8 = G258 90 8 from by rw [fg277 90 8 (by omega)]] <;> omega) (by rw [show G277 90 6 = G258 90 6 from by rw [fg277 90 6 (by omega)]] <;> omega) (by rw [show G277 90 6 = G258 90 6 from by rw [fg277 90 6 (by omega)]] <;> omega) (by intro h0; exact hb1 (by omega)) (by exact hb2) (by rw [show G277 90 8 = G258 90 8 from by rw [fg277 90 8 (by omega)]] <;> rw [show G277 90 6 = G258 90 6 from by rw [fg277 90 6 (by omega)]] <;> rw [show G277 90 7 = G258 90 7 from by rw [fg277 90 7 (by omega)]] <;> omega))
            · skip
              refine r_aload_n i_141_284 rfl ?_
              refine r_cV (as := []) i_141_285 rfl (by decide +kernel) (Nat.le_of_ble_eq_true rfl) (Nat.le_of_ble_eq_true rfl) (hly 90 _ rfl) rfl ?_
              have w_18 : G277 90 7 = G258 90 7 := by rw [fg277 90 7 (by omega)]
              have q_19 := g_90_7 hG258
              have w_20 : G277 90 3 = G 90 3 := by rw [fg277 90 3 (by omega), fg258 90 3 (by omega), fg14 90 3 (by omega), fg190 90 3 (by omega)]
              have q_21 := g_90_3 hG
              refine c_135  hly hF258 hG277 hA258 (by omega) (fun F_22 G_23 hF_22 hG_23 ff23 fg23 p23_0 p23_1 p23_2 => ?_)
              show Re L xs 141 288 [(0, .ref 90), (1, V r_1), (2, V r_2), (3, V r_3), (4, V r_4), (5, V r_5), (6, V full)] [] (HP ly F_22 G_23 A258 B) _
              exact r_vret i_141_288 rfl (K F_22 G_23 A258 hF_22 hG_23 hA258 (by intro a k hh; rw [ff23 a k (by omega), ff258 a k (by omega), ff14 a k (by omega)]) (by intro a k hh; rw [fg23 a k (by omega), fg277 a k (by omega), fg258 a k (by omega), fg14 a k (by omega), fg190 a k (by omega)]) (by intro a hh; rw [fa258 a (by omega)]) (by omega) (by omega) (by rw [show G_23 90 4 = G277 90 4 from by rw [fg23 90 4 (by omega)]] <;> omega) (by intro h0; rw [show G_23 90 4 = G277 90 4 from by rw [fg23 90 4 (by omega)]] at h0; exact hb1 (by omega)) (by exact hb2) (by rw [show G_23 90 4 = G277 90 4 from by rw [fg23 90 4 (by omega)]] <;> omega))
          refine r_aload_n i_141_258 rfl ?_
          refine r_cV (as := []) i_141_259 rfl (by decide +kernel) (Nat.le_of_ble_eq_true rfl) (Nat.le_of_ble_eq_true rfl) (hly 90 _ rfl) rfl ?_
          have q_24 := g_90_4 hG258
          refine c_140  hly hF258 hG258 hA258  (fun r_25 p25_0 p25_1 => ?_)
          show Re L xs 141 262 [(0, .ref 90), (1, V r_1), (2, V r_2), (3, V r_3), (4, V r_4), (5, V r_5), (6, V full)] [V r_25] (HP ly F258 G258 A258 B) _
          refine r_eq0 (t := 277) i_141_262 (by decide) (by omega) (fun c_26 => ?_) (fun c_26 => ?_)
          · skip
            exact jn277 G258 hG258 (by intro a k hh; rfl) (by omega)
          · skip
            refine r_aload_n i_141_265 rfl ?_
            refine r_getI i_141_266 rfl (hly 90 _ rfl) ?_
            have q_27 := g_90_8 hG258
            refine r_iconst i_141_269 ?_
            refine r_ceq (t := 277) i_141_270 (by decide) (by omega) (by omega) (fun c_28 => ?_) (fun c_28 => ?_)
            · skip
              exact jn277 G258 hG258 (by intro a k hh; rfl) (by omega)
            · skip
              refine r_aload_n i_141_273 rfl ?_
              refine r_cV (as := []) i_141_274 rfl (by decide +kernel) (Nat.le_of_ble_eq_true rfl) (Nat.le_of_ble_eq_true rfl) (hly 90 _ rfl) rfl ?_
              refine c_143  hly hF258 hG258 hA258  (fun G_29 hG_29 fg29 p29_0 => ?_)
              show Re L xs 141 277 [(0, .ref 90), (1, V r_1), (2, V r_2), (3, V r_3), (4, V r_4), (5, V r_5), (6, V full)] [] (HP ly F258 G_29 A258 B) _
              exact jn277 G_29 hG_29 (by intro a k hh; rw [fg29 a k (by omega)]) (by omega)
        refine r_iload_n i_141_202 rfl ?_
        refine r_eq0 (t := 213) i_141_203 (by decide) (by omega) (fun c_30 => ?_) (fun c_30 => ?_)
        · skip
          refine r_iload_n i_141_213 rfl ?_
          refine r_eq0 (t := 224) i_141_214 (by decide) (by omega) (fun c_31 => ?_) (fun c_31 => ?_)
          · skip
            refine r_iload_n i_141_224 rfl ?_
            refine r_eq0 (t := 235) i_141_225 (by decide) (by omega) (fun c_32 => ?_) (fun c_32 => ?_)
            · skip
              refine r_iload i_141_235 rfl ?_
              refine r_ne0 (t := 245) i_141_237 (by decide) (by omega) (fun c_33 => ?_) (fun c_33 => ?_)
              · skip
                refine r_aload_n i_141_245 rfl ?_
                refine r_iload i_141_246 rfl ?_
                refine r_cV (as := [V r_4]) i_141_248 rfl (by decide +kernel) (Nat.le_of_ble_eq_true rfl) (Nat.le_of_ble_eq_true rfl) (hly 90 _ rfl) rfl ?_
                have q_34 := g_90_6 hG_14
                have q_35 := g_90_7 hG_14
                have w_36 : G_14 90 3 = G 90 3 := by rw [fg14 90 3 (by omega), fg190 90 3 (by omega)]
                have q_37 := g_90_8 hG_14
                have w_38 : G_14 90 33 = G 90 33 := by rw [fg14 90 33 (by omega), fg190 90 33 (by omega)]
                have q_39 := g_90_33 hG
                have w_40 : G_14 90 4 = G190 90 4 := by rw [fg14 90 4 (by omega)]
                refine c_153 (pair := r_4) hly hF_13 hG_14 hA (by omega) (by omega) (by rw [show G_14 90 33 = G 90 33 from by rw [fg14 90 33 (by omega), fg190 90 33 (by omega)]]; omega) (by omega) (fun F_41 G_42 A_43 hF_41 hG_42 hA_43 ff43 fg43 fa43 p43_0 p43_1 p43_2 p43_3 p43_4 => ?_)
                show Re L xs 141 251 [(0, .ref 90), (1, V r_1), (2, V r_2), (3, V r_3), (4, V r_4), (5, V r_5), (6, V full)] [] (HP ly F_41 G_42 A_43 B) _
                refine r_go (t := 258) i_141_251 (by decide) ?_
                exact jn258 F_41 G_42 A_43 hF_41 hG_42 hA_43 (by intro a k hh; rw [ff43 a k (by omega)]) (by intro a k hh; rw [fg43 a k (by omega)]) (by intro a hh; rw [fa43 a (by omega)]) (by omega) (by omega) (by intro h0; have hh := p43_3; rw [w_38] at hh; exact hh h0) (by have hh := p43_4; rw [w_38] at hh; exact hh)
              · skip
                refine r_iload i_141_240 rfl ?_
                refine r_eq0 (t := 254) i_141_242 (by decide) (by omega) (fun c_44 => ?_) (fun c_44 => ?_)
                · skip
                  refine r_aload_n i_141_254 rfl ?_
                  refine r_cV (as := []) i_141_255 rfl (by decide +kernel) (Nat.le_of_ble_eq_true rfl) (Nat.le_of_ble_eq_true rfl) (hly 90 _ rfl) rfl ?_
                  have q_45 := g_90_6 hG_14
                  have q_46 := g_90_7 hG_14
                  have w_47 : G_14 90 3 = G 90 3 := by rw [fg14 90 3 (by omega), fg190 90 3 (by omega)]
                  have q_48 := g_90_8 hG_14
                  have w_49 : G_14 90 4 = G190 90 4 := by rw [fg14 90 4 (by omega)]
                  have w_50 : G_14 90 33 = G 90 33 := by rw [fg14 90 33 (by omega), fg190 90 33 (by omega)]
                  have q_51 := g_90_33 hG
                  refine c_154  hly hF_13 hG_14 hA (by omega) (fun F_52 G_53 A_54 hF_52 hG_53 hA_54 ff54 fg54 fa54 p54_0 p54_1 p54_2 p54_3 p54_4 => ?_)
                  show Re L xs 141 258 [(0, .ref 90), (1, V r_1), (2, V r_2), (3, V r_3), (4, V r_4), (5, V r_5), (6, V full)] [] (HP ly F_52 G_53 A_54 B) _
                  exact jn258 F_52 G_53 A_54 hF_52 hG_53 hA_54 (by intro a k hh; rw [ff54 a k (by omega)]) (by intro a k hh; rw [fg54 a k (by omega)]) (by intro a hh; rw [fa54 a (by omega)]) (by omega) (by omega) (by intro h0; have hh := p54_3; rw [w_50] at hh; exact hh h0) (by have hh := p54_4; rw [w_50] at hh; exact hh)
                · skip
                  refine r_aload_n i_141_245 rfl ?_
                  refine r_iload i_141_246 rfl ?_
                  refine r_cV (as := [V r_4]) i_141_248 rfl (by decide +kernel) (Nat.le_of_ble_eq_true rfl) (Nat.le_of_ble_eq_true rfl) (hly 90 _ rfl) rfl ?_
                  have q_55 := g_90_6 hG_14
                  have q_56 := g_90_7 hG_14
                  have w_57 : G_14 90 3 = G 90 3 := by rw [fg14 90 3 (by omega), fg190 90 3 (by omega)]
                  have q_58 := g_90_8 hG_14
                  have w_59 : G_14 90 33 = G 90 33 := by rw [fg14 90 33 (by omega), fg190 90 33 (by omega)]
                  have q_60 := g_90_33 hG
                  have w_61 : G_14 90 4 = G190 90 4 := by rw [fg14 90 4 (by omega)]
                  refine c_153 (pair := r_4) hly hF_13 hG_14 hA (by omega) (by omega) (by rw [show G_14 90 33 = G 90 33 from by rw [fg14 90 33 (by omega), fg190 90 33 (by omega)]]; omega) (by omega) (fun F_62 G_63 A_64 hF_62 hG_63 hA_64 ff64 fg64 fa64 p64_0 p64_1 p64_2 p64_3 p64_4 => ?_)
                  show Re L xs 141 251 [(0, .ref 90), (1, V r_1), (2, V r_2), (3, V r_3), (4, V r_4), (5, V r_5), (6, V full)] [] (HP ly F_62 G_63 A_64 B) _
                  refine r_go (t := 258) i_141_251 (by decide) ?_
                  exact jn258 F_62 G_63 A_64 hF_62 hG_63 hA_64 (by intro a k hh; rw [ff64 a k (by omega)]) (by intro a k hh; rw [fg64 a k (by omega)]) (by intro a hh; rw [fa64 a (by omega)]) (by omega) (by omega) (by intro h0; have hh := p64_3; rw [w_59] at hh; exact hh h0) (by have hh := p64_4; rw [w_59] at hh; exact hh)
            · skip
              refine r_aload_n i_141_228 rfl ?_
              refine r_cV (as := []) i_141_229 rfl (by decide +kernel) (Nat.le_of_ble_eq_true rfl) (Nat.le_of_ble_eq_true rfl) (hly 90 _ rfl) rfl ?_
              have q_65 := g_90_6 hG_14
              have q_66 := g_90_7 hG_14
              have w_67 : G_14 90 3 = G 90 3 := by rw [fg14 90 3 (by omega), fg190 90 3 (by omega)]
              have q_68 := g_90_8 hG_14
              have w_69 : G_14 90 33 = G 90 33 := by rw [fg14 90 33 (by omega), fg190 90 33 (by omega)]
              have q_70 := g_90_33 hG
              have w_71 : G_14 90 4 = G190 90 4 := by rw [fg14 90 4 (by omega)]
              refine c_152  hly hF_13 hG_14 hA (by omega) (by rw [show G_14 90 33 = G 90 33 from by rw [fg14 90 33 (by omega), fg190 90 33 (by omega)]]; omega) (fun F_72 G_73 A_74 hF_72 hG_73 hA_74 ff74 fg74 fa74 p74_0 p74_1 p74_2 p74_3 p74_4 => ?_)
              show Re L xs 141 232 [(0, .ref 90), (1, V r_1), (2, V r_2), (3, V r_3), (4, V r_4), (5, V r_5), (6, V full)] [] (HP ly F_72 G_73 A_74 B) _
              refine r_go (t := 258) i_141_232 (by decide) ?_
              exact jn258 F_72 G_73 A_74 hF_72 hG_73 hA_74 (by intro a k hh; rw [ff74 a k (by omega)]) (by intro a k hh; rw [fg74 a k (by omega)]) (by intro a hh; rw [fa74 a (by omega)]) (by omega) (by omega) (by intro h0; have hh := p74_3; rw [w_69] at hh; exact hh h0) (by have hh := p74_4; rw [w_69] at hh; exact hh)
          · skip
            refine r_aload_n i_141_217 rfl ?_
            refine r_cV (as := []) i_141_218 rfl (by decide +kernel) (Nat.le_of_ble_eq_true rfl) (Nat.le_of_ble_eq_true rfl) (hly 90 _ rfl) rfl ?_
            have q_75 := g_90_6 hG_14
            have q_76 := g_90_7 hG_14
            have w_77 : G_14 90 3 = G 90 3 := by rw [fg14 90 3 (by omega), fg190 90 3 (by omega)]
            have q_78 := g_90_8 hG_14
            have w_79 : G_14 90 33 = G 90 33 := by rw [fg14 90 33 (by omega), fg190 90 33 (by omega)]
            have q_80 := g_90_33 hG
            have w_81 : G_14 90 4 = G190 90 4 := by rw [fg14 90 4 (by omega)]
            refine c_151  hly hF_13 hG_14 hA (by omega) (by rw [show G_14 90 33 = G 90 33 from by rw [fg14 90 33 (by omega), fg190 90 33 (by omega)]]; omega) (fun F_82 G_83 A_84 hF_82 hG_83 hA_84 ff84 fg84 fa84 p84_0 p84_1 p84_2 p84_3 p84_4 => ?_)
            show Re L xs 141 221 [(0, .ref 90), (1, V r_1), (2, V r_2), (3, V r_3), (4, V r_4), (5, V r_5), (6, V full)] [] (HP ly F_82 G_83 A_84 B) _
            refine r_go (t := 258) i_141_221 (by decide) ?_
            exact jn258 F_82 G_83 A_84 hF_82 hG_83 hA_84 (by intro a k hh; rw [ff84 a k (by omega)]) (by intro a k hh; rw [fg84 a k (by omega)]) (by intro a hh; rw [fa84 a (by omega)]) (by omega) (by omega) (by intro h0; have hh := p84_3; rw [w_79] at hh; exact hh h0) (by have hh := p84_4; rw [w_79] at hh; exact hh)
        · skip
          refine r_aload_n i_141_206 rfl ?_
          refine r_cV (as := []) i_141_207 rfl (by decide +kernel) (Nat.le_of_ble_eq_true rfl) (Nat.le_of_ble_eq_true rfl) (hly 90 _ rfl) rfl ?_
          have q_85 := g_90_6 hG_14
          have q_86 := g_90_7 hG_14
          have w_87 : G_14 90 3 = G 90 3 := by rw [fg14 90 3 (by omega), fg190 90 3 (by omega)]
          have q_88 := g_90_8 hG_14
          have w_89 : G_14 90 33 = G 90 33 := by rw [fg14 90 33 (by omega), fg190 90 33 (by omega)]
          have q_90 := g_90_33 hG
          have w_91 : G_14 90 4 = G190 90 4 := by rw [fg14 90 4 (by omega)]
          refine c_145  hly hF_13 hG_14 hA (by omega) (by rw [show G_14 90 33 = G 90 33 from by rw [fg14 90 33 (by omega), fg190 90 33 (by omega)]]; omega) (fun F_92 G_93 A_94 hF_92 hG_93 hA_94 ff94 fg94 fa94 p94_0 p94_1 p94_2 p94_3 p94_4 => ?_)
          show Re L xs 141 210 [(0, .ref 90), (1, V r_1), (2, V r_2), (3, V r_3), (4, V r_4), (5, V r_5), (6, V full)] [] (HP ly F_92 G_93 A_94 B) _
          refine r_go (t := 258) i_141_210 (by decide) ?_
          exact jn258 F_92 G_93 A_94 hF_92 hG_93 hA_94 (by intro a k hh; rw [ff94 a k (by omega)]) (by intro a k hh; rw [fg94 a k (by omega)]) (by intro a hh; rw [fa94 a (by omega)]) (by omega) (by omega) (by intro h0; have hh := p94_3; rw [w_89] at hh; exact hh h0) (by have hh := p94_4; rw [w_89] at hh; exact hh)
      · skip
        exact r_vret i_141_197 rfl (K F G190 A hF hG190 hA (by intro a k hh; rfl) (by intro a k hh; rw [fg190 a k (by omega)]) (by intro a hh; rfl) (by rw [show G190 90 6 = G 90 6 from by rw [fg190 90 6 (by omega)]] <;> rw [show G190 90 7 = G 90 7 from by rw [fg190 90 7 (by omega)]] <;> rw [show G190 90 8 = G 90 8 from by rw [fg190 90 8 (by omega)]] <;> omega) (by rw [show G190 90 6 = G 90 6 from by rw [fg190 90 6 (by omega)]] <;> omega) (by rw [show G190 90 6 = G 90 6 from by rw [fg190 90 6 (by omega)]] <;> omega) (by intro h0; exfalso; omega) (by intro b _ _; exact bkE_rf) (by rw [show G190 90 8 = G 90 8 from by rw [fg190 90 8 (by omega)]] <;> rw [show G190 90 6 = G 90 6 from by rw [fg190 90 6 (by omega)]] <;> rw [show G190 90 7 = G 90 7 from by rw [fg190 90 7 (by omega)]] <;> omega))
    refine r_iload i_141_181 rfl ?_
    refine r_eq0 (t := 190) i_141_183 (by decide) (by omega) (fun c_95 => ?_) (fun c_95 => ?_)
    · skip
      exact jn190 G hG (by intro a k hh; rfl) (by omega)
    · skip
      refine r_aload_n i_141_186 rfl ?_
      refine r_cV (as := []) i_141_187 rfl (by decide +kernel) (Nat.le_of_ble_eq_true rfl) (Nat.le_of_ble_eq_true rfl) (hly 90 _ rfl) rfl ?_
      refine c_143  hly hF hG hA  (fun G_96 hG_96 fg96 p96_0 => ?_)
      show Re L xs 141 190 [(0, .ref 90), (1, V r_1), (2, V r_2), (3, V r_3), (4, V r_4), (5, V r_5), (6, V full)] [] (HP ly F G_96 A B) _
      exact jn190 G_96 hG_96 (by intro a k hh; rw [fg96 a k (by omega)]) (by omega)
  refine r_iload_n i_141_42 rfl ?_
  refine r_eq0 (t := 68) i_141_43 (by decide) (by omega) (fun c_97 => ?_) (fun c_97 => ?_)
  · skip
    refine r_iload_n i_141_68 rfl ?_
    refine r_eq0 (t := 94) i_141_69 (by decide) (by omega) (fun c_98 => ?_) (fun c_98 => ?_)
    · skip
      refine r_iload_n i_141_94 rfl ?_
      refine r_eq0 (t := 120) i_141_95 (by decide) (by omega) (fun c_99 => ?_) (fun c_99 => ?_)
      · skip
        refine r_iload i_141_120 rfl ?_
        refine r_ne0 (t := 130) i_141_122 (by decide) (by omega) (fun c_100 => ?_) (fun c_100 => ?_)
        · skip
          refine r_aload_n i_141_130 rfl ?_
          refine r_getF (v := .ref 110) i_141_131 rfl (hly 90 _ rfl) (hF.1 90 28 110 rfl) ?_
          refine r_aload_n i_141_134 rfl ?_
          refine r_getI i_141_135 rfl (hly 90 _ rfl) ?_
          have q_101 := g_90_33 hG
          refine r_iald i_141_138 (hly 110 _ rfl) (by omega) (by omega) (by omega) ?_
          have q_102 := a_110 hA ((G 90 33).toNat)
          refine r_bipush i_141_139 (by decide) ?_
          refine r_cne (t := 148) i_141_141 (by decide) (by omega) (by omega) (fun c_103 => ?_) (fun c_103 => ?_)
          · skip
            refine r_iconst i_141_148 ?_
            refine r_go (t := 179) i_141_149 (by decide) ?_
            exact jn179 0  (by omega) (by omega) (by omega) (by omega) (by omega) (by omega) (by omega)
          · skip
            refine r_iconst i_141_144 ?_
            refine r_go (t := 179) i_141_145 (by decide) ?_
            exact jn179 1  (by omega) (by omega) (by omega) (by omega) (by omega) (by omega) (by omega)
        · skip
          refine r_iload i_141_125 rfl ?_
          refine r_eq0 (t := 152) i_141_127 (by decide) (by omega) (fun c_104 => ?_) (fun c_104 => ?_)
          · skip
            refine r_aload_n i_141_152 rfl ?_
            refine r_ldc2 (v := 1650553445) i_141_153 (by decide) ?_
            refine r_cV (as := [.long 1650553445]) i_141_156 rfl (by decide +kernel) (Nat.le_of_ble_eq_true rfl) (Nat.le_of_ble_eq_true rfl) (hly 90 _ rfl) rfl ?_
            refine c_142 (w := 1650553445) hly hF hG hA  (fun r_105 p105_0 => ?_)
            show Re L xs 141 159 [(0, .ref 90), (1, V r_1), (2, V r_2), (3, V r_3), (4, V r_4), (5, V r_5)] [V r_105] (HP ly F G A B) _
            refine r_eq0 (t := 174) i_141_159 (by decide) (by omega) (fun c_106 => ?_) (fun c_106 => ?_)
            · skip
              refine r_iconst i_141_174 ?_
              refine r_go (t := 179) i_141_175 (by decide) ?_
              exact jn179 1  (by omega) (by omega) (by omega) (by omega) (by omega) (by omega) (by omega)
            · skip
              refine r_aload_n i_141_162 rfl ?_
              refine r_getF (v := .ref 113) i_141_163 rfl (hly 90 _ rfl) (hF.1 90 31 113 rfl) ?_
              refine r_aload_n i_141_166 rfl ?_
              refine r_getI i_141_167 rfl (hly 90 _ rfl) ?_
              have q_107 := g_90_33 hG
              refine r_zald i_141_170 (hly 113 _ rfl) (by omega) (by omega) (by omega) ?_
              have q_108 := a_113 hA ((G 90 33).toNat)
              refine r_eq0 (t := 178) i_141_171 (by decide) (by omega) (fun c_109 => ?_) (fun c_109 => ?_)
              · skip
                refine r_iconst i_141_178 ?_
                exact jn179 0  (by omega) (by omega) (by omega) (by omega) (by omega) (by omega) (by omega)
              · skip
                refine r_iconst i_141_174 ?_
                refine r_go (t := 179) i_141_175 (by decide) ?_
                exact jn179 1  (by omega) (by omega) (by omega) (by omega) (by omega) (by omega) (by omega)
          · skip
            refine r_aload_n i_141_130 rfl ?_
            refine r_getF (v := .ref 110) i_141_131 rfl (hly 90 _ rfl) (hF.1 90 28 110 rfl) ?_
            refine r_aload_n i_141_134 rfl ?_
            refine r_getI i_141_135 rfl (hly 90 _ rfl) ?_
            have q_110 := g_90_33 hG
            refine r_iald i_141_138 (hly 110 _ rfl) (by omega) (by omega) (by omega) ?_
            have q_111 := a_110 hA ((G 90 33).toNat)
            refine r_bipush i_141_139 (by decide) ?_
            refine r_cne (t := 148) i_141_141 (by decide) (by omega) (by omega) (fun c_112 => ?_) (fun c_112 => ?_)
            · skip
              refine r_iconst i_141_148 ?_
              refine r_go (t := 179) i_141_149 (by decide) ?_
              exact jn179 0  (by omega) (by omega) (by omega) (by omega) (by omega) (by omega) (by omega)
            · skip
              refine r_iconst i_141_144 ?_
              refine r_go (t := 179) i_141_145 (by decide) ?_
              exact jn179 1  (by omega) (by omega) (by omega) (by omega) (by omega) (by omega) (by omega)
      · skip
        refine r_aload_n i_141_98 rfl ?_
        refine r_getF (v := .ref 109) i_141_99 rfl (hly 90 _ rfl) (hF.1 90 27 109 rfl) ?_
        refine r_aload_n i_141_102 rfl ?_
        refine r_getI i_141_103 rfl (hly 90 _ rfl) ?_
        have q_113 := g_90_33 hG
        refine r_iald i_141_106 (hly 109 _ rfl) (by omega) (by omega) (by omega) ?_
        have q_114 := a_109 hA ((G 90 33).toNat)
        refine r_bipush i_141_107 (by decide) ?_
        refine r_cne (t := 116) i_141_109 (by decide) (by omega) (by omega) (fun c_115 => ?_) (fun c_115 => ?_)
        · skip
          refine r_iconst i_141_116 ?_
          refine r_go (t := 179) i_141_117 (by decide) ?_
          exact jn179 0  (by omega) (by omega) (by omega) (by omega) (by omega) (by omega) (by omega)
        · skip
          refine r_iconst i_141_112 ?_
          refine r_go (t := 179) i_141_113 (by decide) ?_
          exact jn179 1  (by omega) (by omega) (by omega) (by omega) (by omega) (by omega) (by omega)
    · skip
      refine r_aload_n i_141_72 rfl ?_
      refine r_getF (v := .ref 108) i_141_73 rfl (hly 90 _ rfl) (hF.1 90 26 108 rfl) ?_
      refine r_aload_n i_141_76 rfl ?_
      refine r_getI i_141_77 rfl (hly 90 _ rfl) ?_
      have q_116 := g_90_33 hG
      refine r_iald i_141_80 (hly 108 _ rfl) (by omega) (by omega) (by omega) ?_
      have q_117 := a_108 hA ((G 90 33).toNat)
      refine r_bipush i_141_81 (by decide) ?_
      refine r_cne (t := 90) i_141_83 (by decide) (by omega) (by omega) (fun c_118 => ?_) (fun c_118 => ?_)
      · skip
        refine r_iconst i_141_90 ?_
        refine r_go (t := 179) i_141_91 (by decide) ?_
        exact jn179 0  (by omega) (by omega) (by omega) (by omega) (by omega) (by omega) (by omega)
      · skip
        refine r_iconst i_141_86 ?_
        refine r_go (t := 179) i_141_87 (by decide) ?_
        exact jn179 1  (by omega) (by omega) (by omega) (by omega) (by omega) (by omega) (by omega)
  · skip
    refine r_aload_n i_141_46 rfl ?_
    refine r_getF (v := .ref 107) i_141_47 rfl (hly 90 _ rfl) (hF.1 90 25 107 rfl) ?_
    refine r_aload_n i_141_50 rfl ?_
    refine r_getI i_141_51 rfl (hly 90 _ rfl) ?_
    have q_119 := g_90_33 hG
    refine r_iald i_141_54 (hly 107 _ rfl) (by omega) (by omega) (by omega) ?_
    have q_120 := a_107 hA ((G 90 33).toNat)
    refine r_bipush i_141_55 (by decide) ?_
    refine r_cne (t := 64) i_141_57 (by decide) (by omega) (by omega) (fun c_121 => ?_) (fun c_121 => ?_)
    · skip
      refine r_iconst i_141_64 ?_
      refine r_go (t := 179) i_141_65 (by decide) ?_
      exact jn179 0  (by omega) (by omega) (by omega) (by omega) (by omega) (by omega) (by omega)
    · skip
      refine r_iconst i_141_60 ?_
      refine r_go (t := 179) i_141_61 (by decide) ?_
      exact jn179 1  (by omega) (by omega) (by omega) (by omega) (by omega) (by omega) (by omega)
