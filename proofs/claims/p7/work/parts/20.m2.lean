set_option maxHeartbeats 4000000 in
theorem c_134 {L : Nat} {xs : Nat → Int32} {ly : List LK} {F : Nat → Nat → Value} {G A : Nat → Nat → Int} {B : Nat → Nat → Int64} {Q : Option Value → AH → Prop}  (hly : LyOk ly) (hF : RfOk F) (hG : GO G) (hA : AQ A)  (K : ∀ (G' : Nat → Nat → Int) (A' : Nat → Nat → Int), (GO G') → (AQ A') → (∀ a k, ¬ ((a = 90 ∧ k = 2) ∨ (a = 90 ∧ k = 3)) → G' a k = G a k) → (∀ a, ¬ (a = 92) → A' a = A a) → (G' 90 3 = G 90 2) → Q none (HP ly F G' A' B)) : Re L xs 134 0 [(0, .ref 90)] [] (HP ly F G A B) Q := by
  refine r_aload_n i_134_0 rfl ?_
  refine r_aload_n i_134_1 rfl ?_
  refine r_getI i_134_2 rfl (hly 90 _ rfl) ?_
  have q_1 := g_90_2 hG
  refine r_putIQ i_134_5 (by decide +kernel) (hly 90 _ rfl) (fun G_2 eG_2 => ?_)
  have hG_2 : GO G_2 := by rw [eG_2]; exact gu_90_3 hG (by omega) (by omega)
  refine r_iconst i_134_8 ?_
  refine r_istore_n (l' := [(0, .ref 90), (1, V 0)]) i_134_9 (by decide +kernel) rfl ?_
  have lp10B : ∀ (nf : Nat) (k : Int) (A1 : Nat → Nat → Int), (AQ A1) → (∀ a, ¬ (a = 92) → A1 a = A a) → (0 ≤ k ∧ k ≤ G 90 2) → (G 90 2 - k).toNat < nf → Re L xs 134 10 [(0, .ref 90), (1, V k)] [] (HP ly F G_2 A1 B) Q := by
    intro nf
    induction nf with
    | zero => intros; omega
    | succ nf ih10B =>
      intro k A1 hA1 fa10 hk hm10
      refine r_iload_n i_134_10 rfl ?_
      refine r_aload_n i_134_11 rfl ?_
      refine r_getI i_134_12 rfl (hly 90 _ rfl) ?_
      rw [show G_2 90 3 = G 90 2 from by rw [eG_2, up2_s]]
      refine r_cge (t := 36) i_134_15 (by decide) (by omega) (by omega) (fun c_3 => ?_) (fun c_3 => ?_)
      · skip
        refine r_aload_n i_134_36 rfl ?_
        refine r_iconst i_134_37 ?_
        refine r_putIQ i_134_38 (by decide +kernel) (hly 90 _ rfl) (fun G_4 eG_4 => ?_)
        have hG_4 : GO G_4 := by rw [eG_4]; exact gu_90_2 hG_2 (by omega) (by omega)
        exact r_vret i_134_41 rfl (K G_4 A1 hG_4 hA1 (by intro a k hh; rw [eG_4, up2_n (by omega), eG_2, up2_n (by omega)]) (by intro a hh; rw [fa10 a (by omega)]) (by rw [show G_4 90 3 = G 90 2 from by rw [eG_4, up2_n (by omega), eG_2, up2_s]] <;> omega))
      · skip
        refine r_aload_n i_134_18 rfl ?_
        refine r_getF (v := .ref 92) i_134_19 rfl (hly 90 _ rfl) (hF.1 90 1 92 rfl) ?_
        refine r_iload_n i_134_22 rfl ?_
        refine r_aload_n i_134_23 rfl ?_
        refine r_getF (v := .ref 91) i_134_24 rfl (hly 90 _ rfl) (hF.1 90 0 91 rfl) ?_
        refine r_iload_n i_134_27 rfl ?_
        refine r_bald i_134_28 (hly 91 _ rfl) (by omega) (by omega) (by omega) ?_
        rw [show A1 91 = A 91 from by rw [fa10 91 (by omega)]]
        have q_5 := a_91 hA (k.toNat)
        refine r_bastQ i_134_29 (hly 92 _ rfl) (by omega) (by omega) (by omega) (by omega) (fun A_6 eA_6 => ?_)
        have hA_6 : AQ A_6 := by rw [eA_6]; exact au_92 hA1 (by omega) (by omega)
        refine r_iinc (l' := [(0, .ref 90), (1, V (k + 1))]) i_134_30 rfl (by decide +kernel) rfl ?_
        refine r_go (t := 10) i_134_33 (by decide) ?_
        exact ih10B (k + 1) A_6 hA_6 (by intro a hh; rw [eA_6, up2_a (by omega), fa10 a (by omega)]) (by omega) (by omega)
  exact lp10B _ 0 A hA (by intro a hh; rfl) (by omega) (Nat.lt_succ_self _)
set_option maxHeartbeats 4000000 in
theorem c_142 {L : Nat} {xs : Nat → Int32} {ly : List LK} {F : Nat → Nat → Value} {G A : Nat → Nat → Int} {B : Nat → Nat → Int64} {Q : Option Value → AH → Prop} {w : Int64} (hly : LyOk ly) (hF : RfOk F) (hG : GO G) (hA : AQ A)  (K : ∀ (r : Int), (0 ≤ r ∧ r ≤ 1) → Q (some (V r)) (HP ly F G A B)) : Re L xs 142 0 [(0, .ref 90), (1, .long w)] [] (HP ly F G A B) Q := by
  refine r_aload_n i_142_0 rfl ?_
  refine r_getI i_142_1 rfl (hly 90 _ rfl) ?_
  have q_1 := g_90_8 hG
  refine r_iconst i_142_4 ?_
  refine r_cne (t := 21) i_142_5 (by decide) (by omega) (by omega) (fun c_2 => ?_) (fun c_2 => ?_)
  · skip
    refine r_iconst i_142_21 ?_
    exact r_iret i_142_22 rfl (nar_Z (by omega)) (K 0 (by omega))
  · skip
    refine r_aload_n i_142_8 rfl ?_
    obtain ⟨v_3, hv_3⟩ := hF.2
    refine r_getF (v := .long v_3) i_142_9 rfl (hly 90 _ rfl) hv_3 ?_
    refine r_lload_n i_142_12 rfl ?_
    refine re_nx i_142_13 rfl ?_
    obtain ⟨c_4, ec_4, rc_4⟩ := lcmp_I v_3 w
    rw [ec_4]
    refine r_ne0 (t := 21) i_142_14 (by decide) (by omega) (fun c_5 => ?_) (fun c_5 => ?_)
    · skip
      refine r_iconst i_142_21 ?_
      exact r_iret i_142_22 rfl (nar_Z (by omega)) (K 0 (by omega))
    · skip
      refine r_iconst i_142_17 ?_
      refine r_go (t := 22) i_142_18 (by decide) ?_
      exact r_iret i_142_22 rfl (nar_Z (by omega)) (K 1 (by omega))
set_option maxHeartbeats 4000000 in
theorem c_143 {L : Nat} {xs : Nat → Int32} {ly : List LK} {F : Nat → Nat → Value} {G A : Nat → Nat → Int} {B : Nat → Nat → Int64} {Q : Option Value → AH → Prop}  (hly : LyOk ly) (hF : RfOk F) (hG : GO G) (hA : AQ A)  (K : ∀ (G' : Nat → Nat → Int), (GO G') → (∀ a k, ¬ ((a = 90 ∧ k = 4) ∨ (a = 90 ∧ k = 5)) → G' a k = G a k) → (G' 90 4 ≠ 0) → Q none (HP ly F G' A B)) : Re L xs 143 0 [(0, .ref 90)] [] (HP ly F G A B) Q := by
  refine r_aload_n i_143_0 rfl ?_
  refine r_aload_n i_143_1 rfl ?_
  refine r_getI i_143_2 rfl (hly 90 _ rfl) ?_
  have q_1 := g_90_8 hG
  refine r_iconst i_143_5 ?_
  refine r_cne (t := 13) i_143_6 (by decide) (by omega) (by omega) (fun c_2 => ?_) (fun c_2 => ?_)
  · skip
    refine r_iconst i_143_13 ?_
    refine r_aload_n i_143_14 rfl ?_
    refine r_getI i_143_15 rfl (hly 90 _ rfl) ?_
    have q_3 := g_90_6 hG
    refine r_cV (as := [V (G 90 6), V 2]) i_143_18 rfl (by decide +kernel) (Nat.le_of_ble_eq_true rfl) (Nat.le_of_ble_eq_true rfl) (hly 90 _ rfl) rfl ?_
    refine c_144 (kind := 2) (place := G 90 6) hly hF hG hA (by omega) (by omega) (by omega) (by omega) (fun G_4 hG_4 fg4 p4_0 => ?_)
    show Re L xs 143 21 [(0, .ref 90)] [] (HP ly F G_4 A B) _
    exact r_vret i_143_21 rfl (K G_4 hG_4 (by intro a k hh; rw [fg4 a k (by omega)]) (by omega))
  · skip
    refine r_iconst i_143_9 ?_
    refine r_go (t := 14) i_143_10 (by decide) ?_
    refine r_aload_n i_143_14 rfl ?_
    refine r_getI i_143_15 rfl (hly 90 _ rfl) ?_
    have q_5 := g_90_6 hG
    refine r_cV (as := [V (G 90 6), V 1]) i_143_18 rfl (by decide +kernel) (Nat.le_of_ble_eq_true rfl) (Nat.le_of_ble_eq_true rfl) (hly 90 _ rfl) rfl ?_
    refine c_144 (kind := 1) (place := G 90 6) hly hF hG hA (by omega) (by omega) (by omega) (by omega) (fun G_6 hG_6 fg6 p6_0 => ?_)
    show Re L xs 143 21 [(0, .ref 90)] [] (HP ly F G_6 A B) _
    exact r_vret i_143_21 rfl (K G_6 hG_6 (by intro a k hh; rw [fg6 a k (by omega)]) (by omega))
set_option maxHeartbeats 4000000 in
theorem c_146 {L : Nat} {xs : Nat → Int32} {ly : List LK} {F : Nat → Nat → Value} {G A : Nat → Nat → Int} {B : Nat → Nat → Int64} {Q : Option Value → AH → Prop}  (hly : LyOk ly) (hF : RfOk F) (hG : GO G) (hA : AQ A)  (K : ∀ (G' : Nat → Nat → Int), (GO G') → (∀ a k, ¬ ((a = 90 ∧ k = 4) ∨ (a = 90 ∧ k = 5)) → G' a k = G a k) → (G' 90 4 ≠ 0 ∨ (G 90 8 = 2 ∧ G' 90 4 = G 90 4)) → (G 90 4 ≠ 0 → G' 90 4 ≠ 0) → Q none (HP ly F G' A B)) : Re L xs 146 0 [(0, .ref 90)] [] (HP ly F G A B) Q := by
  refine r_aload_n i_146_0 rfl ?_
  refine r_getI i_146_1 rfl (hly 90 _ rfl) ?_
  have q_1 := g_90_8 hG
  refine r_iconst i_146_4 ?_
  refine r_ceq (t := 12) i_146_5 (by decide) (by omega) (by omega) (fun c_2 => ?_) (fun c_2 => ?_)
  · skip
    exact r_vret i_146_12 rfl (K G hG (by intro a k hh; rfl) (by omega) (by omega))
  · skip
    refine r_aload_n i_146_8 rfl ?_
    refine r_cV (as := []) i_146_9 rfl (by decide +kernel) (Nat.le_of_ble_eq_true rfl) (Nat.le_of_ble_eq_true rfl) (hly 90 _ rfl) rfl ?_
    refine c_143  hly hF hG hA  (fun G_3 hG_3 fg3 p3_0 => ?_)
    show Re L xs 146 12 [(0, .ref 90)] [] (HP ly F G_3 A B) _
    exact r_vret i_146_12 rfl (K G_3 hG_3 (by intro a k hh; rw [fg3 a k (by omega)]) (by omega) (by omega))
set_option maxHeartbeats 4000000 in
theorem c_135 {L : Nat} {xs : Nat → Int32} {ly : List LK} {F : Nat → Nat → Value} {G A : Nat → Nat → Int} {B : Nat → Nat → Int64} {Q : Option Value → AH → Prop}  (hly : LyOk ly) (hF : RfOk F) (hG : GO G) (hA : AQ A) (h1 : G 90 7 ≤ G 90 3) (K : ∀ (F' : Nat → Nat → Value) (G' : Nat → Nat → Int), (RfOk F') → (GO G') → (∀ a k, ¬ ((a = 90 ∧ k = 10)) → F' a k = F a k) → (∀ a k, ¬ ((a = 90 ∧ k = 6) ∨ (a = 90 ∧ k = 7) ∨ (a = 90 ∧ k = 8) ∨ (a = 90 ∧ k = 9)) → G' a k = G a k) → (G' 90 6 ≤ G' 90 7 ∧ G' 90 7 ≤ G 90 3 ∧ (G' 90 8 = 2 → G' 90 7 - G' 90 6 ≤ 12)) → (G 90 7 ≤ G' 90 6) → (G' 90 8 ≠ 0 → G' 90 6 < G' 90 7) → Q none (HP ly F' G' A B)) : Re L xs 135 0 [(0, .ref 90)] [] (HP ly F G A B) Q := by
  have z1 := g_90_3 hG
  refine r_aload_n i_135_0 rfl ?_
  refine r_aload_n i_135_1 rfl ?_
  refine r_getI i_135_2 rfl (hly 90 _ rfl) ?_
  have q_1 := g_90_7 hG
  refine r_putIQ i_135_5 (by decide +kernel) (hly 90 _ rfl) (fun G_2 eG_2 => ?_)
  have hG_2 : GO G_2 := by rw [eG_2]; exact gu_90_6 hG (by omega) (by omega)
  have jn58 : ∀ (G58 : Nat → Nat → Int), (GO G58) → (∀ a k, ¬ ((a = 90 ∧ k = 6)) → G58 a k = G_2 a k) → (G58 90 6 ≤ G 90 3) → (G 90 7 ≤ G58 90 6) → Re L xs 135 58 [(0, .ref 90)] [] (HP ly F G58 A B) Q := by
    intro G58 hG58 fg58 hj1 hj2
    refine r_aload_n i_135_58 rfl ?_
    refine r_aload_n i_135_59 rfl ?_
    refine r_getI i_135_60 rfl (hly 90 _ rfl) ?_
    have q_3 := g_90_6 hG58
    refine r_cV (as := [V (G58 90 6)]) i_135_63 rfl (by decide +kernel) (Nat.le_of_ble_eq_true rfl) (Nat.le_of_ble_eq_true rfl) (hly 90 _ rfl) rfl ?_
    have w_4 : G58 90 3 = G 90 3 := by rw [fg58 90 3 (by omega), eG_2, up2_n (by omega)]
    have q_5 := g_90_3 hG
    refine c_136 (k := G58 90 6) hly hF hG58 hA (by omega) (by omega) (fun r_6 p6_0 p6_1 p6_2 p6_3 => ?_)
    show Re L xs 135 66 [(0, .ref 90)] [V r_6] (HP ly F G58 A B) _
    refine r_istore_n (l' := [(0, .ref 90), (1, V r_6)]) i_135_66 (by decide +kernel) rfl ?_
    refine r_aload_n i_135_67 rfl ?_
    refine r_aload_n i_135_68 rfl ?_
    refine r_getI i_135_69 rfl (hly 90 _ rfl) ?_
    refine r_iconst i_135_72 ?_
    refine r_iadd i_135_73 ?_
    refine r_putIQ i_135_74 (by decide +kernel) (hly 90 _ rfl) (fun G_7 eG_7 => ?_)
    have hG_7 : GO G_7 := by rw [eG_7]; exact gu_90_7 hG58 (by omega) (by omega)
    refine r_aload_n i_135_77 rfl ?_
    refine r_getI i_135_78 rfl (hly 90 _ rfl) ?_
    rw [show G_7 90 6 = G58 90 6 from by rw [eG_7, up2_n (by omega)]]
    refine r_aload_n i_135_81 rfl ?_
    refine r_getI i_135_82 rfl (hly 90 _ rfl) ?_
    rw [show G_7 90 3 = G 90 3 from by rw [eG_7, up2_n (by omega), fg58 90 3 (by omega), eG_2, up2_n (by omega)]]
    refine r_clt (t := 112) i_135_85 (by decide) (by omega) (by omega) (fun c_8 => ?_) (fun c_8 => ?_)
    · skip
      refine r_iload_n i_135_112 rfl ?_
      refine r_cS (as := [V r_6]) i_135_113 rfl (by decide +kernel) (Nat.le_of_ble_eq_true rfl) (Nat.le_of_ble_eq_true rfl) ?_
      refine c_137 (c := r_6) hly hF hG_7 hA (by omega) (fun r_9 p9_0 p9_1 => ?_)
      show Re L xs 135 116 [(0, .ref 90), (1, V r_6)] [V r_9] (HP ly F G_7 A B) _
      refine r_eq0 (t := 244) i_135_116 (by decide) (by omega) (fun c_10 => ?_) (fun c_10 => ?_)
      · skip
        refine r_iload_n i_135_244 rfl ?_
        refine r_cS (as := [V r_6]) i_135_245 rfl (by decide +kernel) (Nat.le_of_ble_eq_true rfl) (Nat.le_of_ble_eq_true rfl) ?_
        refine c_139 (c := r_6) hly hF hG_7 hA (by omega) (fun r_11 p11_0 p11_1 => ?_)
        show Re L xs 135 248 [(0, .ref 90), (1, V r_6)] [V r_11] (HP ly F G_7 A B) _
        refine r_eq0 (t := 368) i_135_248 (by decide) (by omega) (fun c_12 => ?_) (fun c_12 => ?_)
        · skip
          refine r_aload_n i_135_368 rfl ?_
          refine r_iload_n i_135_369 rfl ?_
          refine r_bipush i_135_370 (by decide) ?_
          refine r_cne (t := 379) i_135_372 (by decide) (by omega) (by omega) (fun c_13 => ?_) (fun c_13 => ?_)
          · skip
            refine r_iconst i_135_379 ?_
            refine r_putIQ i_135_380 (by decide +kernel) (hly 90 _ rfl) (fun G_14 eG_14 => ?_)
            have hG_14 : GO G_14 := by rw [eG_14]; exact gu_90_8 hG_7 (by omega) (by omega)
            exact r_vret i_135_383 rfl (K F G_14 hF hG_14 (by intro a k hh; rfl) (by intro a k hh; rw [eG_14, up2_n (by omega), eG_7, up2_n (by omega), fg58 a k (by omega), eG_2, up2_n (by omega)]) (by rw [show G_14 90 6 = G58 90 6 from by rw [eG_14, up2_n (by omega), eG_7, up2_n (by omega)]] <;> rw [show G_14 90 7 = (G58 90 6) + 1 from by rw [eG_14, up2_n (by omega), eG_7, up2_s]] <;> rw [show G_14 90 8 = 1 from by rw [eG_14, up2_s]] <;> omega) (by rw [show G_14 90 6 = G58 90 6 from by rw [eG_14, up2_n (by omega), eG_7, up2_n (by omega)]] <;> omega) (by rw [show G_14 90 8 = 1 from by rw [eG_14, up2_s]] <;> rw [show G_14 90 6 = G58 90 6 from by rw [eG_14, up2_n (by omega), eG_7, up2_n (by omega)]] <;> rw [show G_14 90 7 = (G58 90 6) + 1 from by rw [eG_14, up2_n (by omega), eG_7, up2_s]] <;> omega))
          · skip
            refine r_iconst i_135_375 ?_
            refine r_go (t := 380) i_135_376 (by decide) ?_
            refine r_putIQ i_135_380 (by decide +kernel) (hly 90 _ rfl) (fun G_15 eG_15 => ?_)
            have hG_15 : GO G_15 := by rw [eG_15]; exact gu_90_8 hG_7 (by omega) (by omega)
            exact r_vret i_135_383 rfl (K F G_15 hF hG_15 (by intro a k hh; rfl) (by intro a k hh; rw [eG_15, up2_n (by omega), eG_7, up2_n (by omega), fg58 a k (by omega), eG_2, up2_n (by omega)]) (by rw [show G_15 90 6 = G58 90 6 from by rw [eG_15, up2_n (by omega), eG_7, up2_n (by omega)]] <;> rw [show G_15 90 7 = (G58 90 6) + 1 from by rw [eG_15, up2_n (by omega), eG_7, up2_s]] <;> rw [show G_15 90 8 = 4 from by rw [eG_15, up2_s]] <;> omega) (by rw [show G_15 90 6 = G58 90 6 from by rw [eG_15, up2_n (by omega), eG_7, up2_n (by omega)]] <;> omega) (by rw [show G_15 90 8 = 4 from by rw [eG_15, up2_s]] <;> rw [show G_15 90 6 = G58 90 6 from by rw [eG_15, up2_n (by omega), eG_7, up2_n (by omega)]] <;> rw [show G_15 90 7 = (G58 90 6) + 1 from by rw [eG_15, up2_n (by omega), eG_7, up2_s]] <;> omega))
        · skip
          refine r_aload_n i_135_251 rfl ?_
          refine r_iconst i_135_252 ?_
          refine r_putIQ i_135_253 (by decide +kernel) (hly 90 _ rfl) (fun G_16 eG_16 => ?_)
          have hG_16 : GO G_16 := by rw [eG_16]; exact gu_90_9 hG_7 (by omega) (by omega)
          refine r_aload_n i_135_256 rfl ?_
          refine r_aload_n i_135_257 rfl ?_
          refine r_getI i_135_258 rfl (hly 90 _ rfl) ?_
          rw [show G_16 90 6 = G58 90 6 from by rw [eG_16, up2_n (by omega), eG_7, up2_n (by omega)]]
          refine r_putIQ i_135_261 (by decide +kernel) (hly 90 _ rfl) (fun G_17 eG_17 => ?_)
          have hG_17 : GO G_17 := by rw [eG_17]; exact gu_90_7 hG_16 (by omega) (by omega)
          have lp264B : ∀ (nf : Nat) (G264 : Nat → Nat → Int), (GO G264) → (∀ a k, ¬ ((a = 90 ∧ k = 7) ∨ (a = 90 ∧ k = 9)) → G264 a k = G_17 a k) → (G264 90 7 ≤ G 90 3) → (G58 90 6 ≤ G264 90 7) → (G264 90 7 = G58 90 6 → G264 90 9 ≤ 0) → (G264 90 7 = G58 90 6 + 1 → G264 90 9 ≤ 9) → (G264 90 7 = G58 90 6 + 2 → G264 90 9 ≤ 99) → (G264 90 7 = G58 90 6 + 3 → G264 90 9 ≤ 999) → (G264 90 7 = G58 90 6 + 4 → G264 90 9 ≤ 9999) → (G264 90 7 = G58 90 6 + 5 → G264 90 9 ≤ 99999) → (G 90 3 - G264 90 7).toNat < nf → Re L xs 135 264 [(0, .ref 90), (1, V r_6)] [] (HP ly F G264 A B) Q := by
            intro nf
            induction nf with
            | zero => intros; omega
            | succ nf ih264B =>
              intro G264 hG264 fg264 hd1 hd2 hd3 hd4 hd5 hd6 hd7 hd8 hm264
              refine r_aload_n i_135_264 rfl ?_
              refine r_aload_n i_135_265 rfl ?_
              refine r_getI i_135_266 rfl (hly 90 _ rfl) ?_
              have q_18 := g_90_7 hG264
              refine r_cV (as := [V (G264 90 7)]) i_135_269 rfl (by decide +kernel) (Nat.le_of_ble_eq_true rfl) (Nat.le_of_ble_eq_true rfl) (hly 90 _ rfl) rfl ?_
              have w_19 : G264 90 3 = G 90 3 := by rw [fg264 90 3 (by omega), eG_17, up2_n (by omega), eG_16, up2_n (by omega), eG_7, up2_n (by omega), fg58 90 3 (by omega), eG_2, up2_n (by omega)]
              refine c_136 (k := G264 90 7) hly hF hG264 hA (by omega) (by omega) (fun r_20 p20_0 p20_1 p20_2 p20_3 => ?_)
              show Re L xs 135 272 [(0, .ref 90), (1, V r_6)] [V r_20] (HP ly F G264 A B) _
              have hq5 : G264 90 7 = G58 90 6 → r_20 = A 92 (G58 90 6).toNat % 256 := fun e => by rw [e] at p20_2; omega
              refine r_cS (as := [V r_20]) i_135_272 rfl (by decide +kernel) (Nat.le_of_ble_eq_true rfl) (Nat.le_of_ble_eq_true rfl) ?_
              refine c_139 (c := r_20) hly hF hG264 hA (by omega) (fun r_21 p21_0 p21_1 => ?_)
              show Re L xs 135 275 [(0, .ref 90), (1, V r_6)] [V r_21] (HP ly F G264 A B) _
              refine r_eq0 (t := 328) i_135_275 (by decide) (by omega) (fun c_22 => ?_) (fun c_22 => ?_)
              · skip
                refine r_aload_n i_135_328 rfl ?_
                refine r_aload_n i_135_329 rfl ?_
                refine r_getI i_135_330 rfl (hly 90 _ rfl) ?_
                refine r_aload_n i_135_333 rfl ?_
                refine r_getI i_135_334 rfl (hly 90 _ rfl) ?_
                rw [show G264 90 6 = G58 90 6 from by rw [fg264 90 6 (by omega), eG_17, up2_n (by omega), eG_16, up2_n (by omega), eG_7, up2_n (by omega)]]
                refine r_isub i_135_337 ?_
                refine r_bipush i_135_338 (by decide) ?_
                refine r_cgt (t := 357) i_135_340 (by decide) (by omega) (by omega) (fun c_23 => ?_) (fun c_23 => ?_)
                · skip
                  refine r_iconst i_135_357 ?_
                  refine r_go (t := 362) i_135_358 (by decide) ?_
                  refine r_putIQ i_135_362 (by decide +kernel) (hly 90 _ rfl) (fun G_24 eG_24 => ?_)
                  have hG_24 : GO G_24 := by rw [eG_24]; exact gu_90_8 hG264 (by omega) (by omega)
                  refine r_go (t := 383) i_135_365 (by decide) ?_
                  exact r_vret i_135_383 rfl (K F G_24 hF hG_24 (by intro a k hh; rfl) (by intro a k hh; rw [eG_24, up2_n (by omega), fg264 a k (by omega), eG_17, up2_n (by omega), eG_16, up2_n (by omega), eG_7, up2_n (by omega), fg58 a k (by omega), eG_2, up2_n (by omega)]) (by rw [show G_24 90 6 = G58 90 6 from by rw [eG_24, up2_n (by omega), fg264 90 6 (by omega), eG_17, up2_n (by omega), eG_16, up2_n (by omega), eG_7, up2_n (by omega)]] <;> rw [show G_24 90 7 = G264 90 7 from by rw [eG_24, up2_n (by omega)]] <;> rw [show G_24 90 8 = 1 from by rw [eG_24, up2_s]] <;> omega) (by rw [show G_24 90 6 = G58 90 6 from by rw [eG_24, up2_n (by omega), fg264 90 6 (by omega), eG_17, up2_n (by omega), eG_16, up2_n (by omega), eG_7, up2_n (by omega)]] <;> omega) (by rw [show G_24 90 8 = 1 from by rw [eG_24, up2_s]] <;> rw [show G_24 90 6 = G58 90 6 from by rw [eG_24, up2_n (by omega), fg264 90 6 (by omega), eG_17, up2_n (by omega), eG_16, up2_n (by omega), eG_7, up2_n (by omega)]] <;> rw [show G_24 90 7 = G264 90 7 from by rw [eG_24, up2_n (by omega)]] <;> omega))
                · skip
                  refine r_aload_n i_135_343 rfl ?_
                  refine r_aload_n i_135_344 rfl ?_
                  refine r_getI i_135_345 rfl (hly 90 _ rfl) ?_
                  refine r_cV (as := [V (G264 90 7)]) i_135_348 rfl (by decide +kernel) (Nat.le_of_ble_eq_true rfl) (Nat.le_of_ble_eq_true rfl) (hly 90 _ rfl) rfl ?_
                  refine c_136 (k := G264 90 7) hly hF hG264 hA (by omega) (by omega) (fun r_25 p25_0 p25_1 p25_2 p25_3 => ?_)
                  show Re L xs 135 351 [(0, .ref 90), (1, V r_6)] [V r_25, .ref 90] (HP ly F G264 A B) _
                  refine r_cS (as := [V r_25]) i_135_351 rfl (by decide +kernel) (Nat.le_of_ble_eq_true rfl) (Nat.le_of_ble_eq_true rfl) ?_
                  refine c_137 (c := r_25) hly hF hG264 hA (by omega) (fun r_26 p26_0 p26_1 => ?_)
                  show Re L xs 135 354 [(0, .ref 90), (1, V r_6)] [V r_26, .ref 90] (HP ly F G264 A B) _
                  refine r_eq0 (t := 361) i_135_354 (by decide) (by omega) (fun c_27 => ?_) (fun c_27 => ?_)
                  · skip
                    refine r_iconst i_135_361 ?_
                    refine r_putIQ i_135_362 (by decide +kernel) (hly 90 _ rfl) (fun G_28 eG_28 => ?_)
                    have hG_28 : GO G_28 := by rw [eG_28]; exact gu_90_8 hG264 (by omega) (by omega)
                    refine r_go (t := 383) i_135_365 (by decide) ?_
                    exact r_vret i_135_383 rfl (K F G_28 hF hG_28 (by intro a k hh; rfl) (by intro a k hh; rw [eG_28, up2_n (by omega), fg264 a k (by omega), eG_17, up2_n (by omega), eG_16, up2_n (by omega), eG_7, up2_n (by omega), fg58 a k (by omega), eG_2, up2_n (by omega)]) (by rw [show G_28 90 6 = G58 90 6 from by rw [eG_28, up2_n (by omega), fg264 90 6 (by omega), eG_17, up2_n (by omega), eG_16, up2_n (by omega), eG_7, up2_n (by omega)]] <;> rw [show G_28 90 7 = G264 90 7 from by rw [eG_28, up2_n (by omega)]] <;> rw [show G_28 90 8 = 3 from by rw [eG_28, up2_s]] <;> omega) (by rw [show G_28 90 6 = G58 90 6 from by rw [eG_28, up2_n (by omega), fg264 90 6 (by omega), eG_17, up2_n (by omega), eG_16, up2_n (by omega), eG_7, up2_n (by omega)]] <;> omega) (by rw [show G_28 90 8 = 3 from by rw [eG_28, up2_s]] <;> rw [show G_28 90 6 = G58 90 6 from by rw [eG_28, up2_n (by omega), fg264 90 6 (by omega), eG_17, up2_n (by omega), eG_16, up2_n (by omega), eG_7, up2_n (by omega)]] <;> rw [show G_28 90 7 = G264 90 7 from by rw [eG_28, up2_n (by omega)]] <;> omega))
                  · skip
                    refine r_iconst i_135_357 ?_
                    refine r_go (t := 362) i_135_358 (by decide) ?_
                    refine r_putIQ i_135_362 (by decide +kernel) (hly 90 _ rfl) (fun G_29 eG_29 => ?_)
                    have hG_29 : GO G_29 := by rw [eG_29]; exact gu_90_8 hG264 (by omega) (by omega)
                    refine r_go (t := 383) i_135_365 (by decide) ?_
                    exact r_vret i_135_383 rfl (K F G_29 hF hG_29 (by intro a k hh; rfl) (by intro a k hh; rw [eG_29, up2_n (by omega), fg264 a k (by omega), eG_17, up2_n (by omega), eG_16, up2_n (by omega), eG_7, up2_n (by omega), fg58 a k (by omega), eG_2, up2_n (by omega)]) (by rw [show G_29 90 6 = G58 90 6 from by rw [eG_29, up2_n (by omega), fg264 90 6 (by omega), eG_17, up2_n (by omega), eG_16, up2_n (by omega), eG_7, up2_n (by omega)]] <;> rw [show G_29 90 7 = G264 90 7 from by rw [eG_29, up2_n (by omega)]] <;> rw [show G_29 90 8 = 1 from by rw [eG_29, up2_s]] <;> omega) (by rw [show G_29 90 6 = G58 90 6 from by rw [eG_29, up2_n (by omega), fg264 90 6 (by omega), eG_17, up2_n (by omega), eG_16, up2_n (by omega), eG_7, up2_n (by omega)]] <;> omega) (by rw [show G_29 90 8 = 1 from by rw [eG_29, up2_s]] <;> rw [show G_29 90 6 = G58 90 6 from by rw [eG_29, up2_n (by omega), fg264 90 6 (by omega), eG_17, up2_n (by omega), eG_16, up2_n (by omega), eG_7, up2_n (by omega)]] <;> rw [show G_29 90 7 = G264 90 7 from by rw [eG_29, up2_n (by omega)]] <;> omega))
              · skip
                refine r_aload_n i_135_278 rfl ?_
                refine r_getI i_135_279 rfl (hly 90 _ rfl) ?_
                refine r_aload_n i_135_282 rfl ?_
                refine r_getI i_135_283 rfl (hly 90 _ rfl) ?_
                rw [show G264 90 6 = G58 90 6 from by rw [fg264 90 6 (by omega), eG_17, up2_n (by omega), eG_16, up2_n (by omega), eG_7, up2_n (by omega)]]
                refine r_isub i_135_286 ?_
                refine r_bipush i_135_287 (by decide) ?_
                refine r_cge (t := 315) i_135_289 (by decide) (by omega) (by omega) (fun c_30 => ?_) (fun c_30 => ?_)
                · skip
                  refine r_aload_n i_135_315 rfl ?_
                  refine re_nx i_135_316 rfl ?_
                  refine r_getI i_135_317 rfl (hly 90 _ rfl) ?_
                  refine r_iconst i_135_320 ?_
                  refine r_iadd i_135_321 ?_
                  refine r_putIQ i_135_322 (by decide +kernel) (hly 90 _ rfl) (fun G_31 eG_31 => ?_)
                  have hG_31 : GO G_31 := by rw [eG_31]; exact gu_90_7 hG264 (by omega) (by omega)
                  refine r_go (t := 264) i_135_325 (by decide) ?_
                  exact ih264B G_31 hG_31 (by intro a k hh; rw [eG_31, up2_n (by omega), fg264 a k (by omega)]) (by rw [show G_31 90 7 = (G264 90 7) + 1 from by rw [eG_31, up2_s]] <;> omega) (by rw [show G_31 90 7 = (G264 90 7) + 1 from by rw [eG_31, up2_s]] <;> omega) (by rw [show G_31 90 7 = (G264 90 7) + 1 from by rw [eG_31, up2_s]] <;> rw [show G_31 90 9 = G264 90 9 from by rw [eG_31, up2_n (by omega)]] <;> omega) (by rw [show G_31 90 7 = (G264 90 7) + 1 from by rw [eG_31, up2_s]] <;> rw [show G_31 90 9 = G264 90 9 from by rw [eG_31, up2_n (by omega)]] <;> omega) (by rw [show G_31 90 7 = (G264 90 7) + 1 from by rw [eG_31, up2_s]] <;> rw [show G_31 90 9 = G264 90 9 from by rw [eG_31, up2_n (by omega)]] <;> omega) (by rw [show G_31 90 7 = (G264 90 7) + 1 from by rw [eG_31, up2_s]] <;> rw [show G_31 90 9 = G264 90 9 from by rw [eG_31, up2_n (by omega)]] <;> omega) (by rw [show G_31 90 7 = (G264 90 7) + 1 from by rw [eG_31, up2_s]] <;> rw [show G_31 90 9 = G264 90 9 from by rw [eG_31, up2_n (by omega)]] <;> omega) (by rw [show G_31 90 7 = (G264 90 7) + 1 from by rw [eG_31, up2_s]] <;> rw [show G_31 90 9 = G264 90 9 from by rw [eG_31, up2_n (by omega)]] <;> omega) (by rw [show G_31 90 7 = (G264 90 7) + 1 from by rw [eG_31, up2_s]] <;> omega)
                · skip
                  refine r_aload_n i_135_292 rfl ?_
                  refine r_bipush i_135_293 (by decide) ?_
                  refine r_aload_n i_135_295 rfl ?_
                  refine r_getI i_135_296 rfl (hly 90 _ rfl) ?_
                  have q_32 := g_90_9 hG264
                  refine r_imul i_135_299 ?_
                  refine r_aload_n i_135_300 rfl ?_
                  refine r_aload_n i_135_301 rfl ?_
                  refine r_getI i_135_302 rfl (hly 90 _ rfl) ?_
                  refine r_cV (as := [V (G264 90 7)]) i_135_305 rfl (by decide +kernel) (Nat.le_of_ble_eq_true rfl) (Nat.le_of_ble_eq_true rfl) (hly 90 _ rfl) rfl ?_
                  refine c_136 (k := G264 90 7) hly hF hG264 hA (by omega) (by omega) (fun r_33 p33_0 p33_1 p33_2 p33_3 => ?_)
                  show Re L xs 135 308 [(0, .ref 90), (1, V r_6)] [V r_33, V (10 * (G264 90 9)), .ref 90] (HP ly F G264 A B) _
                  refine r_iadd i_135_308 ?_
                  refine r_bipush i_135_309 (by decide) ?_
                  refine r_isub i_135_311 ?_
                  refine r_putIQ i_135_312 (by decide +kernel) (hly 90 _ rfl) (fun G_34 eG_34 => ?_)
                  have hG_34 : GO G_34 := by rw [eG_34]; exact gu_90_9 hG264 (by omega) (by omega)
                  refine r_aload_n i_135_315 rfl ?_
                  refine re_nx i_135_316 rfl ?_
                  refine r_getI i_135_317 rfl (hly 90 _ rfl) ?_
                  rw [show G_34 90 7 = G264 90 7 from by rw [eG_34, up2_n (by omega)]]
                  refine r_iconst i_135_320 ?_
                  refine r_iadd i_135_321 ?_
                  refine r_putIQ i_135_322 (by decide +kernel) (hly 90 _ rfl) (fun G_35 eG_35 => ?_)
                  have hG_35 : GO G_35 := by rw [eG_35]; exact gu_90_7 hG_34 (by omega) (by omega)
                  refine r_go (t := 264) i_135_325 (by decide) ?_
                  exact ih264B G_35 hG_35 (by intro a k hh; rw [eG_35, up2_n (by omega), eG_34, up2_n (by omega), fg264 a k (by omega)]) (by rw [show G_35 90 7 = (G264 90 7) + 1 from by rw [eG_35, up2_s]] <;> omega) (by rw [show G_35 90 7 = (G264 90 7) + 1 from by rw [eG_35, up2_s]] <;> omega) (by rw [show G_35 90 7 = (G264 90 7) + 1 from by rw [eG_35, up2_s]] <;> rw [show G_35 90 9 = ((10 * (G264 90 9)) + r_33) - 48 from by rw [eG_35, up2_n (by omega), eG_34, up2_s]] <;> omega) (by rw [show G_35 90 7 = (G264 90 7) + 1 from by rw [eG_35, up2_s]] <;> rw [show G_35 90 9 = ((10 * (G264 90 9)) + r_33) - 48 from by rw [eG_35, up2_n (by omega), eG_34, up2_s]] <;> omega) (by rw [show G_35 90 7 = (G264 90 7) + 1 from by rw [eG_35, up2_s]] <;> rw [show G_35 90 9 = ((10 * (G264 90 9)) + r_33) - 48 from by rw [eG_35, up2_n (by omega), eG_34, up2_s]] <;> omega) (by rw [show G_35 90 7 = (G264 90 7) + 1 from by rw [eG_35, up2_s]] <;> rw [show G_35 90 9 = ((10 * (G264 90 9)) + r_33) - 48 from by rw [eG_35, up2_n (by omega), eG_34, up2_s]] <;> omega) (by rw [show G_35 90 7 = (G264 90 7) + 1 from by rw [eG_35, up2_s]] <;> rw [show G_35 90 9 = ((10 * (G264 90 9)) + r_33) - 48 from by rw [eG_35, up2_n (by omega), eG_34, up2_s]] <;> omega) (by rw [show G_35 90 7 = (G264 90 7) + 1 from by rw [eG_35, up2_s]] <;> rw [show G_35 90 9 = ((10 * (G264 90 9)) + r_33) - 48 from by rw [eG_35, up2_n (by omega), eG_34, up2_s]] <;> omega) (by rw [show G_35 90 7 = (G264 90 7) + 1 from by rw [eG_35, up2_s]] <;> omega)
          exact lp264B _ G_17 hG_17 (by intro a k hh; rfl) (by rw [show G_17 90 7 = G58 90 6 from by rw [eG_17, up2_s]] <;> omega) (by rw [show G_17 90 7 = G58 90 6 from by rw [eG_17, up2_s]] <;> omega) (by rw [show G_17 90 7 = G58 90 6 from by rw [eG_17, up2_s]] <;> rw [show G_17 90 9 = 0 from by rw [eG_17, up2_n (by omega), eG_16, up2_s]] <;> omega) (by rw [show G_17 90 7 = G58 90 6 from by rw [eG_17, up2_s]] <;> rw [show G_17 90 9 = 0 from by rw [eG_17, up2_n (by omega), eG_16, up2_s]] <;> omega) (by rw [show G_17 90 7 = G58 90 6 from by rw [eG_17, up2_s]] <;> rw [show G_17 90 9 = 0 from by rw [eG_17, up2_n (by omega), eG_16, up2_s]] <;> omega) (by rw [show G_17 90 7 = G58 90 6 from by rw [eG_17, up2_s]] <;> rw [show G_17 90 9 = 0 from by rw [eG_17, up2_n (by omega), eG_16, up2_s]] <;> omega) (by rw [show G_17 90 7 = G58 90 6 from by rw [eG_17, up2_s]] <;> rw [show G_17 90 9 = 0 from by rw [eG_17, up2_n (by omega), eG_16, up2_s]] <;> omega) (by rw [show G_17 90 7 = G58 90 6 from by rw [eG_17, up2_s]] <;> rw [show G_17 90 9 = 0 from by rw [eG_17, up2_n (by omega), eG_16, up2_s]] <;> omega) (Nat.lt_succ_self _)
      · skip
        have lp119B : ∀ (nf : Nat) (G119 : Nat → Nat → Int), (GO G119) → (∀ a k, ¬ ((a = 90 ∧ k = 7)) → G119 a k = G_7 a k) → (G119 90 7 ≤ G 90 3) → (G58 90 6 < G119 90 7) → (G 90 3 - G119 90 7).toNat < nf → Re L xs 135 119 [(0, .ref 90), (1, V r_6)] [] (HP ly F G119 A B) Q := by
          intro nf
          induction nf with
          | zero => intros; omega
          | succ nf ih119B =>
            intro G119 hG119 fg119 hl1 hl2 hm119
            refine r_aload_n i_135_119 rfl ?_
            refine r_aload_n i_135_120 rfl ?_
            refine r_getI i_135_121 rfl (hly 90 _ rfl) ?_
            have q_36 := g_90_7 hG119
            refine r_cV (as := [V (G119 90 7)]) i_135_124 rfl (by decide +kernel) (Nat.le_of_ble_eq_true rfl) (Nat.le_of_ble_eq_true rfl) (hly 90 _ rfl) rfl ?_
            have w_37 : G119 90 3 = G 90 3 := by rw [fg119 90 3 (by omega), eG_7, up2_n (by omega), fg58 90 3 (by omega), eG_2, up2_n (by omega)]
            refine c_136 (k := G119 90 7) hly hF hG119 hA (by omega) (by omega) (fun r_38 p38_0 p38_1 p38_2 p38_3 => ?_)
            show Re L xs 135 127 [(0, .ref 90), (1, V r_6)] [V r_38] (HP ly F G119 A B) _
            refine r_cS (as := [V r_38]) i_135_127 rfl (by decide +kernel) (Nat.le_of_ble_eq_true rfl) (Nat.le_of_ble_eq_true rfl) ?_
            refine c_137 (c := r_38) hly hF hG119 hA (by omega) (fun r_39 p39_0 p39_1 => ?_)
            show Re L xs 135 130 [(0, .ref 90), (1, V r_6)] [V r_39] (HP ly F G119 A B) _
            refine r_eq0 (t := 146) i_135_130 (by decide) (by omega) (fun c_40 => ?_) (fun c_40 => ?_)
            · skip
              have jn199 : ∀ (k2 : Int) (F199 : Nat → Nat → Value), (RfOk F199) → (∀ a k, ¬ ((a = 90 ∧ k = 10)) → F199 a k = F a k) → Re L xs 135 199 [(0, .ref 90), (1, V r_6), (2, V k2)] [] (HP ly F199 G119 A B) Q := by
                intro k2 F199 hF199 ff199 
                have jn218 : ∀ (F218 : Nat → Nat → Value), (RfOk F218) → (∀ a k, ¬ ((a = 90 ∧ k = 10)) → F218 a k = F199 a k) → Re L xs 135 218 [(0, .ref 90), (1, V r_6), (2, V k2)] [] (HP ly F218 G119 A B) Q := by
                  intro F218 hF218 ff218 
                  refine r_aload_n i_135_218 rfl ?_
                  refine r_aload_n i_135_219 rfl ?_
                  refine r_getI i_135_220 rfl (hly 90 _ rfl) ?_
                  refine r_aload_n i_135_223 rfl ?_
                  refine r_getI i_135_224 rfl (hly 90 _ rfl) ?_
                  rw [show G119 90 6 = G58 90 6 from by rw [fg119 90 6 (by omega), eG_7, up2_n (by omega)]]
                  refine r_isub i_135_227 ?_
                  refine r_bipush i_135_228 (by decide) ?_
                  refine r_cle (t := 237) i_135_230 (by decide) (by omega) (by omega) (fun c_41 => ?_) (fun c_41 => ?_)
                  · skip
                    refine r_iconst i_135_237 ?_
                    refine r_putIQ i_135_238 (by decide +kernel) (hly 90 _ rfl) (fun G_42 eG_42 => ?_)
                    have hG_42 : GO G_42 := by rw [eG_42]; exact gu_90_8 hG119 (by omega) (by omega)
                    refine r_go (t := 383) i_135_241 (by decide) ?_
                    exact r_vret i_135_383 rfl (K F218 G_42 hF218 hG_42 (by intro a k hh; rw [ff218 a k (by omega), ff199 a k (by omega)]) (by intro a k hh; rw [eG_42, up2_n (by omega), fg119 a k (by omega), eG_7, up2_n (by omega), fg58 a k (by omega), eG_2, up2_n (by omega)]) (by rw [show G_42 90 6 = G58 90 6 from by rw [eG_42, up2_n (by omega), fg119 90 6 (by omega), eG_7, up2_n (by omega)]] <;> rw [show G_42 90 7 = G119 90 7 from by rw [eG_42, up2_n (by omega)]] <;> rw [show G_42 90 8 = 2 from by rw [eG_42, up2_s]] <;> omega) (by rw [show G_42 90 6 = G58 90 6 from by rw [eG_42, up2_n (by omega), fg119 90 6 (by omega), eG_7, up2_n (by omega)]] <;> omega) (by rw [show G_42 90 8 = 2 from by rw [eG_42, up2_s]] <;> rw [show G_42 90 6 = G58 90 6 from by rw [eG_42, up2_n (by omega), fg119 90 6 (by omega), eG_7, up2_n (by omega)]] <;> rw [show G_42 90 7 = G119 90 7 from by rw [eG_42, up2_n (by omega)]] <;> omega))
                  · skip
                    refine r_iconst i_135_233 ?_
                    refine r_go (t := 238) i_135_234 (by decide) ?_
                    refine r_putIQ i_135_238 (by decide +kernel) (hly 90 _ rfl) (fun G_43 eG_43 => ?_)
                    have hG_43 : GO G_43 := by rw [eG_43]; exact gu_90_8 hG119 (by omega) (by omega)
                    refine r_go (t := 383) i_135_241 (by decide) ?_
                    exact r_vret i_135_383 rfl (K F218 G_43 hF218 hG_43 (by intro a k hh; rw [ff218 a k (by omega), ff199 a k (by omega)]) (by intro a k hh; rw [eG_43, up2_n (by omega), fg119 a k (by omega), eG_7, up2_n (by omega), fg58 a k (by omega), eG_2, up2_n (by omega)]) (by rw [show G_43 90 6 = G58 90 6 from by rw [eG_43, up2_n (by omega), fg119 90 6 (by omega), eG_7, up2_n (by omega)]] <;> rw [show G_43 90 7 = G119 90 7 from by rw [eG_43, up2_n (by omega)]] <;> rw [show G_43 90 8 = 1 from by rw [eG_43, up2_s]] <;> omega) (by rw [show G_43 90 6 = G58 90 6 from by rw [eG_43, up2_n (by omega), fg119 90 6 (by omega), eG_7, up2_n (by omega)]] <;> omega) (by rw [show G_43 90 8 = 1 from by rw [eG_43, up2_s]] <;> rw [show G_43 90 6 = G58 90 6 from by rw [eG_43, up2_n (by omega), fg119 90 6 (by omega), eG_7, up2_n (by omega)]] <;> rw [show G_43 90 7 = G119 90 7 from by rw [eG_43, up2_n (by omega)]] <;> omega))
                refine r_aload_n i_135_199 rfl ?_
                refine r_getI i_135_200 rfl (hly 90 _ rfl) ?_
                refine r_aload_n i_135_203 rfl ?_
                refine r_getI i_135_204 rfl (hly 90 _ rfl) ?_
                rw [show G119 90 6 = G58 90 6 from by rw [fg119 90 6 (by omega), eG_7, up2_n (by omega)]]
                refine r_isub i_135_207 ?_
                refine r_bipush i_135_208 (by decide) ?_
                refine r_cle (t := 218) i_135_210 (by decide) (by omega) (by omega) (fun c_44 => ?_) (fun c_44 => ?_)
                · skip
                  exact jn218 F199 hF199 (by intro a k hh; rfl) 
                · skip
                  refine r_aload_n i_135_213 rfl ?_
                  refine r_lconst i_135_214 ?_
                  show Re L xs 135 215 [(0, .ref 90), (1, V r_6), (2, V k2)] [.long (Int64.ofNat 0), .ref 90] (HP ly F199 G119 A B) _
                  refine r_putJQ i_135_215 (by decide +kernel) (hly 90 _ rfl) (fun F_45 eF_45 => ?_)
                  have hF_45 : RfOk F_45 := by rw [eF_45]; exact RfOk.upJ hF199
                  exact jn218 F_45 hF_45 (by intro a k hh; rw [eF_45, up2_n (by omega)]) 
              refine r_aload_n i_135_146 rfl ?_
              refine r_lconst i_135_147 ?_
              show Re L xs 135 148 [(0, .ref 90), (1, V r_6)] [.long (Int64.ofNat 0), .ref 90] (HP ly F G119 A B) _
              refine r_putJQ i_135_148 (by decide +kernel) (hly 90 _ rfl) (fun F_46 eF_46 => ?_)
              have hF_46 : RfOk F_46 := by rw [eF_46]; exact RfOk.upJ hF
              refine r_aload_n i_135_151 rfl ?_
              refine r_getI i_135_152 rfl (hly 90 _ rfl) ?_
              rw [show G119 90 6 = G58 90 6 from by rw [fg119 90 6 (by omega), eG_7, up2_n (by omega)]]
              refine r_istore_n (l' := [(0, .ref 90), (1, V r_6), (2, V (G58 90 6))]) i_135_155 (by decide +kernel) rfl ?_
              have lp156B : ∀ (nf : Nat) (k : Int) (F156 : Nat → Nat → Value), (RfOk F156) → (∀ a k, ¬ ((a = 90 ∧ k = 10)) → F156 a k = F_46 a k) → (G58 90 6 ≤ k ∧ k ≤ G119 90 7) → (G119 90 7 - k).toNat < nf → Re L xs 135 156 [(0, .ref 90), (1, V r_6), (2, V k)] [] (HP ly F156 G119 A B) Q := by
                intro nf
                induction nf with
                | zero => intros; omega
                | succ nf ih156B =>
                  intro k F156 hF156 ff156 hk1 hm156
                  refine r_iload_n i_135_156 rfl ?_
                  refine r_aload_n i_135_157 rfl ?_
                  refine r_getI i_135_158 rfl (hly 90 _ rfl) ?_
                  refine r_cge (t := 199) i_135_161 (by decide) (by omega) (by omega) (fun c_47 => ?_) (fun c_47 => ?_)
                  · skip
                    exact jn199 k F156 hF156 (by intro a k hh; rw [ff156 a k (by omega), eF_46, up2_n (by omega)]) 
                  · skip
                    refine r_iload_n i_135_164 rfl ?_
                    refine r_aload_n i_135_165 rfl ?_
                    refine r_getI i_135_166 rfl (hly 90 _ rfl) ?_
                    rw [show G119 90 6 = G58 90 6 from by rw [fg119 90 6 (by omega), eG_7, up2_n (by omega)]]
                    refine r_bipush i_135_169 (by decide) ?_
                    refine r_iadd i_135_171 ?_
                    refine r_cge (t := 199) i_135_172 (by decide) (by omega) (by omega) (fun c_48 => ?_) (fun c_48 => ?_)
                    · skip
                      exact jn199 k F156 hF156 (by intro a k hh; rw [ff156 a k (by omega), eF_46, up2_n (by omega)]) 
                    · skip
                      refine r_aload_n i_135_175 rfl ?_
                      refine r_aload_n i_135_176 rfl ?_
                      obtain ⟨v_49, hv_49⟩ := hF156.2
                      refine r_getF (v := .long v_49) i_135_177 rfl (hly 90 _ rfl) hv_49 ?_
                      refine r_bipush i_135_180 (by decide) ?_
                      refine re_nx i_135_182 rfl ?_
                      refine r_aload_n i_135_183 rfl ?_
                      refine r_iload_n i_135_184 rfl ?_
                      refine r_cV (as := [V k]) i_135_185 rfl (by decide +kernel) (Nat.le_of_ble_eq_true rfl) (Nat.le_of_ble_eq_true rfl) (hly 90 _ rfl) rfl ?_
                      refine c_136 (k := k) hly hF156 hG119 hA (by omega) (by omega) (fun r_50 p50_0 p50_1 p50_2 p50_3 => ?_)
                      show Re L xs 135 188 [(0, .ref 90), (1, V r_6), (2, V k)] [V r_50, .long (v_49 <<< ((Int32.ofInt 8).toInt64 &&& 63)), .ref 90] (HP ly F156 G119 A B) _
                      refine re_nx i_135_188 rfl ?_
                      refine re_nx i_135_189 rfl ?_
                      refine r_putJQ i_135_190 (by decide +kernel) (hly 90 _ rfl) (fun F_51 eF_51 => ?_)
                      have hF_51 : RfOk F_51 := by rw [eF_51]; exact RfOk.upJ hF156
                      refine r_iinc (l' := [(0, .ref 90), (1, V r_6), (2, V (k + 1))]) i_135_193 rfl (by decide +kernel) rfl ?_
                      refine r_go (t := 156) i_135_196 (by decide) ?_
                      exact ih156B (k + 1) F_51 hF_51 (by intro a k hh; rw [eF_51, up2_n (by omega), ff156 a k (by omega)]) (by omega) (by omega)
              exact lp156B _ (G58 90 6) F_46 hF_46 (by intro a k hh; rfl) (by omega) (Nat.lt_succ_self _)
            · skip
              refine r_aload_n i_135_133 rfl ?_
              refine re_nx i_135_134 rfl ?_
              refine r_getI i_135_135 rfl (hly 90 _ rfl) ?_
              refine r_iconst i_135_138 ?_
              refine r_iadd i_135_139 ?_
              refine r_putIQ i_135_140 (by decide +kernel) (hly 90 _ rfl) (fun G_52 eG_52 => ?_)
              have hG_52 : GO G_52 := by rw [eG_52]; exact gu_90_7 hG119 (by omega) (by omega)
              refine r_go (t := 119) i_135_143 (by decide) ?_
              exact ih119B G_52 hG_52 (by intro a k hh; rw [eG_52, up2_n (by omega), fg119 a k (by omega)]) (by rw [show G_52 90 7 = (G119 90 7) + 1 from by rw [eG_52, up2_s]] <;> omega) (by rw [show G_52 90 7 = (G119 90 7) + 1 from by rw [eG_52, up2_s]] <;> omega) (by rw [show G_52 90 7 = (G119 90 7) + 1 from by rw [eG_52, up2_s]] <;> omega)
        exact lp119B _ G_7 hG_7 (by intro a k hh; rfl) (by rw [show G_7 90 7 = (G58 90 6) + 1 from by rw [eG_7, up2_s]] <;> omega) (by rw [show G_7 90 7 = (G58 90 6) + 1 from by rw [eG_7, up2_s]] <;> omega) (Nat.lt_succ_self _)
    · skip
      refine r_aload_n i_135_88 rfl ?_
      refine r_iconst i_135_89 ?_
      refine r_putIQ i_135_90 (by decide +kernel) (hly 90 _ rfl) (fun G_53 eG_53 => ?_)
      have hG_53 : GO G_53 := by rw [eG_53]; exact gu_90_8 hG_7 (by omega) (by omega)
      refine r_aload_n i_135_93 rfl ?_
      refine r_aload_n i_135_94 rfl ?_
      refine r_getI i_135_95 rfl (hly 90 _ rfl) ?_
      rw [show G_53 90 3 = G 90 3 from by rw [eG_53, up2_n (by omega), eG_7, up2_n (by omega), fg58 90 3 (by omega), eG_2, up2_n (by omega)]]
      refine r_putIQ i_135_98 (by decide +kernel) (hly 90 _ rfl) (fun G_54 eG_54 => ?_)
      have hG_54 : GO G_54 := by rw [eG_54]; exact gu_90_6 hG_53 (by omega) (by omega)
      refine r_aload_n i_135_101 rfl ?_
      refine r_aload_n i_135_102 rfl ?_
      refine r_getI i_135_103 rfl (hly 90 _ rfl) ?_
      rw [show G_54 90 3 = G 90 3 from by rw [eG_54, up2_n (by omega), eG_53, up2_n (by omega), eG_7, up2_n (by omega), fg58 90 3 (by omega), eG_2, up2_n (by omega)]]
      refine r_putIQ i_135_106 (by decide +kernel) (hly 90 _ rfl) (fun G_55 eG_55 => ?_)
      have hG_55 : GO G_55 := by rw [eG_55]; exact gu_90_7 hG_54 (by omega) (by omega)
      refine r_go (t := 383) i_135_109 (by decide) ?_
      exact r_vret i_135_383 rfl (K F G_55 hF hG_55 (by intro a k hh; rfl) (by intro a k hh; rw [eG_55, up2_n (by omega), eG_54, up2_n (by omega), eG_53, up2_n (by omega), eG_7, up2_n (by omega), fg58 a k (by omega), eG_2, up2_n (by omega)]) (by rw [show G_55 90 6 = G 90 3 from by rw [eG_55, up2_n (by omega), eG_54, up2_s]] <;> rw [show G_55 90 7 = G 90 3 from by rw [eG_55, up2_s]] <;> rw [show G_55 90 8 = 0 from by rw [eG_55, up2_n (by omega), eG_54, up2_n (by omega), eG_53, up2_s]] <;> omega) (by rw [show G_55 90 6 = G 90 3 from by rw [eG_55, up2_n (by omega), eG_54, up2_s]] <;> omega) (by rw [show G_55 90 8 = 0 from by rw [eG_55, up2_n (by omega), eG_54, up2_n (by omega), eG_53, up2_s]] <;> rw [show G_55 90 6 = G 90 3 from by rw [eG_55, up2_n (by omega), eG_54, up2_s]] <;> rw [show G_55 90 7 = G 90 3 from by rw [eG_55, up2_s]] <;> omega))
  have lp8B : ∀ (nf : Nat) (G8 : Nat → Nat → Int), (GO G8) → (∀ a k, ¬ ((a = 90 ∧ k = 6)) → G8 a k = G_2 a k) → (G8 90 6 ≤ G 90 3) → (G 90 7 ≤ G8 90 6) → (G 90 3 - G8 90 6).toNat < nf → Re L xs 135 8 [(0, .ref 90)] [] (HP ly F G8 A B) Q := by
    intro nf
    induction nf with
    | zero => intros; omega
    | succ nf ih8B =>
      intro G8 hG8 fg8 hi1 hi2 hm8
      refine r_aload_n i_135_8 rfl ?_
      refine r_getI i_135_9 rfl (hly 90 _ rfl) ?_
      have q_56 := g_90_6 hG8
      refine r_aload_n i_135_12 rfl ?_
      refine r_getI i_135_13 rfl (hly 90 _ rfl) ?_
      rw [show G8 90 3 = G 90 3 from by rw [fg8 90 3 (by omega), eG_2, up2_n (by omega)]]
      have q_57 := g_90_3 hG
      refine r_cge (t := 58) i_135_16 (by decide) (by omega) (by omega) (fun c_58 => ?_) (fun c_58 => ?_)
      · skip
        exact jn58 G8 hG8 (by intro a k hh; rw [fg8 a k (by omega)]) (by omega) (by omega)
      · skip
        refine r_aload_n i_135_19 rfl ?_
        refine r_aload_n i_135_20 rfl ?_
        refine r_getI i_135_21 rfl (hly 90 _ rfl) ?_
        refine r_cV (as := [V (G8 90 6)]) i_135_24 rfl (by decide +kernel) (Nat.le_of_ble_eq_true rfl) (Nat.le_of_ble_eq_true rfl) (hly 90 _ rfl) rfl ?_
        have w_59 : G8 90 3 = G 90 3 := by rw [fg8 90 3 (by omega), eG_2, up2_n (by omega)]
        refine c_136 (k := G8 90 6) hly hF hG8 hA (by omega) (by omega) (fun r_60 p60_0 p60_1 p60_2 p60_3 => ?_)
        show Re L xs 135 27 [(0, .ref 90)] [V r_60] (HP ly F G8 A B) _
        refine r_bipush i_135_27 (by decide) ?_
        refine r_ceq (t := 45) i_135_29 (by decide) (by omega) (by omega) (fun c_61 => ?_) (fun c_61 => ?_)
        · skip
          refine r_aload_n i_135_45 rfl ?_
          refine re_nx i_135_46 rfl ?_
          refine r_getI i_135_47 rfl (hly 90 _ rfl) ?_
          refine r_iconst i_135_50 ?_
          refine r_iadd i_135_51 ?_
          refine r_putIQ i_135_52 (by decide +kernel) (hly 90 _ rfl) (fun G_62 eG_62 => ?_)
          have hG_62 : GO G_62 := by rw [eG_62]; exact gu_90_6 hG8 (by omega) (by omega)
          refine r_go (t := 8) i_135_55 (by decide) ?_
          exact ih8B G_62 hG_62 (by intro a k hh; rw [eG_62, up2_n (by omega), fg8 a k (by omega)]) (by rw [show G_62 90 6 = (G8 90 6) + 1 from by rw [eG_62, up2_s]] <;> omega) (by rw [show G_62 90 6 = (G8 90 6) + 1 from by rw [eG_62, up2_s]] <;> omega) (by rw [show G_62 90 6 = (G8 90 6) + 1 from by rw [eG_62, up2_s]] <;> omega)
        · skip
          refine r_aload_n i_135_32 rfl ?_
          refine r_aload_n i_135_33 rfl ?_
          refine r_getI i_135_34 rfl (hly 90 _ rfl) ?_
          refine r_cV (as := [V (G8 90 6)]) i_135_37 rfl (by decide +kernel) (Nat.le_of_ble_eq_true rfl) (Nat.le_of_ble_eq_true rfl) (hly 90 _ rfl) rfl ?_
          refine c_136 (k := G8 90 6) hly hF hG8 hA (by omega) (by omega) (fun r_63 p63_0 p63_1 p63_2 p63_3 => ?_)
          show Re L xs 135 40 [(0, .ref 90)] [V r_63] (HP ly F G8 A B) _
          refine r_bipush i_135_40 (by decide) ?_
          refine r_cne (t := 58) i_135_42 (by decide) (by omega) (by omega) (fun c_64 => ?_) (fun c_64 => ?_)
          · skip
            exact jn58 G8 hG8 (by intro a k hh; rw [fg8 a k (by omega)]) (by omega) (by omega)
          · skip
            refine r_aload_n i_135_45 rfl ?_
            refine re_nx i_135_46 rfl ?_
            refine r_getI i_135_47 rfl (hly 90 _ rfl) ?_
            refine r_iconst i_135_50 ?_
            refine r_iadd i_135_51 ?_
            refine r_putIQ i_135_52 (by decide +kernel) (hly 90 _ rfl) (fun G_65 eG_65 => ?_)
            have hG_65 : GO G_65 := by rw [eG_65]; exact gu_90_6 hG8 (by omega) (by omega)
            refine r_go (t := 8) i_135_55 (by decide) ?_
            exact ih8B G_65 hG_65 (by intro a k hh; rw [eG_65, up2_n (by omega), fg8 a k (by omega)]) (by rw [show G_65 90 6 = (G8 90 6) + 1 from by rw [eG_65, up2_s]] <;> omega) (by rw [show G_65 90 6 = (G8 90 6) + 1 from by rw [eG_65, up2_s]] <;> omega) (by rw [show G_65 90 6 = (G8 90 6) + 1 from by rw [eG_65, up2_s]] <;> omega)
  exact lp8B _ G_2 hG_2 (by intro a k hh; rfl) (by rw [show G_2 90 6 = G 90 7 from by rw [eG_2, up2_s]] <;> omega) (by rw [show G_2 90 6 = G 90 7 from by rw [eG_2, up2_s]] <;> omega) (Nat.lt_succ_self _)
