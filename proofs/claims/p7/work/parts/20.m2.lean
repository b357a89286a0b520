set_option maxHeartbeats 4000000 in
theorem c_134 {L : Nat} {xs : Nat → Int32} {ly : List LK} {F : Nat → Nat → Value} {G A : Nat → Nat → Int} {B : Nat → Nat → Int64} {Q : Option Value → AH → Prop}  (hly : LyOk ly) (hF : RfOk F) (hG : GO G) (hA : AQ A)  (K : ∀ (G' : Nat → Nat → Int) (A' : Nat → Nat → Int), (GO G') → (AQ A') → (∀ a k, ¬ ((a = 90 ∧ k = 2) ∨ (a = 90 ∧ k = 3)) → G' a k = G a k) → (∀ a, ¬ (a = 92) → A' a = A a) → (G' 90 3 = G 90 2) → Q none (HP ly F G' A' B)) : Re L xs 134 0 [(0, .ref 90)] [] (HP ly F G A B) Q := by
  refine r_aload_n i_134_0 rfl ?_
  refine r_aload_n i_134_1 rfl ?_
  refine r_getI i_134_2 rfl (hly 90 _ rfl) ?_
  have q1 := g_90_2 hG
  refine r_putIQ i_134_5 (by decide +kernel) (hly 90 _ rfl) (fun G2 eG2 => ?_)
  have hG2 : GO G2 := by rw [eG2]; exact gu_90_3 hG (by omega) (by omega)
  refine r_iconst i_134_8 ?_
  refine r_istore_n (l' := [(0, .ref 90), (1, V 0)]) i_134_9 (by decide +kernel) rfl ?_
  have lp10B : ∀ (nf : Nat) (k : Int) (A1 : Nat → Nat → Int), (AQ A1) → (∀ a, ¬ (a = 92) → A1 a = A a) → (0 ≤ k ∧ k ≤ G 90 2) → (G 90 2 - k).toNat < nf → Re L xs 134 10 [(0, .ref 90), (1, V k)] [] (HP ly F G2 A1 B) Q := by
    intro nf
    induction nf with
    | zero => intros; omega
    | succ nf ih10B =>
      intro k A1 hA1 fa10 hk hm10
      refine r_iload_n i_134_10 rfl ?_
      refine r_aload_n i_134_11 rfl ?_
      refine r_getI i_134_12 rfl (hly 90 _ rfl) ?_
      rw [show G2 90 3 = G 90 2 from by rw [eG2, up2_s]]
      refine r_cge (t := 36) i_134_15 (by decide) (by omega) (by omega) (fun c3 => ?_) (fun c3 => ?_)
      · skip
        refine r_aload_n i_134_36 rfl ?_
        refine r_iconst i_134_37 ?_
        refine r_putIQ i_134_38 (by decide +kernel) (hly 90 _ rfl) (fun G4 eG4 => ?_)
        have hG4 : GO G4 := by rw [eG4]; exact gu_90_2 hG2 (by omega) (by omega)
        exact r_vret i_134_41 rfl (K G4 A1 hG4 hA1 (by intro a k hh; rw [eG4, up2_n (by omega), eG2, up2_n (by omega)]) (by intro a hh; rw [fa10 a (by omega)]) (by rw [show G4 90 3 = G 90 2 from by rw [eG4, up2_n (by omega), eG2, up2_s]] <;> omega))
      · skip
        refine r_aload_n i_134_18 rfl ?_
        refine r_getF (v := .ref 92) i_134_19 rfl (hly 90 _ rfl) (hF.1 90 1 92 rfl) ?_
        refine r_iload_n i_134_22 rfl ?_
        refine r_aload_n i_134_23 rfl ?_
        refine r_getF (v := .ref 91) i_134_24 rfl (hly 90 _ rfl) (hF.1 90 0 91 rfl) ?_
        refine r_iload_n i_134_27 rfl ?_
        refine r_bald i_134_28 (hly 91 _ rfl) (by omega) (by omega) (by omega) ?_
        rw [show A1 91 = A 91 from by rw [fa10 91 (by omega)]]
        have q5 := a_91 hA (k.toNat)
        refine r_bastQ i_134_29 (hly 92 _ rfl) (by omega) (by omega) (by omega) (by omega) (fun A6 eA6 => ?_)
        have hA6 : AQ A6 := by rw [eA6]; exact au_92 hA1 (by omega) (by omega)
        refine r_iinc (l' := [(0, .ref 90), (1, V (k + 1))]) i_134_30 rfl (by decide +kernel) rfl ?_
        refine r_go (t := 10) i_134_33 (by decide) ?_
        exact ih10B (k + 1) A6 hA6 (by intro a hh; rw [eA6, up2_a (by omega), fa10 a (by omega)]) (by omega) (by omega)
  exact lp10B _ 0 A hA (by intro a hh; rfl) (by omega) (Nat.lt_succ_self _)
set_option maxHeartbeats 4000000 in
theorem c_142 {L : Nat} {xs : Nat → Int32} {ly : List LK} {F : Nat → Nat → Value} {G A : Nat → Nat → Int} {B : Nat → Nat → Int64} {Q : Option Value → AH → Prop} {w : Int64} (hly : LyOk ly) (hF : RfOk F) (hG : GO G) (hA : AQ A)  (K : ∀ (r : Int), (0 ≤ r ∧ r ≤ 1) → Q (some (V r)) (HP ly F G A B)) : Re L xs 142 0 [(0, .ref 90), (1, .long w)] [] (HP ly F G A B) Q := by
  refine r_aload_n i_142_0 rfl ?_
  refine r_getI i_142_1 rfl (hly 90 _ rfl) ?_
  have q1 := g_90_8 hG
  refine r_iconst i_142_4 ?_
  refine r_cne (t := 21) i_142_5 (by decide) (by omega) (by omega) (fun c2 => ?_) (fun c2 => ?_)
  · skip
    refine r_iconst i_142_21 ?_
    exact r_iret i_142_22 rfl (nar_Z (by omega)) (K 0 (by omega))
  · skip
    refine r_aload_n i_142_8 rfl ?_
    obtain ⟨v3, hv3⟩ := hF.2
    refine r_getF (v := .long v3) i_142_9 rfl (hly 90 _ rfl) hv3 ?_
    refine r_lload_n i_142_12 rfl ?_
    refine re_nx i_142_13 rfl ?_
    obtain ⟨c4, ec4, rc4⟩ := lcmp_I v3 w
    rw [ec4]
    refine r_ne0 (t := 21) i_142_14 (by decide) (by omega) (fun c5 => ?_) (fun c5 => ?_)
    · skip
      refine r_iconst i_142_21 ?_
      exact r_iret i_142_22 rfl (nar_Z (by omega)) (K 0 (by omega))
    · skip
      refine r_iconst i_142_17 ?_
      refine r_go (t := 22) i_142_18 (by decide) ?_
      exact r_iret i_142_22 rfl (nar_Z (by omega)) (K 1 (by omega))
set_option maxHeartbeats 4000000 in
theorem c_143 {L : Nat} {xs : Nat → Int32} {ly : List LK} {F : Nat → Nat → Value} {G A : Nat → Nat → Int} {B : Nat → Nat → Int64} {Q : Option Value → AH → Prop}  (hly : LyOk ly) (hF : RfOk F) (hG : GO G) (hA : AQ A)  (K : ∀ (G' : Nat → Nat → Int), (GO G') → (∀ a k, ¬ ((a = 90 ∧ k = 4) ∨ (a = 90 ∧ k = 5)) → G' a k = G a k) → (G' 90 4 ≠ 0) → Q none (HP ly F G' A B)) : Re L xs 143 0 [(0, .ref 90)] [] (HP ly F G A B) Q := by
  refine r_aload_n i_143_0 rfl ?_
  refine r_aload_n i_143_1 rfl ?_
  refine r_getI i_143_2 rfl (hly 90 _ rfl) ?_
  have q1 := g_90_8 hG
  refine r_iconst i_143_5 ?_
  refine r_cne (t := 13) i_143_6 (by decide) (by omega) (by omega) (fun c2 => ?_) (fun c2 => ?_)
  · skip
    refine r_iconst i_143_13 ?_
    refine r_aload_n i_143_14 rfl ?_
    refine r_getI i_143_15 rfl (hly 90 _ rfl) ?_
    have q3 := g_90_6 hG
    refine r_cV (as := [V (G 90 6), V 2]) i_143_18 rfl (by decide +kernel) (Nat.le_of_ble_eq_true rfl) (Nat.le_of_ble_eq_true rfl) (hly 90 _ rfl) rfl ?_
    refine c_144 (kind := 2) (place := G 90 6) hly hF hG hA (by omega) (by omega) (by omega) (by omega) (fun G4 hG4 fg4 p4_0 => ?_)
    show Re L xs 143 21 [(0, .ref 90)] [] (HP ly F G4 A B) _
    exact r_vret i_143_21 rfl (K G4 hG4 (by intro a k hh; rw [fg4 a k (by omega)]) (by omega))
  · skip
    refine r_iconst i_143_9 ?_
    refine r_go (t := 14) i_143_10 (by decide) ?_
    refine r_aload_n i_143_14 rfl ?_
    refine r_getI i_143_15 rfl (hly 90 _ rfl) ?_
    have q5 := g_90_6 hG
    refine r_cV (as := [V (G 90 6), V 1]) i_143_18 rfl (by decide +kernel) (Nat.le_of_ble_eq_true rfl) (Nat.le_of_ble_eq_true rfl) (hly 90 _ rfl) rfl ?_
    refine c_144 (kind := 1) (place := G 90 6) hly hF hG hA (by omega) (by omega) (by omega) (by omega) (fun G6 hG6 fg6 p6_0 => ?_)
    show Re L xs 143 21 [(0, .ref 90)] [] (HP ly F G6 A B) _
    exact r_vret i_143_21 rfl (K G6 hG6 (by intro a k hh; rw [fg6 a k (by omega)]) (by omega))
set_option maxHeartbeats 4000000 in
theorem c_146 {L : Nat} {xs : Nat → Int32} {ly : List LK} {F : Nat → Nat → Value} {G A : Nat → Nat → Int} {B : Nat → Nat → Int64} {Q : Option Value → AH → Prop}  (hly : LyOk ly) (hF : RfOk F) (hG : GO G) (hA : AQ A)  (K : ∀ (G' : Nat → Nat → Int), (GO G') → (∀ a k, ¬ ((a = 90 ∧ k = 4) ∨ (a = 90 ∧ k = 5)) → G' a k = G a k) → (G' 90 4 ≠ 0 ∨ (G 90 8 = 2 ∧ G' 90 4 = G 90 4)) → (G 90 4 ≠ 0 → G' 90 4 ≠ 0) → Q none (HP ly F G' A B)) : Re L xs 146 0 [(0, .ref 90)] [] (HP ly F G A B) Q := by
  refine r_aload_n i_146_0 rfl ?_
  refine r_getI i_146_1 rfl (hly 90 _ rfl) ?_
  have q1 := g_90_8 hG
  refine r_iconst i_146_4 ?_
  refine r_ceq (t := 12) i_146_5 (by decide) (by omega) (by omega) (fun c2 => ?_) (fun c2 => ?_)
  · skip
    exact r_vret i_146_12 rfl (K G hG (by intro a k hh; rfl) (by omega) (by omega))
  · skip
    refine r_aload_n i_146_8 rfl ?_
    refine r_cV (as := []) i_146_9 rfl (by decide +kernel) (Nat.le_of_ble_eq_true rfl) (Nat.le_of_ble_eq_true rfl) (hly 90 _ rfl) rfl ?_
    refine c_143  hly hF hG hA  (fun G3 hG3 fg3 p3_0 => ?_)
    show Re L xs 146 12 [(0, .ref 90)] [] (HP ly F G3 A B) _
    exact r_vret i_146_12 rfl (K G3 hG3 (by intro a k hh; rw [fg3 a k (by omega)]) (by omega) (by omega))
set_option maxHeartbeats 4000000 in
theorem c_135 {L : Nat} {xs : Nat → Int32} {ly : List LK} {F : Nat → Nat → Value} {G A : Nat → Nat → Int} {B : Nat → Nat → Int64} {Q : Option Value → AH → Prop}  (hly : LyOk ly) (hF : RfOk F) (hG : GO G) (hA : AQ A) (h1 : G 90 7 ≤ G 90 3) (K : ∀ (F' : Nat → Nat → Value) (G' : Nat → Nat → Int), (RfOk F') → (GO G') → (∀ a k, ¬ ((a = 90 ∧ k = 6) ∨ (a = 90 ∧ k = 7) ∨ (a = 90 ∧ k = 8) ∨ (a = 90 ∧ k = 9)) → G' a k = G a k) → (G' 90 6 ≤ G' 90 7 ∧ G' 90 7 ≤ G 90 3 ∧ (G' 90 8 = 2 → G' 90 7 - G' 90 6 ≤ 12)) → (G 90 7 ≤ G' 90 6) → (G' 90 8 ≠ 0 → G' 90 6 < G' 90 7) → Q none (HP ly F' G' A B)) : Re L xs 135 0 [(0, .ref 90)] [] (HP ly F G A B) Q := by
  have z1 := g_90_3 hG
  refine r_aload_n i_135_0 rfl ?_
  refine r_aload_n i_135_1 rfl ?_
  refine r_getI i_135_2 rfl (hly 90 _ rfl) ?_
  have q1 := g_90_7 hG
  refine r_putIQ i_135_5 (by decide +kernel) (hly 90 _ rfl) (fun G2 eG2 => ?_)
  have hG2 : GO G2 := by rw [eG2]; exact gu_90_6 hG (by omega) (by omega)
  have jn58 : ∀ (G58 : Nat → Nat → Int), (GO G58) → (∀ a k, ¬ ((a = 90 ∧ k = 6)) → G58 a k = G2 a k) → (G58 90 6 ≤ G 90 3) → (G 90 7 ≤ G58 90 6) → Re L xs 135 58 [(0, .ref 90)] [] (HP ly F G58 A B) Q := by
    intro G58 hG58 fg58 hj1 hj2
    refine r_aload_n i_135_58 rfl ?_
    refine r_aload_n i_135_59 rfl ?_
    refine r_getI i_135_60 rfl (hly 90 _ rfl) ?_
    have q3 := g_90_6 hG58
    refine r_cV (as := [V (G58 90 6)]) i_135_63 rfl (by decide +kernel) (Nat.le_of_ble_eq_true rfl) (Nat.le_of_ble_eq_true rfl) (hly 90 _ rfl) rfl ?_
    have w4 : G58 90 3 = G 90 3 := by rw [fg58 90 3 (by omega), eG2, up2_n (by omega)]
    have q5 := g_90_3 hG
    refine c_136 (k := G58 90 6) hly hF hG58 hA (by omega) (by omega) (fun r6 p6_0 p6_1 p6_2 p6_3 => ?_)
    show Re L xs 135 66 [(0, .ref 90)] [V r6] (HP ly F G58 A B) _
    refine r_istore_n (l' := [(0, .ref 90), (1, V r6)]) i_135_66 (by decide +kernel) rfl ?_
    refine r_aload_n i_135_67 rfl ?_
    refine r_aload_n i_135_68 rfl ?_
    refine r_getI i_135_69 rfl (hly 90 _ rfl) ?_
    refine r_iconst i_135_72 ?_
    refine r_iadd i_135_73 ?_
    refine r_putIQ i_135_74 (by decide +kernel) (hly 90 _ rfl) (fun G7 eG7 => ?_)
    have hG7 : GO G7 := by rw [eG7]; exact gu_90_7 hG58 (by omega) (by omega)
    refine r_aload_n i_135_77 rfl ?_
    refine r_getI i_135_78 rfl (hly 90 _ rfl) ?_
    rw [show G7 90 6 = G58 90 6 from by rw [eG7, up2_n (by omega)]]
    refine r_aload_n i_135_81 rfl ?_
    refine r_getI i_135_82 rfl (hly 90 _ rfl) ?_
    rw [show G7 90 3 = G 90 3 from by rw [eG7, up2_n (by omega), fg58 90 3 (by omega), eG2, up2_n (by omega)]]
    refine r_clt (t := 112) i_135_85 (by decide) (by omega) (by omega) (fun c8 => ?_) (fun c8 => ?_)
    · skip
      refine r_iload_n i_135_112 rfl ?_
      refine r_cS (as := [V r6]) i_135_113 rfl (by decide +kernel) (Nat.le_of_ble_eq_true rfl) (Nat.le_of_ble_eq_true rfl) ?_
      refine c_137 (c := r6) hly hF hG7 hA (by omega) (fun r9 p9_0 p9_1 => ?_)
      show Re L xs 135 116 [(0, .ref 90), (1, V r6)] [V r9] (HP ly F G7 A B) _
      refine r_eq0 (t := 244) i_135_116 (by decide) (by omega) (fun c10 => ?_) (fun c10 => ?_)
      · skip
        refine r_iload_n i_135_244 rfl ?_
        refine r_cS (as := [V r6]) i_135_245 rfl (by decide +kernel) (Nat.le_of_ble_eq_true rfl) (Nat.le_of_ble_eq_true rfl) ?_
        refine c_139 (c := r6) hly hF hG7 hA (by omega) (fun r11 p11_0 p11_1 => ?_)
        show Re L xs 135 248 [(0, .ref 90), (1, V r6)] [V r11] (HP ly F G7 A B) _
        refine r_eq0 (t := 368) i_135_248 (by decide) (by omega) (fun c12 => ?_) (fun c12 => ?_)
        · skip
          refine r_aload_n i_135_368 rfl ?_
          refine r_iload_n i_135_369 rfl ?_
          refine r_bipush i_135_370 (by decide) ?_
          refine r_cne (t := 379) i_135_372 (by decide) (by omega) (by omega) (fun c13 => ?_) (fun c13 => ?_)
          · skip
            refine r_iconst i_135_379 ?_
            refine r_putIQ i_135_380 (by decide +kernel) (hly 90 _ rfl) (fun G14 eG14 => ?_)
            have hG14 : GO G14 := by rw [eG14]; exact gu_90_8 hG7 (by omega) (by omega)
            exact r_vret i_135_383 rfl (K F G14 hF hG14 (by intro a k hh; rw [eG14, up2_n (by omega), eG7, up2_n (by omega), fg58 a k (by omega), eG2, up2_n (by omega)]) (by rw [show G14 90 6 = G58 90 6 from by rw [eG14, up2_n (by omega), eG7, up2_n (by omega)]] <;> rw [show G14 90 7 = (G58 90 6) + 1 from by rw [eG14, up2_n (by omega), eG7, up2_s]] <;> rw [show G14 90 8 = 1 from by rw [eG14, up2_s]] <;> omega) (by rw [show G14 90 6 = G58 90 6 from by rw [eG14, up2_n (by omega), eG7, up2_n (by omega)]] <;> omega) (by rw [show G14 90 8 = 1 from by rw [eG14, up2_s]] <;> rw [show G14 90 6 = G58 90 6 from by rw [eG14, up2_n (by omega), eG7, up2_n (by omega)]] <;> rw [show G14 90 7 = (G58 90 6) + 1 from by rw [eG14, up2_n (by omega), eG7, up2_s]] <;> omega))
          · skip
            refine r_iconst i_135_375 ?_
            refine r_go (t := 380) i_135_376 (by decide) ?_
            refine r_putIQ i_135_380 (by decide +kernel) (hly 90 _ rfl) (fun G15 eG15 => ?_)
            have hG15 : GO G15 := by rw [eG15]; exact gu_90_8 hG7 (by omega) (by omega)
            exact r_vret i_135_383 rfl (K F G15 hF hG15 (by intro a k hh; rw [eG15, up2_n (by omega), eG7, up2_n (by omega), fg58 a k (by omega), eG2, up2_n (by omega)]) (by rw [show G15 90 6 = G58 90 6 from by rw [eG15, up2_n (by omega), eG7, up2_n (by omega)]] <;> rw [show G15 90 7 = (G58 90 6) + 1 from by rw [eG15, up2_n (by omega), eG7, up2_s]] <;> rw [show G15 90 8 = 4 from by rw [eG15, up2_s]] <;> omega) (by rw [show G15 90 6 = G58 90 6 from by rw [eG15, up2_n (by omega), eG7, up2_n (by omega)]] <;> omega) (by rw [show G15 90 8 = 4 from by rw [eG15, up2_s]] <;> rw [show G15 90 6 = G58 90 6 from by rw [eG15, up2_n (by omega), eG7, up2_n (by omega)]] <;> rw [show G15 90 7 = (G58 90 6) + 1 from by rw [eG15, up2_n (by omega), eG7, up2_s]] <;> omega))
        · skip
          refine r_aload_n i_135_251 rfl ?_
          refine r_iconst i_135_252 ?_
          refine r_putIQ i_135_253 (by decide +kernel) (hly 90 _ rfl) (fun G16 eG16 => ?_)
          have hG16 : GO G16 := by rw [eG16]; exact gu_90_9 hG7 (by omega) (by omega)
          refine r_aload_n i_135_256 rfl ?_
          refine r_aload_n i_135_257 rfl ?_
          refine r_getI i_135_258 rfl (hly 90 _ rfl) ?_
          rw [show G16 90 6 = G58 90 6 from by rw [eG16, up2_n (by omega), eG7, up2_n (by omega)]]
          refine r_putIQ i_135_261 (by decide +kernel) (hly 90 _ rfl) (fun G17 eG17 => ?_)
          have hG17 : GO G17 := by rw [eG17]; exact gu_90_7 hG16 (by omega) (by omega)
          have lp264B : ∀ (nf : Nat) (G264 : Nat → Nat → Int), (GO G264) → (∀ a k, ¬ ((a = 90 ∧ k = 7) ∨ (a = 90 ∧ k = 9)) → G264 a k = G17 a k) → (G264 90 7 ≤ G 90 3) → (G58 90 6 ≤ G264 90 7) → (G264 90 7 = G58 90 6 → G264 90 9 ≤ 0) → (G264 90 7 = G58 90 6 + 1 → G264 90 9 ≤ 9) → (G264 90 7 = G58 90 6 + 2 → G264 90 9 ≤ 99) → (G264 90 7 = G58 90 6 + 3 → G264 90 9 ≤ 999) → (G264 90 7 = G58 90 6 + 4 → G264 90 9 ≤ 9999) → (G264 90 7 = G58 90 6 + 5 → G264 90 9 ≤ 99999) → (G 90 3 - G264 90 7).toNat < nf → Re L xs 135 264 [(0, .ref 90), (1, V r6)] [] (HP ly F G264 A B) Q := by
            intro nf
            induction nf with
            | zero => intros; omega
            | succ nf ih264B =>
              intro G264 hG264 fg264 hd1 hd2 hd3 hd4 hd5 hd6 hd7 hd8 hm264
              refine r_aload_n i_135_264 rfl ?_
              refine r_aload_n i_135_265 rfl ?_
              refine r_getI i_135_266 rfl (hly 90 _ rfl) ?_
              have q18 := g_90_7 hG264
              refine r_cV (as := [V (G264 90 7)]) i_135_269 rfl (by decide +kernel) (Nat.le_of_ble_eq_true rfl) (Nat.le_of_ble_eq_true rfl) (hly 90 _ rfl) rfl ?_
              have w19 : G264 90 3 = G 90 3 := by rw [fg264 90 3 (by omega), eG17, up2_n (by omega), eG16, up2_n (by omega), eG7, up2_n (by omega), fg58 90 3 (by omega), eG2, up2_n (by omega)]
              refine c_136 (k := G264 90 7) hly hF hG264 hA (by omega) (by omega) (fun r20 p20_0 p20_1 p20_2 p20_3 => ?_)
              show Re L xs 135 272 [(0, .ref 90), (1, V r6)] [V r20] (HP ly F G264 A B) _
              have hq5 : G264 90 7 = G58 90 6 → r20 = A 92 (G58 90 6).toNat % 256 := fun e => by rw [e] at p20_2; omega
              refine r_cS (as := [V r20]) i_135_272 rfl (by decide +kernel) (Nat.le_of_ble_eq_true rfl) (Nat.le_of_ble_eq_true rfl) ?_
              refine c_139 (c := r20) hly hF hG264 hA (by omega) (fun r21 p21_0 p21_1 => ?_)
              show Re L xs 135 275 [(0, .ref 90), (1, V r6)] [V r21] (HP ly F G264 A B) _
              refine r_eq0 (t := 328) i_135_275 (by decide) (by omega) (fun c22 => ?_) (fun c22 => ?_)
              · skip
                refine r_aload_n i_135_328 rfl ?_
                refine r_aload_n i_135_329 rfl ?_
                refine r_getI i_135_330 rfl (hly 90 _ rfl) ?_
                refine r_aload_n i_135_333 rfl ?_
                refine r_getI i_135_334 rfl (hly 90 _ rfl) ?_
                rw [show G264 90 6 = G58 90 6 from by rw [fg264 90 6 (by omega), eG17, up2_n (by omega), eG16, up2_n (by omega), eG7, up2_n (by omega)]]
                refine r_isub i_135_337 ?_
                refine r_bipush i_135_338 (by decide) ?_
                refine r_cgt (t := 357) i_135_340 (by decide) (by omega) (by omega) (fun c23 => ?_) (fun c23 => ?_)
                · skip
                  refine r_iconst i_135_357 ?_
                  refine r_go (t := 362) i_135_358 (by decide) ?_
                  refine r_putIQ i_135_362 (by decide +kernel) (hly 90 _ rfl) (fun G24 eG24 => ?_)
                  have hG24 : GO G24 := by rw [eG24]; exact gu_90_8 hG264 (by omega) (by omega)
                  refine r_go (t := 383) i_135_365 (by decide) ?_
                  exact r_vret i_135_383 rfl (K F G24 hF hG24 (by intro a k hh; rw [eG24, up2_n (by omega), fg264 a k (by omega), eG17, up2_n (by omega), eG16, up2_n (by omega), eG7, up2_n (by omega), fg58 a k (by omega), eG2, up2_n (by omega)]) (by rw [show G24 90 6 = G58 90 6 from by rw [eG24, up2_n (by omega), fg264 90 6 (by omega), eG17, up2_n (by omega), eG16, up2_n (by omega), eG7, up2_n (by omega)]] <;> rw [show G24 90 7 = G264 90 7 from by rw [eG24, up2_n (by omega)]] <;> rw [show G24 90 8 = 1 from by rw [eG24, up2_s]] <;> omega) (by rw [show G24 90 6 = G58 90 6 from by rw [eG24, up2_n (by omega), fg264 90 6 (by omega), eG17, up2_n (by omega), eG16, up2_n (by omega), eG7, up2_n (by omega)]] <;> omega) (by rw [show G24 90 8 = 1 from by rw [eG24, up2_s]] <;> rw [show G24 90 6 = G58 90 6 from by rw [eG24, up2_n (by omega), fg264 90 6 (by omega), eG17, up2_n (by omega), eG16, up2_n (by omega), eG7, up2_n (by omega)]] <;> rw [show G24 90 7 = G264 90 7 from by rw [eG24, up2_n (by omega)]] <;> omega))
                · skip
                  refine r_aload_n i_135_343 rfl ?_
                  refine r_aload_n i_135_344 rfl ?_
                  refine r_getI i_135_345 rfl (hly 90 _ rfl) ?_
                  refine r_cV (as := [V (G264 90 7)]) i_135_348 rfl (by decide +kernel) (Nat.le_of_ble_eq_true rfl) (Nat.le_of_ble_eq_true rfl) (hly 90 _ rfl) rfl ?_
                  refine c_136 (k := G264 90 7) hly hF hG264 hA (by omega) (by omega) (fun r25 p25_0 p25_1 p25_2 p25_3 => ?_)
                  show Re L xs 135 351 [(0, .ref 90), (1, V r6)] [V r25, .ref 90] (HP ly F G264 A B) _
                  refine r_cS (as := [V r25]) i_135_351 rfl (by decide +kernel) (Nat.le_of_ble_eq_true rfl) (Nat.le_of_ble_eq_true rfl) ?_
                  refine c_137 (c := r25) hly hF hG264 hA (by omega) (fun r26 p26_0 p26_1 => ?_)
                  show Re L xs 135 354 [(0, .ref 90), (1, V r6)] [V r26, .ref 90] (HP ly F G264 A B) _
                  refine r_eq0 (t := 361) i_135_354 (by decide) (by omega) (fun c27 => ?_) (fun c27 => ?_)
                  · skip
                    refine r_iconst i_135_361 ?_
                    refine r_putIQ i_135_362 (by decide +kernel) (hly 90 _ rfl) (fun G28 eG28 => ?_)
                    have hG28 : GO G28 := by rw [eG28]; exact gu_90_8 hG264 (by omega) (by omega)
                    refine r_go (t := 383) i_135_365 (by decide) ?_
                    exact r_vret i_135_383 rfl (K F G28 hF hG28 (by intro a k hh; rw [eG28, up2_n (by omega), fg264 a k (by omega), eG17, up2_n (by omega), eG16, up2_n (by omega), eG7, up2_n (by omega), fg58 a k (by omega), eG2, up2_n (by omega)]) (by rw [show G28 90 6 = G58 90 6 from by rw [eG28, up2_n (by omega), fg264 90 6 (by omega), eG17, up2_n (by omega), eG16, up2_n (by omega), eG7, up2_n (by omega)]] <;> rw [show G28 90 7 = G264 90 7 from by rw [eG28, up2_n (by omega)]] <;> rw [show G28 90 8 = 3 from by rw [eG28, up2_s]] <;> omega) (by rw [show G28 90 6 = G58 90 6 from by rw [eG28, up2_n (by omega), fg264 90 6 (by omega), eG17, up2_n (by omega), eG16, up2_n (by omega), eG7, up2_n (by omega)]] <;> omega) (by rw [show G28 90 8 = 3 from by rw [eG28, up2_s]] <;> rw [show G28 90 6 = G58 90 6 from by rw [eG28, up2_n (by omega), fg264 90 6 (by omega), eG17, up2_n (by omega), eG16, up2_n (by omega), eG7, up2_n (by omega)]] <;> rw [show G28 90 7 = G264 90 7 from by rw [eG28, up2_n (by omega)]] <;> omega))
                  · skip
                    refine r_iconst i_135_357 ?_
                    refine r_go (t := 362) i_135_358 (by decide) ?_
                    refine r_putIQ i_135_362 (by decide +kernel) (hly 90 _ rfl) (fun G29 eG29 => ?_)
                    have hG29 : GO G29 := by rw [eG29]; exact gu_90_8 hG264 (by omega) (by omega)
                    refine r_go (t := 383) i_135_365 (by decide) ?_
                    exact r_vret i_135_383 rfl (K F G29 hF hG29 (by intro a k hh; rw [eG29, up2_n (by omega), fg264 a k (by omega), eG17, up2_n (by omega), eG16, up2_n (by omega), eG7, up2_n (by omega), fg58 a k (by omega), eG2, up2_n (by omega)]) (by rw [show G29 90 6 = G58 90 6 from by rw [eG29, up2_n (by omega), fg264 90 6 (by omega), eG17, up2_n (by omega), eG16, up2_n (by omega), eG7, up2_n (by omega)]] <;> rw [show G29 90 7 = G264 90 7 from by rw [eG29, up2_n (by omega)]] <;> rw [show G29 90 8 = 1 from by rw [eG29, up2_s]] <;> omega) (by rw [show G29 90 6 = G58 90 6 from by rw [eG29, up2_n (by omega), fg264 90 6 (by omega), eG17, up2_n (by omega), eG16, up2_n (by omega), eG7, up2_n (by omega)]] <;> omega) (by rw [show G29 90 8 = 1 from by rw [eG29, up2_s]] <;> rw [show G29 90 6 = G58 90 6 from by rw [eG29, up2_n (by omega), fg264 90 6 (by omega), eG17, up2_n (by omega), eG16, up2_n (by omega), eG7, up2_n (by omega)]] <;> rw [show G29 90 7 = G264 90 7 from by rw [eG29, up2_n (by omega)]] <;> omega))
              · skip
                refine r_aload_n i_135_278 rfl ?_
                refine r_getI i_135_279 rfl (hly 90 _ rfl) ?_
                refine r_aload_n i_135_282 rfl ?_
                refine r_getI i_135_283 rfl (hly 90 _ rfl) ?_
                rw [show G264 90 6 = G58 90 6 from by rw [fg264 90 6 (by omega), eG17, up2_n (by omega), eG16, up2_n (by omega), eG7, up2_n (by omega)]]
                refine r_isub i_135_286 ?_
                refine r_bipush i_135_287 (by decide) ?_
                refine r_cge (t := 315) i_135_289 (by decide) (by omega) (by omega) (fun c30 => ?_) (fun c30 => ?_)
                · skip
                  refine r_aload_n i_135_315 rfl ?_
                  refine re_nx i_135_316 rfl ?_
                  refine r_getI i_135_317 rfl (hly 90 _ rfl) ?_
                  refine r_iconst i_135_320 ?_
                  refine r_iadd i_135_321 ?_
                  refine r_putIQ i_135_322 (by decide +kernel) (hly 90 _ rfl) (fun G31 eG31 => ?_)
                  have hG31 : GO G31 := by rw [eG31]; exact gu_90_7 hG264 (by omega) (by omega)
                  refine r_go (t := 264) i_135_325 (by decide) ?_
                  exact ih264B G31 hG31 (by intro a k hh; rw [eG31, up2_n (by omega), fg264 a k (by omega)]) (by rw [show G31 90 7 = (G264 90 7) + 1 from by rw [eG31, up2_s]] <;> omega) (by rw [show G31 90 7 = (G264 90 7) + 1 from by rw [eG31, up2_s]] <;> omega) (by rw [show G31 90 7 = (G264 90 7) + 1 from by rw [eG31, up2_s]] <;> rw [show G31 90 9 = G264 90 9 from by rw [eG31, up2_n (by omega)]] <;> omega) (by rw [show G31 90 7 = (G264 90 7) + 1 from by rw [eG31, up2_s]] <;> rw [show G31 90 9 = G264 90 9 from by rw [eG31, up2_n (by omega)]] <;> omega) (by rw [show G31 90 7 = (G264 90 7) + 1 from by rw [eG31, up2_s]] <;> rw [show G31 90 9 = G264 90 9 from by rw [eG31, up2_n (by omega)]] <;> omega) (by rw [show G31 90 7 = (G264 90 7) + 1 from by rw [eG31, up2_s]] <;> rw [show G31 90 9 = G264 90 9 from by rw [eG31, up2_n (by omega)]] <;> omega) (by rw [show G31 90 7 = (G264 90 7) + 1 from by rw [eG31, up2_s]] <;> rw [show G31 90 9 = G264 90 9 from by rw [eG31, up2_n (by omega)]] <;> omega) (by rw [show G31 90 7 = (G264 90 7) + 1 from by rw [eG31, up2_s]] <;> rw [show G31 90 9 = G264 90 9 from by rw [eG31, up2_n (by omega)]] <;> omega) (by rw [show G31 90 7 = (G264 90 7) + 1 from by rw [eG31, up2_s]] <;> omega)
                · skip
                  refine r_aload_n i_135_292 rfl ?_
                  refine r_bipush i_135_293 (by decide) ?_
                  refine r_aload_n i_135_295 rfl ?_
                  refine r_getI i_135_296 rfl (hly 90 _ rfl) ?_
                  have q32 := g_90_9 hG264
                  refine r_imul i_135_299 ?_
                  refine r_aload_n i_135_300 rfl ?_
                  refine r_aload_n i_135_301 rfl ?_
                  refine r_getI i_135_302 rfl (hly 90 _ rfl) ?_
                  refine r_cV (as := [V (G264 90 7)]) i_135_305 rfl (by decide +kernel) (Nat.le_of_ble_eq_true rfl) (Nat.le_of_ble_eq_true rfl) (hly 90 _ rfl) rfl ?_
                  refine c_136 (k := G264 90 7) hly hF hG264 hA (by omega) (by omega) (fun r33 p33_0 p33_1 p33_2 p33_3 => ?_)
                  show Re L xs 135 308 [(0, .ref 90), (1, V r6)] [V r33, V (10 * (G264 90 9)), .ref 90] (HP ly F G264 A B) _
                  refine r_iadd i_135_308 ?_
                  refine r_bipush i_135_309 (by decide) ?_
                  refine r_isub i_135_311 ?_
                  refine r_putIQ i_135_312 (by decide +kernel) (hly 90 _ rfl) (fun G34 eG34 => ?_)
                  have hG34 : GO G34 := by rw [eG34]; exact gu_90_9 hG264 (by omega) (by omega)
                  refine r_aload_n i_135_315 rfl ?_
                  refine re_nx i_135_316 rfl ?_
                  refine r_getI i_135_317 rfl (hly 90 _ rfl) ?_
                  rw [show G34 90 7 = G264 90 7 from by rw [eG34, up2_n (by omega)]]
                  refine r_iconst i_135_320 ?_
                  refine r_iadd i_135_321 ?_
                  refine r_putIQ i_135_322 (by decide +kernel) (hly 90 _ rfl) (fun G35 eG35 => ?_)
                  have hG35 : GO G35 := by rw [eG35]; exact gu_90_7 hG34 (by omega) (by omega)
                  refine r_go (t := 264) i_135_325 (by decide) ?_
                  exact ih264B G35 hG35 (by intro a k hh; rw [eG35, up2_n (by omega), eG34, up2_n (by omega), fg264 a k (by omega)]) (by rw [show G35 90 7 = (G264 90 7) + 1 from by rw [eG35, up2_s]] <;> omega) (by rw [show G35 90 7 = (G264 90 7) + 1 from by rw [eG35, up2_s]] <;> omega) (by rw [show G35 90 7 = (G264 90 7) + 1 from by rw [eG35, up2_s]] <;> rw [show G35 90 9 = ((10 * (G264 90 9)) + r33) - 48 from by rw [eG35, up2_n (by omega), eG34, up2_s]] <;> omega) (by rw [show G35 90 7 = (G264 90 7) + 1 from by rw [eG35, up2_s]] <;> rw [show G35 90 9 = ((10 * (G264 90 9)) + r33) - 48 from by rw [eG35, up2_n (by omega), eG34, up2_s]] <;> omega) (by rw [show G35 90 7 = (G264 90 7) + 1 from by rw [eG35, up2_s]] <;> rw [show G35 90 9 = ((10 * (G264 90 9)) + r33) - 48 from by rw [eG35, up2_n (by omega), eG34, up2_s]] <;> omega) (by rw [show G35 90 7 = (G264 90 7) + 1 from by rw [eG35, up2_s]] <;> rw [show G35 90 9 = ((10 * (G264 90 9)) + r33) - 48 from by rw [eG35, up2_n (by omega), eG34, up2_s]] <;> omega) (by rw [show G35 90 7 = (G264 90 7) + 1 from by rw [eG35, up2_s]] <;> rw [show G35 90 9 = ((10 * (G264 90 9)) + r33) - 48 from by rw [eG35, up2_n (by omega), eG34, up2_s]] <;> omega) (by rw [show G35 90 7 = (G264 90 7) + 1 from by rw [eG35, up2_s]] <;> rw [show G35 90 9 = ((10 * (G264 90 9)) + r33) - 48 from by rw [eG35, up2_n (by omega), eG34, up2_s]] <;> omega) (by rw [show G35 90 7 = (G264 90 7) + 1 from by rw [eG35, up2_s]] <;> omega)
          exact lp264B _ G17 hG17 (by intro a k hh; rfl) (by rw [show G17 90 7 = G58 90 6 from by rw [eG17, up2_s]] <;> omega) (by rw [show G17 90 7 = G58 90 6 from by rw [eG17, up2_s]] <;> omega) (by rw [show G17 90 7 = G58 90 6 from by rw [eG17, up2_s]] <;> rw [show G17 90 9 = 0 from by rw [eG17, up2_n (by omega), eG16, up2_s]] <;> omega) (by rw [show G17 90 7 = G58 90 6 from by rw [eG17, up2_s]] <;> rw [show G17 90 9 = 0 from by rw [eG17, up2_n (by omega), eG16, up2_s]] <;> omega) (by rw [show G17 90 7 = G58 90 6 from by rw [eG17, up2_s]] <;> rw [show G17 90 9 = 0 from by rw [eG17, up2_n (by omega), eG16, up2_s]] <;> omega) (by rw [show G17 90 7 = G58 90 6 from by rw [eG17, up2_s]] <;> rw [show G17 90 9 = 0 from by rw [eG17, up2_n (by omega), eG16, up2_s]] <;> omega) (by rw [show G17 90 7 = G58 90 6 from by rw [eG17, up2_s]] <;> rw [show G17 90 9 = 0 from by rw [eG17, up2_n (by omega), eG16, up2_s]] <;> omega) (by rw [show G17 90 7 = G58 90 6 from by rw [eG17, up2_s]] <;> rw [show G17 90 9 = 0 from by rw [eG17, up2_n (by omega), eG16, up2_s]] <;> omega) (Nat.lt_succ_self _)
      · skip
        have lp119B : ∀ (nf : Nat) (G119 : Nat → Nat → Int), (GO G119) → (∀ a k, ¬ ((a = 90 ∧ k = 7)) → G119 a k = G7 a k) → (G119 90 7 ≤ G 90 3) → (G58 90 6 < G119 90 7) → (G 90 3 - G119 90 7).toNat < nf → Re L xs 135 119 [(0, .ref 90), (1, V r6)] [] (HP ly F G119 A B) Q := by
          intro nf
          induction nf with
          | zero => intros; omega
          | succ nf ih119B =>
            intro G119 hG119 fg119 hl1 hl2 hm119
            refine r_aload_n i_135_119 rfl ?_
            refine r_aload_n i_135_120 rfl ?_
            refine r_getI i_135_121 rfl (hly 90 _ rfl) ?_
            have q36 := g_90_7 hG119
            refine r_cV (as := [V (G119 90 7)]) i_135_124 rfl (by decide +kernel) (Nat.le_of_ble_eq_true rfl) (Nat.le_of_ble_eq_true rfl) (hly 90 _ rfl) rfl ?_
            have w37 : G119 90 3 = G 90 3 := by rw [fg119 90 3 (by omega), eG7, up2_n (by omega), fg58 90 3 (by omega), eG2, up2_n (by omega)]
            refine c_136 (k := G119 90 7) hly hF hG119 hA (by omega) (by omega) (fun r38 p38_0 p38_1 p38_2 p38_3 => ?_)
            show Re L xs 135 127 [(0, .ref 90), (1, V r6)] [V r38] (HP ly F G119 A B) _
            refine r_cS (as := [V r38]) i_135_127 rfl (by decide +kernel) (Nat.le_of_ble_eq_true rfl) (Nat.le_of_ble_eq_true rfl) ?_
            refine c_137 (c := r38) hly hF hG119 hA (by omega) (fun r39 p39_0 p39_1 => ?_)
            show Re L xs 135 130 [(0, .ref 90), (1, V r6)] [V r39] (HP ly F G119 A B) _
            refine r_eq0 (t := 146) i_135_130 (by decide) (by omega) (fun c40 => ?_) (fun c40 => ?_)
            · skip
              have jn199 : ∀ (k2 : Int) (F199 : Nat → Nat → Value), (RfOk F199) → Re L xs 135 199 [(0, .ref 90), (1, V r6), (2, V k2)] [] (HP ly F199 G119 A B) Q := by
                intro k2 F199 hF199 
                have jn218 : ∀ (F218 : Nat → Nat → Value), (RfOk F218) → Re L xs 135 218 [(0, .ref 90), (1, V r6), (2, V k2)] [] (HP ly F218 G119 A B) Q := by
                  intro F218 hF218 
                  refine r_aload_n i_135_218 rfl ?_
                  refine r_aload_n i_135_219 rfl ?_
                  refine r_getI i_135_220 rfl (hly 90 _ rfl) ?_
                  refine r_aload_n i_135_223 rfl ?_
                  refine r_getI i_135_224 rfl (hly 90 _ rfl) ?_
                  rw [show G119 90 6 = G58 90 6 from by rw [fg119 90 6 (by omega), eG7, up2_n (by omega)]]
                  refine r_isub i_135_227 ?_
                  refine r_bipush i_135_228 (by decide) ?_
                  refine r_cle (t := 237) i_135_230 (by decide) (by omega) (by omega) (fun c41 => ?_) (fun c41 => ?_)
                  · skip
                    refine r_iconst i_135_237 ?_
                    refine r_putIQ i_135_238 (by decide +kernel) (hly 90 _ rfl) (fun G42 eG42 => ?_)
                    have hG42 : GO G42 := by rw [eG42]; exact gu_90_8 hG119 (by omega) (by omega)
                    refine r_go (t := 383) i_135_241 (by decide) ?_
                    exact r_vret i_135_383 rfl (K F218 G42 hF218 hG42 (by intro a k hh; rw [eG42, up2_n (by omega), fg119 a k (by omega), eG7, up2_n (by omega), fg58 a k (by omega), eG2, up2_n (by omega)]) (by rw [show G42 90 6 = G58 90 6 from by rw [eG42, up2_n (by omega), fg119 90 6 (by omega), eG7, up2_n (by omega)]] <;> rw [show G42 90 7 = G119 90 7 from by rw [eG42, up2_n (by omega)]] <;> rw [show G42 90 8 = 2 from by rw [eG42, up2_s]] <;> omega) (by rw [show G42 90 6 = G58 90 6 from by rw [eG42, up2_n (by omega), fg119 90 6 (by omega), eG7, up2_n (by omega)]] <;> omega) (by rw [show G42 90 8 = 2 from by rw [eG42, up2_s]] <;> rw [show G42 90 6 = G58 90 6 from by rw [eG42, up2_n (by omega), fg119 90 6 (by omega), eG7, up2_n (by omega)]] <;> rw [show G42 90 7 = G119 90 7 from by rw [eG42, up2_n (by omega)]] <;> omega))
                  · skip
                    refine r_iconst i_135_233 ?_
                    refine r_go (t := 238) i_135_234 (by decide) ?_
                    refine r_putIQ i_135_238 (by decide +kernel) (hly 90 _ rfl) (fun G43 eG43 => ?_)
                    have hG43 : GO G43 := by rw [eG43]; exact gu_90_8 hG119 (by omega) (by omega)
                    refine r_go (t := 383) i_135_241 (by decide) ?_
                    exact r_vret i_135_383 rfl (K F218 G43 hF218 hG43 (by intro a k hh; rw [eG43, up2_n (by omega), fg119 a k (by omega), eG7, up2_n (by omega), fg58 a k (by omega), eG2, up2_n (by omega)]) (by rw [show G43 90 6 = G58 90 6 from by rw [eG43, up2_n (by omega), fg119 90 6 (by omega), eG7, up2_n (by omega)]] <;> rw [show G43 90 7 = G119 90 7 from by rw [eG43, up2_n (by omega)]] <;> rw [show G43 90 8 = 1 from by rw [eG43, up2_s]] <;> omega) (by rw [show G43 90 6 = G58 90 6 from by rw [eG43, up2_n (by omega), fg119 90 6 (by omega), eG7, up2_n (by omega)]] <;> omega) (by rw [show G43 90 8 = 1 from by rw [eG43, up2_s]] <;> rw [show G43 90 6 = G58 90 6 from by rw [eG43, up2_n (by omega), fg119 90 6 (by omega), eG7, up2_n (by omega)]] <;> rw [show G43 90 7 = G119 90 7 from by rw [eG43, up2_n (by omega)]] <;> omega))
                refine r_aload_n i_135_199 rfl ?_
                refine r_getI i_135_200 rfl (hly 90 _ rfl) ?_
                refine r_aload_n i_135_203 rfl ?_
                refine r_getI i_135_204 rfl (hly 90 _ rfl) ?_
                rw [show G119 90 6 = G58 90 6 from by rw [fg119 90 6 (by omega), eG7, up2_n (by omega)]]
                refine r_isub i_135_207 ?_
                refine r_bipush i_135_208 (by decide) ?_
                refine r_cle (t := 218) i_135_210 (by decide) (by omega) (by omega) (fun c44 => ?_) (fun c44 => ?_)
                · skip
                  exact jn218 F199 hF199 
                · skip
                  refine r_aload_n i_135_213 rfl ?_
                  refine r_lconst i_135_214 ?_
                  refine r_putJQ i_135_215 (by decide +kernel) (hly 90 _ rfl) (fun F45 eF45 => ?_)
                  have hF45 : RfOk F45 := by rw [eF45]; exact RfOk.upJ hF199
                  exact jn218 F45 hF45 
              refine r_aload_n i_135_146 rfl ?_
              refine r_lconst i_135_147 ?_
              refine r_putJQ i_135_148 (by decide +kernel) (hly 90 _ rfl) (fun F46 eF46 => ?_)
              have hF46 : RfOk F46 := by rw [eF46]; exact RfOk.upJ hF
              refine r_aload_n i_135_151 rfl ?_
              refine r_getI i_135_152 rfl (hly 90 _ rfl) ?_
              rw [show G119 90 6 = G58 90 6 from by rw [fg119 90 6 (by omega), eG7, up2_n (by omega)]]
              refine r_istore_n (l' := [(0, .ref 90), (1, V r6), (2, V (G58 90 6))]) i_135_155 (by decide +kernel) rfl ?_
              have lp156B : ∀ (nf : Nat) (k : Int) (F156 : Nat → Nat → Value), (RfOk F156) → (G58 90 6 ≤ k ∧ k ≤ G119 90 7) → (G119 90 7 - k).toNat < nf → Re L xs 135 156 [(0, .ref 90), (1, V r6), (2, V k)] [] (HP ly F156 G119 A B) Q := by
                intro nf
                induction nf with
                | zero => intros; omega
                | succ nf ih156B =>
                  intro k F156 hF156 hk1 hm156
                  refine r_iload_n i_135_156 rfl ?_
                  refine r_aload_n i_135_157 rfl ?_
                  refine r_getI i_135_158 rfl (hly 90 _ rfl) ?_
                  refine r_cge (t := 199) i_135_161 (by decide) (by omega) (by omega) (fun c47 => ?_) (fun c47 => ?_)
                  · skip
                    exact jn199 k F156 hF156 
                  · skip
                    refine r_iload_n i_135_164 rfl ?_
                    refine r_aload_n i_135_165 rfl ?_
                    refine r_getI i_135_166 rfl (hly 90 _ rfl) ?_
                    rw [show G119 90 6 = G58 90 6 from by rw [fg119 90 6 (by omega), eG7, up2_n (by omega)]]
                    refine r_bipush i_135_169 (by decide) ?_
                    refine r_iadd i_135_171 ?_
                    refine r_cge (t := 199) i_135_172 (by decide) (by omega) (by omega) (fun c48 => ?_) (fun c48 => ?_)
                    · skip
                      exact jn199 k F156 hF156 
                    · skip
                      refine r_aload_n i_135_175 rfl ?_
                      refine r_aload_n i_135_176 rfl ?_
                      obtain ⟨v49, hv49⟩ := hF156.2
                      refine r_getF (v := .long v49) i_135_177 rfl (hly 90 _ rfl) hv49 ?_
                      refine r_bipush i_135_180 (by decide) ?_
                      refine re_nx i_135_182 rfl ?_
                      refine r_aload_n i_135_183 rfl ?_
                      refine r_iload_n i_135_184 rfl ?_
                      refine r_cV (as := [V k]) i_135_185 rfl (by decide +kernel) (Nat.le_of_ble_eq_true rfl) (Nat.le_of_ble_eq_true rfl) (hly 90 _ rfl) rfl ?_
                      refine c_136 (k := k) hly hF156 hG119 hA (by omega) (by omega) (fun r50 p50_0 p50_1 p50_2 p50_3 => ?_)
                      show Re L xs 135 188 [(0, .ref 90), (1, V r6), (2, V k)] [V r50, .long (v49 <<< ((Int32.ofInt 8).toInt64 &&& 63)), .ref 90] (HP ly F156 G119 A B) _
                      refine re_nx i_135_188 rfl ?_
                      refine re_nx i_135_189 rfl ?_
                      refine r_putJQ i_135_190 (by decide +kernel) (hly 90 _ rfl) (fun F51 eF51 => ?_)
                      have hF51 : RfOk F51 := by rw [eF51]; exact RfOk.upJ hF156
                      refine r_iinc (l' := [(0, .ref 90), (1, V r6), (2, V (k + 1))]) i_135_193 rfl (by decide +kernel) rfl ?_
                      refine r_go (t := 156) i_135_196 (by decide) ?_
                      exact ih156B (k + 1) F51 hF51 (by omega) (by omega)
              exact lp156B _ (G58 90 6) F46 hF46 (by omega) (Nat.lt_succ_self _)
            · skip
              refine r_aload_n i_135_133 rfl ?_
              refine re_nx i_135_134 rfl ?_
              refine r_getI i_135_135 rfl (hly 90 _ rfl) ?_
              refine r_iconst i_135_138 ?_
              refine r_iadd i_135_139 ?_
              refine r_putIQ i_135_140 (by decide +kernel) (hly 90 _ rfl) (fun G52 eG52 => ?_)
              have hG52 : GO G52 := by rw [eG52]; exact gu_90_7 hG119 (by omega) (by omega)
              refine r_go (t := 119) i_135_143 (by decide) ?_
              exact ih119B G52 hG52 (by intro a k hh; rw [eG52, up2_n (by omega), fg119 a k (by omega)]) (by rw [show G52 90 7 = (G119 90 7) + 1 from by rw [eG52, up2_s]] <;> omega) (by rw [show G52 90 7 = (G119 90 7) + 1 from by rw [eG52, up2_s]] <;> omega) (by rw [show G52 90 7 = (G119 90 7) + 1 from by rw [eG52, up2_s]] <;> omega)
        exact lp119B _ G7 hG7 (by intro a k hh; rfl) (by rw [show G7 90 7 = (G58 90 6) + 1 from by rw [eG7, up2_s]] <;> omega) (by rw [show G7 90 7 = (G58 90 6) + 1 from by rw [eG7, up2_s]] <;> omega) (Nat.lt_succ_self _)
    · skip
      refine r_aload_n i_135_88 rfl ?_
      refine r_iconst i_135_89 ?_
      refine r_putIQ i_135_90 (by decide +kernel) (hly 90 _ rfl) (fun G53 eG53 => ?_)
      have hG53 : GO G53 := by rw [eG53]; exact gu_90_8 hG7 (by omega) (by omega)
      refine r_aload_n i_135_93 rfl ?_
      refine r_aload_n i_135_94 rfl ?_
      refine r_getI i_135_95 rfl (hly 90 _ rfl) ?_
      rw [show G53 90 3 = G 90 3 from by rw [eG53, up2_n (by omega), eG7, up2_n (by omega), fg58 90 3 (by omega), eG2, up2_n (by omega)]]
      refine r_putIQ i_135_98 (by decide +kernel) (hly 90 _ rfl) (fun G54 eG54 => ?_)
      have hG54 : GO G54 := by rw [eG54]; exact gu_90_6 hG53 (by omega) (by omega)
      refine r_aload_n i_135_101 rfl ?_
      refine r_aload_n i_135_102 rfl ?_
      refine r_getI i_135_103 rfl (hly 90 _ rfl) ?_
      rw [show G54 90 3 = G 90 3 from by rw [eG54, up2_n (by omega), eG53, up2_n (by omega), eG7, up2_n (by omega), fg58 90 3 (by omega), eG2, up2_n (by omega)]]
      refine r_putIQ i_135_106 (by decide +kernel) (hly 90 _ rfl) (fun G55 eG55 => ?_)
      have hG55 : GO G55 := by rw [eG55]; exact gu_90_7 hG54 (by omega) (by omega)
      refine r_go (t := 383) i_135_109 (by decide) ?_
      exact r_vret i_135_383 rfl (K F G55 hF hG55 (by intro a k hh; rw [eG55, up2_n (by omega), eG54, up2_n (by omega), eG53, up2_n (by omega), eG7, up2_n (by omega), fg58 a k (by omega), eG2, up2_n (by omega)]) (by rw [show G55 90 6 = G 90 3 from by rw [eG55, up2_n (by omega), eG54, up2_s]] <;> rw [show G55 90 7 = G 90 3 from by rw [eG55, up2_s]] <;> rw [show G55 90 8 = 0 from by rw [eG55, up2_n (by omega), eG54, up2_n (by omega), eG53, up2_s]] <;> omega) (by rw [show G55 90 6 = G 90 3 from by rw [eG55, up2_n (by omega), eG54, up2_s]] <;> omega) (by rw [show G55 90 8 = 0 from by rw [eG55, up2_n (by omega), eG54, up2_n (by omega), eG53, up2_s]] <;> rw [show G55 90 6 = G 90 3 from by rw [eG55, up2_n (by omega), eG54, up2_s]] <;> rw [show G55 90 7 = G 90 3 from by rw [eG55, up2_s]] <;> omega))
  have lp8B : ∀ (nf : Nat) (G8 : Nat → Nat → Int), (GO G8) → (∀ a k, ¬ ((a = 90 ∧ k = 6)) → G8 a k = G2 a k) → (G8 90 6 ≤ G 90 3) → (G 90 7 ≤ G8 90 6) → (G 90 3 - G8 90 6).toNat < nf → Re L xs 135 8 [(0, .ref 90)] [] (HP ly F G8 A B) Q := by
    intro nf
    induction nf with
    | zero => intros; omega
    | succ nf ih8B =>
      intro G8 hG8 fg8 hi1 hi2 hm8
      refine r_aload_n i_135_8 rfl ?_
      refine r_getI i_135_9 rfl (hly 90 _ rfl) ?_
      have q56 := g_90_6 hG8
      refine r_aload_n i_135_12 rfl ?_
      refine r_getI i_135_13 rfl (hly 90 _ rfl) ?_
      rw [show G8 90 3 = G 90 3 from by rw [fg8 90 3 (by omega), eG2, up2_n (by omega)]]
      have q57 := g_90_3 hG
      refine r_cge (t := 58) i_135_16 (by decide) (by omega) (by omega) (fun c58 => ?_) (fun c58 => ?_)
      · skip
        exact jn58 G8 hG8 (by intro a k hh; rw [fg8 a k (by omega)]) (by omega) (by omega)
      · skip
        refine r_aload_n i_135_19 rfl ?_
        refine r_aload_n i_135_20 rfl ?_
        refine r_getI i_135_21 rfl (hly 90 _ rfl) ?_
        refine r_cV (as := [V (G8 90 6)]) i_135_24 rfl (by decide +kernel) (Nat.le_of_ble_eq_true rfl) (Nat.le_of_ble_eq_true rfl) (hly 90 _ rfl) rfl ?_
        have w59 : G8 90 3 = G 90 3 := by rw [fg8 90 3 (by omega), eG2, up2_n (by omega)]
        refine c_136 (k := G8 90 6) hly hF hG8 hA (by omega) (by omega) (fun r60 p60_0 p60_1 p60_2 p60_3 => ?_)
        show Re L xs 135 27 [(0, .ref 90)] [V r60] (HP ly F G8 A B) _
        refine r_bipush i_135_27 (by decide) ?_
        refine r_ceq (t := 45) i_135_29 (by decide) (by omega) (by omega) (fun c61 => ?_) (fun c61 => ?_)
        · skip
          refine r_aload_n i_135_45 rfl ?_
          refine re_nx i_135_46 rfl ?_
          refine r_getI i_135_47 rfl (hly 90 _ rfl) ?_
          refine r_iconst i_135_50 ?_
          refine r_iadd i_135_51 ?_
          refine r_putIQ i_135_52 (by decide +kernel) (hly 90 _ rfl) (fun G62 eG62 => ?_)
          have hG62 : GO G62 := by rw [eG62]; exact gu_90_6 hG8 (by omega) (by omega)
          refine r_go (t := 8) i_135_55 (by decide) ?_
          exact ih8B G62 hG62 (by intro a k hh; rw [eG62, up2_n (by omega), fg8 a k (by omega)]) (by rw [show G62 90 6 = (G8 90 6) + 1 from by rw [eG62, up2_s]] <;> omega) (by rw [show G62 90 6 = (G8 90 6) + 1 from by rw [eG62, up2_s]] <;> omega) (by rw [show G62 90 6 = (G8 90 6) + 1 from by rw [eG62, up2_s]] <;> omega)
        · skip
          refine r_aload_n i_135_32 rfl ?_
          refine r_aload_n i_135_33 rfl ?_
          refine r_getI i_135_34 rfl (hly 90 _ rfl) ?_
          refine r_cV (as := [V (G8 90 6)]) i_135_37 rfl (by decide +kernel) (Nat.le_of_ble_eq_true rfl) (Nat.le_of_ble_eq_true rfl) (hly 90 _ rfl) rfl ?_
          refine c_136 (k := G8 90 6) hly hF hG8 hA (by omega) (by omega) (fun r63 p63_0 p63_1 p63_2 p63_3 => ?_)
          show Re L xs 135 40 [(0, .ref 90)] [V r63] (HP ly F G8 A B) _
          refine r_bipush i_135_40 (by decide) ?_
          refine r_cne (t := 58) i_135_42 (by decide) (by omega) (by omega) (fun c64 => ?_) (fun c64 => ?_)
          · skip
            exact jn58 G8 hG8 (by intro a k hh; rw [fg8 a k (by omega)]) (by omega) (by omega)
          · skip
            refine r_aload_n i_135_45 rfl ?_
            refine re_nx i_135_46 rfl ?_
            refine r_getI i_135_47 rfl (hly 90 _ rfl) ?_
            refine r_iconst i_135_50 ?_
            refine r_iadd i_135_51 ?_
            refine r_putIQ i_135_52 (by decide +kernel) (hly 90 _ rfl) (fun G65 eG65 => ?_)
            have hG65 : GO G65 := by rw [eG65]; exact gu_90_6 hG8 (by omega) (by omega)
            refine r_go (t := 8) i_135_55 (by decide) ?_
            exact ih8B G65 hG65 (by intro a k hh; rw [eG65, up2_n (by omega), fg8 a k (by omega)]) (by rw [show G65 90 6 = (G8 90 6) + 1 from by rw [eG65, up2_s]] <;> omega) (by rw [show G65 90 6 = (G8 90 6) + 1 from by rw [eG65, up2_s]] <;> omega) (by rw [show G65 90 6 = (G8 90 6) + 1 from by rw [eG65, up2_s]] <;> omega)
  exact lp8B _ G2 hG2 (by intro a k hh; rfl) (by rw [show G2 90 6 = G 90 7 from by rw [eG2, up2_s]] <;> omega) (by rw [show G2 90 6 = G 90 7 from by rw [eG2, up2_s]] <;> omega) (Nat.lt_succ_self _)
