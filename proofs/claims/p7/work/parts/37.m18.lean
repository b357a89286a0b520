set_option maxHeartbeats 4000000 in
theorem c_208 {L : Nat} {xs : Nat → Int32} {ly : List LK} {F : Nat → Nat → Value} {G A : Nat → Nat → Int} {B : Nat → Nat → Int64} {Q : Option Value → AH → Prop} {k : Int} {what : Int} (hly : LyOk ly) (hF : RfOk F) (hG : GO G) (hA : AQ A) (in_k : inR k) (in_what : inR what) (K : ∀ (r : Int), Q (some (V r)) (HP ly F G A B)) : Re L xs 208 0 [(0, .ref 90), (1, V k), (2, V what)] [] (HP ly F G A B) Q := by
  have z32 := g_90_32 hG
  have z107 := a_107 hA (G 90 32).toNat
  refine r_iload_n i_208_0 rfl ?_
  refine r_lt0 (t := 17) i_208_1 (by decide) (by omega) (fun c_1 => ?_) (fun c_1 => ?_)
  · skip
    refine r_iconst i_208_17 ?_
    exact r_iret i_208_18 rfl rfl (K ((-1)))
  · skip
    refine r_iload_n i_208_4 rfl ?_
    refine r_aload_n i_208_5 rfl ?_
    refine r_getF (v := .ref 107) i_208_6 rfl (hly 90 _ rfl) (hF.1 90 25 107 rfl) ?_
    refine r_aload_n i_208_9 rfl ?_
    refine r_getI i_208_10 rfl (hly 90 _ rfl) ?_
    have q_2 := g_90_32 hG
    refine r_iald i_208_13 (hly 107 _ rfl) (by omega) (by omega) (by omega) ?_
    have q_3 := a_107 hA ((G 90 32).toNat)
    refine r_clt (t := 19) i_208_14 (by decide) (by omega) (by omega) (fun c_4 => ?_) (fun c_4 => ?_)
    · skip
      refine r_bipush i_208_19 (by decide) ?_
      refine r_aload_n i_208_21 rfl ?_
      refine r_getI i_208_22 rfl (hly 90 _ rfl) ?_
      refine r_imul i_208_25 ?_
      refine r_iload_n i_208_26 rfl ?_
      refine r_iadd i_208_27 ?_
      refine r_istore_n (l' := [(0, .ref 90), (1, V k), (2, V what), (3, V ((80 * (G 90 32)) + k))]) i_208_28 (by decide +kernel) rfl ?_
      refine r_iload_n i_208_29 rfl ?_
      rcases (show (what < 0 ∨ 5 < what) ∨ what = 0 ∨ what = 1 ∨ what = 2 ∨ what = 3 ∨ what = 4 ∨ what = 5 by omega) with c_5 | c_5 | c_5 | c_5 | c_5 | c_5 | c_5
      · refine r_tabO (t := 110) i_208_30 (by decide) (by omega) c_5 ?_
        refine r_iconst i_208_110 ?_
        exact r_iret i_208_111 rfl rfl (K ((-1)))
      · refine r_tabI (t := 68) (off := 38) i_208_30 (by omega) (by omega) (by rw [c_5]; decide) (by decide) ?_
        refine r_aload_n i_208_68 rfl ?_
        refine r_getF (v := .ref 98) i_208_69 rfl (hly 90 _ rfl) (hF.1 90 16 98 rfl) ?_
        refine r_iload_n i_208_72 rfl ?_
        refine r_iald i_208_73 (hly 98 _ rfl) (by omega) (by omega) (by omega) ?_
        have q_6 := a_98 hA (((80 * (G 90 32)) + k).toNat)
        exact r_iret i_208_74 rfl rfl (K (A 98 (((80 * (G 90 32)) + k).toNat)))
      · refine r_tabI (t := 75) (off := 45) i_208_30 (by omega) (by omega) (by rw [c_5]; decide) (by decide) ?_
        refine r_aload_n i_208_75 rfl ?_
        refine r_getF (v := .ref 99) i_208_76 rfl (hly 90 _ rfl) (hF.1 90 17 99 rfl) ?_
        refine r_iload_n i_208_79 rfl ?_
        refine r_iald i_208_80 (hly 99 _ rfl) (by omega) (by omega) (by omega) ?_
        have q_7 := a_99 hA (((80 * (G 90 32)) + k).toNat)
        exact r_iret i_208_81 rfl rfl (K (A 99 (((80 * (G 90 32)) + k).toNat)))
      · refine r_tabI (t := 82) (off := 52) i_208_30 (by omega) (by omega) (by rw [c_5]; decide) (by decide) ?_
        refine r_aload_n i_208_82 rfl ?_
        refine r_getF (v := .ref 127) i_208_83 rfl (hly 90 _ rfl) (hF.1 90 52 127 rfl) ?_
        refine r_iload_n i_208_86 rfl ?_
        refine r_iald i_208_87 (hly 127 _ rfl) (by omega) (by omega) (by omega) ?_
        have q_8 := a_127 hA (k.toNat)
        exact r_iret i_208_88 rfl rfl (K (A 127 (k.toNat)))
      · refine r_tabI (t := 89) (off := 59) i_208_30 (by omega) (by omega) (by rw [c_5]; decide) (by decide) ?_
        refine r_aload_n i_208_89 rfl ?_
        refine r_getF (v := .ref 97) i_208_90 rfl (hly 90 _ rfl) (hF.1 90 15 97 rfl) ?_
        refine r_iload_n i_208_93 rfl ?_
        refine r_iald i_208_94 (hly 97 _ rfl) (by omega) (by omega) (by omega) ?_
        have q_9 := a_97 hA (((80 * (G 90 32)) + k).toNat)
        exact r_iret i_208_95 rfl rfl (K (A 97 (((80 * (G 90 32)) + k).toNat)))
      · refine r_tabI (t := 96) (off := 66) i_208_30 (by omega) (by omega) (by rw [c_5]; decide) (by decide) ?_
        refine r_aload_n i_208_96 rfl ?_
        refine r_getF (v := .ref 100) i_208_97 rfl (hly 90 _ rfl) (hF.1 90 18 100 rfl) ?_
        refine r_iload_n i_208_100 rfl ?_
        refine r_iald i_208_101 (hly 100 _ rfl) (by omega) (by omega) (by omega) ?_
        have q_10 := a_100 hA (((80 * (G 90 32)) + k).toNat)
        exact r_iret i_208_102 rfl rfl (K (A 100 (((80 * (G 90 32)) + k).toNat)))
      · refine r_tabI (t := 103) (off := 73) i_208_30 (by omega) (by omega) (by rw [c_5]; decide) (by decide) ?_
        refine r_aload_n i_208_103 rfl ?_
        refine r_getF (v := .ref 101) i_208_104 rfl (hly 90 _ rfl) (hF.1 90 19 101 rfl) ?_
        refine r_iload_n i_208_107 rfl ?_
        refine r_iald i_208_108 (hly 101 _ rfl) (by omega) (by omega) (by omega) ?_
        have q_11 := a_101 hA (((80 * (G 90 32)) + k).toNat)
        exact r_iret i_208_109 rfl rfl (K (A 101 (((80 * (G 90 32)) + k).toNat)))
    · skip
      refine r_iconst i_208_17 ?_
      exact r_iret i_208_18 rfl rfl (K ((-1)))
set_option maxHeartbeats 4000000 in
theorem c_209 {L : Nat} {xs : Nat → Int32} {ly : List LK} {F : Nat → Nat → Value} {G A : Nat → Nat → Int} {B : Nat → Nat → Int64} {Q : Option Value → AH → Prop} {what : Int} (hly : LyOk ly) (hF : RfOk F) (hG : GO G) (hA : AQ A) (in_what : inR what) (K : ∀ (r : Int), Q (some (V r)) (HP ly F G A B)) : Re L xs 209 0 [(0, .ref 90), (1, V what)] [] (HP ly F G A B) Q := by
  have z32 := g_90_32 hG
  refine r_iload_n i_209_0 rfl ?_
  rcases (show (what < 0 ∨ 9 < what) ∨ what = 0 ∨ what = 1 ∨ what = 2 ∨ what = 3 ∨ what = 4 ∨ what = 5 ∨ what = 6 ∨ what = 7 ∨ what = 8 ∨ what = 9 by omega) with c_1 | c_1 | c_1 | c_1 | c_1 | c_1 | c_1 | c_1 | c_1 | c_1 | c_1
  · refine r_tabO (t := 126) i_209_1 (by decide) (by omega) c_1 ?_
    refine r_iconst i_209_126 ?_
    exact r_iret i_209_127 rfl rfl (K ((-1)))
  · refine r_tabI (t := 56) (off := 55) i_209_1 (by omega) (by omega) (by rw [c_1]; decide) (by decide) ?_
    refine r_aload_n i_209_56 rfl ?_
    refine r_getF (v := .ref 107) i_209_57 rfl (hly 90 _ rfl) (hF.1 90 25 107 rfl) ?_
    refine r_aload_n i_209_60 rfl ?_
    refine r_getI i_209_61 rfl (hly 90 _ rfl) ?_
    have q_2 := g_90_32 hG
    refine r_iald i_209_64 (hly 107 _ rfl) (by omega) (by omega) (by omega) ?_
    have q_3 := a_107 hA ((G 90 32).toNat)
    exact r_iret i_209_65 rfl rfl (K (A 107 ((G 90 32).toNat)))
  · refine r_tabI (t := 66) (off := 65) i_209_1 (by omega) (by omega) (by rw [c_1]; decide) (by decide) ?_
    refine r_aload_n i_209_66 rfl ?_
    refine r_getF (v := .ref 108) i_209_67 rfl (hly 90 _ rfl) (hF.1 90 26 108 rfl) ?_
    refine r_aload_n i_209_70 rfl ?_
    refine r_getI i_209_71 rfl (hly 90 _ rfl) ?_
    have q_4 := g_90_32 hG
    refine r_iald i_209_74 (hly 108 _ rfl) (by omega) (by omega) (by omega) ?_
    have q_5 := a_108 hA ((G 90 32).toNat)
    exact r_iret i_209_75 rfl rfl (K (A 108 ((G 90 32).toNat)))
  · refine r_tabI (t := 76) (off := 75) i_209_1 (by omega) (by omega) (by rw [c_1]; decide) (by decide) ?_
    refine r_aload_n i_209_76 rfl ?_
    refine r_getF (v := .ref 109) i_209_77 rfl (hly 90 _ rfl) (hF.1 90 27 109 rfl) ?_
    refine r_aload_n i_209_80 rfl ?_
    refine r_getI i_209_81 rfl (hly 90 _ rfl) ?_
    have q_6 := g_90_32 hG
    refine r_iald i_209_84 (hly 109 _ rfl) (by omega) (by omega) (by omega) ?_
    have q_7 := a_109 hA ((G 90 32).toNat)
    exact r_iret i_209_85 rfl rfl (K (A 109 ((G 90 32).toNat)))
  · refine r_tabI (t := 86) (off := 85) i_209_1 (by omega) (by omega) (by rw [c_1]; decide) (by decide) ?_
    refine r_aload_n i_209_86 rfl ?_
    refine r_getF (v := .ref 110) i_209_87 rfl (hly 90 _ rfl) (hF.1 90 28 110 rfl) ?_
    refine r_aload_n i_209_90 rfl ?_
    refine r_getI i_209_91 rfl (hly 90 _ rfl) ?_
    have q_8 := g_90_32 hG
    refine r_iald i_209_94 (hly 110 _ rfl) (by omega) (by omega) (by omega) ?_
    have q_9 := a_110 hA ((G 90 32).toNat)
    exact r_iret i_209_95 rfl rfl (K (A 110 ((G 90 32).toNat)))
  · refine r_tabI (t := 96) (off := 95) i_209_1 (by omega) (by omega) (by rw [c_1]; decide) (by decide) ?_
    refine r_aload_n i_209_96 rfl ?_
    refine r_getI i_209_97 rfl (hly 90 _ rfl) ?_
    have q_10 := g_90_38 hG
    exact r_iret i_209_100 rfl rfl (K (G 90 38))
  · refine r_tabI (t := 101) (off := 100) i_209_1 (by omega) (by omega) (by rw [c_1]; decide) (by decide) ?_
    refine r_aload_n i_209_101 rfl ?_
    refine r_getI i_209_102 rfl (hly 90 _ rfl) ?_
    have q_11 := g_90_39 hG
    exact r_iret i_209_105 rfl rfl (K (G 90 39))
  · refine r_tabI (t := 106) (off := 105) i_209_1 (by omega) (by omega) (by rw [c_1]; decide) (by decide) ?_
    refine r_aload_n i_209_106 rfl ?_
    refine r_getI i_209_107 rfl (hly 90 _ rfl) ?_
    have q_12 := g_90_40 hG
    exact r_iret i_209_110 rfl rfl (K (G 90 40))
  · refine r_tabI (t := 111) (off := 110) i_209_1 (by omega) (by omega) (by rw [c_1]; decide) (by decide) ?_
    refine r_aload_n i_209_111 rfl ?_
    refine r_getI i_209_112 rfl (hly 90 _ rfl) ?_
    have q_13 := g_90_45 hG
    exact r_iret i_209_115 rfl rfl (K (G 90 45))
  · refine r_tabI (t := 116) (off := 115) i_209_1 (by omega) (by omega) (by rw [c_1]; decide) (by decide) ?_
    refine r_aload_n i_209_116 rfl ?_
    refine r_getI i_209_117 rfl (hly 90 _ rfl) ?_
    have q_14 := g_90_66 hG
    exact r_iret i_209_120 rfl rfl (K (G 90 66))
  · refine r_tabI (t := 121) (off := 120) i_209_1 (by omega) (by omega) (by rw [c_1]; decide) (by decide) ?_
    refine r_aload_n i_209_121 rfl ?_
    refine r_getI i_209_122 rfl (hly 90 _ rfl) ?_
    have q_15 := g_90_2 hG
    exact r_iret i_209_125 rfl rfl (K (G 90 2))
set_option maxHeartbeats 4000000 in
theorem c_205 {L : Nat} {xs : Nat → Int32} {ly : List LK} {F : Nat → Nat → Value} {G A : Nat → Nat → Int} {B : Nat → Nat → Int64} {Q : Option Value → AH → Prop} {gap : Int} (hly : LyOk ly) (hF : RfOk F) (hG : GO G) (hA : AQ A) (in_gap : inR gap) (hm : MI G A) (K : ∀ (r : Int) (G' : Nat → Nat → Int) (A' : Nat → Nat → Int), (GO G') → (AQ A') → (∀ a k, ¬ ((a = 90 ∧ k = 53) ∨ (a = 90 ∧ k = 56) ∨ (a = 90 ∧ k = 57) ∨ (a = 90 ∧ k = 58) ∨ (a = 90 ∧ k = 59)) → G' a k = G a k) → (∀ a, ¬ (a = 121 ∨ a = 122 ∨ a = 123 ∨ a = 124 ∨ a = 125 ∨ a = 126 ∨ a = 128 ∨ a = 129 ∨ a = 130) → A' a = A a) → (MI G' A') → Q (some (V r)) (HP ly F G' A' B)) : Re L xs 205 0 [(0, .ref 90), (1, V gap)] [] (HP ly F G A B) Q := by
  have z38 := g_90_38 hG
  refine r_iload_n i_205_0 rfl ?_
  refine r_cS (as := [V gap]) i_205_1 rfl (by decide +kernel) (Nat.le_of_ble_eq_true rfl) (Nat.le_of_ble_eq_true rfl) ?_
  refine c_201 (g := gap) hly hF hG hA (by omega) (fun r_1 p1_0 p1_1 => ?_)
  show Re L xs 205 4 [(0, .ref 90), (1, V gap)] [V r_1] (HP ly F G A B) _
  refine r_eq0 (t := 14) i_205_4 (by decide) (by omega) (fun c_2 => ?_) (fun c_2 => ?_)
  · skip
    refine r_iconst i_205_14 ?_
    exact r_iret i_205_15 rfl rfl (K ((-1)) G A hG hA (by intro a k hh; rfl) (by intro a hh; rfl) (by first | exact hm | exact zzp0))
  · skip
    refine r_aload_n i_205_7 rfl ?_
    refine r_cV (as := []) i_205_8 rfl (by decide +kernel) (Nat.le_of_ble_eq_true rfl) (Nat.le_of_ble_eq_true rfl) (hly 90 _ rfl) rfl ?_
    refine c_189  hly hF hG hA (by omega) (fun r_3 G_4 A_5 hG_4 hA_5 fg5 fa5 p5_0 p5_1 p5_2 => ?_)
    show Re L xs 205 11 [(0, .ref 90), (1, V gap)] [V r_3] (HP ly F G_4 A_5 B) _
    refine r_ge0 (t := 16) i_205_11 (by decide) (by omega) (fun c_6 => ?_) (fun c_6 => ?_)
    · skip
      refine r_aload_n i_205_16 rfl ?_
      refine r_cV (as := []) i_205_17 rfl (by decide +kernel) (Nat.le_of_ble_eq_true rfl) (Nat.le_of_ble_eq_true rfl) (hly 90 _ rfl) rfl ?_
      have q_7 := g_90_57 hG_4
      refine c_191  hly hF hG_4 hA_5 (by exact p5_1) (by omega) (fun A_8 hA_8 fa8 p8_0 => ?_)
      show Re L xs 205 20 [(0, .ref 90), (1, V gap)] [] (HP ly F G_4 A_8 B) _
      have hkn : KN G_4 A_8 := p8_0
      have e38 : G_4 90 38 = G 90 38 := by rw [fg5 90 38 (by omega)]
      have e32 : G_4 90 32 = G 90 32 := by rw [fg5 90 32 (by omega)]
      have e122 : A_8 122 = A_5 122 := by rw [fa8 122 (by omega)]
      refine r_iconst i_205_20 ?_
      refine r_istore_n (l' := [(0, .ref 90), (1, V gap), (2, V ((-1)))]) i_205_21 (by decide +kernel) rfl ?_
      refine r_iconst i_205_22 ?_
      refine r_istore_n (l' := [(0, .ref 90), (1, V gap), (2, V ((-1))), (3, V ((-1)))]) i_205_23 (by decide +kernel) rfl ?_
      refine r_iconst i_205_24 ?_
      refine r_istore (l' := [(0, .ref 90), (1, V gap), (2, V ((-1))), (3, V ((-1))), (4, V 0)]) i_205_25 (by decide +kernel) rfl ?_
      refine r_iconst i_205_27 ?_
      refine r_istore (l' := [(0, .ref 90), (1, V gap), (2, V ((-1))), (3, V ((-1))), (4, V 0), (5, V 0)]) i_205_28 (by decide +kernel) rfl ?_
      have lp30B : ∀ (nf : Nat) (mask : Int) (p : Int), (0 ≤ p ∧ p ≤ 14) → (20 - p).toNat < nf → Re L xs 205 30 [(0, .ref 90), (1, V gap), (2, V ((-1))), (3, V ((-1))), (4, V mask), (5, V p)] [] (HP ly F G_4 A_8 B) Q := by
        intro nf
        induction nf with
        | zero => intros; omega
        | succ nf ih30B =>
          intro mask p  hp hm30
          refine r_iload i_205_30 rfl ?_
          refine r_aload_n i_205_32 rfl ?_
          refine r_getI i_205_33 rfl (hly 90 _ rfl) ?_
          rw [show G_4 90 38 = G 90 38 from by rw [fg5 90 38 (by omega)]]
          have q_9 := g_90_38 hG
          refine r_cge (t := 68) i_205_36 (by decide) (by omega) (by omega) (fun c_10 => ?_) (fun c_10 => ?_)
          · skip
            refine r_iconst i_205_68 ?_
            refine r_istore (l' := [(0, .ref 90), (1, V gap), (2, V ((-1))), (3, V ((-1))), (4, V mask), (5, V 0)]) i_205_69 (by decide +kernel) rfl ?_
            have lp71B : ∀ (nf : Nat) (most : Int) (asked : Int) (p : Int) (l6 : Int) (l7 : Int) (G71 : Nat → Nat → Int) (A71 : Nat → Nat → Int), (GO G71) → (AQ A71) → (∀ a k, ¬ ((a = 90 ∧ k = 57) ∨ (a = 90 ∧ k = 58) ∨ (a = 90 ∧ k = 59)) → G71 a k = G_4 a k) → (∀ a, ¬ (a = 128 ∨ a = 129) → A71 a = A_8 a) → (0 ≤ p ∧ p ≤ 14) → (-1 ≤ most ∧ most ≤ 14) → (-1 ≤ asked ∧ asked ≤ 13) → (20 - p).toNat < nf → Re L xs 205 71 [(0, .ref 90), (1, V gap), (2, V most), (3, V asked), (4, V mask), (5, V p), (6, V l6), (7, V l7)] [] (HP ly F G71 A71 B) Q := by
              intro nf
              induction nf with
              | zero => intros; omega
              | succ nf ih71B =>
                intro most asked p l6 l7 G71 A71 hG71 hA71 fg71 fa71 hp hmo has hm71
                refine r_iload i_205_71 rfl ?_
                refine r_aload_n i_205_73 rfl ?_
                refine r_getI i_205_74 rfl (hly 90 _ rfl) ?_
                rw [show G71 90 38 = G 90 38 from by rw [fg71 90 38 (by omega), fg5 90 38 (by omega)]]
                refine r_cge (t := 173) i_205_77 (by decide) (by omega) (by omega) (fun c_11 => ?_) (fun c_11 => ?_)
                · skip
                  refine r_aload_n i_205_173 rfl ?_
                  refine r_iconst i_205_174 ?_
                  refine r_putIQ i_205_175 (by decide +kernel) (hly 90 _ rfl) (fun G_12 eG_12 => ?_)
                  have hG_12 : GO G_12 := by rw [eG_12]; exact gu_90_58 hG71 (by omega) (by omega)
                  refine r_aload_n i_205_178 rfl ?_
                  refine r_cV (as := []) i_205_179 rfl (by decide +kernel) (Nat.le_of_ble_eq_true rfl) (Nat.le_of_ble_eq_true rfl) (hly 90 _ rfl) rfl ?_
                  refine c_175  hly hF hG_12 hA71  (fun G_13 A_14 hG_13 hA_14 fg14 fa14 p14_0 => ?_)
                  show Re L xs 205 182 [(0, .ref 90), (1, V gap), (2, V most), (3, V asked), (4, V mask), (5, V p), (6, V l6), (7, V l7)] [] (HP ly F G_13 A_14 B) _
                  refine r_iload_n i_205_182 rfl ?_
                  exact r_iret i_205_183 rfl rfl (K asked G_13 A_14 hG_13 hA_14 (by intro a k hh; rw [fg14 a k (by omega), eG_12, up2_n (by omega), fg71 a k (by omega), fg5 a k (by omega)]) (by intro a hh; rw [fa14 a (by omega), fa71 a (by omega), fa8 a (by omega), fa5 a (by omega)]) (by exact MI_kn hm (by intro a k hh; rw [fg14 a k (by omega), eG_12, up2_n (by omega), fg71 a k (by omega), fg5 a k (by omega)]) (by intro a hh; rw [fa14 a (by omega), fa71 a (by omega), fa8 a (by omega), fa5 a (by omega)]) ⟨by rw [fg14 90 58 (by omega), eG_12, up2_s], fun q hq => rdV_c (hkn.2.1 q (by rw [show G_13 90 38 = G 90 38 from by rw [fg14 90 38 (by omega), eG_12, up2_n (by omega), fg71 90 38 (by omega), fg5 90 38 (by omega)]] at hq; omega)) (by rw [e32]; rw [fg14 90 32 (by omega), eG_12, up2_n (by omega), fg71 90 32 (by omega), fg5 90 32 (by omega)]) (by rw [fa14 122 (by omega), fa71 122 (by omega)]) (by rw [fa14 125 (by omega), fa71 125 (by omega)]) (by rw [fa14 107 (by omega), fa71 107 (by omega)]), p14_0⟩))
                · skip
                  refine r_iload i_205_80 rfl ?_
                  refine r_iload i_205_82 rfl ?_
                  refine r_bin (z := (Int32.ofInt mask >>> (Int32.ofInt p &&& 31)).toInt) i_205_84 rfl (oI_of _) ?_
                  refine r_iconst i_205_85 ?_
                  refine r_bin (z := (Int32.ofInt ((Int32.ofInt mask >>> (Int32.ofInt p &&& 31)).toInt) &&& Int32.ofInt 1).toInt) i_205_86 rfl (oI_of _) ?_
                  have hzz : inR ((Int32.ofInt ((Int32.ofInt mask >>> (Int32.ofInt p &&& 31)).toInt) &&& Int32.ofInt 1).toInt) := x_rng _
                  refine r_ne0 (t := 93) i_205_87 (by decide) (by omega) (fun c_15 => ?_) (fun c_15 => ?_)
                  · skip
                    refine r_aload_n i_205_93 rfl ?_
                    refine r_iload i_205_94 rfl ?_
                    refine r_putIQ i_205_96 (by decide +kernel) (hly 90 _ rfl) (fun G_16 eG_16 => ?_)
                    have hG_16 : GO G_16 := by rw [eG_16]; exact gu_90_58 hG71 (by omega) (by omega)
                    refine r_aload_n i_205_99 rfl ?_
                    refine r_aload_n i_205_100 rfl ?_
                    refine r_getF (v := .ref 130) i_205_101 rfl (hly 90 _ rfl) (hF.1 90 60 130 rfl) ?_
                    refine r_iload i_205_104 rfl ?_
                    refine r_iald i_205_106 (hly 130 _ rfl) (by omega) (by omega) (by omega) ?_
                    rw [show A71 130 = A_8 130 from by rw [fa71 130 (by omega)]]
                    have q_17 := a_130 hA_8 (p.toNat)
                    refine r_putIQ i_205_107 (by decide +kernel) (hly 90 _ rfl) (fun G_18 eG_18 => ?_)
                    have hG_18 : GO G_18 := by rw [eG_18]; exact gu_90_59 hG_16 (by omega) (by omega)
                    refine r_aload_n i_205_110 rfl ?_
                    refine r_cV (as := []) i_205_111 rfl (by decide +kernel) (Nat.le_of_ble_eq_true rfl) (Nat.le_of_ble_eq_true rfl) (hly 90 _ rfl) rfl ?_
                    refine c_175  hly hF hG_18 hA71  (fun G_19 A_20 hG_19 hA_20 fg20 fa20 p20_0 => ?_)
                    show Re L xs 205 114 [(0, .ref 90), (1, V gap), (2, V most), (3, V asked), (4, V mask), (5, V p), (6, V l6), (7, V l7)] [] (HP ly F G_19 A_20 B) _
                    refine r_iconst i_205_114 ?_
                    refine r_istore (l' := [(0, .ref 90), (1, V gap), (2, V most), (3, V asked), (4, V mask), (5, V p), (6, V 0), (7, V l7)]) i_205_115 (by decide +kernel) rfl ?_
                    refine r_iconst i_205_117 ?_
                    refine r_istore (l' := [(0, .ref 90), (1, V gap), (2, V most), (3, V asked), (4, V mask), (5, V p), (6, V 0), (7, V 0)]) i_205_118 (by decide +kernel) rfl ?_
                    have lp120B : ∀ (nf : Nat) (found : Int) (q : Int), (0 ≤ q ∧ q ≤ 14) → (0 ≤ found ∧ found ≤ q) → (20 - q).toNat < nf → Re L xs 205 120 [(0, .ref 90), (1, V gap), (2, V most), (3, V asked), (4, V mask), (5, V p), (6, V found), (7, V q)] [] (HP ly F G_19 A_20 B) Q := by
                      intro nf
                      induction nf with
                      | zero => intros; omega
                      | succ nf ih120B =>
                        intro found q  hq hf hm120
                        refine r_iload i_205_120 rfl ?_
                        refine r_aload_n i_205_122 rfl ?_
                        refine r_getI i_205_123 rfl (hly 90 _ rfl) ?_
                        rw [show G_19 90 38 = G 90 38 from by rw [fg20 90 38 (by omega), eG_18, up2_n (by omega), eG_16, up2_n (by omega), fg71 90 38 (by omega), fg5 90 38 (by omega)]]
                        refine r_cge (t := 155) i_205_126 (by decide) (by omega) (by omega) (fun c_21 => ?_) (fun c_21 => ?_)
                        · skip
                          refine r_iload i_205_155 rfl ?_
                          refine r_iload_n i_205_157 rfl ?_
                          refine r_cle (t := 167) i_205_158 (by decide) (by omega) (by omega) (fun c_22 => ?_) (fun c_22 => ?_)
                          · skip
                            refine r_iinc (l' := [(0, .ref 90), (1, V gap), (2, V most), (3, V asked), (4, V mask), (5, V (p + 1)), (6, V found), (7, V q)]) i_205_167 rfl (by decide +kernel) rfl ?_
                            refine r_go (t := 71) i_205_170 (by decide) ?_
                            exact ih71B most asked (p + 1) found q G_19 A_20 hG_19 hA_20 (by intro a k hh; rw [fg20 a k (by omega), eG_18, up2_n (by omega), eG_16, up2_n (by omega), fg71 a k (by omega)]) (by intro a hh; rw [fa20 a (by omega), fa71 a (by omega)]) (by omega) (by omega) (by omega) (by omega)
                          · skip
                            refine r_iload i_205_161 rfl ?_
                            refine r_istore_n (l' := [(0, .ref 90), (1, V gap), (2, V found), (3, V asked), (4, V mask), (5, V p), (6, V found), (7, V q)]) i_205_163 (by decide +kernel) rfl ?_
                            refine r_iload i_205_164 rfl ?_
                            refine r_istore_n (l' := [(0, .ref 90), (1, V gap), (2, V found), (3, V p), (4, V mask), (5, V p), (6, V found), (7, V q)]) i_205_166 (by decide +kernel) rfl ?_
                            refine r_iinc (l' := [(0, .ref 90), (1, V gap), (2, V found), (3, V p), (4, V mask), (5, V (p + 1)), (6, V found), (7, V q)]) i_205_167 rfl (by decide +kernel) rfl ?_
                            refine r_go (t := 71) i_205_170 (by decide) ?_
                            exact ih71B found p (p + 1) found q G_19 A_20 hG_19 hA_20 (by intro a k hh; rw [fg20 a k (by omega), eG_18, up2_n (by omega), eG_16, up2_n (by omega), fg71 a k (by omega)]) (by intro a hh; rw [fa20 a (by omega), fa71 a (by omega)]) (by omega) (by omega) (by omega) (by omega)
                        · skip
                          refine r_iload i_205_129 rfl ?_
                          have jn146 : ∀ (b : Int), (0 ≤ b ∧ b ≤ 1) → Re L xs 205 146 [(0, .ref 90), (1, V gap), (2, V most), (3, V asked), (4, V mask), (5, V p), (6, V found), (7, V q)] [V b, V found] (HP ly F G_19 A_20 B) Q := by
                            intro b  hb
                            refine r_iadd i_205_146 ?_
                            refine r_istore (l' := [(0, .ref 90), (1, V gap), (2, V most), (3, V asked), (4, V mask), (5, V p), (6, V (found + b)), (7, V q)]) i_205_147 (by decide +kernel) rfl ?_
                            refine r_iinc (l' := [(0, .ref 90), (1, V gap), (2, V most), (3, V asked), (4, V mask), (5, V p), (6, V (found + b)), (7, V (q + 1))]) i_205_149 rfl (by decide +kernel) rfl ?_
                            refine r_go (t := 120) i_205_152 (by decide) ?_
                            exact ih120B (found + b) (q + 1)  (by omega) (by omega) (by omega)
                          have hrv := hkn.2.1 q.toNat (by omega)
                          have hrv1 := hrv.1
                          have hrv2 := hrv.2.1
                          rw [e122] at hrv1 hrv2
                          refine r_aload_n i_205_131 rfl ?_
                          refine r_iload i_205_132 rfl ?_
                          refine r_iload_n i_205_134 rfl ?_
                          refine r_cV (as := [V gap, V q]) i_205_135 rfl (by decide +kernel) (Nat.le_of_ble_eq_true rfl) (Nat.le_of_ble_eq_true rfl) (hly 90 _ rfl) rfl ?_
                          have w_23 : G_19 90 38 = G 90 38 := by rw [fg20 90 38 (by omega), eG_18, up2_n (by omega), eG_16, up2_n (by omega), fg71 90 38 (by omega), fg5 90 38 (by omega)]
                          refine c_202 (p := q) (gap := gap) hly hF hG_19 hA_20 (by omega) (by omega) (by exact p20_0) (by omega) (by rw [show A_20 122 = A_5 122 from by rw [fa20 122 (by omega), fa71 122 (by omega), fa8 122 (by omega)]]; omega) (by omega) (fun r_24 p24_0 => ?_)
                          show Re L xs 205 138 [(0, .ref 90), (1, V gap), (2, V most), (3, V asked), (4, V mask), (5, V p), (6, V found), (7, V q)] [V r_24, V found] (HP ly F G_19 A_20 B) _
                          refine r_eq0 (t := 145) i_205_138 (by decide) (by omega) (fun c_25 => ?_) (fun c_25 => ?_)
                          · skip
                            refine r_iconst i_205_145 ?_
                            exact jn146 0  (by omega)
                          · skip
                            refine r_iconst i_205_141 ?_
                            refine r_go (t := 146) i_205_142 (by decide) ?_
                            exact jn146 1  (by omega)
                    exact lp120B _ 0 0  (by omega) (by omega) (Nat.lt_succ_self _)
                  · skip
                    refine r_go (t := 167) i_205_90 (by decide) ?_
                    refine r_iinc (l' := [(0, .ref 90), (1, V gap), (2, V most), (3, V asked), (4, V mask), (5, V (p + 1)), (6, V l6), (7, V l7)]) i_205_167 rfl (by decide +kernel) rfl ?_
                    refine r_go (t := 71) i_205_170 (by decide) ?_
                    exact ih71B most asked (p + 1) l6 l7 G71 A71 hG71 hA71 (by intro a k hh; rw [fg71 a k (by omega)]) (by intro a hh; rw [fa71 a (by omega)]) (by omega) (by omega) (by omega) (by omega)
            have lp71A235 : ∀ (nf : Nat) (most : Int) (asked : Int) (p : Int) (G71 : Nat → Nat → Int) (A71 : Nat → Nat → Int), (GO G71) → (AQ A71) → (∀ a k, ¬ ((a = 90 ∧ k = 57) ∨ (a = 90 ∧ k = 58) ∨ (a = 90 ∧ k = 59)) → G71 a k = G_4 a k) → (∀ a, ¬ (a = 128 ∨ a = 129) → A71 a = A_8 a) → (0 ≤ p ∧ p ≤ 14) → (-1 ≤ most ∧ most ≤ 14) → (-1 ≤ asked ∧ asked ≤ 13) → (20 - p).toNat < nf → Re L xs 205 71 [(0, .ref 90), (1, V gap), (2, V most), (3, V asked), (4, V mask), (5, V p)] [] (HP ly F G71 A71 B) Q := by
              intro nf
              induction nf with
              | zero => intros; omega
              | succ nf ih71A235 =>
                intro most asked p G71 A71 hG71 hA71 fg71 fa71 hp hmo has hm71
                refine r_iload i_205_71 rfl ?_
                refine r_aload_n i_205_73 rfl ?_
                refine r_getI i_205_74 rfl (hly 90 _ rfl) ?_
                rw [show G71 90 38 = G 90 38 from by rw [fg71 90 38 (by omega), fg5 90 38 (by omega)]]
                refine r_cge (t := 173) i_205_77 (by decide) (by omega) (by omega) (fun c_26 => ?_) (fun c_26 => ?_)
                · skip
                  refine r_aload_n i_205_173 rfl ?_
                  refine r_iconst i_205_174 ?_
                  refine r_putIQ i_205_175 (by decide +kernel) (hly 90 _ rfl) (fun G_27 eG_27 => ?_)
                  have hG_27 : GO G_27 := by rw [eG_27]; exact gu_90_58 hG71 (by omega) (by omega)
                  refine r_aload_n i_205_178 rfl ?_
                  refine r_cV (as := []) i_205_179 rfl (by decide +kernel) (Nat.le_of_ble_eq_true rfl) (Nat.le_of_ble_eq_true rfl) (hly 90 _ rfl) rfl ?_
                  refine c_175  hly hF hG_27 hA71  (fun G_28 A_29 hG_28 hA_29 fg29 fa29 p29_0 => ?_)
                  show Re L xs 205 182 [(0, .ref 90), (1, V gap), (2, V most), (3, V asked), (4, V mask), (5, V p)] [] (HP ly F G_28 A_29 B) _
                  refine r_iload_n i_205_182 rfl ?_
                  exact r_iret i_205_183 rfl rfl (K asked G_28 A_29 hG_28 hA_29 (by intro a k hh; rw [fg29 a k (by omega), eG_27, up2_n (by omega), fg71 a k (by omega), fg5 a k (by omega)]) (by intro a hh; rw [fa29 a (by omega), fa71 a (by omega), fa8 a (by omega), fa5 a (by omega)]) (by exact MI_kn hm (by intro a k hh; rw [fg29 a k (by omega), eG_27, up2_n (by omega), fg71 a k (by omega), fg5 a k (by omega)]) (by intro a hh; rw [fa29 a (by omega), fa71 a (by omega), fa8 a (by omega), fa5 a (by omega)]) ⟨by rw [fg29 90 58 (by omega), eG_27, up2_s], fun q hq => rdV_c (hkn.2.1 q (by rw [show G_28 90 38 = G 90 38 from by rw [fg29 90 38 (by omega), eG_27, up2_n (by omega), fg71 90 38 (by omega), fg5 90 38 (by omega)]] at hq; omega)) (by rw [e32]; rw [fg29 90 32 (by omega), eG_27, up2_n (by omega), fg71 90 32 (by omega), fg5 90 32 (by omega)]) (by rw [fa29 122 (by omega), fa71 122 (by omega)]) (by rw [fa29 125 (by omega), fa71 125 (by omega)]) (by rw [fa29 107 (by omega), fa71 107 (by omega)]), p29_0⟩))
                · skip
                  refine r_iload i_205_80 rfl ?_
                  refine r_iload i_205_82 rfl ?_
                  refine r_bin (z := (Int32.ofInt mask >>> (Int32.ofInt p &&& 31)).toInt) i_205_84 rfl (oI_of _) ?_
                  refine r_iconst i_205_85 ?_
                  refine r_bin (z := (Int32.ofInt ((Int32.ofInt mask >>> (Int32.ofInt p &&& 31)).toInt) &&& Int32.ofInt 1).toInt) i_205_86 rfl (oI_of _) ?_
                  have hzz : inR ((Int32.ofInt ((Int32.ofInt mask >>> (Int32.ofInt p &&& 31)).toInt) &&& Int32.ofInt 1).toInt) := x_rng _
                  refine r_ne0 (t := 93) i_205_87 (by decide) (by omega) (fun c_30 => ?_) (fun c_30 => ?_)
                  · skip
                    refine r_aload_n i_205_93 rfl ?_
                    refine r_iload i_205_94 rfl ?_
                    refine r_putIQ i_205_96 (by decide +kernel) (hly 90 _ rfl) (fun G_31 eG_31 => ?_)
                    have hG_31 : GO G_31 := by rw [eG_31]; exact gu_90_58 hG71 (by omega) (by omega)
                    refine r_aload_n i_205_99 rfl ?_
                    refine r_aload_n i_205_100 rfl ?_
                    refine r_getF (v := .ref 130) i_205_101 rfl (hly 90 _ rfl) (hF.1 90 60 130 rfl) ?_
                    refine r_iload i_205_104 rfl ?_
                    refine r_iald i_205_106 (hly 130 _ rfl) (by omega) (by omega) (by omega) ?_
                    rw [show A71 130 = A_8 130 from by rw [fa71 130 (by omega)]]
                    have q_32 := a_130 hA_8 (p.toNat)
                    refine r_putIQ i_205_107 (by decide +kernel) (hly 90 _ rfl) (fun G_33 eG_33 => ?_)
                    have hG_33 : GO G_33 := by rw [eG_33]; exact gu_90_59 hG_31 (by omega) (by omega)
                    refine r_aload_n i_205_110 rfl ?_
                    refine r_cV (as := []) i_205_111 rfl (by decide +kernel) (Nat.le_of_ble_eq_true rfl) (Nat.le_of_ble_eq_true rfl) (hly 90 _ rfl) rfl ?_
                    refine c_175  hly hF hG_33 hA71  (fun G_34 A_35 hG_34 hA_35 fg35 fa35 p35_0 => ?_)
                    show Re L xs 205 114 [(0, .ref 90), (1, V gap), (2, V most), (3, V asked), (4, V mask), (5, V p)] [] (HP ly F G_34 A_35 B) _
                    refine r_iconst i_205_114 ?_
                    refine r_istore (l' := [(0, .ref 90), (1, V gap), (2, V most), (3, V asked), (4, V mask), (5, V p), (6, V 0)]) i_205_115 (by decide +kernel) rfl ?_
                    refine r_iconst i_205_117 ?_
                    refine r_istore (l' := [(0, .ref 90), (1, V gap), (2, V most), (3, V asked), (4, V mask), (5, V p), (6, V 0), (7, V 0)]) i_205_118 (by decide +kernel) rfl ?_
                    have lp120B : ∀ (nf : Nat) (found : Int) (q : Int), (0 ≤ q ∧ q ≤ 14) → (0 ≤ found ∧ found ≤ q) → (20 - q).toNat < nf → Re L xs 205 120 [(0, .ref 90), (1, V gap), (2, V most), (3, V asked), (4, V mask), (5, V p), (6, V found), (7, V q)] [] (HP ly F G_34 A_35 B) Q := by
                      intro nf
                      induction nf with
                      | zero => intros; omega
                      | succ nf ih120B =>
                        intro found q  hq hf hm120
                        refine r_iload i_205_120 rfl ?_
                        refine r_aload_n i_205_122 rfl ?_
                        refine r_getI i_205_123 rfl (hly 90 _ rfl) ?_
                        rw [show G_34 90 38 = G 90 38 from by rw [fg35 90 38 (by omega), eG_33, up2_n (by omega), eG_31, up2_n (by omega), fg71 90 38 (by omega), fg5 90 38 (by omega)]]
                        refine r_cge (t := 155) i_205_126 (by decide) (by omega) (by omega) (fun c_36 => ?_) (fun c_36 => ?_)
                        · skip
                          refine r_iload i_205_155 rfl ?_
                          refine r_iload_n i_205_157 rfl ?_
                          refine r_cle (t := 167) i_205_158 (by decide) (by omega) (by omega) (fun c_37 => ?_) (fun c_37 => ?_)
                          · skip
                            refine r_iinc (l' := [(0, .ref 90), (1, V gap), (2, V most), (3, V asked), (4, V mask), (5, V (p + 1)), (6, V found), (7, V q)]) i_205_167 rfl (by decide +kernel) rfl ?_
                            refine r_go (t := 71) i_205_170 (by decide) ?_
                            exact lp71B _ most asked (p + 1) found q G_34 A_35 hG_34 hA_35 (by intro a k hh; rw [fg35 a k (by omega), eG_33, up2_n (by omega), eG_31, up2_n (by omega), fg71 a k (by omega)]) (by intro a hh; rw [fa35 a (by omega), fa71 a (by omega)]) (by omega) (by omega) (by omega) (Nat.lt_succ_self _)
                          · skip
                            refine r_iload i_205_161 rfl ?_
                            refine r_istore_n (l' := [(0, .ref 90), (1, V gap), (2, V found), (3, V asked), (4, V mask), (5, V p), (6, V found), (7, V q)]) i_205_163 (by decide +kernel) rfl ?_
                            refine r_iload i_205_164 rfl ?_
                            refine r_istore_n (l' := [(0, .ref 90), (1, V gap), (2, V found), (3, V p), (4, V mask), (5, V p), (6, V found), (7, V q)]) i_205_166 (by decide +kernel) rfl ?_
                            refine r_iinc (l' := [(0, .ref 90), (1, V gap), (2, V found), (3, V p), (4, V mask), (5, V (p + 1)), (6, V found), (7, V q)]) i_205_167 rfl (by decide +kernel) rfl ?_
                            refine r_go (t := 71) i_205_170 (by decide) ?_
                            exact lp71B _ found p (p + 1) found q G_34 A_35 hG_34 hA_35 (by intro a k hh; rw [fg35 a k (by omega), eG_33, up2_n (by omega), eG_31, up2_n (by omega), fg71 a k (by omega)]) (by intro a hh; rw [fa35 a (by omega), fa71 a (by omega)]) (by omega) (by omega) (by omega) (Nat.lt_succ_self _)
                        · skip
                          refine r_iload i_205_129 rfl ?_
                          have jn146 : ∀ (b : Int), (0 ≤ b ∧ b ≤ 1) → Re L xs 205 146 [(0, .ref 90), (1, V gap), (2, V most), (3, V asked), (4, V mask), (5, V p), (6, V found), (7, V q)] [V b, V found] (HP ly F G_34 A_35 B) Q := by
                            intro b  hb
                            refine r_iadd i_205_146 ?_
                            refine r_istore (l' := [(0, .ref 90), (1, V gap), (2, V most), (3, V asked), (4, V mask), (5, V p), (6, V (found + b)), (7, V q)]) i_205_147 (by decide +kernel) rfl ?_
                            refine r_iinc (l' := [(0, .ref 90), (1, V gap), (2, V most), (3, V asked), (4, V mask), (5, V p), (6, V (found + b)), (7, V (q + 1))]) i_205_149 rfl (by decide +kernel) rfl ?_
                            refine r_go (t := 120) i_205_152 (by decide) ?_
                            exact ih120B (found + b) (q + 1)  (by omega) (by omega) (by omega)
                          have hrv := hkn.2.1 q.toNat (by omega)
                          have hrv1 := hrv.1
                          have hrv2 := hrv.2.1
                          rw [e122] at hrv1 hrv2
                          refine r_aload_n i_205_131 rfl ?_
                          refine r_iload i_205_132 rfl ?_
                          refine r_iload_n i_205_134 rfl ?_
                          refine r_cV (as := [V gap, V q]) i_205_135 rfl (by decide +kernel) (Nat.le_of_ble_eq_true rfl) (Nat.le_of_ble_eq_true rfl) (hly 90 _ rfl) rfl ?_
                          have w_38 : G_34 90 38 = G 90 38 := by rw [fg35 90 38 (by omega), eG_33, up2_n (by omega), eG_31, up2_n (by omega), fg71 90 38 (by omega), fg5 90 38 (by omega)]
                          refine c_202 (p := q) (gap := gap) hly hF hG_34 hA_35 (by omega) (by omega) (by exact p35_0) (by omega) (by rw [show A_35 122 = A_5 122 from by rw [fa35 122 (by omega), fa71 122 (by omega), fa8 122 (by omega)]]; omega) (by omega) (fun r_39 p39_0 => ?_)
                          show Re L xs 205 138 [(0, .ref 90), (1, V gap), (2, V most), (3, V asked), (4, V mask), (5, V p), (6, V found), (7, V q)] [V r_39, V found] (HP ly F G_34 A_35 B) _
                          refine r_eq0 (t := 145) i_205_138 (by decide) (by omega) (fun c_40 => ?_) (fun c_40 => ?_)
                          · skip
                            refine r_iconst i_205_145 ?_
                            exact jn146 0  (by omega)
                          · skip
                            refine r_iconst i_205_141 ?_
                            refine r_go (t := 146) i_205_142 (by decide) ?_
                            exact jn146 1  (by omega)
                    exact lp120B _ 0 0  (by omega) (by omega) (Nat.lt_succ_self _)
                  · skip
                    refine r_go (t := 167) i_205_90 (by decide) ?_
                    refine r_iinc (l' := [(0, .ref 90), (1, V gap), (2, V most), (3, V asked), (4, V mask), (5, V (p + 1))]) i_205_167 rfl (by decide +kernel) rfl ?_
                    refine r_go (t := 71) i_205_170 (by decide) ?_
                    exact ih71A235 most asked (p + 1) G71 A71 hG71 hA71 (by intro a k hh; rw [fg71 a k (by omega)]) (by intro a hh; rw [fa71 a (by omega)]) (by omega) (by omega) (by omega) (by omega)
            exact lp71A235 _ ((-1)) ((-1)) 0 G_4 A_8 hG_4 hA_8 (by intro a k hh; rfl) (by intro a hh; rfl) (by omega) (by omega) (by omega) (Nat.lt_succ_self _)
          · skip
            refine r_iload i_205_39 rfl ?_
            have jn59 : ∀ (bit : Int), Re L xs 205 59 [(0, .ref 90), (1, V gap), (2, V ((-1))), (3, V ((-1))), (4, V mask), (5, V p)] [V bit, V mask] (HP ly F G_4 A_8 B) Q := by
              intro bit  
              refine r_bin (z := (Int32.ofInt mask ||| Int32.ofInt bit).toInt) i_205_59 rfl (oI_of _) ?_
              refine r_istore (l' := [(0, .ref 90), (1, V gap), (2, V ((-1))), (3, V ((-1))), (4, V ((Int32.ofInt mask ||| Int32.ofInt bit).toInt)), (5, V p)]) i_205_60 (by decide +kernel) rfl ?_
              refine r_iinc (l' := [(0, .ref 90), (1, V gap), (2, V ((-1))), (3, V ((-1))), (4, V ((Int32.ofInt mask ||| Int32.ofInt bit).toInt)), (5, V (p + 1))]) i_205_62 rfl (by decide +kernel) rfl ?_
              refine r_go (t := 30) i_205_65 (by decide) ?_
              exact ih30B ((Int32.ofInt mask ||| Int32.ofInt bit).toInt) (p + 1)  (by omega) (by omega)
            have hrv := hkn.2.1 p.toNat (by omega)
            have hrv1 := hrv.1
            have hrv2 := hrv.2.1
            rw [e122] at hrv1 hrv2
            refine r_aload_n i_205_41 rfl ?_
            refine r_iload i_205_42 rfl ?_
            refine r_iload_n i_205_44 rfl ?_
            refine r_cV (as := [V gap, V p]) i_205_45 rfl (by decide +kernel) (Nat.le_of_ble_eq_true rfl) (Nat.le_of_ble_eq_true rfl) (hly 90 _ rfl) rfl ?_
            have w_41 : G_4 90 38 = G 90 38 := by rw [fg5 90 38 (by omega)]
            refine c_202 (p := p) (gap := gap) hly hF hG_4 hA_8 (by omega) (by omega) (by exact hkn.2.2) (by omega) (by rw [show A_8 122 = A_5 122 from by rw [fa8 122 (by omega)]]; omega) (by omega) (fun r_42 p42_0 => ?_)
            show Re L xs 205 48 [(0, .ref 90), (1, V gap), (2, V ((-1))), (3, V ((-1))), (4, V mask), (5, V p)] [V r_42, V mask] (HP ly F G_4 A_8 B) _
            refine r_eq0 (t := 55) i_205_48 (by decide) (by omega) (fun c_43 => ?_) (fun c_43 => ?_)
            · skip
              refine r_iconst i_205_55 ?_
              refine r_iload i_205_56 rfl ?_
              refine r_bin (z := (Int32.ofInt 1 <<< (Int32.ofInt p &&& 31)).toInt) i_205_58 rfl (oI_of _) ?_
              exact jn59 ((Int32.ofInt 1 <<< (Int32.ofInt p &&& 31)).toInt)  
            · skip
              refine r_iconst i_205_51 ?_
              refine r_go (t := 59) i_205_52 (by decide) ?_
              exact jn59 0  
      exact lp30B _ 0 0  (by omega) (Nat.lt_succ_self _)
    · skip
      refine r_iconst i_205_14 ?_
      exact r_iret i_205_15 rfl rfl (K ((-1)) G_4 A_5 hG_4 hA_5 (by intro a k hh; rw [fg5 a k (by omega)]) (by intro a hh; rw [fa5 a (by omega)]) (by first | exact hm | exact p5_0))
set_option maxHeartbeats 4000000 in
theorem c_206 {L : Nat} {xs : Nat → Int32} {ly : List LK} {F : Nat → Nat → Value} {G A : Nat → Nat → Int} {B : Nat → Nat → Int64} {Q : Option Value → AH → Prop} {p : Int} {r0 : Int} (hly : LyOk ly) (hF : RfOk F) (hG : GO G) (hA : AQ A) (in_p : inR p) (in_r0 : inR r0) (hm : MI G A) (K : ∀ (r : Int) (G' : Nat → Nat → Int) (A' : Nat → Nat → Int), (GO G') → (AQ A') → (∀ a k, ¬ ((a = 90 ∧ k = 53) ∨ (a = 90 ∧ k = 56) ∨ (a = 90 ∧ k = 57) ∨ (a = 90 ∧ k = 58) ∨ (a = 90 ∧ k = 66)) → G' a k = G a k) → (∀ a, ¬ (a = 121 ∨ a = 122 ∨ a = 123 ∨ a = 124 ∨ a = 125 ∨ a = 126 ∨ a = 128 ∨ a = 129 ∨ a = 127 ∨ a = 132 ∨ a = 133 ∨ a = 134 ∨ a = 135) → A' a = A a) → (MI G' A') → Q (some (V r)) (HP ly F G' A' B)) : Re L xs 206 0 [(0, .ref 90), (1, V p), (2, V r0)] [] (HP ly F G A B) Q := by
  have z38 := g_90_38 hG
  have z66 := g_90_66 hG
  refine r_aload_n i_206_0 rfl ?_
  refine r_iload_n i_206_1 rfl ?_
  refine r_iload_n i_206_2 rfl ?_
  refine r_cV (as := [V r0, V p]) i_206_3 rfl (by decide +kernel) (Nat.le_of_ble_eq_true rfl) (Nat.le_of_ble_eq_true rfl) (hly 90 _ rfl) rfl ?_
  have q_1 := g_90_38 hG
  refine c_185 (p := p) (r0 := r0) hly hF hG hA (by omega) (by omega) (by omega) (fun r_2 G_3 A_4 hG_3 hA_4 fg4 fa4 p4_0 p4_1 p4_2 p4_3 => ?_)
  show Re L xs 206 6 [(0, .ref 90), (1, V p), (2, V r0)] [V r_2] (HP ly F G_3 A_4 B) _
  refine r_eq0 (t := 32) i_206_6 (by decide) (by omega) (fun c_5 => ?_) (fun c_5 => ?_)
  · skip
    refine r_iconst i_206_32 ?_
    exact r_iret i_206_33 rfl rfl (K ((-1)) G_3 A_4 hG_3 hA_4 (by intro a k hh; rw [fg4 a k (by omega)]) (by intro a hh; rw [fa4 a (by omega)]) (by exact p4_0))
  · skip
    have hpr := p4_2 (by omega)
    have z122 := a_122 hA_4 p.toNat
    have hkn := p4_3 (by omega)
    have e66 : G_3 90 66 = G 90 66 := by rw [fg4 90 66 (by omega)]
    have e38 : G_3 90 38 = G 90 38 := by rw [fg4 90 38 (by omega)]
    have e127 : A_4 127 = A 127 := by rw [fa4 127 (by omega)]
    refine r_aload_n i_206_9 rfl ?_
    refine r_getF (v := .ref 125) i_206_10 rfl (hly 90 _ rfl) (hF.1 90 50 125 rfl) ?_
    refine r_bipush i_206_13 (by decide) ?_
    refine r_iload_n i_206_15 rfl ?_
    refine r_imul i_206_16 ?_
    refine r_iload_n i_206_17 rfl ?_
    refine r_iadd i_206_18 ?_
    refine r_iald i_206_19 (hly 125 _ rfl) (by omega) (by omega) (by omega) ?_
    have q_6 := a_125 hA_4 (((13 * p) + r0).toNat)
    refine r_lt0 (t := 32) i_206_20 (by decide) (by omega) (fun c_7 => ?_) (fun c_7 => ?_)
    · skip
      refine r_iconst i_206_32 ?_
      exact r_iret i_206_33 rfl rfl (K ((-1)) G_3 A_4 hG_3 hA_4 (by intro a k hh; rw [fg4 a k (by omega)]) (by intro a hh; rw [fa4 a (by omega)]) (by exact p4_0))
    · skip
      refine r_aload_n i_206_23 rfl ?_
      refine r_getI i_206_24 rfl (hly 90 _ rfl) ?_
      rw [show G_3 90 66 = G 90 66 from by rw [fg4 90 66 (by omega)]]
      have q_8 := g_90_66 hG
      refine r_bipush i_206_27 (by decide) ?_
      refine r_cne (t := 34) i_206_29 (by decide) (by omega) (by omega) (fun c_9 => ?_) (fun c_9 => ?_)
      · skip
        refine r_aload_n i_206_34 rfl ?_
        refine r_getF (v := .ref 125) i_206_35 rfl (hly 90 _ rfl) (hF.1 90 50 125 rfl) ?_
        refine r_bipush i_206_38 (by decide) ?_
        refine r_iload_n i_206_40 rfl ?_
        refine r_imul i_206_41 ?_
        refine r_iload_n i_206_42 rfl ?_
        refine r_iadd i_206_43 ?_
        refine r_iald i_206_44 (hly 125 _ rfl) (by omega) (by omega) (by omega) ?_
        refine r_istore_n (l' := [(0, .ref 90), (1, V p), (2, V r0), (3, V (A_4 125 (((13 * p) + r0).toNat)))]) i_206_45 (by decide +kernel) rfl ?_
        have hw1 := (hkn.2.1 p.toNat (by omega)).2.2 r0.toNat (by omega)
        have hidx : 13 * p.toNat + r0.toNat = (13 * p + r0).toNat := by omega
        rw [hidx] at hw1
        refine r_aload_n i_206_46 rfl ?_
        refine r_getF (v := .ref 132) i_206_47 rfl (hly 90 _ rfl) (hF.1 90 62 132 rfl) ?_
        refine r_aload_n i_206_50 rfl ?_
        refine r_getI i_206_51 rfl (hly 90 _ rfl) ?_
        rw [show G_3 90 66 = G 90 66 from by rw [fg4 90 66 (by omega)]]
        refine r_iload_n i_206_54 rfl ?_
        refine r_iastQ i_206_55 (hly 132 _ rfl) (by omega) (by omega) (by omega) (fun A_10 eA_10 => ?_)
        have hA_10 : AQ A_10 := by rw [eA_10]; exact au_132 hA_4 (by omega) (by omega)
        refine r_aload_n i_206_56 rfl ?_
        refine r_getF (v := .ref 133) i_206_57 rfl (hly 90 _ rfl) (hF.1 90 63 133 rfl) ?_
        refine r_aload_n i_206_60 rfl ?_
        refine r_getI i_206_61 rfl (hly 90 _ rfl) ?_
        rw [show G_3 90 66 = G 90 66 from by rw [fg4 90 66 (by omega)]]
        refine r_iload_n i_206_64 rfl ?_
        refine r_iastQ i_206_65 (hly 133 _ rfl) (by omega) (by omega) (by omega) (fun A_11 eA_11 => ?_)
        have hA_11 : AQ A_11 := by rw [eA_11]; exact au_133 hA_10 (by omega) (by omega)
        refine r_aload_n i_206_66 rfl ?_
        refine r_getF (v := .ref 134) i_206_67 rfl (hly 90 _ rfl) (hF.1 90 64 134 rfl) ?_
        refine r_aload_n i_206_70 rfl ?_
        refine r_getI i_206_71 rfl (hly 90 _ rfl) ?_
        rw [show G_3 90 66 = G 90 66 from by rw [fg4 90 66 (by omega)]]
        refine r_aload_n i_206_74 rfl ?_
        refine r_getI i_206_75 rfl (hly 90 _ rfl) ?_
        rw [show G_3 90 41 = G 90 41 from by rw [fg4 90 41 (by omega)]]
        have q_12 := g_90_41 hG
        refine r_iastQ i_206_78 (hly 134 _ rfl) (by omega) (by omega) (by omega) (fun A_13 eA_13 => ?_)
        have hA_13 : AQ A_13 := by rw [eA_13]; exact au_134 hA_11 (by omega) (by omega)
        refine r_aload_n i_206_79 rfl ?_
        refine r_getF (v := .ref 135) i_206_80 rfl (hly 90 _ rfl) (hF.1 90 65 135 rfl) ?_
        refine r_aload_n i_206_83 rfl ?_
        refine r_getI i_206_84 rfl (hly 90 _ rfl) ?_
        rw [show G_3 90 66 = G 90 66 from by rw [fg4 90 66 (by omega)]]
        refine r_iconst i_206_87 ?_
        refine r_zastQ i_206_88 (hly 135 _ rfl) (by omega) (by omega) (by omega) (by omega) (fun A_14 eA_14 => ?_)
        have hA_14 : AQ A_14 := by rw [eA_14]; exact au_135 hA_13 (by omega) (by omega)
        refine r_aload_n i_206_89 rfl ?_
        refine re_nx i_206_90 rfl ?_
        refine r_getI i_206_91 rfl (hly 90 _ rfl) ?_
        rw [show G_3 90 66 = G 90 66 from by rw [fg4 90 66 (by omega)]]
        refine r_iconst i_206_94 ?_
        refine r_iadd i_206_95 ?_
        refine r_putIQ i_206_96 (by decide +kernel) (hly 90 _ rfl) (fun G_15 eG_15 => ?_)
        have hG_15 : GO G_15 := by rw [eG_15]; exact gu_90_66 hG_3 (by omega) (by omega)
        have hlt := lt_up (w := (A_4 125 (((13 * p) + r0).toNat))) p4_0 (by omega) (by omega) (by rw [e66]; omega)
        rw [e127] at hlt
        refine r_aload_n i_206_99 rfl ?_
        refine r_getF (v := .ref 127) i_206_100 rfl (hly 90 _ rfl) (hF.1 90 52 127 rfl) ?_
        refine r_iload_n i_206_103 rfl ?_
        refine re_nx i_206_104 rfl ?_
        refine r_iald i_206_105 (hly 127 _ rfl) (by omega) (by omega) (by omega) ?_
        rw [show A_14 127 = A 127 from by rw [eA_14, up2_a (by omega), eA_13, up2_a (by omega), eA_11, up2_a (by omega), eA_10, up2_a (by omega), fa4 127 (by omega)]]
        have q_16 := a_127 hA ((A_4 125 (((13 * p) + r0).toNat)).toNat)
        refine r_iconst i_206_106 ?_
        refine r_iadd i_206_107 ?_
        refine r_iastQ i_206_108 (hly 127 _ rfl) (by omega) (by omega) (by omega) (fun A_17 eA_17 => ?_)
        have hA_17 : AQ A_17 := by rw [eA_17]; exact au_127 hA_14 (by omega) (by omega)
        have x132_1 : A_10 132 = fun i => if i = (G 90 66).toNat then A_4 125 (((13 * p) + r0).toNat) else A_4 132 i := by rw [eA_10, up2_f]
        have x132 : A_17 132 = fun i => if i = (G 90 66).toNat then A_4 125 (((13 * p) + r0).toNat) else A_4 132 i := by rw [eA_17, up2_a (by omega), eA_14, up2_a (by omega), eA_13, up2_a (by omega), eA_11, up2_a (by omega), x132_1]
        have x135_1 : A_14 135 = fun i => if i = (G 90 66).toNat then 0 else A_4 135 i := by rw [eA_14, up2_f, eA_13, up2_a (by omega), eA_11, up2_a (by omega), eA_10, up2_a (by omega)]
        have x135 : A_17 135 = fun i => if i = (G 90 66).toNat then 0 else A_4 135 i := by rw [eA_17, up2_a (by omega), x135_1]
        have x127_1 : A_17 127 = fun i => if i = (A_4 125 (((13 * p) + r0).toNat)).toNat then (A 127 ((A_4 125 (((13 * p) + r0).toNat)).toNat)) + 1 else A_4 127 i := by rw [eA_17, up2_f, eA_14, up2_a (by omega), eA_13, up2_a (by omega), eA_11, up2_a (by omega), eA_10, up2_a (by omega)]
        have x127 : A_17 127 = fun i => if i = (A_4 125 (((13 * p) + r0).toNat)).toNat then (A 127 ((A_4 125 (((13 * p) + r0).toNat)).toNat)) + 1 else A_4 127 i := by rw [x127_1]
        refine r_aload_n i_206_109 rfl ?_
        refine r_iconst i_206_110 ?_
        refine r_putZQ i_206_111 (by decide +kernel) (hly 90 _ rfl) (by omega) (fun G_18 eG_18 => ?_)
        have hG_18 : GO G_18 := by rw [eG_18]; exact gu_90_53 hG_15 (by omega) (by omega)
        refine r_aload_n i_206_114 rfl ?_
        refine r_getI i_206_115 rfl (hly 90 _ rfl) ?_
        rw [show G_18 90 66 = (G 90 66) + 1 from by rw [eG_18, up2_n (by omega), eG_15, up2_s]]
        refine r_iconst i_206_118 ?_
        refine r_isub i_206_119 ?_
        exact r_iret i_206_120 rfl rfl (K (((G 90 66) + 1) - 1) G_18 A_17 hG_18 hA_17 (by intro a k hh; rw [eG_18, up2_n (by omega), eG_15, up2_n (by omega), fg4 a k (by omega)]) (by intro a hh; rw [eA_17, up2_a (by omega), eA_14, up2_a (by omega), eA_13, up2_a (by omega), eA_11, up2_a (by omega), eA_10, up2_a (by omega), fa4 a (by omega)]) (by exact MI_st (G := G_3) (A := A_4) (w := (A_4 125 (((13 * p) + r0).toNat))) p4_0 e66 (by omega) (by omega) (by omega) (by omega) (by intro a k hh; rw [eG_18, up2_n (by omega), eG_15, up2_n (by omega)]) (by rw [eG_18, up2_n (by omega), eG_15, up2_s]) (by rw [eG_18, up2_s]) x132 x135 (by rw [x127, e127]) (by intro a hh; rw [eA_17, up2_a (by omega), eA_14, up2_a (by omega), eA_13, up2_a (by omega), eA_11, up2_a (by omega), eA_10, up2_a (by omega)])))
      · skip
        refine r_iconst i_206_32 ?_
        exact r_iret i_206_33 rfl rfl (K ((-1)) G_3 A_4 hG_3 hA_4 (by intro a k hh; rw [fg4 a k (by omega)]) (by intro a hh; rw [fa4 a (by omega)]) (by exact p4_0))
set_option maxHeartbeats 4000000 in
theorem c_207 {L : Nat} {xs : Nat → Int32} {ly : List LK} {F : Nat → Nat → Value} {G A : Nat → Nat → Int} {B : Nat → Nat → Int64} {Q : Option Value → AH → Prop} {hand : Int} (hly : LyOk ly) (hF : RfOk F) (hG : GO G) (hA : AQ A) (in_hand : inR hand) (hm : MI G A) (K : ∀ (r : Int) (G' : Nat → Nat → Int) (A' : Nat → Nat → Int), (GO G') → (AQ A') → (∀ a k, ¬ ((a = 90 ∧ k = 53)) → G' a k = G a k) → (∀ a, ¬ (a = 127 ∨ a = 135) → A' a = A a) → (MI G' A') → Q (some (V r)) (HP ly F G' A' B)) : Re L xs 207 0 [(0, .ref 90), (1, V hand)] [] (HP ly F G A B) Q := by
  have z66 := g_90_66 hG
  refine r_iload_n i_207_0 rfl ?_
  refine r_lt0 (t := 21) i_207_1 (by decide) (by omega) (fun c_1 => ?_) (fun c_1 => ?_)
  · skip
    refine r_iconst i_207_21 ?_
    exact r_iret i_207_22 rfl (nar_Z (by omega)) (K 0 G A hG hA (by intro a k hh; rfl) (by intro a hh; rfl) (by exact hm))
  · skip
    refine r_iload_n i_207_4 rfl ?_
    refine r_aload_n i_207_5 rfl ?_
    refine r_getI i_207_6 rfl (hly 90 _ rfl) ?_
    have q_2 := g_90_66 hG
    refine r_cge (t := 21) i_207_9 (by decide) (by omega) (by omega) (fun c_3 => ?_) (fun c_3 => ?_)
    · skip
      refine r_iconst i_207_21 ?_
      exact r_iret i_207_22 rfl (nar_Z (by omega)) (K 0 G A hG hA (by intro a k hh; rfl) (by intro a hh; rfl) (by exact hm))
    · skip
      refine r_aload_n i_207_12 rfl ?_
      refine r_getF (v := .ref 135) i_207_13 rfl (hly 90 _ rfl) (hF.1 90 65 135 rfl) ?_
      refine r_iload_n i_207_16 rfl ?_
      refine r_zald i_207_17 (hly 135 _ rfl) (by omega) (by omega) (by omega) ?_
      have q_4 := a_135 hA (hand.toNat)
      refine r_eq0 (t := 23) i_207_18 (by decide) (by omega) (fun c_5 => ?_) (fun c_5 => ?_)
      · skip
        refine r_aload_n i_207_23 rfl ?_
        refine r_getF (v := .ref 135) i_207_24 rfl (hly 90 _ rfl) (hF.1 90 65 135 rfl) ?_
        refine r_iload_n i_207_27 rfl ?_
        refine r_iconst i_207_28 ?_
        refine r_zastQ i_207_29 (hly 135 _ rfl) (by omega) (by omega) (by omega) (by omega) (fun A_6 eA_6 => ?_)
        have hA_6 : AQ A_6 := by rw [eA_6]; exact au_135 hA (by omega) (by omega)
        have hlp := lt_pos (j := hand) hm hA (by omega) (by omega) (by omega)
        refine r_aload_n i_207_30 rfl ?_
        refine r_getF (v := .ref 127) i_207_31 rfl (hly 90 _ rfl) (hF.1 90 52 127 rfl) ?_
        refine r_aload_n i_207_34 rfl ?_
        refine r_getF (v := .ref 132) i_207_35 rfl (hly 90 _ rfl) (hF.1 90 62 132 rfl) ?_
        refine r_iload_n i_207_38 rfl ?_
        refine r_iald i_207_39 (hly 132 _ rfl) (by omega) (by omega) (by omega) ?_
        rw [show A_6 132 = A 132 from by rw [eA_6, up2_a (by omega)]]
        have q_7 := a_132 hA (hand.toNat)
        refine re_nx i_207_40 rfl ?_
        refine r_iald i_207_41 (hly 127 _ rfl) (by omega) (by omega) (by omega) ?_
        rw [show A_6 127 = A 127 from by rw [eA_6, up2_a (by omega)]]
        have q_8 := a_127 hA ((A 132 (hand.toNat)).toNat)
        refine r_iconst i_207_42 ?_
        refine r_isub i_207_43 ?_
        refine r_iastQ i_207_44 (hly 127 _ rfl) (by omega) (by omega) (by omega) (fun A_9 eA_9 => ?_)
        have hA_9 : AQ A_9 := by rw [eA_9]; exact au_127 hA_6 (by omega) (by omega)
        have x135_1 : A_6 135 = fun i => if i = hand.toNat then 1 else A 135 i := by rw [eA_6, up2_f]
        have x135 : A_9 135 = fun i => if i = hand.toNat then 1 else A 135 i := by rw [eA_9, up2_a (by omega), x135_1]
        have x127_1 : A_9 127 = fun i => if i = (A 132 (hand.toNat)).toNat then (A 127 ((A 132 (hand.toNat)).toNat)) - 1 else A 127 i := by rw [eA_9, up2_f, eA_6, up2_a (by omega)]
        have x127 : A_9 127 = fun i => if i = (A 132 (hand.toNat)).toNat then (A 127 ((A 132 (hand.toNat)).toNat)) - 1 else A 127 i := by rw [x127_1]
        refine r_aload_n i_207_45 rfl ?_
        refine r_iconst i_207_46 ?_
        refine r_putZQ i_207_47 (by decide +kernel) (hly 90 _ rfl) (by omega) (fun G_10 eG_10 => ?_)
        have hG_10 : GO G_10 := by rw [eG_10]; exact gu_90_53 hG (by omega) (by omega)
        refine r_iconst i_207_50 ?_
        exact r_iret i_207_51 rfl (nar_Z (by omega)) (K 1 G_10 A_9 hG_10 hA_9 (by intro a k hh; rw [eG_10, up2_n (by omega)]) (by intro a hh; rw [eA_9, up2_a (by omega), eA_6, up2_a (by omega)]) (by exact MI_tb hm hA (by omega) (by omega) (by omega) (by intro a k hh; rw [eG_10, up2_n (by omega)]) (by rw [eG_10, up2_s]) x135 x127 (by intro a hh; rw [eA_9, up2_a (by omega), eA_6, up2_a (by omega)])))
      · skip
        refine r_iconst i_207_21 ?_
        exact r_iret i_207_22 rfl (nar_Z (by omega)) (K 0 G A hG hA (by intro a k hh; rfl) (by intro a hh; rfl) (by exact hm))
