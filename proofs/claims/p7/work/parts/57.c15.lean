set_option maxHeartbeats 4000000 in
theorem c_97 {L : Nat} {xs : Nat → Int32} {ly : List LK} {F : Nat → Nat → Value} {G A : Nat → Nat → Int} {B : Nat → Nat → Int64} {Q : Option Value → AH → Prop} {best : Int} {q : Nat} (hly : LyOk ly) (hF : RfOk F) (hG : GO G) (hA : AQ A) (in_best : inR best) (hbs : 0 ≤ best ∧ best ≤ 1000000) (hsp : spV G A) (hq : q = 20 ∨ q = 78 ∨ q = 52) (hfq : F 48 4 = .ref q) (hpc : PC A q) (K : ∀ (A' : Nat → Nat → Int), (AQ A') → (∀ a, ¬ (a = 44) → A' a = A a) → Q none (HP ly F G A' B)) : Re L xs 97 0 [(0, .ref 48), (1, V best), (2, .ref 44)] [] (HP ly F G A B) Q := by
  have z8 := g_31_8 hG
  refine r_iload_n i_97_0 rfl ?_
  refine r_istore_n (l' := [(0, .ref 48), (1, V best), (2, .ref 44), (3, V best)]) i_97_1 (by decide +kernel) rfl ?_
  refine r_iconst i_97_2 ?_
  refine r_istore (l' := [(0, .ref 48), (1, V best), (2, .ref 44), (3, V best), (4, V 0)]) i_97_3 (by decide +kernel) rfl ?_
  refine r_iconst i_97_5 ?_
  refine r_istore (l' := [(0, .ref 48), (1, V best), (2, .ref 44), (3, V best), (4, V 0), (5, V ((-1)))]) i_97_6 (by decide +kernel) rfl ?_
  refine r_iconst i_97_8 ?_
  refine r_istore (l' := [(0, .ref 48), (1, V best), (2, .ref 44), (3, V best), (4, V 0), (5, V ((-1))), (6, V 0)]) i_97_9 (by decide +kernel) rfl ?_
  have lp11B : ∀ (nf : Nat) (left : Int) (marks : Int) (before : Int) (w : Int) (l7 : Int) (l8 : Int) (l9 : Int) (l10 : Int) (l11 : Int) (l12 : Int) (A11 : Nat → Nat → Int), (AQ A11) → (∀ a, ¬ (a = 44) → A11 a = A a) → (0 ≤ left ∧ left ≤ 3000000) → (0 ≤ marks ∧ marks ≤ 12 * w) → (-1 ≤ before ∧ before ≤ 7) → (0 ≤ w ∧ w ≤ 14) → (14 - w).toNat < nf → Re L xs 97 11 [(0, .ref 48), (1, V best), (2, .ref 44), (3, V left), (4, V marks), (5, V before), (6, V w), (7, V l7), (8, V l8), (9, V l9), (10, V l10), (11, V l11), (12, V l12)] [] (HP ly F G A11 B) Q := by
    intro nf
    induction nf with
    | zero => intros; omega
    | succ nf ih11B =>
      intro left marks before w l7 l8 l9 l10 l11 l12 A11 hA11 fa11 hlf hmk hbf hw hm11
      refine r_iload i_97_11 rfl ?_
      refine r_aload_n i_97_13 rfl ?_
      refine r_getF (v := .ref 31) i_97_14 rfl (hly 48 _ rfl) (hF.1 48 0 31 rfl) ?_
      refine r_getI i_97_17 rfl (hly 31 _ rfl) ?_
      have q_1 := g_31_8 hG
      refine r_cge (t := 172) i_97_20 (by decide) (by omega) (by omega) (fun u_2 => ?_) (fun u_2 => ?_)
      · skip
        exact r_vret i_97_172 rfl (K A11 hA11 (by intro a hh; rw [fa11 a (fun h => hh h)]))
      · skip
        refine r_iload i_97_23 rfl ?_
        refine r_bipush i_97_25 (by decide) ?_
        refine r_imul i_97_27 ?_
        refine r_istore (l' := [(0, .ref 48), (1, V best), (2, .ref 44), (3, V left), (4, V marks), (5, V before), (6, V w), (7, V (w * 12)), (8, V l8), (9, V l9), (10, V l10), (11, V l11), (12, V l12)]) i_97_28 (by decide +kernel) rfl ?_
        refine r_iconst i_97_30 ?_
        refine r_istore (l' := [(0, .ref 48), (1, V best), (2, .ref 44), (3, V left), (4, V marks), (5, V before), (6, V w), (7, V (w * 12)), (8, V 0), (9, V l9), (10, V l10), (11, V l11), (12, V l12)]) i_97_31 (by decide +kernel) rfl ?_
        have lp33B : ∀ (nf : Nat) (rd : Int) (k9 : Int) (k10 : Int) (k11 : Int) (k12 : Int), (0 ≤ rd ∧ rd ≤ 12) → (12 - rd).toNat < nf → Re L xs 97 33 [(0, .ref 48), (1, V best), (2, .ref 44), (3, V left), (4, V marks), (5, V before), (6, V w), (7, V (w * 12)), (8, V rd), (9, V k9), (10, V k10), (11, V k11), (12, V k12)] [] (HP ly F G A11 B) Q := by
          intro nf
          induction nf with
          | zero => intros; omega
          | succ nf ih33B =>
            intro rd k9 k10 k11 k12  hrd hm33
            refine r_iload i_97_33 rfl ?_
            refine r_aload_n i_97_35 rfl ?_
            refine r_getF (v := .ref 31) i_97_36 rfl (hly 48 _ rfl) (hF.1 48 0 31 rfl) ?_
            refine r_getF (v := .ref 32) i_97_39 rfl (hly 31 _ rfl) (hF.1 31 0 32 rfl) ?_
            refine r_iload i_97_42 rfl ?_
            refine r_iald i_97_44 (hly 32 _ rfl) (by omega) (by omega) (by omega) ?_
            rw [show A11 32 = A 32 from by rw [fa11 32 (by omega)]]
            have q_3 := a_32 hA (w.toNat)
            refine r_cge (t := 166) i_97_45 (by decide) (by omega) (by omega) (fun u_4 => ?_) (fun u_4 => ?_)
            · skip
              refine r_iinc (l' := [(0, .ref 48), (1, V best), (2, .ref 44), (3, V left), (4, V marks), (5, V before), (6, V (w + 1)), (7, V (w * 12)), (8, V rd), (9, V k9), (10, V k10), (11, V k11), (12, V k12)]) i_97_166 rfl (by decide +kernel) rfl ?_
              refine r_go (t := 11) i_97_169 (by decide) ?_
              exact ih11B left marks before (w + 1) (w * 12) rd k9 k10 k11 k12 A11 hA11 (by intro a hh; rw [fa11 a (fun h => hh h)]) (by omega) (by omega) (by omega) (by omega) (by omega)
            · skip
              refine r_iload i_97_48 rfl ?_
              refine r_iload i_97_50 rfl ?_
              refine r_iadd i_97_52 ?_
              refine r_istore (l' := [(0, .ref 48), (1, V best), (2, .ref 44), (3, V left), (4, V marks), (5, V before), (6, V w), (7, V (w * 12)), (8, V rd), (9, V ((w * 12) + rd)), (10, V k10), (11, V k11), (12, V k12)]) i_97_53 (by decide +kernel) rfl ?_
              refine r_aload_n i_97_55 rfl ?_
              refine r_getF (v := .ref 31) i_97_56 rfl (hly 48 _ rfl) (hF.1 48 0 31 rfl) ?_
              refine r_getF (v := .ref 37) i_97_59 rfl (hly 31 _ rfl) (hF.1 31 3 37 rfl) ?_
              refine r_iload i_97_62 rfl ?_
              refine r_iald i_97_64 (hly 37 _ rfl) (by omega) (by omega) (by omega) ?_
              rw [show A11 37 = A 37 from by rw [fa11 37 (by omega)]]
              have q_5 := a_37 hA (((w * 12) + rd).toNat)
              refine r_istore (l' := [(0, .ref 48), (1, V best), (2, .ref 44), (3, V left), (4, V marks), (5, V before), (6, V w), (7, V (w * 12)), (8, V rd), (9, V ((w * 12) + rd)), (10, V (A 37 (((w * 12) + rd).toNat))), (11, V k11), (12, V k12)]) i_97_65 (by decide +kernel) rfl ?_
              refine r_aload_n i_97_67 rfl ?_
              refine r_getF (v := .ref 31) i_97_68 rfl (hly 48 _ rfl) (hF.1 48 0 31 rfl) ?_
              refine r_getF (v := .ref 38) i_97_71 rfl (hly 31 _ rfl) (hF.1 31 4 38 rfl) ?_
              refine r_iload i_97_74 rfl ?_
              refine r_iald i_97_76 (hly 38 _ rfl) (by omega) (by omega) (by omega) ?_
              rw [show A11 38 = A 38 from by rw [fa11 38 (by omega)]]
              have q_6 := a_38 hA (((w * 12) + rd).toNat)
              have jn100 : ∀ (v : Int), (0 ≤ v ∧ v ≤ 1000000) → Re L xs 97 100 [(0, .ref 48), (1, V best), (2, .ref 44), (3, V left), (4, V marks), (5, V before), (6, V w), (7, V (w * 12)), (8, V rd), (9, V ((w * 12) + rd)), (10, V (A 37 (((w * 12) + rd).toNat))), (11, V k11), (12, V k12)] [V v, V (A 38 (((w * 12) + rd).toNat))] (HP ly F G A11 B) Q := by
                intro v  hv
                refine r_iadd i_97_100 ?_
                refine r_istore (l' := [(0, .ref 48), (1, V best), (2, .ref 44), (3, V left), (4, V marks), (5, V before), (6, V w), (7, V (w * 12)), (8, V rd), (9, V ((w * 12) + rd)), (10, V (A 37 (((w * 12) + rd).toNat))), (11, V ((A 38 (((w * 12) + rd).toNat)) + v)), (12, V k12)]) i_97_101 (by decide +kernel) rfl ?_
                refine r_aload_n i_97_103 rfl ?_
                refine r_iload i_97_104 rfl ?_
                refine r_iload i_97_106 rfl ?_
                refine r_iload i_97_108 rfl ?_
                refine r_aload_n i_97_110 rfl ?_
                refine r_getF (v := .ref 51) i_97_111 rfl (hly 48 _ rfl) (hF.1 48 3 51 rfl) ?_
                refine r_iload i_97_114 rfl ?_
                refine r_iald i_97_116 (hly 51 _ rfl) (by omega) (by omega) (by omega) ?_
                rw [show A11 51 = A 51 from by rw [fa11 51 (by omega)]]
                have q_7 := a_51 hA (((w * 12) + rd).toNat)
                refine r_iadd i_97_117 ?_
                refine r_cV (as := [V (marks + (A 51 (((w * 12) + rd).toNat))), V (A 37 (((w * 12) + rd).toNat)), V w]) i_97_118 rfl (by decide +kernel) (Nat.le_of_ble_eq_true rfl) (Nat.le_of_ble_eq_true rfl) (hly 48 _ rfl) rfl ?_
                refine c_98 (word := w) (kind := A 37 (((w * 12) + rd).toNat)) (marks := marks + (A 51 (((w * 12) + rd).toNat))) hly hF hG hA11 (by omega) (by omega) (by omega) (by omega) (by omega) (by exact spV_c (by rfl) (by rw [fa11 49 (by omega)]) (by rw [fa11 50 (by omega)]) hsp) (by omega) (fun r_8 p8_0 p8_1 => ?_)
                show Re L xs 97 121 [(0, .ref 48), (1, V best), (2, .ref 44), (3, V left), (4, V marks), (5, V before), (6, V w), (7, V (w * 12)), (8, V rd), (9, V ((w * 12) + rd)), (10, V (A 37 (((w * 12) + rd).toNat))), (11, V ((A 38 (((w * 12) + rd).toNat)) + v)), (12, V k12)] [V r_8] (HP ly F G A11 B) _
                rw [show A11 49 = A 49 from by rw [fa11 49 (by omega)]] at p8_1
                rw [show A11 50 = A 50 from by rw [fa11 50 (by omega)]] at p8_1
                rw [show A11 54 = A 54 from by rw [fa11 54 (by omega)]] at p8_1
                refine r_istore (l' := [(0, .ref 48), (1, V best), (2, .ref 44), (3, V left), (4, V marks), (5, V before), (6, V w), (7, V (w * 12)), (8, V rd), (9, V ((w * 12) + rd)), (10, V (A 37 (((w * 12) + rd).toNat))), (11, V ((A 38 (((w * 12) + rd).toNat)) + v)), (12, V r_8)]) i_97_121 (by decide +kernel) rfl ?_
                refine r_iload i_97_123 rfl ?_
                refine r_iload i_97_125 rfl ?_
                refine r_iadd i_97_127 ?_
                refine r_iload_n i_97_128 rfl ?_
                refine r_cne (t := 160) i_97_129 (by decide) (by omega) (by omega) (fun u_9 => ?_) (fun u_9 => ?_)
                · skip
                  refine r_iinc (l' := [(0, .ref 48), (1, V best), (2, .ref 44), (3, V left), (4, V marks), (5, V before), (6, V w), (7, V (w * 12)), (8, V (rd + 1)), (9, V ((w * 12) + rd)), (10, V (A 37 (((w * 12) + rd).toNat))), (11, V ((A 38 (((w * 12) + rd).toNat)) + v)), (12, V r_8)]) i_97_160 rfl (by decide +kernel) rfl ?_
                  refine r_go (t := 33) i_97_163 (by decide) ?_
                  exact ih33B (rd + 1) ((w * 12) + rd) (A 37 (((w * 12) + rd).toNat)) ((A 38 (((w * 12) + rd).toNat)) + v) r_8  (by omega) (by omega)
                · skip
                  refine r_aload_n i_97_132 rfl ?_
                  refine r_iload i_97_133 rfl ?_
                  refine r_iload i_97_135 rfl ?_
                  refine r_iastQ i_97_137 (hly 44 _ rfl) (by omega) (by omega) (by omega) (fun A_10 eA_10 => ?_)
                  have hA_10 : AQ A_10 := by rw [eA_10]; exact au_44 hA11 (by omega) (by omega)
                  refine r_iload i_97_138 rfl ?_
                  refine r_istore_n (l' := [(0, .ref 48), (1, V best), (2, .ref 44), (3, V r_8), (4, V marks), (5, V before), (6, V w), (7, V (w * 12)), (8, V rd), (9, V ((w * 12) + rd)), (10, V (A 37 (((w * 12) + rd).toNat))), (11, V ((A 38 (((w * 12) + rd).toNat)) + v)), (12, V r_8)]) i_97_140 (by decide +kernel) rfl ?_
                  refine r_iload i_97_141 rfl ?_
                  refine r_aload_n i_97_143 rfl ?_
                  refine r_getF (v := .ref 51) i_97_144 rfl (hly 48 _ rfl) (hF.1 48 3 51 rfl) ?_
                  refine r_iload i_97_147 rfl ?_
                  refine r_iald i_97_149 (hly 51 _ rfl) (by omega) (by omega) (by omega) ?_
                  rw [show A_10 51 = A 51 from by rw [eA_10, up2_a (by omega), fa11 51 (by omega)]]
                  refine r_iadd i_97_150 ?_
                  refine r_istore (l' := [(0, .ref 48), (1, V best), (2, .ref 44), (3, V r_8), (4, V (marks + (A 51 (((w * 12) + rd).toNat)))), (5, V before), (6, V w), (7, V (w * 12)), (8, V rd), (9, V ((w * 12) + rd)), (10, V (A 37 (((w * 12) + rd).toNat))), (11, V ((A 38 (((w * 12) + rd).toNat)) + v)), (12, V r_8)]) i_97_151 (by decide +kernel) rfl ?_
                  refine r_iload i_97_153 rfl ?_
                  refine r_istore (l' := [(0, .ref 48), (1, V best), (2, .ref 44), (3, V r_8), (4, V (marks + (A 51 (((w * 12) + rd).toNat)))), (5, V (A 37 (((w * 12) + rd).toNat))), (6, V w), (7, V (w * 12)), (8, V rd), (9, V ((w * 12) + rd)), (10, V (A 37 (((w * 12) + rd).toNat))), (11, V ((A 38 (((w * 12) + rd).toNat)) + v)), (12, V r_8)]) i_97_155 (by decide +kernel) rfl ?_
                  refine r_go (t := 166) i_97_157 (by decide) ?_
                  refine r_iinc (l' := [(0, .ref 48), (1, V best), (2, .ref 44), (3, V r_8), (4, V (marks + (A 51 (((w * 12) + rd).toNat)))), (5, V (A 37 (((w * 12) + rd).toNat))), (6, V (w + 1)), (7, V (w * 12)), (8, V rd), (9, V ((w * 12) + rd)), (10, V (A 37 (((w * 12) + rd).toNat))), (11, V ((A 38 (((w * 12) + rd).toNat)) + v)), (12, V r_8)]) i_97_166 rfl (by decide +kernel) rfl ?_
                  refine r_go (t := 11) i_97_169 (by decide) ?_
                  exact ih11B r_8 (marks + (A 51 (((w * 12) + rd).toNat))) (A 37 (((w * 12) + rd).toNat)) (w + 1) (w * 12) rd ((w * 12) + rd) (A 37 (((w * 12) + rd).toNat)) ((A 38 (((w * 12) + rd).toNat)) + v) r_8 A_10 hA_10 (by intro a hh; rw [eA_10, up2_a (fun h => hh h), fa11 a (fun h => hh h)]) (by omega) (by omega) (by omega) (by omega) (by omega)
              refine r_iload i_97_77 rfl ?_
              refine r_iconst i_97_79 ?_
              refine r_cne (t := 87) i_97_80 (by decide) (by omega) (by omega) (fun u_11 => ?_) (fun u_11 => ?_)
              · skip
                refine r_aload_n i_97_87 rfl ?_
                refine r_getF (v := .ref q) i_97_88 rfl (hly 48 _ rfl) hfq ?_
                refine r_iload i_97_91 rfl ?_
                refine r_bipush i_97_93 (by decide) ?_
                refine r_imul i_97_95 ?_
                refine r_iload i_97_96 rfl ?_
                refine r_iadd i_97_98 ?_
                refine r_iald i_97_99 (Lq_0 hly hq) (by omega) (by omega) (by omega) ?_
                rw [show A11 q = A q from by rw [fa11 q (by omega)]]
                have q_12 := Aq_0 hA hq (((before * 8) + (A 37 (((w * 12) + rd).toNat))).toNat)
                exact jn100 (A q (((before * 8) + (A 37 (((w * 12) + rd).toNat))).toNat))  (by omega)
              · skip
                refine r_iconst i_97_83 ?_
                refine r_go (t := 100) i_97_84 (by decide) ?_
                exact jn100 0  (by omega)
        exact lp33B _ 0 l9 l10 l11 l12  (by omega) (Nat.lt_succ_self _)
  have lp11A345678 : ∀ (nf : Nat) (left : Int) (marks : Int) (before : Int) (w : Int) (l7 : Int) (l8 : Int) (A11 : Nat → Nat → Int), (AQ A11) → (∀ a, ¬ (a = 44) → A11 a = A a) → (0 ≤ left ∧ left ≤ 3000000) → (0 ≤ marks ∧ marks ≤ 12 * w) → (-1 ≤ before ∧ before ≤ 7) → (0 ≤ w ∧ w ≤ 14) → (14 - w).toNat < nf → Re L xs 97 11 [(0, .ref 48), (1, V best), (2, .ref 44), (3, V left), (4, V marks), (5, V before), (6, V w), (7, V l7), (8, V l8)] [] (HP ly F G A11 B) Q := by
    intro nf
    induction nf with
    | zero => intros; omega
    | succ nf ih11A345678 =>
      intro left marks before w l7 l8 A11 hA11 fa11 hlf hmk hbf hw hm11
      refine r_iload i_97_11 rfl ?_
      refine r_aload_n i_97_13 rfl ?_
      refine r_getF (v := .ref 31) i_97_14 rfl (hly 48 _ rfl) (hF.1 48 0 31 rfl) ?_
      refine r_getI i_97_17 rfl (hly 31 _ rfl) ?_
      have q_13 := g_31_8 hG
      refine r_cge (t := 172) i_97_20 (by decide) (by omega) (by omega) (fun u_14 => ?_) (fun u_14 => ?_)
      · skip
        exact r_vret i_97_172 rfl (K A11 hA11 (by intro a hh; rw [fa11 a (fun h => hh h)]))
      · skip
        refine r_iload i_97_23 rfl ?_
        refine r_bipush i_97_25 (by decide) ?_
        refine r_imul i_97_27 ?_
        refine r_istore (l' := [(0, .ref 48), (1, V best), (2, .ref 44), (3, V left), (4, V marks), (5, V before), (6, V w), (7, V (w * 12)), (8, V l8)]) i_97_28 (by decide +kernel) rfl ?_
        refine r_iconst i_97_30 ?_
        refine r_istore (l' := [(0, .ref 48), (1, V best), (2, .ref 44), (3, V left), (4, V marks), (5, V before), (6, V w), (7, V (w * 12)), (8, V 0)]) i_97_31 (by decide +kernel) rfl ?_
        have lp33B : ∀ (nf : Nat) (rd : Int) (k9 : Int) (k10 : Int) (k11 : Int) (k12 : Int), (0 ≤ rd ∧ rd ≤ 12) → (12 - rd).toNat < nf → Re L xs 97 33 [(0, .ref 48), (1, V best), (2, .ref 44), (3, V left), (4, V marks), (5, V before), (6, V w), (7, V (w * 12)), (8, V rd), (9, V k9), (10, V k10), (11, V k11), (12, V k12)] [] (HP ly F G A11 B) Q := by
          intro nf
          induction nf with
          | zero => intros; omega
          | succ nf ih33B =>
            intro rd k9 k10 k11 k12  hrd hm33
            refine r_iload i_97_33 rfl ?_
            refine r_aload_n i_97_35 rfl ?_
            refine r_getF (v := .ref 31) i_97_36 rfl (hly 48 _ rfl) (hF.1 48 0 31 rfl) ?_
            refine r_getF (v := .ref 32) i_97_39 rfl (hly 31 _ rfl) (hF.1 31 0 32 rfl) ?_
            refine r_iload i_97_42 rfl ?_
            refine r_iald i_97_44 (hly 32 _ rfl) (by omega) (by omega) (by omega) ?_
            rw [show A11 32 = A 32 from by rw [fa11 32 (by omega)]]
            have q_15 := a_32 hA (w.toNat)
            refine r_cge (t := 166) i_97_45 (by decide) (by omega) (by omega) (fun u_16 => ?_) (fun u_16 => ?_)
            · skip
              refine r_iinc (l' := [(0, .ref 48), (1, V best), (2, .ref 44), (3, V left), (4, V marks), (5, V before), (6, V (w + 1)), (7, V (w * 12)), (8, V rd), (9, V k9), (10, V k10), (11, V k11), (12, V k12)]) i_97_166 rfl (by decide +kernel) rfl ?_
              refine r_go (t := 11) i_97_169 (by decide) ?_
              exact lp11B _ left marks before (w + 1) (w * 12) rd k9 k10 k11 k12 A11 hA11 (by intro a hh; rw [fa11 a (fun h => hh h)]) (by omega) (by omega) (by omega) (by omega) (Nat.lt_succ_self _)
            · skip
              refine r_iload i_97_48 rfl ?_
              refine r_iload i_97_50 rfl ?_
              refine r_iadd i_97_52 ?_
              refine r_istore (l' := [(0, .ref 48), (1, V best), (2, .ref 44), (3, V left), (4, V marks), (5, V before), (6, V w), (7, V (w * 12)), (8, V rd), (9, V ((w * 12) + rd)), (10, V k10), (11, V k11), (12, V k12)]) i_97_53 (by decide +kernel) rfl ?_
              refine r_aload_n i_97_55 rfl ?_
              refine r_getF (v := .ref 31) i_97_56 rfl (hly 48 _ rfl) (hF.1 48 0 31 rfl) ?_
              refine r_getF (v := .ref 37) i_97_59 rfl (hly 31 _ rfl) (hF.1 31 3 37 rfl) ?_
              refine r_iload i_97_62 rfl ?_
              refine r_iald i_97_64 (hly 37 _ rfl) (by omega) (by omega) (by omega) ?_
              rw [show A11 37 = A 37 from by rw [fa11 37 (by omega)]]
              have q_17 := a_37 hA (((w * 12) + rd).toNat)
              refine r_istore (l' := [(0, .ref 48), (1, V best), (2, .ref 44), (3, V left), (4, V marks), (5, V before), (6, V w), (7, V (w * 12)), (8, V rd), (9, V ((w * 12) + rd)), (10, V (A 37 (((w * 12) + rd).toNat))), (11, V k11), (12, V k12)]) i_97_65 (by decide +kernel) rfl ?_
              refine r_aload_n i_97_67 rfl ?_
              refine r_getF (v := .ref 31) i_97_68 rfl (hly 48 _ rfl) (hF.1 48 0 31 rfl) ?_
              refine r_getF (v := .ref 38) i_97_71 rfl (hly 31 _ rfl) (hF.1 31 4 38 rfl) ?_
              refine r_iload i_97_74 rfl ?_
              refine r_iald i_97_76 (hly 38 _ rfl) (by omega) (by omega) (by omega) ?_
              rw [show A11 38 = A 38 from by rw [fa11 38 (by omega)]]
              have q_18 := a_38 hA (((w * 12) + rd).toNat)
              have jn100 : ∀ (v : Int), (0 ≤ v ∧ v ≤ 1000000) → Re L xs 97 100 [(0, .ref 48), (1, V best), (2, .ref 44), (3, V left), (4, V marks), (5, V before), (6, V w), (7, V (w * 12)), (8, V rd), (9, V ((w * 12) + rd)), (10, V (A 37 (((w * 12) + rd).toNat))), (11, V k11), (12, V k12)] [V v, V (A 38 (((w * 12) + rd).toNat))] (HP ly F G A11 B) Q := by
                intro v  hv
                refine r_iadd i_97_100 ?_
                refine r_istore (l' := [(0, .ref 48), (1, V best), (2, .ref 44), (3, V left), (4, V marks), (5, V before), (6, V w), (7, V (w * 12)), (8, V rd), (9, V ((w * 12) + rd)), (10, V (A 37 (((w * 12) + rd).toNat))), (11, V ((A 38 (((w * 12) + rd).toNat)) + v)), (12, V k12)]) i_97_101 (by decide +kernel) rfl ?_
                refine r_aload_n i_97_103 rfl ?_
                refine r_iload i_97_104 rfl ?_
                refine r_iload i_97_106 rfl ?_
                refine r_iload i_97_108 rfl ?_
                refine r_aload_n i_97_110 rfl ?_
                refine r_getF (v := .ref 51) i_97_111 rfl (hly 48 _ rfl) (hF.1 48 3 51 rfl) ?_
                refine r_iload i_97_114 rfl ?_
                refine r_iald i_97_116 (hly 51 _ rfl) (by omega) (by omega) (by omega) ?_
                rw [show A11 51 = A 51 from by rw [fa11 51 (by omega)]]
                have q_19 := a_51 hA (((w * 12) + rd).toNat)
                refine r_iadd i_97_117 ?_
                refine r_cV (as := [V (marks + (A 51 (((w * 12) + rd).toNat))), V (A 37 (((w * 12) + rd).toNat)), V w]) i_97_118 rfl (by decide +kernel) (Nat.le_of_ble_eq_true rfl) (Nat.le_of_ble_eq_true rfl) (hly 48 _ rfl) rfl ?_
                refine c_98 (word := w) (kind := A 37 (((w * 12) + rd).toNat)) (marks := marks + (A 51 (((w * 12) + rd).toNat))) hly hF hG hA11 (by omega) (by omega) (by omega) (by omega) (by omega) (by exact spV_c (by rfl) (by rw [fa11 49 (by omega)]) (by rw [fa11 50 (by omega)]) hsp) (by omega) (fun r_20 p20_0 p20_1 => ?_)
                show Re L xs 97 121 [(0, .ref 48), (1, V best), (2, .ref 44), (3, V left), (4, V marks), (5, V before), (6, V w), (7, V (w * 12)), (8, V rd), (9, V ((w * 12) + rd)), (10, V (A 37 (((w * 12) + rd).toNat))), (11, V ((A 38 (((w * 12) + rd).toNat)) + v)), (12, V k12)] [V r_20] (HP ly F G A11 B) _
                rw [show A11 49 = A 49 from by rw [fa11 49 (by omega)]] at p20_1
                rw [show A11 50 = A 50 from by rw [fa11 50 (by omega)]] at p20_1
                rw [show A11 54 = A 54 from by rw [fa11 54 (by omega)]] at p20_1
                refine r_istore (l' := [(0, .ref 48), (1, V best), (2, .ref 44), (3, V left), (4, V marks), (5, V before), (6, V w), (7, V (w * 12)), (8, V rd), (9, V ((w * 12) + rd)), (10, V (A 37 (((w * 12) + rd).toNat))), (11, V ((A 38 (((w * 12) + rd).toNat)) + v)), (12, V r_20)]) i_97_121 (by decide +kernel) rfl ?_
                refine r_iload i_97_123 rfl ?_
                refine r_iload i_97_125 rfl ?_
                refine r_iadd i_97_127 ?_
                refine r_iload_n i_97_128 rfl ?_
                refine r_cne (t := 160) i_97_129 (by decide) (by omega) (by omega) (fun u_21 => ?_) (fun u_21 => ?_)
                · skip
                  refine r_iinc (l' := [(0, .ref 48), (1, V best), (2, .ref 44), (3, V left), (4, V marks), (5, V before), (6, V w), (7, V (w * 12)), (8, V (rd + 1)), (9, V ((w * 12) + rd)), (10, V (A 37 (((w * 12) + rd).toNat))), (11, V ((A 38 (((w * 12) + rd).toNat)) + v)), (12, V r_20)]) i_97_160 rfl (by decide +kernel) rfl ?_
                  refine r_go (t := 33) i_97_163 (by decide) ?_
                  exact ih33B (rd + 1) ((w * 12) + rd) (A 37 (((w * 12) + rd).toNat)) ((A 38 (((w * 12) + rd).toNat)) + v) r_20  (by omega) (by omega)
                · skip
                  refine r_aload_n i_97_132 rfl ?_
                  refine r_iload i_97_133 rfl ?_
                  refine r_iload i_97_135 rfl ?_
                  refine r_iastQ i_97_137 (hly 44 _ rfl) (by omega) (by omega) (by omega) (fun A_22 eA_22 => ?_)
                  have hA_22 : AQ A_22 := by rw [eA_22]; exact au_44 hA11 (by omega) (by omega)
                  refine r_iload i_97_138 rfl ?_
                  refine r_istore_n (l' := [(0, .ref 48), (1, V best), (2, .ref 44), (3, V r_20), (4, V marks), (5, V before), (6, V w), (7, V (w * 12)), (8, V rd), (9, V ((w * 12) + rd)), (10, V (A 37 (((w * 12) + rd).toNat))), (11, V ((A 38 (((w * 12) + rd).toNat)) + v)), (12, V r_20)]) i_97_140 (by decide +kernel) rfl ?_
                  refine r_iload i_97_141 rfl ?_
                  refine r_aload_n i_97_143 rfl ?_
                  refine r_getF (v := .ref 51) i_97_144 rfl (hly 48 _ rfl) (hF.1 48 3 51 rfl) ?_
                  refine r_iload i_97_147 rfl ?_
                  refine r_iald i_97_149 (hly 51 _ rfl) (by omega) (by omega) (by omega) ?_
                  rw [show A_22 51 = A 51 from by rw [eA_22, up2_a (by omega), fa11 51 (by omega)]]
                  refine r_iadd i_97_150 ?_
                  refine r_istore (l' := [(0, .ref 48), (1, V best), (2, .ref 44), (3, V r_20), (4, V (marks + (A 51 (((w * 12) + rd).toNat)))), (5, V before), (6, V w), (7, V (w * 12)), (8, V rd), (9, V ((w * 12) + rd)), (10, V (A 37 (((w * 12) + rd).toNat))), (11, V ((A 38 (((w * 12) + rd).toNat)) + v)), (12, V r_20)]) i_97_151 (by decide +kernel) rfl ?_
                  refine r_iload i_97_153 rfl ?_
                  refine r_istore (l' := [(0, .ref 48), (1, V best), (2, .ref 44), (3, V r_20), (4, V (marks + (A 51 (((w * 12) + rd).toNat)))), (5, V (A 37 (((w * 12) + rd).toNat))), (6, V w), (7, V (w * 12)), (8, V rd), (9, V ((w * 12) + rd)), (10, V (A 37 (((w * 12) + rd).toNat))), (11, V ((A 38 (((w * 12) + rd).toNat)) + v)), (12, V r_20)]) i_97_155 (by decide +kernel) rfl ?_
                  refine r_go (t := 166) i_97_157 (by decide) ?_
                  refine r_iinc (l' := [(0, .ref 48), (1, V best), (2, .ref 44), (3, V r_20), (4, V (marks + (A 51 (((w * 12) + rd).toNat)))), (5, V (A 37 (((w * 12) + rd).toNat))), (6, V (w + 1)), (7, V (w * 12)), (8, V rd), (9, V ((w * 12) + rd)), (10, V (A 37 (((w * 12) + rd).toNat))), (11, V ((A 38 (((w * 12) + rd).toNat)) + v)), (12, V r_20)]) i_97_166 rfl (by decide +kernel) rfl ?_
                  refine r_go (t := 11) i_97_169 (by decide) ?_
                  exact lp11B _ r_20 (marks + (A 51 (((w * 12) + rd).toNat))) (A 37 (((w * 12) + rd).toNat)) (w + 1) (w * 12) rd ((w * 12) + rd) (A 37 (((w * 12) + rd).toNat)) ((A 38 (((w * 12) + rd).toNat)) + v) r_20 A_22 hA_22 (by intro a hh; rw [eA_22, up2_a (fun h => hh h), fa11 a (fun h => hh h)]) (by omega) (by omega) (by omega) (by omega) (Nat.lt_succ_self _)
              refine r_iload i_97_77 rfl ?_
              refine r_iconst i_97_79 ?_
              refine r_cne (t := 87) i_97_80 (by decide) (by omega) (by omega) (fun u_23 => ?_) (fun u_23 => ?_)
              · skip
                refine r_aload_n i_97_87 rfl ?_
                refine r_getF (v := .ref q) i_97_88 rfl (hly 48 _ rfl) hfq ?_
                refine r_iload i_97_91 rfl ?_
                refine r_bipush i_97_93 (by decide) ?_
                refine r_imul i_97_95 ?_
                refine r_iload i_97_96 rfl ?_
                refine r_iadd i_97_98 ?_
                refine r_iald i_97_99 (Lq_0 hly hq) (by omega) (by omega) (by omega) ?_
                rw [show A11 q = A q from by rw [fa11 q (by omega)]]
                have q_24 := Aq_0 hA hq (((before * 8) + (A 37 (((w * 12) + rd).toNat))).toNat)
                exact jn100 (A q (((before * 8) + (A 37 (((w * 12) + rd).toNat))).toNat))  (by omega)
              · skip
                refine r_iconst i_97_83 ?_
                refine r_go (t := 100) i_97_84 (by decide) ?_
                exact jn100 0  (by omega)
        have lp33A8 : ∀ (nf : Nat) (rd : Int), (0 ≤ rd ∧ rd ≤ 12) → (12 - rd).toNat < nf → Re L xs 97 33 [(0, .ref 48), (1, V best), (2, .ref 44), (3, V left), (4, V marks), (5, V before), (6, V w), (7, V (w * 12)), (8, V rd)] [] (HP ly F G A11 B) Q := by
          intro nf
          induction nf with
          | zero => intros; omega
          | succ nf ih33A8 =>
            intro rd  hrd hm33
            refine r_iload i_97_33 rfl ?_
            refine r_aload_n i_97_35 rfl ?_
            refine r_getF (v := .ref 31) i_97_36 rfl (hly 48 _ rfl) (hF.1 48 0 31 rfl) ?_
            refine r_getF (v := .ref 32) i_97_39 rfl (hly 31 _ rfl) (hF.1 31 0 32 rfl) ?_
            refine r_iload i_97_42 rfl ?_
            refine r_iald i_97_44 (hly 32 _ rfl) (by omega) (by omega) (by omega) ?_
            rw [show A11 32 = A 32 from by rw [fa11 32 (by omega)]]
            have q_25 := a_32 hA (w.toNat)
            refine r_cge (t := 166) i_97_45 (by decide) (by omega) (by omega) (fun u_26 => ?_) (fun u_26 => ?_)
            · skip
              refine r_iinc (l' := [(0, .ref 48), (1, V best), (2, .ref 44), (3, V left), (4, V marks), (5, V before), (6, V (w + 1)), (7, V (w * 12)), (8, V rd)]) i_97_166 rfl (by decide +kernel) rfl ?_
              refine r_go (t := 11) i_97_169 (by decide) ?_
              exact ih11A345678 left marks before (w + 1) (w * 12) rd A11 hA11 (by intro a hh; rw [fa11 a (fun h => hh h)]) (by omega) (by omega) (by omega) (by omega) (by omega)
            · skip
              refine r_iload i_97_48 rfl ?_
              refine r_iload i_97_50 rfl ?_
              refine r_iadd i_97_52 ?_
              refine r_istore (l' := [(0, .ref 48), (1, V best), (2, .ref 44), (3, V left), (4, V marks), (5, V before), (6, V w), (7, V (w * 12)), (8, V rd), (9, V ((w * 12) + rd))]) i_97_53 (by decide +kernel) rfl ?_
              refine r_aload_n i_97_55 rfl ?_
              refine r_getF (v := .ref 31) i_97_56 rfl (hly 48 _ rfl) (hF.1 48 0 31 rfl) ?_
              refine r_getF (v := .ref 37) i_97_59 rfl (hly 31 _ rfl) (hF.1 31 3 37 rfl) ?_
              refine r_iload i_97_62 rfl ?_
              refine r_iald i_97_64 (hly 37 _ rfl) (by omega) (by omega) (by omega) ?_
              rw [show A11 37 = A 37 from by rw [fa11 37 (by omega)]]
              have q_27 := a_37 hA (((w * 12) + rd).toNat)
              refine r_istore (l' := [(0, .ref 48), (1, V best), (2, .ref 44), (3, V left), (4, V marks), (5, V before), (6, V w), (7, V (w * 12)), (8, V rd), (9, V ((w * 12) + rd)), (10, V (A 37 (((w * 12) + rd).toNat)))]) i_97_65 (by decide +kernel) rfl ?_
              refine r_aload_n i_97_67 rfl ?_
              refine r_getF (v := .ref 31) i_97_68 rfl (hly 48 _ rfl) (hF.1 48 0 31 rfl) ?_
              refine r_getF (v := .ref 38) i_97_71 rfl (hly 31 _ rfl) (hF.1 31 4 38 rfl) ?_
              refine r_iload i_97_74 rfl ?_
              refine r_iald i_97_76 (hly 38 _ rfl) (by omega) (by omega) (by omega) ?_
              rw [show A11 38 = A 38 from by rw [fa11 38 (by omega)]]
              have q_28 := a_38 hA (((w * 12) + rd).toNat)
              have jn100 : ∀ (v : Int), (0 ≤ v ∧ v ≤ 1000000) → Re L xs 97 100 [(0, .ref 48), (1, V best), (2, .ref 44), (3, V left), (4, V marks), (5, V before), (6, V w), (7, V (w * 12)), (8, V rd), (9, V ((w * 12) + rd)), (10, V (A 37 (((w * 12) + rd).toNat)))] [V v, V (A 38 (((w * 12) + rd).toNat))] (HP ly F G A11 B) Q := by
                intro v  hv
                refine r_iadd i_97_100 ?_
                refine r_istore (l' := [(0, .ref 48), (1, V best), (2, .ref 44), (3, V left), (4, V marks), (5, V before), (6, V w), (7, V (w * 12)), (8, V rd), (9, V ((w * 12) + rd)), (10, V (A 37 (((w * 12) + rd).toNat))), (11, V ((A 38 (((w * 12) + rd).toNat)) + v))]) i_97_101 (by decide +kernel) rfl ?_
                refine r_aload_n i_97_103 rfl ?_
                refine r_iload i_97_104 rfl ?_
                refine r_iload i_97_106 rfl ?_
                refine r_iload i_97_108 rfl ?_
                refine r_aload_n i_97_110 rfl ?_
                refine r_getF (v := .ref 51) i_97_111 rfl (hly 48 _ rfl) (hF.1 48 3 51 rfl) ?_
                refine r_iload i_97_114 rfl ?_
                refine r_iald i_97_116 (hly 51 _ rfl) (by omega) (by omega) (by omega) ?_
                rw [show A11 51 = A 51 from by rw [fa11 51 (by omega)]]
                have q_29 := a_51 hA (((w * 12) + rd).toNat)
                refine r_iadd i_97_117 ?_
                refine r_cV (as := [V (marks + (A 51 (((w * 12) + rd).toNat))), V (A 37 (((w * 12) + rd).toNat)), V w]) i_97_118 rfl (by decide +kernel) (Nat.le_of_ble_eq_true rfl) (Nat.le_of_ble_eq_true rfl) (hly 48 _ rfl) rfl ?_
                refine c_98 (word := w) (kind := A 37 (((w * 12) + rd).toNat)) (marks := marks + (A 51 (((w * 12) + rd).toNat))) hly hF hG hA11 (by omega) (by omega) (by omega) (by omega) (by omega) (by exact spV_c (by rfl) (by rw [fa11 49 (by omega)]) (by rw [fa11 50 (by omega)]) hsp) (by omega) (fun r_30 p30_0 p30_1 => ?_)
                show Re L xs 97 121 [(0, .ref 48), (1, V best), (2, .ref 44), (3, V left), (4, V marks), (5, V before), (6, V w), (7, V (w * 12)), (8, V rd), (9, V ((w * 12) + rd)), (10, V (A 37 (((w * 12) + rd).toNat))), (11, V ((A 38 (((w * 12) + rd).toNat)) + v))] [V r_30] (HP ly F G A11 B) _
                rw [show A11 49 = A 49 from by rw [fa11 49 (by omega)]] at p30_1
                rw [show A11 50 = A 50 from by rw [fa11 50 (by omega)]] at p30_1
                rw [show A11 54 = A 54 from by rw [fa11 54 (by omega)]] at p30_1
                refine r_istore (l' := [(0, .ref 48), (1, V best), (2, .ref 44), (3, V left), (4, V marks), (5, V before), (6, V w), (7, V (w * 12)), (8, V rd), (9, V ((w * 12) + rd)), (10, V (A 37 (((w * 12) + rd).toNat))), (11, V ((A 38 (((w * 12) + rd).toNat)) + v)), (12, V r_30)]) i_97_121 (by decide +kernel) rfl ?_
                refine r_iload i_97_123 rfl ?_
                refine r_iload i_97_125 rfl ?_
                refine r_iadd i_97_127 ?_
                refine r_iload_n i_97_128 rfl ?_
                refine r_cne (t := 160) i_97_129 (by decide) (by omega) (by omega) (fun u_31 => ?_) (fun u_31 => ?_)
                · skip
                  refine r_iinc (l' := [(0, .ref 48), (1, V best), (2, .ref 44), (3, V left), (4, V marks), (5, V before), (6, V w), (7, V (w * 12)), (8, V (rd + 1)), (9, V ((w * 12) + rd)), (10, V (A 37 (((w * 12) + rd).toNat))), (11, V ((A 38 (((w * 12) + rd).toNat)) + v)), (12, V r_30)]) i_97_160 rfl (by decide +kernel) rfl ?_
                  refine r_go (t := 33) i_97_163 (by decide) ?_
                  exact lp33B _ (rd + 1) ((w * 12) + rd) (A 37 (((w * 12) + rd).toNat)) ((A 38 (((w * 12) + rd).toNat)) + v) r_30  (by omega) (Nat.lt_succ_self _)
                · skip
                  refine r_aload_n i_97_132 rfl ?_
                  refine r_iload i_97_133 rfl ?_
                  refine r_iload i_97_135 rfl ?_
                  refine r_iastQ i_97_137 (hly 44 _ rfl) (by omega) (by omega) (by omega) (fun A_32 eA_32 => ?_)
                  have hA_32 : AQ A_32 := by rw [eA_32]; exact au_44 hA11 (by omega) (by omega)
                  refine r_iload i_97_138 rfl ?_
                  refine r_istore_n (l' := [(0, .ref 48), (1, V best), (2, .ref 44), (3, V r_30), (4, V marks), (5, V before), (6, V w), (7, V (w * 12)), (8, V rd), (9, V ((w * 12) + rd)), (10, V (A 37 (((w * 12) + rd).toNat))), (11, V ((A 38 (((w * 12) + rd).toNat)) + v)), (12, V r_30)]) i_97_140 (by decide +kernel) rfl ?_
                  refine r_iload i_97_141 rfl ?_
                  refine r_aload_n i_97_143 rfl ?_
                  refine r_getF (v := .ref 51) i_97_144 rfl (hly 48 _ rfl) (hF.1 48 3 51 rfl) ?_
                  refine r_iload i_97_147 rfl ?_
                  refine r_iald i_97_149 (hly 51 _ rfl) (by omega) (by omega) (by omega) ?_
                  rw [show A_32 51 = A 51 from by rw [eA_32, up2_a (by omega), fa11 51 (by omega)]]
                  refine r_iadd i_97_150 ?_
                  refine r_istore (l' := [(0, .ref 48), (1, V best), (2, .ref 44), (3, V r_30), (4, V (marks + (A 51 (((w * 12) + rd).toNat)))), (5, V before), (6, V w), (7, V (w * 12)), (8, V rd), (9, V ((w * 12) + rd)), (10, V (A 37 (((w * 12) + rd).toNat))), (11, V ((A 38 (((w * 12) + rd).toNat)) + v)), (12, V r_30)]) i_97_151 (by decide +kernel) rfl ?_
                  refine r_iload i_97_153 rfl ?_
                  refine r_istore (l' := [(0, .ref 48), (1, V best), (2, .ref 44), (3, V r_30), (4, V (marks + (A 51 (((w * 12) + rd).toNat)))), (5, V (A 37 (((w * 12) + rd).toNat))), (6, V w), (7, V (w * 12)), (8, V rd), (9, V ((w * 12) + rd)), (10, V (A 37 (((w * 12) + rd).toNat))), (11, V ((A 38 (((w * 12) + rd).toNat)) + v)), (12, V r_30)]) i_97_155 (by decide +kernel) rfl ?_
                  refine r_go (t := 166) i_97_157 (by decide) ?_
                  refine r_iinc (l' := [(0, .ref 48), (1, V best), (2, .ref 44), (3, V r_30), (4, V (marks + (A 51 (((w * 12) + rd).toNat)))), (5, V (A 37 (((w * 12) + rd).toNat))), (6, V (w + 1)), (7, V (w * 12)), (8, V rd), (9, V ((w * 12) + rd)), (10, V (A 37 (((w * 12) + rd).toNat))), (11, V ((A 38 (((w * 12) + rd).toNat)) + v)), (12, V r_30)]) i_97_166 rfl (by decide +kernel) rfl ?_
                  refine r_go (t := 11) i_97_169 (by decide) ?_
                  exact lp11B _ r_30 (marks + (A 51 (((w * 12) + rd).toNat))) (A 37 (((w * 12) + rd).toNat)) (w + 1) (w * 12) rd ((w * 12) + rd) (A 37 (((w * 12) + rd).toNat)) ((A 38 (((w * 12) + rd).toNat)) + v) r_30 A_32 hA_32 (by intro a hh; rw [eA_32, up2_a (fun h => hh h), fa11 a (fun h => hh h)]) (by omega) (by omega) (by omega) (by omega) (Nat.lt_succ_self _)
              refine r_iload i_97_77 rfl ?_
              refine r_iconst i_97_79 ?_
              refine r_cne (t := 87) i_97_80 (by decide) (by omega) (by omega) (fun u_33 => ?_) (fun u_33 => ?_)
              · skip
                refine r_aload_n i_97_87 rfl ?_
                refine r_getF (v := .ref q) i_97_88 rfl (hly 48 _ rfl) hfq ?_
                refine r_iload i_97_91 rfl ?_
                refine r_bipush i_97_93 (by decide) ?_
                refine r_imul i_97_95 ?_
                refine r_iload i_97_96 rfl ?_
                refine r_iadd i_97_98 ?_
                refine r_iald i_97_99 (Lq_0 hly hq) (by omega) (by omega) (by omega) ?_
                rw [show A11 q = A q from by rw [fa11 q (by omega)]]
                have q_34 := Aq_0 hA hq (((before * 8) + (A 37 (((w * 12) + rd).toNat))).toNat)
                exact jn100 (A q (((before * 8) + (A 37 (((w * 12) + rd).toNat))).toNat))  (by omega)
              · skip
                refine r_iconst i_97_83 ?_
                refine r_go (t := 100) i_97_84 (by decide) ?_
                exact jn100 0  (by omega)
        exact lp33A8 _ 0  (by omega) (Nat.lt_succ_self _)
  have lp11A3456 : ∀ (nf : Nat) (left : Int) (marks : Int) (before : Int) (w : Int) (A11 : Nat → Nat → Int), (AQ A11) → (∀ a, ¬ (a = 44) → A11 a = A a) → (0 ≤ left ∧ left ≤ 3000000) → (0 ≤ marks ∧ marks ≤ 12 * w) → (-1 ≤ before ∧ before ≤ 7) → (0 ≤ w ∧ w ≤ 14) → (14 - w).toNat < nf → Re L xs 97 11 [(0, .ref 48), (1, V best), (2, .ref 44), (3, V left), (4, V marks), (5, V before), (6, V w)] [] (HP ly F G A11 B) Q := by
    intro nf
    induction nf with
    | zero => intros; omega
    | succ nf ih11A3456 =>
      intro left marks before w A11 hA11 fa11 hlf hmk hbf hw hm11
      refine r_iload i_97_11 rfl ?_
      refine r_aload_n i_97_13 rfl ?_
      refine r_getF (v := .ref 31) i_97_14 rfl (hly 48 _ rfl) (hF.1 48 0 31 rfl) ?_
      refine r_getI i_97_17 rfl (hly 31 _ rfl) ?_
      have q_35 := g_31_8 hG
      refine r_cge (t := 172) i_97_20 (by decide) (by omega) (by omega) (fun u_36 => ?_) (fun u_36 => ?_)
      · skip
        exact r_vret i_97_172 rfl (K A11 hA11 (by intro a hh; rw [fa11 a (fun h => hh h)]))
      · skip
        refine r_iload i_97_23 rfl ?_
        refine r_bipush i_97_25 (by decide) ?_
        refine r_imul i_97_27 ?_
        refine r_istore (l' := [(0, .ref 48), (1, V best), (2, .ref 44), (3, V left), (4, V marks), (5, V before), (6, V w), (7, V (w * 12))]) i_97_28 (by decide +kernel) rfl ?_
        refine r_iconst i_97_30 ?_
        refine r_istore (l' := [(0, .ref 48), (1, V best), (2, .ref 44), (3, V left), (4, V marks), (5, V before), (6, V w), (7, V (w * 12)), (8, V 0)]) i_97_31 (by decide +kernel) rfl ?_
        have lp33B : ∀ (nf : Nat) (rd : Int) (k9 : Int) (k10 : Int) (k11 : Int) (k12 : Int), (0 ≤ rd ∧ rd ≤ 12) → (12 - rd).toNat < nf → Re L xs 97 33 [(0, .ref 48), (1, V best), (2, .ref 44), (3, V left), (4, V marks), (5, V before), (6, V w), (7, V (w * 12)), (8, V rd), (9, V k9), (10, V k10), (11, V k11), (12, V k12)] [] (HP ly F G A11 B) Q := by
          intro nf
          induction nf with
          | zero => intros; omega
          | succ nf ih33B =>
            intro rd k9 k10 k11 k12  hrd hm33
            refine r_iload i_97_33 rfl ?_
            refine r_aload_n i_97_35 rfl ?_
            refine r_getF (v := .ref 31) i_97_36 rfl (hly 48 _ rfl) (hF.1 48 0 31 rfl) ?_
            refine r_getF (v := .ref 32) i_97_39 rfl (hly 31 _ rfl) (hF.1 31 0 32 rfl) ?_
            refine r_iload i_97_42 rfl ?_
            refine r_iald i_97_44 (hly 32 _ rfl) (by omega) (by omega) (by omega) ?_
            rw [show A11 32 = A 32 from by rw [fa11 32 (by omega)]]
            have q_37 := a_32 hA (w.toNat)
            refine r_cge (t := 166) i_97_45 (by decide) (by omega) (by omega) (fun u_38 => ?_) (fun u_38 => ?_)
            · skip
              refine r_iinc (l' := [(0, .ref 48), (1, V best), (2, .ref 44), (3, V left), (4, V marks), (5, V before), (6, V (w + 1)), (7, V (w * 12)), (8, V rd), (9, V k9), (10, V k10), (11, V k11), (12, V k12)]) i_97_166 rfl (by decide +kernel) rfl ?_
              refine r_go (t := 11) i_97_169 (by decide) ?_
              exact lp11B _ left marks before (w + 1) (w * 12) rd k9 k10 k11 k12 A11 hA11 (by intro a hh; rw [fa11 a (fun h => hh h)]) (by omega) (by omega) (by omega) (by omega) (Nat.lt_succ_self _)
            · skip
              refine r_iload i_97_48 rfl ?_
              refine r_iload i_97_50 rfl ?_
              refine r_iadd i_97_52 ?_
              refine r_istore (l' := [(0, .ref 48), (1, V best), (2, .ref 44), (3, V left), (4, V marks), (5, V before), (6, V w), (7, V (w * 12)), (8, V rd), (9, V ((w * 12) + rd)), (10, V k10), (11, V k11), (12, V k12)]) i_97_53 (by decide +kernel) rfl ?_
              refine r_aload_n i_97_55 rfl ?_
              refine r_getF (v := .ref 31) i_97_56 rfl (hly 48 _ rfl) (hF.1 48 0 31 rfl) ?_
              refine r_getF (v := .ref 37) i_97_59 rfl (hly 31 _ rfl) (hF.1 31 3 37 rfl) ?_
              refine r_iload i_97_62 rfl ?_
              refine r_iald i_97_64 (hly 37 _ rfl) (by omega) (by omega) (by omega) ?_
              rw [show A11 37 = A 37 from by rw [fa11 37 (by omega)]]
              have q_39 := a_37 hA (((w * 12) + rd).toNat)
              refine r_istore (l' := [(0, .ref 48), (1, V best), (2, .ref 44), (3, V left), (4, V marks), (5, V before), (6, V w), (7, V (w * 12)), (8, V rd), (9, V ((w * 12) + rd)), (10, V (A 37 (((w * 12) + rd).toNat))), (11, V k11), (12, V k12)]) i_97_65 (by decide +kernel) rfl ?_
              refine r_aload_n i_97_67 rfl ?_
              refine r_getF (v := .ref 31) i_97_68 rfl (hly 48 _ rfl) (hF.1 48 0 31 rfl) ?_
              refine r_getF (v := .ref 38) i_97_71 rfl (hly 31 _ rfl) (hF.1 31 4 38 rfl) ?_
              refine r_iload i_97_74 rfl ?_
              refine r_iald i_97_76 (hly 38 _ rfl) (by omega) (by omega) (by omega) ?_
              rw [show A11 38 = A 38 from by rw [fa11 38 (by omega)]]
              have q_40 := a_38 hA (((w * 12) + rd).toNat)
              have jn100 : ∀ (v : Int), (0 ≤ v ∧ v ≤ 1000000) → Re L xs 97 100 [(0, .ref 48), (1, V best), (2, .ref 44), (3, V left), (4, V marks), (5, V before), (6, V w), (7, V (w * 12)), (8, V rd), (9, V ((w * 12) + rd)), (10, V (A 37 (((w * 12) + rd).toNat))), (11, V k11), (12, V k12)] [V v, V (A 38 (((w * 12) + rd).toNat))] (HP ly F G A11 B) Q := by
                intro v  hv
                refine r_iadd i_97_100 ?_
                refine r_istore (l' := [(0, .ref 48), (1, V best), (2, .ref 44), (3, V left), (4, V marks), (5, V before), (6, V w), (7, V (w * 12)), (8, V rd), (9, V ((w * 12) + rd)), (10, V (A 37 (((w * 12) + rd).toNat))), (11, V ((A 38 (((w * 12) + rd).toNat)) + v)), (12, V k12)]) i_97_101 (by decide +kernel) rfl ?_
                refine r_aload_n i_97_103 rfl ?_
                refine r_iload i_97_104 rfl ?_
                refine r_iload i_97_106 rfl ?_
                refine r_iload i_97_108 rfl ?_
                refine r_aload_n i_97_110 rfl ?_
                refine r_getF (v := .ref 51) i_97_111 rfl (hly 48 _ rfl) (hF.1 48 3 51 rfl) ?_
                refine r_iload i_97_114 rfl ?_
                refine r_iald i_97_116 (hly 51 _ rfl) (by omega) (by omega) (by omega) ?_
                rw [show A11 51 = A 51 from by rw [fa11 51 (by omega)]]
                have q_41 := a_51 hA (((w * 12) + rd).toNat)
                refine r_iadd i_97_117 ?_
                refine r_cV (as := [V (marks + (A 51 (((w * 12) + rd).toNat))), V (A 37 (((w * 12) + rd).toNat)), V w]) i_97_118 rfl (by decide +kernel) (Nat.le_of_ble_eq_true rfl) (Nat.le_of_ble_eq_true rfl) (hly 48 _ rfl) rfl ?_
                refine c_98 (word := w) (kind := A 37 (((w * 12) + rd).toNat)) (marks := marks + (A 51 (((w * 12) + rd).toNat))) hly hF hG hA11 (by omega) (by omega) (by omega) (by omega) (by omega) (by exact spV_c (by rfl) (by rw [fa11 49 (by omega)]) (by rw [fa11 50 (by omega)]) hsp) (by omega) (fun r_42 p42_0 p42_1 => ?_)
                show Re L xs 97 121 [(0, .ref 48), (1, V best), (2, .ref 44), (3, V left), (4, V marks), (5, V before), (6, V w), (7, V (w * 12)), (8, V rd), (9, V ((w * 12) + rd)), (10, V (A 37 (((w * 12) + rd).toNat))), (11, V ((A 38 (((w * 12) + rd).toNat)) + v)), (12, V k12)] [V r_42] (HP ly F G A11 B) _
                rw [show A11 49 = A 49 from by rw [fa11 49 (by omega)]] at p42_1
                rw [show A11 50 = A 50 from by rw [fa11 50 (by omega)]] at p42_1
                rw [show A11 54 = A 54 from by rw [fa11 54 (by omega)]] at p42_1
                refine r_istore (l' := [(0, .ref 48), (1, V best), (2, .ref 44), (3, V left), (4, V marks), (5, V before), (6, V w), (7, V (w * 12)), (8, V rd), (9, V ((w * 12) + rd)), (10, V (A 37 (((w * 12) + rd).toNat))), (11, V ((A 38 (((w * 12) + rd).toNat)) + v)), (12, V r_42)]) i_97_121 (by decide +kernel) rfl ?_
                refine r_iload i_97_123 rfl ?_
                refine r_iload i_97_125 rfl ?_
                refine r_iadd i_97_127 ?_
                refine r_iload_n i_97_128 rfl ?_
                refine r_cne (t := 160) i_97_129 (by decide) (by omega) (by omega) (fun u_43 => ?_) (fun u_43 => ?_)
                · skip
                  refine r_iinc (l' := [(0, .ref 48), (1, V best), (2, .ref 44), (3, V left), (4, V marks), (5, V before), (6, V w), (7, V (w * 12)), (8, V (rd + 1)), (9, V ((w * 12) + rd)), (10, V (A 37 (((w * 12) + rd).toNat))), (11, V ((A 38 (((w * 12) + rd).toNat)) + v)), (12, V r_42)]) i_97_160 rfl (by decide +kernel) rfl ?_
                  refine r_go (t := 33) i_97_163 (by decide) ?_
                  exact ih33B (rd + 1) ((w * 12) + rd) (A 37 (((w * 12) + rd).toNat)) ((A 38 (((w * 12) + rd).toNat)) + v) r_42  (by omega) (by omega)
                · skip
                  refine r_aload_n i_97_132 rfl ?_
                  refine r_iload i_97_133 rfl ?_
                  refine r_iload i_97_135 rfl ?_
                  refine r_iastQ i_97_137 (hly 44 _ rfl) (by omega) (by omega) (by omega) (fun A_44 eA_44 => ?_)
                  have hA_44 : AQ A_44 := by rw [eA_44]; exact au_44 hA11 (by omega) (by omega)
                  refine r_iload i_97_138 rfl ?_
                  refine r_istore_n (l' := [(0, .ref 48), (1, V best), (2, .ref 44), (3, V r_42), (4, V marks), (5, V before), (6, V w), (7, V (w * 12)), (8, V rd), (9, V ((w * 12) + rd)), (10, V (A 37 (((w * 12) + rd).toNat))), (11, V ((A 38 (((w * 12) + rd).toNat)) + v)), (12, V r_42)]) i_97_140 (by decide +kernel) rfl ?_
                  refine r_iload i_97_141 rfl ?_
                  refine r_aload_n i_97_143 rfl ?_
                  refine r_getF (v := .ref 51) i_97_144 rfl (hly 48 _ rfl) (hF.1 48 3 51 rfl) ?_
                  refine r_iload i_97_147 rfl ?_
                  refine r_iald i_97_149 (hly 51 _ rfl) (by omega) (by omega) (by omega) ?_
                  rw [show A_44 51 = A 51 from by rw [eA_44, up2_a (by omega), fa11 51 (by omega)]]
                  refine r_iadd i_97_150 ?_
                  refine r_istore (l' := [(0, .ref 48), (1, V best), (2, .ref 44), (3, V r_42), (4, V (marks + (A 51 (((w * 12) + rd).toNat)))), (5, V before), (6, V w), (7, V (w * 12)), (8, V rd), (9, V ((w * 12) + rd)), (10, V (A 37 (((w * 12) + rd).toNat))), (11, V ((A 38 (((w * 12) + rd).toNat)) + v)), (12, V r_42)]) i_97_151 (by decide +kernel) rfl ?_
                  refine r_iload i_97_153 rfl ?_
                  refine r_istore (l' := [(0, .ref 48), (1, V best), (2, .ref 44), (3, V r_42), (4, V (marks + (A 51 (((w * 12) + rd).toNat)))), (5, V (A 37 (((w * 12) + rd).toNat))), (6, V w), (7, V (w * 12)), (8, V rd), (9, V ((w * 12) + rd)), (10, V (A 37 (((w * 12) + rd).toNat))), (11, V ((A 38 (((w * 12) + rd).toNat)) + v)), (12, V r_42)]) i_97_155 (by decide +kernel) rfl ?_
                  refine r_go (t := 166) i_97_157 (by decide) ?_
                  refine r_iinc (l' := [(0, .ref 48), (1, V best), (2, .ref 44), (3, V r_42), (4, V (marks + (A 51 (((w * 12) + rd).toNat)))), (5, V (A 37 (((w * 12) + rd).toNat))), (6, V (w + 1)), (7, V (w * 12)), (8, V rd), (9, V ((w * 12) + rd)), (10, V (A 37 (((w * 12) + rd).toNat))), (11, V ((A 38 (((w * 12) + rd).toNat)) + v)), (12, V r_42)]) i_97_166 rfl (by decide +kernel) rfl ?_
                  refine r_go (t := 11) i_97_169 (by decide) ?_
                  exact lp11B _ r_42 (marks + (A 51 (((w * 12) + rd).toNat))) (A 37 (((w * 12) + rd).toNat)) (w + 1) (w * 12) rd ((w * 12) + rd) (A 37 (((w * 12) + rd).toNat)) ((A 38 (((w * 12) + rd).toNat)) + v) r_42 A_44 hA_44 (by intro a hh; rw [eA_44, up2_a (fun h => hh h), fa11 a (fun h => hh h)]) (by omega) (by omega) (by omega) (by omega) (Nat.lt_succ_self _)
              refine r_iload i_97_77 rfl ?_
              refine r_iconst i_97_79 ?_
              refine r_cne (t := 87) i_97_80 (by decide) (by omega) (by omega) (fun u_45 => ?_) (fun u_45 => ?_)
              · skip
                refine r_aload_n i_97_87 rfl ?_
                refine r_getF (v := .ref q) i_97_88 rfl (hly 48 _ rfl) hfq ?_
                refine r_iload i_97_91 rfl ?_
                refine r_bipush i_97_93 (by decide) ?_
                refine r_imul i_97_95 ?_
                refine r_iload i_97_96 rfl ?_
                refine r_iadd i_97_98 ?_
                refine r_iald i_97_99 (Lq_0 hly hq) (by omega) (by omega) (by omega) ?_
                rw [show A11 q = A q from by rw [fa11 q (by omega)]]
                have q_46 := Aq_0 hA hq (((before * 8) + (A 37 (((w * 12) + rd).toNat))).toNat)
                exact jn100 (A q (((before * 8) + (A 37 (((w * 12) + rd).toNat))).toNat))  (by omega)
              · skip
                refine r_iconst i_97_83 ?_
                refine r_go (t := 100) i_97_84 (by decide) ?_
                exact jn100 0  (by omega)
        have lp33A8 : ∀ (nf : Nat) (rd : Int), (0 ≤ rd ∧ rd ≤ 12) → (12 - rd).toNat < nf → Re L xs 97 33 [(0, .ref 48), (1, V best), (2, .ref 44), (3, V left), (4, V marks), (5, V before), (6, V w), (7, V (w * 12)), (8, V rd)] [] (HP ly F G A11 B) Q := by
          intro nf
          induction nf with
          | zero => intros; omega
          | succ nf ih33A8 =>
            intro rd  hrd hm33
            refine r_iload i_97_33 rfl ?_
            refine r_aload_n i_97_35 rfl ?_
            refine r_getF (v := .ref 31) i_97_36 rfl (hly 48 _ rfl) (hF.1 48 0 31 rfl) ?_
            refine r_getF (v := .ref 32) i_97_39 rfl (hly 31 _ rfl) (hF.1 31 0 32 rfl) ?_
            refine r_iload i_97_42 rfl ?_
            refine r_iald i_97_44 (hly 32 _ rfl) (by omega) (by omega) (by omega) ?_
            rw [show A11 32 = A 32 from by rw [fa11 32 (by omega)]]
            have q_47 := a_32 hA (w.toNat)
            refine r_cge (t := 166) i_97_45 (by decide) (by omega) (by omega) (fun u_48 => ?_) (fun u_48 => ?_)
            · skip
              refine r_iinc (l' := [(0, .ref 48), (1, V best), (2, .ref 44), (3, V left), (4, V marks), (5, V before), (6, V (w + 1)), (7, V (w * 12)), (8, V rd)]) i_97_166 rfl (by decide +kernel) rfl ?_
              refine r_go (t := 11) i_97_169 (by decide) ?_
              exact lp11A345678 _ left marks before (w + 1) (w * 12) rd A11 hA11 (by intro a hh; rw [fa11 a (fun h => hh h)]) (by omega) (by omega) (by omega) (by omega) (Nat.lt_succ_self _)
            · skip
              refine r_iload i_97_48 rfl ?_
              refine r_iload i_97_50 rfl ?_
              refine r_iadd i_97_52 ?_
              refine r_istore (l' := [(0, .ref 48), (1, V best), (2, .ref 44), (3, V left), (4, V marks), (5, V before), (6, V w), (7, V (w * 12)), (8, V rd), (9, V ((w * 12) + rd))]) i_97_53 (by decide +kernel) rfl ?_
              refine r_aload_n i_97_55 rfl ?_
              refine r_getF (v := .ref 31) i_97_56 rfl (hly 48 _ rfl) (hF.1 48 0 31 rfl) ?_
              refine r_getF (v := .ref 37) i_97_59 rfl (hly 31 _ rfl) (hF.1 31 3 37 rfl) ?_
              refine r_iload i_97_62 rfl ?_
              refine r_iald i_97_64 (hly 37 _ rfl) (by omega) (by omega) (by omega) ?_
              rw [show A11 37 = A 37 from by rw [fa11 37 (by omega)]]
              have q_49 := a_37 hA (((w * 12) + rd).toNat)
              refine r_istore (l' := [(0, .ref 48), (1, V best), (2, .ref 44), (3, V left), (4, V marks), (5, V before), (6, V w), (7, V (w * 12)), (8, V rd), (9, V ((w * 12) + rd)), (10, V (A 37 (((w * 12) + rd).toNat)))]) i_97_65 (by decide +kernel) rfl ?_
              refine r_aload_n i_97_67 rfl ?_
              refine r_getF (v := .ref 31) i_97_68 rfl (hly 48 _ rfl) (hF.1 48 0 31 rfl) ?_
              refine r_getF (v := .ref 38) i_97_71 rfl (hly 31 _ rfl) (hF.1 31 4 38 rfl) ?_
              refine r_iload i_97_74 rfl ?_
              refine r_iald i_97_76 (hly 38 _ rfl) (by omega) (by omega) (by omega) ?_
              rw [show A11 38 = A 38 from by rw [fa11 38 (by omega)]]
              have q_50 := a_38 hA (((w * 12) + rd).toNat)
              have jn100 : ∀ (v : Int), (0 ≤ v ∧ v ≤ 1000000) → Re L xs 97 100 [(0, .ref 48), (1, V best), (2, .ref 44), (3, V left), (4, V marks), (5, V before), (6, V w), (7, V (w * 12)), (8, V rd), (9, V ((w * 12) + rd)), (10, V (A 37 (((w * 12) + rd).toNat)))] [V v, V (A 38 (((w * 12) + rd).toNat))] (HP ly F G A11 B) Q := by
                intro v  hv
                refine r_iadd i_97_100 ?_
                refine r_istore (l' := [(0, .ref 48), (1, V best), (2, .ref 44), (3, V left), (4, V marks), (5, V before), (6, V w), (7, V (w * 12)), (8, V rd), (9, V ((w * 12) + rd)), (10, V (A 37 (((w * 12) + rd).toNat))), (11, V ((A 38 (((w * 12) + rd).toNat)) + v))]) i_97_101 (by decide +kernel) rfl ?_
                refine r_aload_n i_97_103 rfl ?_
                refine r_iload i_97_104 rfl ?_
                refine r_iload i_97_106 rfl ?_
                refine r_iload i_97_108 rfl ?_
                refine r_aload_n i_97_110 rfl ?_
                refine r_getF (v := .ref 51) i_97_111 rfl (hly 48 _ rfl) (hF.1 48 3 51 rfl) ?_
                refine r_iload i_97_114 rfl ?_
                refine r_iald i_97_116 (hly 51 _ rfl) (by omega) (by omega) (by omega) ?_
                rw [show A11 51 = A 51 from by rw [fa11 51 (by omega)]]
                have q_51 := a_51 hA (((w * 12) + rd).toNat)
                refine r_iadd i_97_117 ?_
                refine r_cV (as := [V (marks + (A 51 (((w * 12) + rd).toNat))), V (A 37 (((w * 12) + rd).toNat)), V w]) i_97_118 rfl (by decide +kernel) (Nat.le_of_ble_eq_true rfl) (Nat.le_of_ble_eq_true rfl) (hly 48 _ rfl) rfl ?_
                refine c_98 (word := w) (kind := A 37 (((w * 12) + rd).toNat)) (marks := marks + (A 51 (((w * 12) + rd).toNat))) hly hF hG hA11 (by omega) (by omega) (by omega) (by omega) (by omega) (by exact spV_c (by rfl) (by rw [fa11 49 (by omega)]) (by rw [fa11 50 (by omega)]) hsp) (by omega) (fun r_52 p52_0 p52_1 => ?_)
                show Re L xs 97 121 [(0, .ref 48), (1, V best), (2, .ref 44), (3, V left), (4, V marks), (5, V before), (6, V w), (7, V (w * 12)), (8, V rd), (9, V ((w * 12) + rd)), (10, V (A 37 (((w * 12) + rd).toNat))), (11, V ((A 38 (((w * 12) + rd).toNat)) + v))] [V r_52] (HP ly F G A11 B) _
                rw [show A11 49 = A 49 from by rw [fa11 49 (by omega)]] at p52_1
                rw [show A11 50 = A 50 from by rw [fa11 50 (by omega)]] at p52_1
                rw [show A11 54 = A 54 from by rw [fa11 54 (by omega)]] at p52_1
                refine r_istore (l' := [(0, .ref 48), (1, V best), (2, .ref 44), (3, V left), (4, V marks), (5, V before), (6, V w), (7, V (w * 12)), (8, V rd), (9, V ((w * 12) + rd)), (10, V (A 37 (((w * 12) + rd).toNat))), (11, V ((A 38 (((w * 12) + rd).toNat)) + v)), (12, V r_52)]) i_97_121 (by decide +kernel) rfl ?_
                refine r_iload i_97_123 rfl ?_
                refine r_iload i_97_125 rfl ?_
                refine r_iadd i_97_127 ?_
                refine r_iload_n i_97_128 rfl ?_
                refine r_cne (t := 160) i_97_129 (by decide) (by omega) (by omega) (fun u_53 => ?_) (fun u_53 => ?_)
                · skip
                  refine r_iinc (l' := [(0, .ref 48), (1, V best), (2, .ref 44), (3, V left), (4, V marks), (5, V before), (6, V w), (7, V (w * 12)), (8, V (rd + 1)), (9, V ((w * 12) + rd)), (10, V (A 37 (((w * 12) + rd).toNat))), (11, V ((A 38 (((w * 12) + rd).toNat)) + v)), (12, V r_52)]) i_97_160 rfl (by decide +kernel) rfl ?_
                  refine r_go (t := 33) i_97_163 (by decide) ?_
                  exact lp33B _ (rd + 1) ((w * 12) + rd) (A 37 (((w * 12) + rd).toNat)) ((A 38 (((w * 12) + rd).toNat)) + v) r_52  (by omega) (Nat.lt_succ_self _)
                · skip
                  refine r_aload_n i_97_132 rfl ?_
                  refine r_iload i_97_133 rfl ?_
                  refine r_iload i_97_135 rfl ?_
                  refine r_iastQ i_97_137 (hly 44 _ rfl) (by omega) (by omega) (by omega) (fun A_54 eA_54 => ?_)
                  have hA_54 : AQ A_54 := by rw [eA_54]; exact au_44 hA11 (by omega) (by omega)
                  refine r_iload i_97_138 rfl ?_
                  refine r_istore_n (l' := [(0, .ref 48), (1, V best), (2, .ref 44), (3, V r_52), (4, V marks), (5, V before), (6, V w), (7, V (w * 12)), (8, V rd), (9, V ((w * 12) + rd)), (10, V (A 37 (((w * 12) + rd).toNat))), (11, V ((A 38 (((w * 12) + rd).toNat)) + v)), (12, V r_52)]) i_97_140 (by decide +kernel) rfl ?_
                  refine r_iload i_97_141 rfl ?_
                  refine r_aload_n i_97_143 rfl ?_
                  refine r_getF (v := .ref 51) i_97_144 rfl (hly 48 _ rfl) (hF.1 48 3 51 rfl) ?_
                  refine r_iload i_97_147 rfl ?_
                  refine r_iald i_97_149 (hly 51 _ rfl) (by omega) (by omega) (by omega) ?_
                  rw [show A_54 51 = A 51 from by rw [eA_54, up2_a (by omega), fa11 51 (by omega)]]
                  refine r_iadd i_97_150 ?_
                  refine r_istore (l' := [(0, .ref 48), (1, V best), (2, .ref 44), (3, V r_52), (4, V (marks + (A 51 (((w * 12) + rd).toNat)))), (5, V before), (6, V w), (7, V (w * 12)), (8, V rd), (9, V ((w * 12) + rd)), (10, V (A 37 (((w * 12) + rd).toNat))), (11, V ((A 38 (((w * 12) + rd).toNat)) + v)), (12, V r_52)]) i_97_151 (by decide +kernel) rfl ?_
                  refine r_iload i_97_153 rfl ?_
                  refine r_istore (l' := [(0, .ref 48), (1, V best), (2, .ref 44), (3, V r_52), (4, V (marks + (A 51 (((w * 12) + rd).toNat)))), (5, V (A 37 (((w * 12) + rd).toNat))), (6, V w), (7, V (w * 12)), (8, V rd), (9, V ((w * 12) + rd)), (10, V (A 37 (((w * 12) + rd).toNat))), (11, V ((A 38 (((w * 12) + rd).toNat)) + v)), (12, V r_52)]) i_97_155 (by decide +kernel) rfl ?_
                  refine r_go (t := 166) i_97_157 (by decide) ?_
                  refine r_iinc (l' := [(0, .ref 48), (1, V best), (2, .ref 44), (3, V r_52), (4, V (marks + (A 51 (((w * 12) + rd).toNat)))), (5, V (A 37 (((w * 12) + rd).toNat))), (6, V (w + 1)), (7, V (w * 12)), (8, V rd), (9, V ((w * 12) + rd)), (10, V (A 37 (((w * 12) + rd).toNat))), (11, V ((A 38 (((w * 12) + rd).toNat)) + v)), (12, V r_52)]) i_97_166 rfl (by decide +kernel) rfl ?_
                  refine r_go (t := 11) i_97_169 (by decide) ?_
                  exact lp11B _ r_52 (marks + (A 51 (((w * 12) + rd).toNat))) (A 37 (((w * 12) + rd).toNat)) (w + 1) (w * 12) rd ((w * 12) + rd) (A 37 (((w * 12) + rd).toNat)) ((A 38 (((w * 12) + rd).toNat)) + v) r_52 A_54 hA_54 (by intro a hh; rw [eA_54, up2_a (fun h => hh h), fa11 a (fun h => hh h)]) (by omega) (by omega) (by omega) (by omega) (Nat.lt_succ_self _)
              refine r_iload i_97_77 rfl ?_
              refine r_iconst i_97_79 ?_
              refine r_cne (t := 87) i_97_80 (by decide) (by omega) (by omega) (fun u_55 => ?_) (fun u_55 => ?_)
              · skip
                refine r_aload_n i_97_87 rfl ?_
                refine r_getF (v := .ref q) i_97_88 rfl (hly 48 _ rfl) hfq ?_
                refine r_iload i_97_91 rfl ?_
                refine r_bipush i_97_93 (by decide) ?_
                refine r_imul i_97_95 ?_
                refine r_iload i_97_96 rfl ?_
                refine r_iadd i_97_98 ?_
                refine r_iald i_97_99 (Lq_0 hly hq) (by omega) (by omega) (by omega) ?_
                rw [show A11 q = A q from by rw [fa11 q (by omega)]]
                have q_56 := Aq_0 hA hq (((before * 8) + (A 37 (((w * 12) + rd).toNat))).toNat)
                exact jn100 (A q (((before * 8) + (A 37 (((w * 12) + rd).toNat))).toNat))  (by omega)
              · skip
                refine r_iconst i_97_83 ?_
                refine r_go (t := 100) i_97_84 (by decide) ?_
                exact jn100 0  (by omega)
        exact lp33A8 _ 0  (by omega) (Nat.lt_succ_self _)
  exact lp11A3456 _ best 0 ((-1)) 0 A hA (by intro a hh; rfl) (by omega) (by omega) (by omega) (by omega) (Nat.lt_succ_self _)
