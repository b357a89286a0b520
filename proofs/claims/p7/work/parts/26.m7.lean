set_option maxHeartbeats 4000000 in
theorem c_157 {L : Nat} {xs : Nat → Int32} {ly : List LK} {F : Nat → Nat → Value} {G A : Nat → Nat → Int} {B : Nat → Nat → Int64} {Q : Option Value → AH → Prop}  (hly : LyOk ly) (hF : RfOk F) (hG : GO G) (hA : AQ A) (hs : G 90 3 ≤ 200) (K : ∀ (r : Int) (A' : Nat → Nat → Int), (AQ A') → (∀ a, ¬ (a = 118 ∨ a = 119 ∨ a = 120) → A' a = A a) → (-2001 ≤ r ∧ r ≤ 14) → (∀ j : Nat, (j : Int) < r → A' 118 j + A' 119 j ≤ 200) → Q (some (V r)) (HP ly F G A' B)) : Re L xs 157 0 [(0, .ref 90)] [] (HP ly F G A B) Q := by
  have z3 := g_90_3 hG
  refine r_iconst i_157_0 ?_
  refine r_istore_n (l' := [(0, .ref 90), (1, V 0)]) i_157_1 (by decide +kernel) rfl ?_
  refine r_iconst i_157_2 ?_
  refine r_istore_n (l' := [(0, .ref 90), (1, V 0), (2, V 0)]) i_157_3 (by decide +kernel) rfl ?_
  have lp4B : ∀ (nf : Nat) (n : Int) (k : Int) (l3 : Int) (l4 : Int) (l5 : Int) (A4 : Nat → Nat → Int), (AQ A4) → (∀ a, ¬ (a = 118 ∨ a = 119 ∨ a = 120) → A4 a = A a) → (0 ≤ n ∧ n ≤ 14) → (0 ≤ k ∧ k ≤ G 90 3) → (∀ j : Nat, (j : Int) < n → A4 118 j + A4 119 j ≤ 200) → (G 90 3 - k).toNat < nf → Re L xs 157 4 [(0, .ref 90), (1, V n), (2, V k), (3, V l3), (4, V l4), (5, V l5)] [] (HP ly F G A4 B) Q := by
    intro nf
    induction nf with
    | zero => intros; omega
    | succ nf ih4B =>
      intro n k l3 l4 l5 A4 hA4 fa4 hn hk hq hm4
      refine r_iload_n i_157_4 rfl ?_
      refine r_aload_n i_157_5 rfl ?_
      refine r_getI i_157_6 rfl (hly 90 _ rfl) ?_
      have q_1 := g_90_3 hG
      refine r_cge (t := 206) i_157_9 (by decide) (by omega) (by omega) (fun c_2 => ?_) (fun c_2 => ?_)
      · skip
        refine r_iload_n i_157_206 rfl ?_
        exact r_iret i_157_207 rfl rfl (K n A4 hA4 (by intro a hh; rw [fa4 a (by omega)]) (by omega) (by exact hq))
      · skip
        refine r_aload_n i_157_12 rfl ?_
        refine r_iload_n i_157_13 rfl ?_
        refine r_cV (as := [V k]) i_157_14 rfl (by decide +kernel) (Nat.le_of_ble_eq_true rfl) (Nat.le_of_ble_eq_true rfl) (hly 90 _ rfl) rfl ?_
        refine c_136 (k := k) hly hF hG hA4 (by omega) (by omega) (fun r_3 p3_0 p3_1 p3_2 p3_3 => ?_)
        show Re L xs 157 17 [(0, .ref 90), (1, V n), (2, V k), (3, V l3), (4, V l4), (5, V l5)] [V r_3] (HP ly F G A4 B) _
        refine r_bipush i_157_17 (by decide) ?_
        refine r_cne (t := 28) i_157_19 (by decide) (by omega) (by omega) (fun c_4 => ?_) (fun c_4 => ?_)
        · skip
          have jn43 : ∀ (kept : Int), (0 ≤ kept ∧ kept ≤ 1) → Re L xs 157 43 [(0, .ref 90), (1, V n), (2, V k), (3, V l3), (4, V l4), (5, V l5)] [V kept] (HP ly F G A4 B) Q := by
            intro kept  hkp
            refine r_istore_n (l' := [(0, .ref 90), (1, V n), (2, V k), (3, V kept), (4, V l4), (5, V l5)]) i_157_43 (by decide +kernel) rfl ?_
            have jn55 : ∀ (first : Int), (first = k + kept) → Re L xs 157 55 [(0, .ref 90), (1, V n), (2, V k), (3, V kept), (4, V l4), (5, V l5)] [V first] (HP ly F G A4 B) Q := by
              intro first  hfi
              refine r_istore (l' := [(0, .ref 90), (1, V n), (2, V k), (3, V kept), (4, V first), (5, V l5)]) i_157_55 (by decide +kernel) rfl ?_
              have jn109 : ∀ (_ : Unit), (first < G 90 3) → (n ≤ 13) → ((97 ≤ A4 92 first.toNat % 256 ∧ A4 92 first.toNat % 256 ≤ 122) ∨ (65 ≤ A4 92 first.toNat % 256 ∧ A4 92 first.toNat % 256 ≤ 90)) → Re L xs 157 109 [(0, .ref 90), (1, V n), (2, V k), (3, V kept), (4, V first), (5, V l5)] [] (HP ly F G A4 B) Q := by
                intro _  hf hn13 hlet
                refine r_iload i_157_109 rfl ?_
                refine r_istore (l' := [(0, .ref 90), (1, V n), (2, V k), (3, V kept), (4, V first), (5, V first)]) i_157_111 (by decide +kernel) rfl ?_
                have lp113B : ∀ (nf : Nat) (p : Int), (first ≤ p ∧ p ≤ first + 12 ∧ p ≤ G 90 3) → (G 90 3 - p).toNat < nf → Re L xs 157 113 [(0, .ref 90), (1, V n), (2, V k), (3, V kept), (4, V first), (5, V p)] [] (HP ly F G A4 B) Q := by
                  intro nf
                  induction nf with
                  | zero => intros; omega
                  | succ nf ih113B =>
                    intro p  hp hm113
                    refine r_aload_n i_157_113 rfl ?_
                    refine r_iload i_157_114 rfl ?_
                    refine r_cV (as := [V p]) i_157_116 rfl (by decide +kernel) (Nat.le_of_ble_eq_true rfl) (Nat.le_of_ble_eq_true rfl) (hly 90 _ rfl) rfl ?_
                    refine c_136 (k := p) hly hF hG hA4 (by omega) (by omega) (fun r_5 p5_0 p5_1 p5_2 p5_3 => ?_)
                    show Re L xs 157 119 [(0, .ref 90), (1, V n), (2, V k), (3, V kept), (4, V first), (5, V p)] [V r_5] (HP ly F G A4 B) _
                    refine r_cS (as := [V r_5]) i_157_119 rfl (by decide +kernel) (Nat.le_of_ble_eq_true rfl) (Nat.le_of_ble_eq_true rfl) ?_
                    refine c_137 (c := r_5) hly hF hG hA4 (by omega) (fun r_6 p6_0 p6_1 => ?_)
                    show Re L xs 157 122 [(0, .ref 90), (1, V n), (2, V k), (3, V kept), (4, V first), (5, V p)] [V r_6] (HP ly F G A4 B) _
                    refine r_eq0 (t := 146) i_157_122 (by decide) (by omega) (fun c_7 => ?_) (fun c_7 => ?_)
                    · skip
                      have jn171 : ∀ (_ : Unit), Re L xs 157 171 [(0, .ref 90), (1, V n), (2, V k), (3, V kept), (4, V first), (5, V p)] [] (HP ly F G A4 B) Q := by
                        intro _  
                        refine r_aload_n i_157_171 rfl ?_
                        refine r_getF (v := .ref 118) i_157_172 rfl (hly 90 _ rfl) (hF.1 90 42 118 rfl) ?_
                        refine r_iload_n i_157_175 rfl ?_
                        refine r_iload i_157_176 rfl ?_
                        refine r_iastQ i_157_178 (hly 118 _ rfl) (by omega) (by omega) (by omega) (fun A_8 eA_8 => ?_)
                        have hA_8 : AQ A_8 := by rw [eA_8]; exact au_118 hA4 (by omega) (by omega)
                        refine r_aload_n i_157_179 rfl ?_
                        refine r_getF (v := .ref 119) i_157_180 rfl (hly 90 _ rfl) (hF.1 90 43 119 rfl) ?_
                        refine r_iload_n i_157_183 rfl ?_
                        refine r_iload i_157_184 rfl ?_
                        refine r_iload i_157_186 rfl ?_
                        refine r_isub i_157_188 ?_
                        refine r_iastQ i_157_189 (hly 119 _ rfl) (by omega) (by omega) (by omega) (fun A_9 eA_9 => ?_)
                        have hA_9 : AQ A_9 := by rw [eA_9]; exact au_119 hA_8 (by omega) (by omega)
                        refine r_aload_n i_157_190 rfl ?_
                        refine r_getF (v := .ref 120) i_157_191 rfl (hly 90 _ rfl) (hF.1 90 44 120 rfl) ?_
                        refine r_iload_n i_157_194 rfl ?_
                        refine r_iload_n i_157_195 rfl ?_
                        refine r_zastQ i_157_196 (hly 120 _ rfl) (by omega) (by omega) (by omega) (by omega) (fun A_10 eA_10 => ?_)
                        have hA_10 : AQ A_10 := by rw [eA_10]; exact au_120 hA_9 (by omega) (by omega)
                        have x118_1 : A_8 118 = fun i => if i = n.toNat then first else A4 118 i := by rw [eA_8, up2_f]
                        have x118 : A_10 118 = fun i => if i = n.toNat then first else A4 118 i := by rw [eA_10, up2_a (by omega), eA_9, up2_a (by omega), x118_1]
                        have x119_1 : A_9 119 = fun i => if i = n.toNat then p - first else A4 119 i := by rw [eA_9, up2_f, eA_8, up2_a (by omega)]
                        have x119 : A_10 119 = fun i => if i = n.toNat then p - first else A4 119 i := by rw [eA_10, up2_a (by omega), x119_1]
                        refine r_iinc (l' := [(0, .ref 90), (1, V (n + 1)), (2, V k), (3, V kept), (4, V first), (5, V p)]) i_157_197 rfl (by decide +kernel) rfl ?_
                        refine r_iload i_157_200 rfl ?_
                        refine r_istore_n (l' := [(0, .ref 90), (1, V (n + 1)), (2, V p), (3, V kept), (4, V first), (5, V p)]) i_157_202 (by decide +kernel) rfl ?_
                        refine r_go (t := 4) i_157_203 (by decide) ?_
                        exact ih4B (n + 1) p kept first p A_10 hA_10 (by intro a hh; rw [eA_10, up2_a (by omega), eA_9, up2_a (by omega), eA_8, up2_a (by omega), fa4 a (by omega)]) (by omega) (by omega) (by first | (intro j hj; exfalso; omega) | exact hq | (intro j hj; rw [x118, x119]; dsimp only; exact if e : j = ((n + 1)).toNat - 1 then (by rw [if_pos (by omega), if_pos (by omega)]; omega) else (by rw [if_neg (by omega), if_neg (by omega)]; exact hq j (by omega)))) (by first | omega | exact if e : p = first then (by exfalso; subst e; omega) else (by omega))
                      refine r_iload i_157_146 rfl ?_
                      refine r_aload_n i_157_148 rfl ?_
                      refine r_getI i_157_149 rfl (hly 90 _ rfl) ?_
                      refine r_cge (t := 171) i_157_152 (by decide) (by omega) (by omega) (fun c_11 => ?_) (fun c_11 => ?_)
                      · skip
                        exact jn171 ()  
                      · skip
                        refine r_aload_n i_157_155 rfl ?_
                        refine r_iload i_157_156 rfl ?_
                        refine r_cV (as := [V p]) i_157_158 rfl (by decide +kernel) (Nat.le_of_ble_eq_true rfl) (Nat.le_of_ble_eq_true rfl) (hly 90 _ rfl) rfl ?_
                        refine c_136 (k := p) hly hF hG hA4 (by omega) (by omega) (fun r_12 p12_0 p12_1 p12_2 p12_3 => ?_)
                        show Re L xs 157 161 [(0, .ref 90), (1, V n), (2, V k), (3, V kept), (4, V first), (5, V p)] [V r_12] (HP ly F G A4 B) _
                        refine r_bipush i_157_161 (by decide) ?_
                        refine r_ceq (t := 171) i_157_163 (by decide) (by omega) (by omega) (fun c_13 => ?_) (fun c_13 => ?_)
                        · skip
                          exact jn171 ()  
                        · skip
                          refine r_iconst i_157_166 ?_
                          refine r_iload i_157_167 rfl ?_
                          refine r_isub i_157_169 ?_
                          exact r_iret i_157_170 rfl rfl (K (((-1)) - p) A4 hA4 (by intro a hh; rw [fa4 a (by omega)]) (by omega) (by intro j hj; exfalso; omega))
                    · skip
                      refine r_iload i_157_125 rfl ?_
                      refine r_iload i_157_127 rfl ?_
                      refine r_isub i_157_129 ?_
                      refine r_bipush i_157_130 (by decide) ?_
                      refine r_cne (t := 140) i_157_132 (by decide) (by omega) (by omega) (fun c_14 => ?_) (fun c_14 => ?_)
                      · skip
                        refine r_iinc (l' := [(0, .ref 90), (1, V n), (2, V k), (3, V kept), (4, V first), (5, V (p + 1))]) i_157_140 rfl (by decide +kernel) rfl ?_
                        refine r_go (t := 113) i_157_143 (by decide) ?_
                        exact ih113B (p + 1)  (by omega) (by omega)
                      · skip
                        refine r_iconst i_157_135 ?_
                        refine r_iload i_157_136 rfl ?_
                        refine r_isub i_157_138 ?_
                        exact r_iret i_157_139 rfl rfl (K (((-1)) - p) A4 hA4 (by intro a hh; rw [fa4 a (by omega)]) (by omega) (by intro j hj; exfalso; omega))
                exact lp113B _ first  (by omega) (Nat.lt_succ_self _)
              have jn90 : ∀ (_ : Unit), Re L xs 157 90 [(0, .ref 90), (1, V n), (2, V k), (3, V kept), (4, V first), (5, V l5)] [] (HP ly F G A4 B) Q := by
                intro _  
                refine r_iconst i_157_90 ?_
                have jn107 : ∀ (w : Int), (0 ≤ w ∧ w ≤ 201) → Re L xs 157 107 [(0, .ref 90), (1, V n), (2, V k), (3, V kept), (4, V first), (5, V l5)] [V w, V ((-1))] (HP ly F G A4 B) Q := by
                  intro w  hw
                  refine r_isub i_157_107 ?_
                  exact r_iret i_157_108 rfl rfl (K (((-1)) - w) A4 hA4 (by intro a hh; rw [fa4 a (by omega)]) (by omega) (by intro j hj; exfalso; omega))
                refine r_iload_n i_157_91 rfl ?_
                refine r_bipush i_157_92 (by decide) ?_
                refine r_cne (t := 105) i_157_94 (by decide) (by omega) (by omega) (fun c_15 => ?_) (fun c_15 => ?_)
                · skip
                  refine r_iload i_157_105 rfl ?_
                  exact jn107 first  (by omega)
                · skip
                  refine r_iload_n i_157_97 rfl ?_
                  refine r_eq0 (t := 105) i_157_98 (by decide) (by omega) (fun c_16 => ?_) (fun c_16 => ?_)
                  · skip
                    refine r_iload i_157_105 rfl ?_
                    exact jn107 first  (by omega)
                  · skip
                    refine r_iload_n i_157_101 rfl ?_
                    refine r_go (t := 107) i_157_102 (by decide) ?_
                    exact jn107 k  (by omega)
              refine r_iload_n i_157_57 rfl ?_
              refine r_bipush i_157_58 (by decide) ?_
              refine r_cne (t := 78) i_157_60 (by decide) (by omega) (by omega) (fun c_17 => ?_) (fun c_17 => ?_)
              · skip
                refine r_aload_n i_157_78 rfl ?_
                refine r_iload i_157_79 rfl ?_
                refine r_cV (as := [V first]) i_157_81 rfl (by decide +kernel) (Nat.le_of_ble_eq_true rfl) (Nat.le_of_ble_eq_true rfl) (hly 90 _ rfl) rfl ?_
                refine c_136 (k := first) hly hF hG hA4 (by omega) (by omega) (fun r_18 p18_0 p18_1 p18_2 p18_3 => ?_)
                show Re L xs 157 84 [(0, .ref 90), (1, V n), (2, V k), (3, V kept), (4, V first), (5, V l5)] [V r_18] (HP ly F G A4 B) _
                refine r_cS (as := [V r_18]) i_157_84 rfl (by decide +kernel) (Nat.le_of_ble_eq_true rfl) (Nat.le_of_ble_eq_true rfl) ?_
                refine c_137 (c := r_18) hly hF hG hA4 (by omega) (fun r_19 p19_0 p19_1 => ?_)
                show Re L xs 157 87 [(0, .ref 90), (1, V n), (2, V k), (3, V kept), (4, V first), (5, V l5)] [V r_19] (HP ly F G A4 B) _
                refine r_ne0 (t := 109) i_157_87 (by decide) (by omega) (fun c_20 => ?_) (fun c_20 => ?_)
                · skip
                  exact jn109 ()  (by omega) (by first | omega | (exfalso; have e4 : first = k := (by omega); subst e4; omega)) (by omega)
                · skip
                  exact jn90 ()  
              · skip
                refine r_iload_n i_157_63 rfl ?_
                refine r_ne0 (t := 90) i_157_64 (by decide) (by omega) (fun c_21 => ?_) (fun c_21 => ?_)
                · skip
                  exact jn90 ()  
                · skip
                  refine r_aload_n i_157_67 rfl ?_
                  refine r_iload_n i_157_68 rfl ?_
                  refine r_cV (as := [V k]) i_157_69 rfl (by decide +kernel) (Nat.le_of_ble_eq_true rfl) (Nat.le_of_ble_eq_true rfl) (hly 90 _ rfl) rfl ?_
                  refine c_136 (k := k) hly hF hG hA4 (by omega) (by omega) (fun r_22 p22_0 p22_1 p22_2 p22_3 => ?_)
                  show Re L xs 157 72 [(0, .ref 90), (1, V n), (2, V k), (3, V kept), (4, V first), (5, V l5)] [V r_22] (HP ly F G A4 B) _
                  refine r_cS (as := [V r_22]) i_157_72 rfl (by decide +kernel) (Nat.le_of_ble_eq_true rfl) (Nat.le_of_ble_eq_true rfl) ?_
                  refine c_137 (c := r_22) hly hF hG hA4 (by omega) (fun r_23 p23_0 p23_1 => ?_)
                  show Re L xs 157 75 [(0, .ref 90), (1, V n), (2, V k), (3, V kept), (4, V first), (5, V l5)] [V r_23] (HP ly F G A4 B) _
                  refine r_ne0 (t := 90) i_157_75 (by decide) (by omega) (fun c_24 => ?_) (fun c_24 => ?_)
                  · skip
                    exact jn90 ()  
                  · skip
                    refine r_aload_n i_157_78 rfl ?_
                    refine r_iload i_157_79 rfl ?_
                    refine r_cV (as := [V first]) i_157_81 rfl (by decide +kernel) (Nat.le_of_ble_eq_true rfl) (Nat.le_of_ble_eq_true rfl) (hly 90 _ rfl) rfl ?_
                    refine c_136 (k := first) hly hF hG hA4 (by omega) (by omega) (fun r_25 p25_0 p25_1 p25_2 p25_3 => ?_)
                    show Re L xs 157 84 [(0, .ref 90), (1, V n), (2, V k), (3, V kept), (4, V first), (5, V l5)] [V r_25] (HP ly F G A4 B) _
                    refine r_cS (as := [V r_25]) i_157_84 rfl (by decide +kernel) (Nat.le_of_ble_eq_true rfl) (Nat.le_of_ble_eq_true rfl) ?_
                    refine c_137 (c := r_25) hly hF hG hA4 (by omega) (fun r_26 p26_0 p26_1 => ?_)
                    show Re L xs 157 87 [(0, .ref 90), (1, V n), (2, V k), (3, V kept), (4, V first), (5, V l5)] [V r_26] (HP ly F G A4 B) _
                    refine r_ne0 (t := 109) i_157_87 (by decide) (by omega) (fun c_27 => ?_) (fun c_27 => ?_)
                    · skip
                      exact jn109 ()  (by omega) (by first | omega | (exfalso; have e4 : first = k := (by omega); subst e4; omega)) (by omega)
                    · skip
                      exact jn90 ()  
            refine r_iload_n i_157_44 rfl ?_
            refine r_eq0 (t := 54) i_157_45 (by decide) (by omega) (fun c_28 => ?_) (fun c_28 => ?_)
            · skip
              refine r_iload_n i_157_54 rfl ?_
              exact jn55 k  (by omega)
            · skip
              refine r_iload_n i_157_48 rfl ?_
              refine r_iconst i_157_49 ?_
              refine r_iadd i_157_50 ?_
              refine r_go (t := 55) i_157_51 (by decide) ?_
              exact jn55 (k + 1)  (by omega)
          refine r_aload_n i_157_28 rfl ?_
          refine r_iload_n i_157_29 rfl ?_
          refine r_cV (as := [V k]) i_157_30 rfl (by decide +kernel) (Nat.le_of_ble_eq_true rfl) (Nat.le_of_ble_eq_true rfl) (hly 90 _ rfl) rfl ?_
          refine c_136 (k := k) hly hF hG hA4 (by omega) (by omega) (fun r_29 p29_0 p29_1 p29_2 p29_3 => ?_)
          show Re L xs 157 33 [(0, .ref 90), (1, V n), (2, V k), (3, V l3), (4, V l4), (5, V l5)] [V r_29] (HP ly F G A4 B) _
          refine r_bipush i_157_33 (by decide) ?_
          refine r_cne (t := 42) i_157_35 (by decide) (by omega) (by omega) (fun c_30 => ?_) (fun c_30 => ?_)
          · skip
            refine r_iconst i_157_42 ?_
            exact jn43 0  (by omega)
          · skip
            refine r_iconst i_157_38 ?_
            refine r_go (t := 43) i_157_39 (by decide) ?_
            exact jn43 1  (by omega)
        · skip
          refine r_iinc (l' := [(0, .ref 90), (1, V n), (2, V (k + 1)), (3, V l3), (4, V l4), (5, V l5)]) i_157_22 rfl (by decide +kernel) rfl ?_
          refine r_go (t := 4) i_157_25 (by decide) ?_
          exact ih4B n (k + 1) l3 l4 l5 A4 hA4 (by intro a hh; rw [fa4 a (by omega)]) (by omega) (by omega) (by first | (intro j hj; exfalso; omega) | exact hq | (intro j hj; rw [x118, x119]; dsimp only; exact if e : j = (n).toNat - 1 then (by rw [if_pos (by omega), if_pos (by omega)]; omega) else (by rw [if_neg (by omega), if_neg (by omega)]; exact hq j (by omega)))) (by first | omega | exact if e : l5 = l4 then (by exfalso; subst e; omega) else (by omega))
  have lp4A12 : ∀ (nf : Nat) (n : Int) (k : Int) (A4 : Nat → Nat → Int), (AQ A4) → (∀ a, ¬ (a = 118 ∨ a = 119 ∨ a = 120) → A4 a = A a) → (0 ≤ n ∧ n ≤ 14) → (0 ≤ k ∧ k ≤ G 90 3) → (∀ j : Nat, (j : Int) < n → A4 118 j + A4 119 j ≤ 200) → (G 90 3 - k).toNat < nf → Re L xs 157 4 [(0, .ref 90), (1, V n), (2, V k)] [] (HP ly F G A4 B) Q := by
    intro nf
    induction nf with
    | zero => intros; omega
    | succ nf ih4A12 =>
      intro n k A4 hA4 fa4 hn hk hq hm4
      refine r_iload_n i_157_4 rfl ?_
      refine r_aload_n i_157_5 rfl ?_
      refine r_getI i_157_6 rfl (hly 90 _ rfl) ?_
      have q_31 := g_90_3 hG
      refine r_cge (t := 206) i_157_9 (by decide) (by omega) (by omega) (fun c_32 => ?_) (fun c_32 => ?_)
      · skip
        refine r_iload_n i_157_206 rfl ?_
        exact r_iret i_157_207 rfl rfl (K n A4 hA4 (by intro a hh; rw [fa4 a (by omega)]) (by omega) (by exact hq))
      · skip
        refine r_aload_n i_157_12 rfl ?_
        refine r_iload_n i_157_13 rfl ?_
        refine r_cV (as := [V k]) i_157_14 rfl (by decide +kernel) (Nat.le_of_ble_eq_true rfl) (Nat.le_of_ble_eq_true rfl) (hly 90 _ rfl) rfl ?_
        refine c_136 (k := k) hly hF hG hA4 (by omega) (by omega) (fun r_33 p33_0 p33_1 p33_2 p33_3 => ?_)
        show Re L xs 157 17 [(0, .ref 90), (1, V n), (2, V k)] [V r_33] (HP ly F G A4 B) _
        refine r_bipush i_157_17 (by decide) ?_
        refine r_cne (t := 28) i_157_19 (by decide) (by omega) (by omega) (fun c_34 => ?_) (fun c_34 => ?_)
        · skip
          have jn43 : ∀ (kept : Int), (0 ≤ kept ∧ kept ≤ 1) → Re L xs 157 43 [(0, .ref 90), (1, V n), (2, V k)] [V kept] (HP ly F G A4 B) Q := by
            intro kept  hkp
            refine r_istore_n (l' := [(0, .ref 90), (1, V n), (2, V k), (3, V kept)]) i_157_43 (by decide +kernel) rfl ?_
            have jn55 : ∀ (first : Int), (first = k + kept) → Re L xs 157 55 [(0, .ref 90), (1, V n), (2, V k), (3, V kept)] [V first] (HP ly F G A4 B) Q := by
              intro first  hfi
              refine r_istore (l' := [(0, .ref 90), (1, V n), (2, V k), (3, V kept), (4, V first)]) i_157_55 (by decide +kernel) rfl ?_
              have jn109 : ∀ (_ : Unit), (first < G 90 3) → (n ≤ 13) → ((97 ≤ A4 92 first.toNat % 256 ∧ A4 92 first.toNat % 256 ≤ 122) ∨ (65 ≤ A4 92 first.toNat % 256 ∧ A4 92 first.toNat % 256 ≤ 90)) → Re L xs 157 109 [(0, .ref 90), (1, V n), (2, V k), (3, V kept), (4, V first)] [] (HP ly F G A4 B) Q := by
                intro _  hf hn13 hlet
                refine r_iload i_157_109 rfl ?_
                refine r_istore (l' := [(0, .ref 90), (1, V n), (2, V k), (3, V kept), (4, V first), (5, V first)]) i_157_111 (by decide +kernel) rfl ?_
                have lp113B : ∀ (nf : Nat) (p : Int), (first ≤ p ∧ p ≤ first + 12 ∧ p ≤ G 90 3) → (G 90 3 - p).toNat < nf → Re L xs 157 113 [(0, .ref 90), (1, V n), (2, V k), (3, V kept), (4, V first), (5, V p)] [] (HP ly F G A4 B) Q := by
                  intro nf
                  induction nf with
                  | zero => intros; omega
                  | succ nf ih113B =>
                    intro p  hp hm113
                    refine r_aload_n i_157_113 rfl ?_
                    refine r_iload i_157_114 rfl ?_
                    refine r_cV (as := [V p]) i_157_116 rfl (by decide +kernel) (Nat.le_of_ble_eq_true rfl) (Nat.le_of_ble_eq_true rfl) (hly 90 _ rfl) rfl ?_
                    refine c_136 (k := p) hly hF hG hA4 (by omega) (by omega) (fun r_35 p35_0 p35_1 p35_2 p35_3 => ?_)
                    show Re L xs 157 119 [(0, .ref 90), (1, V n), (2, V k), (3, V kept), (4, V first), (5, V p)] [V r_35] (HP ly F G A4 B) _
                    refine r_cS (as := [V r_35]) i_157_119 rfl (by decide +kernel) (Nat.le_of_ble_eq_true rfl) (Nat.le_of_ble_eq_true rfl) ?_
                    refine c_137 (c := r_35) hly hF hG hA4 (by omega) (fun r_36 p36_0 p36_1 => ?_)
                    show Re L xs 157 122 [(0, .ref 90), (1, V n), (2, V k), (3, V kept), (4, V first), (5, V p)] [V r_36] (HP ly F G A4 B) _
                    refine r_eq0 (t := 146) i_157_122 (by decide) (by omega) (fun c_37 => ?_) (fun c_37 => ?_)
                    · skip
                      have jn171 : ∀ (_ : Unit), Re L xs 157 171 [(0, .ref 90), (1, V n), (2, V k), (3, V kept), (4, V first), (5, V p)] [] (HP ly F G A4 B) Q := by
                        intro _  
                        refine r_aload_n i_157_171 rfl ?_
                        refine r_getF (v := .ref 118) i_157_172 rfl (hly 90 _ rfl) (hF.1 90 42 118 rfl) ?_
                        refine r_iload_n i_157_175 rfl ?_
                        refine r_iload i_157_176 rfl ?_
                        refine r_iastQ i_157_178 (hly 118 _ rfl) (by omega) (by omega) (by omega) (fun A_38 eA_38 => ?_)
                        have hA_38 : AQ A_38 := by rw [eA_38]; exact au_118 hA4 (by omega) (by omega)
                        refine r_aload_n i_157_179 rfl ?_
                        refine r_getF (v := .ref 119) i_157_180 rfl (hly 90 _ rfl) (hF.1 90 43 119 rfl) ?_
                        refine r_iload_n i_157_183 rfl ?_
                        refine r_iload i_157_184 rfl ?_
                        refine r_iload i_157_186 rfl ?_
                        refine r_isub i_157_188 ?_
                        refine r_iastQ i_157_189 (hly 119 _ rfl) (by omega) (by omega) (by omega) (fun A_39 eA_39 => ?_)
                        have hA_39 : AQ A_39 := by rw [eA_39]; exact au_119 hA_38 (by omega) (by omega)
                        refine r_aload_n i_157_190 rfl ?_
                        refine r_getF (v := .ref 120) i_157_191 rfl (hly 90 _ rfl) (hF.1 90 44 120 rfl) ?_
                        refine r_iload_n i_157_194 rfl ?_
                        refine r_iload_n i_157_195 rfl ?_
                        refine r_zastQ i_157_196 (hly 120 _ rfl) (by omega) (by omega) (by omega) (by omega) (fun A_40 eA_40 => ?_)
                        have hA_40 : AQ A_40 := by rw [eA_40]; exact au_120 hA_39 (by omega) (by omega)
                        have x118_1 : A_38 118 = fun i => if i = n.toNat then first else A4 118 i := by rw [eA_38, up2_f]
                        have x118 : A_40 118 = fun i => if i = n.toNat then first else A4 118 i := by rw [eA_40, up2_a (by omega), eA_39, up2_a (by omega), x118_1]
                        have x119_1 : A_39 119 = fun i => if i = n.toNat then p - first else A4 119 i := by rw [eA_39, up2_f, eA_38, up2_a (by omega)]
                        have x119 : A_40 119 = fun i => if i = n.toNat then p - first else A4 119 i := by rw [eA_40, up2_a (by omega), x119_1]
                        refine r_iinc (l' := [(0, .ref 90), (1, V (n + 1)), (2, V k), (3, V kept), (4, V first), (5, V p)]) i_157_197 rfl (by decide +kernel) rfl ?_
                        refine r_iload i_157_200 rfl ?_
                        refine r_istore_n (l' := [(0, .ref 90), (1, V (n + 1)), (2, V p), (3, V kept), (4, V first), (5, V p)]) i_157_202 (by decide +kernel) rfl ?_
                        refine r_go (t := 4) i_157_203 (by decide) ?_
                        exact lp4B _ (n + 1) p kept first p A_40 hA_40 (by intro a hh; rw [eA_40, up2_a (by omega), eA_39, up2_a (by omega), eA_38, up2_a (by omega), fa4 a (by omega)]) (by omega) (by omega) (by first | (intro j hj; exfalso; omega) | exact hq | (intro j hj; rw [x118, x119]; dsimp only; exact if e : j = ((n + 1)).toNat - 1 then (by rw [if_pos (by omega), if_pos (by omega)]; omega) else (by rw [if_neg (by omega), if_neg (by omega)]; exact hq j (by omega)))) (Nat.lt_succ_self _)
                      refine r_iload i_157_146 rfl ?_
                      refine r_aload_n i_157_148 rfl ?_
                      refine r_getI i_157_149 rfl (hly 90 _ rfl) ?_
                      refine r_cge (t := 171) i_157_152 (by decide) (by omega) (by omega) (fun c_41 => ?_) (fun c_41 => ?_)
                      · skip
                        exact jn171 ()  
                      · skip
                        refine r_aload_n i_157_155 rfl ?_
                        refine r_iload i_157_156 rfl ?_
                        refine r_cV (as := [V p]) i_157_158 rfl (by decide +kernel) (Nat.le_of_ble_eq_true rfl) (Nat.le_of_ble_eq_true rfl) (hly 90 _ rfl) rfl ?_
                        refine c_136 (k := p) hly hF hG hA4 (by omega) (by omega) (fun r_42 p42_0 p42_1 p42_2 p42_3 => ?_)
                        show Re L xs 157 161 [(0, .ref 90), (1, V n), (2, V k), (3, V kept), (4, V first), (5, V p)] [V r_42] (HP ly F G A4 B) _
                        refine r_bipush i_157_161 (by decide) ?_
                        refine r_ceq (t := 171) i_157_163 (by decide) (by omega) (by omega) (fun c_43 => ?_) (fun c_43 => ?_)
                        · skip
                          exact jn171 ()  
                        · skip
                          refine r_iconst i_157_166 ?_
                          refine r_iload i_157_167 rfl ?_
                          refine r_isub i_157_169 ?_
                          exact r_iret i_157_170 rfl rfl (K (((-1)) - p) A4 hA4 (by intro a hh; rw [fa4 a (by omega)]) (by omega) (by intro j hj; exfalso; omega))
                    · skip
                      refine r_iload i_157_125 rfl ?_
                      refine r_iload i_157_127 rfl ?_
                      refine r_isub i_157_129 ?_
                      refine r_bipush i_157_130 (by decide) ?_
                      refine r_cne (t := 140) i_157_132 (by decide) (by omega) (by omega) (fun c_44 => ?_) (fun c_44 => ?_)
                      · skip
                        refine r_iinc (l' := [(0, .ref 90), (1, V n), (2, V k), (3, V kept), (4, V first), (5, V (p + 1))]) i_157_140 rfl (by decide +kernel) rfl ?_
                        refine r_go (t := 113) i_157_143 (by decide) ?_
                        exact ih113B (p + 1)  (by omega) (by omega)
                      · skip
                        refine r_iconst i_157_135 ?_
                        refine r_iload i_157_136 rfl ?_
                        refine r_isub i_157_138 ?_
                        exact r_iret i_157_139 rfl rfl (K (((-1)) - p) A4 hA4 (by intro a hh; rw [fa4 a (by omega)]) (by omega) (by intro j hj; exfalso; omega))
                exact lp113B _ first  (by omega) (Nat.lt_succ_self _)
              have jn90 : ∀ (_ : Unit), Re L xs 157 90 [(0, .ref 90), (1, V n), (2, V k), (3, V kept), (4, V first)] [] (HP ly F G A4 B) Q := by
                intro _  
                refine r_iconst i_157_90 ?_
                have jn107 : ∀ (w : Int), (0 ≤ w ∧ w ≤ 201) → Re L xs 157 107 [(0, .ref 90), (1, V n), (2, V k), (3, V kept), (4, V first)] [V w, V ((-1))] (HP ly F G A4 B) Q := by
                  intro w  hw
                  refine r_isub i_157_107 ?_
                  exact r_iret i_157_108 rfl rfl (K (((-1)) - w) A4 hA4 (by intro a hh; rw [fa4 a (by omega)]) (by omega) (by intro j hj; exfalso; omega))
                refine r_iload_n i_157_91 rfl ?_
                refine r_bipush i_157_92 (by decide) ?_
                refine r_cne (t := 105) i_157_94 (by decide) (by omega) (by omega) (fun c_45 => ?_) (fun c_45 => ?_)
                · skip
                  refine r_iload i_157_105 rfl ?_
                  exact jn107 first  (by omega)
                · skip
                  refine r_iload_n i_157_97 rfl ?_
                  refine r_eq0 (t := 105) i_157_98 (by decide) (by omega) (fun c_46 => ?_) (fun c_46 => ?_)
                  · skip
                    refine r_iload i_157_105 rfl ?_
                    exact jn107 first  (by omega)
                  · skip
                    refine r_iload_n i_157_101 rfl ?_
                    refine r_go (t := 107) i_157_102 (by decide) ?_
                    exact jn107 k  (by omega)
              refine r_iload_n i_157_57 rfl ?_
              refine r_bipush i_157_58 (by decide) ?_
              refine r_cne (t := 78) i_157_60 (by decide) (by omega) (by omega) (fun c_47 => ?_) (fun c_47 => ?_)
              · skip
                refine r_aload_n i_157_78 rfl ?_
                refine r_iload i_157_79 rfl ?_
                refine r_cV (as := [V first]) i_157_81 rfl (by decide +kernel) (Nat.le_of_ble_eq_true rfl) (Nat.le_of_ble_eq_true rfl) (hly 90 _ rfl) rfl ?_
                refine c_136 (k := first) hly hF hG hA4 (by omega) (by omega) (fun r_48 p48_0 p48_1 p48_2 p48_3 => ?_)
                show Re L xs 157 84 [(0, .ref 90), (1, V n), (2, V k), (3, V kept), (4, V first)] [V r_48] (HP ly F G A4 B) _
                refine r_cS (as := [V r_48]) i_157_84 rfl (by decide +kernel) (Nat.le_of_ble_eq_true rfl) (Nat.le_of_ble_eq_true rfl) ?_
                refine c_137 (c := r_48) hly hF hG hA4 (by omega) (fun r_49 p49_0 p49_1 => ?_)
                show Re L xs 157 87 [(0, .ref 90), (1, V n), (2, V k), (3, V kept), (4, V first)] [V r_49] (HP ly F G A4 B) _
                refine r_ne0 (t := 109) i_157_87 (by decide) (by omega) (fun c_50 => ?_) (fun c_50 => ?_)
                · skip
                  exact jn109 ()  (by omega) (by first | omega | (exfalso; have e4 : first = k := (by omega); subst e4; omega)) (by omega)
                · skip
                  exact jn90 ()  
              · skip
                refine r_iload_n i_157_63 rfl ?_
                refine r_ne0 (t := 90) i_157_64 (by decide) (by omega) (fun c_51 => ?_) (fun c_51 => ?_)
                · skip
                  exact jn90 ()  
                · skip
                  refine r_aload_n i_157_67 rfl ?_
                  refine r_iload_n i_157_68 rfl ?_
                  refine r_cV (as := [V k]) i_157_69 rfl (by decide +kernel) (Nat.le_of_ble_eq_true rfl) (Nat.le_of_ble_eq_true rfl) (hly 90 _ rfl) rfl ?_
                  refine c_136 (k := k) hly hF hG hA4 (by omega) (by omega) (fun r_52 p52_0 p52_1 p52_2 p52_3 => ?_)
                  show Re L xs 157 72 [(0, .ref 90), (1, V n), (2, V k), (3, V kept), (4, V first)] [V r_52] (HP ly F G A4 B) _
                  refine r_cS (as := [V r_52]) i_157_72 rfl (by decide +kernel) (Nat.le_of_ble_eq_true rfl) (Nat.le_of_ble_eq_true rfl) ?_
                  refine c_137 (c := r_52) hly hF hG hA4 (by omega) (fun r_53 p53_0 p53_1 => ?_)
                  show Re L xs 157 75 [(0, .ref 90), (1, V n), (2, V k), (3, V kept), (4, V first)] [V r_53] (HP ly F G A4 B) _
                  refine r_ne0 (t := 90) i_157_75 (by decide) (by omega) (fun c_54 => ?_) (fun c_54 => ?_)
                  · skip
                    exact jn90 ()  
                  · skip
                    refine r_aload_n i_157_78 rfl ?_
                    refine r_iload i_157_79 rfl ?_
                    refine r_cV (as := [V first]) i_157_81 rfl (by decide +kernel) (Nat.le_of_ble_eq_true rfl) (Nat.le_of_ble_eq_true rfl) (hly 90 _ rfl) rfl ?_
                    refine c_136 (k := first) hly hF hG hA4 (by omega) (by omega) (fun r_55 p55_0 p55_1 p55_2 p55_3 => ?_)
                    show Re L xs 157 84 [(0, .ref 90), (1, V n), (2, V k), (3, V kept), (4, V first)] [V r_55] (HP ly F G A4 B) _
                    refine r_cS (as := [V r_55]) i_157_84 rfl (by decide +kernel) (Nat.le_of_ble_eq_true rfl) (Nat.le_of_ble_eq_true rfl) ?_
                    refine c_137 (c := r_55) hly hF hG hA4 (by omega) (fun r_56 p56_0 p56_1 => ?_)
                    show Re L xs 157 87 [(0, .ref 90), (1, V n), (2, V k), (3, V kept), (4, V first)] [V r_56] (HP ly F G A4 B) _
                    refine r_ne0 (t := 109) i_157_87 (by decide) (by omega) (fun c_57 => ?_) (fun c_57 => ?_)
                    · skip
                      exact jn109 ()  (by omega) (by first | omega | (exfalso; have e4 : first = k := (by omega); subst e4; omega)) (by omega)
                    · skip
                      exact jn90 ()  
            refine r_iload_n i_157_44 rfl ?_
            refine r_eq0 (t := 54) i_157_45 (by decide) (by omega) (fun c_58 => ?_) (fun c_58 => ?_)
            · skip
              refine r_iload_n i_157_54 rfl ?_
              exact jn55 k  (by omega)
            · skip
              refine r_iload_n i_157_48 rfl ?_
              refine r_iconst i_157_49 ?_
              refine r_iadd i_157_50 ?_
              refine r_go (t := 55) i_157_51 (by decide) ?_
              exact jn55 (k + 1)  (by omega)
          refine r_aload_n i_157_28 rfl ?_
          refine r_iload_n i_157_29 rfl ?_
          refine r_cV (as := [V k]) i_157_30 rfl (by decide +kernel) (Nat.le_of_ble_eq_true rfl) (Nat.le_of_ble_eq_true rfl) (hly 90 _ rfl) rfl ?_
          refine c_136 (k := k) hly hF hG hA4 (by omega) (by omega) (fun r_59 p59_0 p59_1 p59_2 p59_3 => ?_)
          show Re L xs 157 33 [(0, .ref 90), (1, V n), (2, V k)] [V r_59] (HP ly F G A4 B) _
          refine r_bipush i_157_33 (by decide) ?_
          refine r_cne (t := 42) i_157_35 (by decide) (by omega) (by omega) (fun c_60 => ?_) (fun c_60 => ?_)
          · skip
            refine r_iconst i_157_42 ?_
            exact jn43 0  (by omega)
          · skip
            refine r_iconst i_157_38 ?_
            refine r_go (t := 43) i_157_39 (by decide) ?_
            exact jn43 1  (by omega)
        · skip
          refine r_iinc (l' := [(0, .ref 90), (1, V n), (2, V (k + 1))]) i_157_22 rfl (by decide +kernel) rfl ?_
          refine r_go (t := 4) i_157_25 (by decide) ?_
          exact ih4A12 n (k + 1) A4 hA4 (by intro a hh; rw [fa4 a (by omega)]) (by omega) (by omega) (by first | (intro j hj; exfalso; omega) | exact hq | (intro j hj; rw [x118, x119]; dsimp only; exact if e : j = (n).toNat - 1 then (by rw [if_pos (by omega), if_pos (by omega)]; omega) else (by rw [if_neg (by omega), if_neg (by omega)]; exact hq j (by omega)))) (by first | omega | exact if e : 0 = 0 then (by exfalso; subst e; omega) else (by omega))
  exact lp4A12 _ 0 0 A hA (by intro a hh; rfl) (by omega) (by omega) (by first | (intro j hj; exfalso; omega) | exact hq | (intro j hj; rw [x118, x119]; dsimp only; exact if e : j = (0).toNat - 1 then (by rw [if_pos (by omega), if_pos (by omega)]; omega) else (by rw [if_neg (by omega), if_neg (by omega)]; exact hq j (by omega)))) (Nat.lt_succ_self _)
set_option maxHeartbeats 4000000 in
theorem c_156 {L : Nat} {xs : Nat → Int32} {ly : List LK} {F : Nat → Nat → Value} {G A : Nat → Nat → Int} {B : Nat → Nat → Int64} {Q : Option Value → AH → Prop} {day : Int} (hly : LyOk ly) (hF : RfOk F) (hG : GO G) (hA : AQ A) (in_day : inR day) (hm : MI G A) (K : ∀ (r : Int) (G' : Nat → Nat → Int) (A' : Nat → Nat → Int), (GO G') → (AQ A') → (∀ a k, ¬ ((a = 90 ∧ k = 2) ∨ (a = 90 ∧ k = 3) ∨ (a = 90 ∧ k = 4) ∨ (a = 90 ∧ k = 5) ∨ (a = 90 ∧ k = 38) ∨ (a = 90 ∧ k = 39) ∨ (a = 90 ∧ k = 40) ∨ (a = 90 ∧ k = 41) ∨ (a = 90 ∧ k = 53)) → G' a k = G a k) → (∀ a, ¬ (a = 92 ∨ a = 114 ∨ a = 115 ∨ a = 116 ∨ a = 117 ∨ a = 118 ∨ a = 119 ∨ a = 120) → A' a = A a) → (MI G' A') → Q (some (V r)) (HP ly F G' A' B)) : Re L xs 156 0 [(0, .ref 90), (1, V day)] [] (HP ly F G A B) Q := by
  have z2 := g_90_2 hG
  refine r_iload_n i_156_0 rfl ?_
  refine r_lt0 (t := 21) i_156_1 (by decide) (by omega) (fun c_1 => ?_) (fun c_1 => ?_)
  · skip
    refine r_bipush i_156_21 (by decide) ?_
    exact r_iret i_156_23 rfl rfl (K ((-2)) G A hG hA (by intro a k hh; rfl) (by intro a hh; rfl) (by exact hm))
  · skip
    refine r_iload_n i_156_4 rfl ?_
    refine r_ldcw (v := 100000) i_156_5 (by decide) ?_
    refine r_cgt (t := 21) i_156_8 (by decide) (by omega) (by omega) (fun c_2 => ?_) (fun c_2 => ?_)
    · skip
      refine r_bipush i_156_21 (by decide) ?_
      exact r_iret i_156_23 rfl rfl (K ((-2)) G A hG hA (by intro a k hh; rfl) (by intro a hh; rfl) (by exact hm))
    · skip
      refine r_aload_n i_156_11 rfl ?_
      refine r_getI i_156_12 rfl (hly 90 _ rfl) ?_
      have q_3 := g_90_2 hG
      refine r_sipush i_156_15 (by decide) ?_
      refine r_cle (t := 24) i_156_18 (by decide) (by omega) (by omega) (fun c_4 => ?_) (fun c_4 => ?_)
      · skip
        refine r_aload_n i_156_24 rfl ?_
        refine r_iconst i_156_25 ?_
        refine r_putIQ i_156_26 (by decide +kernel) (hly 90 _ rfl) (fun G_5 eG_5 => ?_)
        have hG_5 : GO G_5 := by rw [eG_5]; exact gu_90_4 hG (by omega) (by omega)
        refine r_aload_n i_156_29 rfl ?_
        refine r_iconst i_156_30 ?_
        refine r_putIQ i_156_31 (by decide +kernel) (hly 90 _ rfl) (fun G_6 eG_6 => ?_)
        have hG_6 : GO G_6 := by rw [eG_6]; exact gu_90_5 hG_5 (by omega) (by omega)
        refine r_aload_n i_156_34 rfl ?_
        refine r_cV (as := []) i_156_35 rfl (by decide +kernel) (Nat.le_of_ble_eq_true rfl) (Nat.le_of_ble_eq_true rfl) (hly 90 _ rfl) rfl ?_
        have w_7 : G_6 90 2 = G 90 2 := by rw [eG_6, up2_n (by omega), eG_5, up2_n (by omega)]
        refine c_134  hly hF hG_6 hA  (fun G_8 A_9 hG_8 hA_9 fg9 fa9 p9_0 => ?_)
        show Re L xs 156 38 [(0, .ref 90), (1, V day)] [] (HP ly F G_8 A_9 B) _
        refine r_aload_n i_156_38 rfl ?_
        refine r_cV (as := []) i_156_39 rfl (by decide +kernel) (Nat.le_of_ble_eq_true rfl) (Nat.le_of_ble_eq_true rfl) (hly 90 _ rfl) rfl ?_
        have q_10 := g_90_3 hG_8
        refine c_157  hly hF hG_8 hA_9 (by omega) (fun r_11 A_12 hA_12 fa12 p12_0 p12_1 => ?_)
        show Re L xs 156 42 [(0, .ref 90), (1, V day)] [V r_11] (HP ly F G_8 A_12 B) _
        have hqw : ∀ j : Nat, (j : Int) < r_11 → A_12 118 j + A_12 119 j ≤ 200 := p12_1
        refine r_istore_n (l' := [(0, .ref 90), (1, V day), (2, V r_11)]) i_156_42 (by decide +kernel) rfl ?_
        refine r_iload_n i_156_43 rfl ?_
        refine r_ge0 (t := 57) i_156_44 (by decide) (by omega) (fun c_13 => ?_) (fun c_13 => ?_)
        · skip
          refine r_aload_n i_156_57 rfl ?_
          refine r_iload_n i_156_58 rfl ?_
          refine r_putIQ i_156_59 (by decide +kernel) (hly 90 _ rfl) (fun G_14 eG_14 => ?_)
          have hG_14 : GO G_14 := by rw [eG_14]; exact gu_90_38 hG_8 (by omega) (by omega)
          refine r_aload_n i_156_62 rfl ?_
          refine r_aload_n i_156_63 rfl ?_
          refine r_getI i_156_64 rfl (hly 90 _ rfl) ?_
          rw [show G_14 90 3 = G_8 90 3 from by rw [eG_14, up2_n (by omega)]]
          refine r_putIQ i_156_67 (by decide +kernel) (hly 90 _ rfl) (fun G_15 eG_15 => ?_)
          have hG_15 : GO G_15 := by rw [eG_15]; exact gu_90_39 hG_14 (by omega) (by omega)
          refine r_aload_n i_156_70 rfl ?_
          refine r_iload_n i_156_71 rfl ?_
          refine r_putIQ i_156_72 (by decide +kernel) (hly 90 _ rfl) (fun G_16 eG_16 => ?_)
          have hG_16 : GO G_16 := by rw [eG_16]; exact gu_90_40 hG_15 (by omega) (by omega)
          refine r_aload_n i_156_75 rfl ?_
          refine re_nx i_156_76 rfl ?_
          refine r_getI i_156_77 rfl (hly 90 _ rfl) ?_
          rw [show G_16 90 41 = G 90 41 from by rw [eG_16, up2_n (by omega), eG_15, up2_n (by omega), eG_14, up2_n (by omega), fg9 90 41 (by omega), eG_6, up2_n (by omega), eG_5, up2_n (by omega)]]
          have q_17 := g_90_41 hG
          refine r_iconst i_156_80 ?_
          refine r_iadd i_156_81 ?_
          rw [V_norm ((G 90 41) + 1)]
          have q_19 := n_rng ((G 90 41) + 1)
          refine r_putIQ i_156_82 (by decide +kernel) (hly 90 _ rfl) (fun G_18 eG_18 => ?_)
          have hG_18 : GO G_18 := by rw [eG_18]; exact gu_90_41 hG_16 (by omega) (by omega)
          refine r_aload_n i_156_85 rfl ?_
          refine r_iconst i_156_86 ?_
          refine r_putZQ i_156_87 (by decide +kernel) (hly 90 _ rfl) (by omega) (fun G_20 eG_20 => ?_)
          have hG_20 : GO G_20 := by rw [eG_20]; exact gu_90_53 hG_18 (by omega) (by omega)
          refine r_iconst i_156_90 ?_
          refine r_istore_n (l' := [(0, .ref 90), (1, V day), (2, V r_11), (3, V 0)]) i_156_91 (by decide +kernel) rfl ?_
          have lp92B : ∀ (nf : Nat) (k : Int) (A92 : Nat → Nat → Int), (AQ A92) → (∀ a, ¬ (a = 114) → A92 a = A_12 a) → (0 ≤ k ∧ k ≤ 200) → (300 - k).toNat < nf → Re L xs 156 92 [(0, .ref 90), (1, V day), (2, V r_11), (3, V k)] [] (HP ly F G_20 A92 B) Q := by
            intro nf
            induction nf with
            | zero => intros; omega
            | succ nf ih92B =>
              intro k A92 hA92 fa92 hk hm92
              refine r_iload_n i_156_92 rfl ?_
              refine r_aload_n i_156_93 rfl ?_
              refine r_getI i_156_94 rfl (hly 90 _ rfl) ?_
              rw [show G_20 90 3 = G_8 90 3 from by rw [eG_20, up2_n (by omega), eG_18, up2_n (by omega), eG_16, up2_n (by omega), eG_15, up2_n (by omega), eG_14, up2_n (by omega)]]
              refine r_cge (t := 118) i_156_97 (by decide) (by omega) (by omega) (fun c_21 => ?_) (fun c_21 => ?_)
              · skip
                refine r_iconst i_156_118 ?_
                refine r_istore_n (l' := [(0, .ref 90), (1, V day), (2, V r_11), (3, V 0)]) i_156_119 (by decide +kernel) rfl ?_
                have lp120B : ∀ (nf : Nat) (k : Int) (A120 : Nat → Nat → Int), (AQ A120) → (∀ a, ¬ (a = 115 ∨ a = 116 ∨ a = 117) → A120 a = A92 a) → (0 ≤ k ∧ k ≤ 14) → (∀ j : Nat, (j : Int) < k → A120 115 j + A120 116 j ≤ 200) → (20 - k).toNat < nf → Re L xs 156 120 [(0, .ref 90), (1, V day), (2, V r_11), (3, V k)] [] (HP ly F G_20 A120 B) Q := by
                  intro nf
                  induction nf with
                  | zero => intros; omega
                  | succ nf ih120B =>
                    intro k A120 hA120 fa120 hk hq hm120
                    refine r_iload_n i_156_120 rfl ?_
                    refine r_iload_n i_156_121 rfl ?_
                    refine r_cge (t := 167) i_156_122 (by decide) (by omega) (by omega) (fun c_22 => ?_) (fun c_22 => ?_)
                    · skip
                      refine r_iload_n i_156_167 rfl ?_
                      exact r_iret i_156_168 rfl rfl (K r_11 G_20 A120 hG_20 hA120 (by intro a k hh; rw [eG_20, up2_n (by omega), eG_18, up2_n (by omega), eG_16, up2_n (by omega), eG_15, up2_n (by omega), eG_14, up2_n (by omega), fg9 a k (by omega), eG_6, up2_n (by omega), eG_5, up2_n (by omega)]) (by intro a hh; rw [fa120 a (by omega), fa92 a (by omega), fa12 a (by omega), fa9 a (by omega)]) (by exact MI_ln hm (by intro a k hh; rw [eG_20, up2_n (by omega), eG_18, up2_n (by omega), eG_16, up2_n (by omega), eG_15, up2_n (by omega), eG_14, up2_n (by omega), fg9 a k (by omega), eG_6, up2_n (by omega), eG_5, up2_n (by omega)]) (by intro a hh; rw [fa120 a (by omega), fa92 a (by omega), fa12 a (by omega), fa9 a (by omega)]) (by rw [eG_20, up2_s]) (by rw [show G_20 90 38 = r_11 from by rw [eG_20, up2_n (by omega), eG_18, up2_n (by omega), eG_16, up2_n (by omega), eG_15, up2_n (by omega), eG_14, up2_s]]; exact fun j hj => hq j (by omega))))
                    · skip
                      refine r_aload_n i_156_125 rfl ?_
                      refine r_getF (v := .ref 115) i_156_126 rfl (hly 90 _ rfl) (hF.1 90 35 115 rfl) ?_
                      refine r_iload_n i_156_129 rfl ?_
                      refine r_aload_n i_156_130 rfl ?_
                      refine r_getF (v := .ref 118) i_156_131 rfl (hly 90 _ rfl) (hF.1 90 42 118 rfl) ?_
                      refine r_iload_n i_156_134 rfl ?_
                      refine r_iald i_156_135 (hly 118 _ rfl) (by omega) (by omega) (by omega) ?_
                      rw [show A120 118 = A_12 118 from by rw [fa120 118 (by omega), fa92 118 (by omega)]]
                      have q_23 := a_118 hA_12 (k.toNat)
                      refine r_iastQ i_156_136 (hly 115 _ rfl) (by omega) (by omega) (by omega) (fun A_24 eA_24 => ?_)
                      have hA_24 : AQ A_24 := by rw [eA_24]; exact au_115 hA120 (by omega) (by omega)
                      refine r_aload_n i_156_137 rfl ?_
                      refine r_getF (v := .ref 116) i_156_138 rfl (hly 90 _ rfl) (hF.1 90 36 116 rfl) ?_
                      refine r_iload_n i_156_141 rfl ?_
                      refine r_aload_n i_156_142 rfl ?_
                      refine r_getF (v := .ref 119) i_156_143 rfl (hly 90 _ rfl) (hF.1 90 43 119 rfl) ?_
                      refine r_iload_n i_156_146 rfl ?_
                      refine r_iald i_156_147 (hly 119 _ rfl) (by omega) (by omega) (by omega) ?_
                      rw [show A_24 119 = A_12 119 from by rw [eA_24, up2_a (by omega), fa120 119 (by omega), fa92 119 (by omega)]]
                      have q_25 := a_119 hA_12 (k.toNat)
                      refine r_iastQ i_156_148 (hly 116 _ rfl) (by omega) (by omega) (by omega) (fun A_26 eA_26 => ?_)
                      have hA_26 : AQ A_26 := by rw [eA_26]; exact au_116 hA_24 (by omega) (by omega)
                      refine r_aload_n i_156_149 rfl ?_
                      refine r_getF (v := .ref 117) i_156_150 rfl (hly 90 _ rfl) (hF.1 90 37 117 rfl) ?_
                      refine r_iload_n i_156_153 rfl ?_
                      refine r_aload_n i_156_154 rfl ?_
                      refine r_getF (v := .ref 120) i_156_155 rfl (hly 90 _ rfl) (hF.1 90 44 120 rfl) ?_
                      refine r_iload_n i_156_158 rfl ?_
                      refine r_zald i_156_159 (hly 120 _ rfl) (by omega) (by omega) (by omega) ?_
                      rw [show A_26 120 = A_12 120 from by rw [eA_26, up2_a (by omega), eA_24, up2_a (by omega), fa120 120 (by omega), fa92 120 (by omega)]]
                      have q_27 := a_120 hA_12 (k.toNat)
                      refine r_zastQ i_156_160 (hly 117 _ rfl) (by omega) (by omega) (by omega) (by omega) (fun A_28 eA_28 => ?_)
                      have hA_28 : AQ A_28 := by rw [eA_28]; exact au_117 hA_26 (by omega) (by omega)
                      have x115_1 : A_24 115 = fun i => if i = k.toNat then A_12 118 (k.toNat) else A120 115 i := by rw [eA_24, up2_f]
                      have x115 : A_28 115 = fun i => if i = k.toNat then A_12 118 (k.toNat) else A120 115 i := by rw [eA_28, up2_a (by omega), eA_26, up2_a (by omega), x115_1]
                      have x116_1 : A_26 116 = fun i => if i = k.toNat then A_12 119 (k.toNat) else A120 116 i := by rw [eA_26, up2_f, eA_24, up2_a (by omega)]
                      have x116 : A_28 116 = fun i => if i = k.toNat then A_12 119 (k.toNat) else A120 116 i := by rw [eA_28, up2_a (by omega), x116_1]
                      refine r_iinc (l' := [(0, .ref 90), (1, V day), (2, V r_11), (3, V (k + 1))]) i_156_161 rfl (by decide +kernel) rfl ?_
                      refine r_go (t := 120) i_156_164 (by decide) ?_
                      exact ih120B (k + 1) A_28 hA_28 (by intro a hh; rw [eA_28, up2_a (by omega), eA_26, up2_a (by omega), eA_24, up2_a (by omega), fa120 a (by omega)]) (by omega) (by intro j hj; rw [x115, x116]; dsimp only; exact if e : j = ((k + 1)).toNat - 1 then (by rw [if_pos (by omega), if_pos (by omega)]; have hh := hqw j (by omega); rw [e] at hh; rw [show ((k + 1)).toNat - 1 = k.toNat from by omega] at hh; omega) else (by rw [if_neg (by omega), if_neg (by omega)]; exact hq j (by omega))) (by omega)
                exact lp120B _ 0 A92 hA92 (by intro a hh; rfl) (by omega) (by intro j hj; exfalso; omega) (Nat.lt_succ_self _)
              · skip
                refine r_aload_n i_156_100 rfl ?_
                refine r_getF (v := .ref 114) i_156_101 rfl (hly 90 _ rfl) (hF.1 90 34 114 rfl) ?_
                refine r_iload_n i_156_104 rfl ?_
                refine r_aload_n i_156_105 rfl ?_
                refine r_getF (v := .ref 92) i_156_106 rfl (hly 90 _ rfl) (hF.1 90 1 92 rfl) ?_
                refine r_iload_n i_156_109 rfl ?_
                refine r_bald i_156_110 (hly 92 _ rfl) (by omega) (by omega) (by omega) ?_
                rw [show A92 92 = A_9 92 from by rw [fa92 92 (by omega), fa12 92 (by omega)]]
                have q_29 := a_92 hA_9 (k.toNat)
                refine r_bastQ i_156_111 (hly 114 _ rfl) (by omega) (by omega) (by omega) (by omega) (fun A_30 eA_30 => ?_)
                have hA_30 : AQ A_30 := by rw [eA_30]; exact au_114 hA92 (by omega) (by omega)
                refine r_iinc (l' := [(0, .ref 90), (1, V day), (2, V r_11), (3, V (k + 1))]) i_156_112 rfl (by decide +kernel) rfl ?_
                refine r_go (t := 92) i_156_115 (by decide) ?_
                exact ih92B (k + 1) A_30 hA_30 (by intro a hh; rw [eA_30, up2_a (by omega), fa92 a (by omega)]) (by omega) (by omega)
          exact lp92B _ 0 A_12 hA_12 (by intro a hh; rfl) (by omega) (Nat.lt_succ_self _)
        · skip
          refine r_aload_n i_156_47 rfl ?_
          refine r_iconst i_156_48 ?_
          refine r_iconst i_156_49 ?_
          refine r_iload_n i_156_50 rfl ?_
          refine r_isub i_156_51 ?_
          refine r_cV (as := [V (((-1)) - r_11), V 1]) i_156_52 rfl (by decide +kernel) (Nat.le_of_ble_eq_true rfl) (Nat.le_of_ble_eq_true rfl) (hly 90 _ rfl) rfl ?_
          refine c_144 (kind := 1) (place := ((-1)) - r_11) hly hF hG_8 hA_12 (by omega) (by omega) (by omega) (by omega) (fun G_31 hG_31 fg31 p31_0 => ?_)
          show Re L xs 156 55 [(0, .ref 90), (1, V day), (2, V r_11)] [] (HP ly F G_31 A_12 B) _
          refine r_iconst i_156_55 ?_
          exact r_iret i_156_56 rfl rfl (K ((-1)) G_31 A_12 hG_31 hA_12 (by intro a k hh; rw [fg31 a k (by omega), fg9 a k (by omega), eG_6, up2_n (by omega), eG_5, up2_n (by omega)]) (by intro a hh; rw [fa12 a (by omega), fa9 a (by omega)]) (by exact MI_fr hm hA (by intro a k hh; rw [fg31 a k (by omega), fg9 a k (by omega), eG_6, up2_n (by omega), eG_5, up2_n (by omega)]) (by intro a hh; rw [fa12 a (by omega), fa9 a (by omega)])))
      · skip
        refine r_bipush i_156_21 (by decide) ?_
        exact r_iret i_156_23 rfl rfl (K ((-2)) G A hG hA (by intro a k hh; rfl) (by intro a hh; rfl) (by exact hm))
