set_option maxHeartbeats 4000000 in
theorem c_193 {L : Nat} {xs : Nat → Int32} {ly : List LK} {F : Nat → Nat → Value} {G A : Nat → Nat → Int} {B : Nat → Nat → Int64} {Q : Option Value → AH → Prop} {gap : Int} (hly : LyOk ly) (hF : RfOk F) (hG : GO G) (hA : AQ A) (in_gap : inR gap) (hm : MI G A) (K : ∀ (r : Int64) (G' : Nat → Nat → Int) (A' : Nat → Nat → Int) (B' : Nat → Nat → Int64), (GO G') → (AQ A') → (∀ a k, ¬ ((a = 90 ∧ k = 53) ∨ (a = 90 ∧ k = 56) ∨ (a = 90 ∧ k = 57) ∨ (a = 90 ∧ k = 58)) → G' a k = G a k) → (∀ a, ¬ (a = 121 ∨ a = 122 ∨ a = 123 ∨ a = 124 ∨ a = 125 ∨ a = 126 ∨ a = 128 ∨ a = 129) → A' a = A a) → (MI G' A') → Q (some (.long r)) (HP ly F G' A' B')) : Re L xs 193 0 [(0, .ref 90), (1, V gap)] [] (HP ly F G A B) Q := by
  have z38 := g_90_38 hG
  refine r_iload_n i_193_0 rfl ?_
  refine r_lt0 (t := 10) i_193_1 (by decide) (by omega) (fun c_1 => ?_) (fun c_1 => ?_)
  · skip
    refine r_ldc2 (v := -1) i_193_10 (by decide) ?_
    exact r_lret i_193_13 rfl (K ((-1)) G A B hG hA (by intro a k hh; rfl) (by intro a hh; rfl) (by exact hm))
  · skip
    refine r_iload_n i_193_4 rfl ?_
    refine r_bipush i_193_5 (by decide) ?_
    refine r_cle (t := 14) i_193_7 (by decide) (by omega) (by omega) (fun c_2 => ?_) (fun c_2 => ?_)
    · skip
      refine r_aload_n i_193_14 rfl ?_
      refine r_cV (as := []) i_193_15 rfl (by decide +kernel) (Nat.le_of_ble_eq_true rfl) (Nat.le_of_ble_eq_true rfl) (hly 90 _ rfl) rfl ?_
      refine c_189  hly hF hG hA (by omega) (fun r_3 G_4 A_5 hG_4 hA_5 fg5 fa5 p5_0 p5_1 p5_2 => ?_)
      show Re L xs 193 18 [(0, .ref 90), (1, V gap)] [V r_3] (HP ly F G_4 A_5 B) _
      refine r_ge0 (t := 23) i_193_18 (by decide) (by omega) (fun c_6 => ?_) (fun c_6 => ?_)
      · skip
        refine r_aload_n i_193_23 rfl ?_
        refine r_getI i_193_24 rfl (hly 90 _ rfl) ?_
        rw [show G_4 90 38 = G 90 38 from by rw [fg5 90 38 (by omega)]]
        have q_7 := g_90_38 hG
        refine r_ne0 (t := 32) i_193_27 (by decide) (by omega) (fun c_8 => ?_) (fun c_8 => ?_)
        · skip
          have hkn := p5_1
          have hbb : G_4 90 57 < 1000000 := by omega
          have hnn : 0 < G_4 90 38 := by rw [show G_4 90 38 = G 90 38 from by rw [fg5 90 38 (by omega)]]; omega
          have htr := tR hkn hnn hbb
          have z122 := a_122 hA_5 0
          refine r_aload_n i_193_32 rfl ?_
          refine r_iconst i_193_33 ?_
          refine r_cV (as := [V 0]) i_193_34 rfl (by decide +kernel) (Nat.le_of_ble_eq_true rfl) (Nat.le_of_ble_eq_true rfl) (hly 90 _ rfl) rfl ?_
          refine c_194 (layer := 0) hly hF hG_4 hA_5 (by omega) (by omega) (fun B_9 => ?_)
          show Re L xs 193 37 [(0, .ref 90), (1, V gap)] [] (HP ly F G_4 A_5 B_9) _
          refine r_iconst i_193_37 ?_
          refine r_istore_n (l' := [(0, .ref 90), (1, V gap), (2, V 0)]) i_193_38 (by decide +kernel) rfl ?_
          have lp39B : ∀ (nf : Nat) (r : Int) (B39 : Nat → Nat → Int64), (0 ≤ r ∧ r ≤ 13) → (20 - r).toNat < nf → Re L xs 193 39 [(0, .ref 90), (1, V gap), (2, V r)] [] (HP ly F G_4 A_5 B39) Q := by
            intro nf
            induction nf with
            | zero => intros; omega
            | succ nf ih39B =>
              intro r B39  hr hm39
              refine r_iload_n i_193_39 rfl ?_
              refine r_aload_n i_193_40 rfl ?_
              refine r_getF (v := .ref 122) i_193_41 rfl (hly 90 _ rfl) (hF.1 90 47 122 rfl) ?_
              refine r_iconst i_193_44 ?_
              refine r_iald i_193_45 (hly 122 _ rfl) (by omega) (by omega) (by omega) ?_
              have q_10 := a_122 hA_5 (0)
              show Re L xs 193 46 [(0, .ref 90), (1, V gap), (2, V r)] [V (A_5 122 (0)), V r] (HP ly F G_4 A_5 B39) _
              refine r_cge (t := 61) i_193_46 (by decide) (by omega) (by omega) (fun c_11 => ?_) (fun c_11 => ?_)
              · skip
                refine r_iconst i_193_61 ?_
                refine r_istore_n (l' := [(0, .ref 90), (1, V gap), (2, V 1)]) i_193_62 (by decide +kernel) rfl ?_
                have lp63B : ∀ (nf : Nat) (p : Int) (l3 : Int) (l4 : Int) (l5 : Int) (B63 : Nat → Nat → Int64), (1 ≤ p ∧ p ≤ 14) → (20 - p).toNat < nf → Re L xs 193 63 [(0, .ref 90), (1, V gap), (2, V p), (3, V l3), (4, V l4), (5, V l5)] [] (HP ly F G_4 A_5 B63) Q := by
                  intro nf
                  induction nf with
                  | zero => intros; omega
                  | succ nf ih63B =>
                    intro p l3 l4 l5 B63  hp hm63
                    refine r_iload_n i_193_63 rfl ?_
                    refine r_aload_n i_193_64 rfl ?_
                    refine r_getI i_193_65 rfl (hly 90 _ rfl) ?_
                    rw [show G_4 90 38 = G 90 38 from by rw [fg5 90 38 (by omega)]]
                    refine r_cge (t := 182) i_193_68 (by decide) (by omega) (by omega) (fun c_12 => ?_) (fun c_12 => ?_)
                    · skip
                      refine r_lconst i_193_182 ?_
                      show Re L xs 193 183 [(0, .ref 90), (1, V gap), (2, V p), (3, V l3), (4, V l4), (5, V l5)] [.long (Int64.ofNat 0)] (HP ly F G_4 A_5 B63) _
                      refine r_lstore_n (l' := [(0, .ref 90), (1, V gap), (2, .long (Int64.ofNat 0)), (4, V l4), (5, V l5)]) i_193_183 (by decide +kernel) rfl ?_
                      refine r_iconst i_193_184 ?_
                      refine r_istore (l' := [(0, .ref 90), (1, V gap), (2, .long (Int64.ofNat 0)), (4, V 0), (5, V l5)]) i_193_185 (by decide +kernel) rfl ?_
                      have lp187B : ∀ (nf : Nat) (sum : Int64) (kd : Int) (l5 : Int), (0 ≤ kd ∧ kd ≤ 8) → (20 - kd).toNat < nf → Re L xs 193 187 [(0, .ref 90), (1, V gap), (2, .long sum), (4, V kd), (5, V l5)] [] (HP ly F G_4 A_5 B63) Q := by
                        intro nf
                        induction nf with
                        | zero => intros; omega
                        | succ nf ih187B =>
                          intro sum kd l5  hkd hm187
                          refine r_iload i_193_187 rfl ?_
                          refine r_bipush i_193_189 (by decide) ?_
                          refine r_cge (t := 242) i_193_191 (by decide) (by omega) (by omega) (fun c_13 => ?_) (fun c_13 => ?_)
                          · skip
                            refine r_lload_n i_193_242 rfl ?_
                            exact r_lret i_193_243 rfl (K sum G_4 A_5 B63 hG_4 hA_5 (by intro a k hh; rw [fg5 a k (by omega)]) (by intro a hh; rw [fa5 a (by omega)]) (by exact p5_0))
                          · skip
                            refine r_iconst i_193_194 ?_
                            refine r_istore (l' := [(0, .ref 90), (1, V gap), (2, .long sum), (4, V kd), (5, V 0)]) i_193_195 (by decide +kernel) rfl ?_
                            have lp197B : ∀ (nf : Nat) (sum : Int64) (o : Int), (0 ≤ o ∧ o ≤ 101) → (200 - o).toNat < nf → Re L xs 193 197 [(0, .ref 90), (1, V gap), (2, .long sum), (4, V kd), (5, V o)] [] (HP ly F G_4 A_5 B63) Q := by
                              intro nf
                              induction nf with
                              | zero => intros; omega
                              | succ nf ih197B =>
                                intro sum o  ho hm197
                                refine r_iload i_193_197 rfl ?_
                                refine r_iload_n i_193_199 rfl ?_
                                refine r_cgt (t := 236) i_193_200 (by decide) (by omega) (by omega) (fun c_14 => ?_) (fun c_14 => ?_)
                                · skip
                                  refine r_iinc (l' := [(0, .ref 90), (1, V gap), (2, .long sum), (4, V (kd + 1)), (5, V o)]) i_193_236 rfl (by decide +kernel) rfl ?_
                                  refine r_go (t := 187) i_193_239 (by decide) ?_
                                  exact ih187B sum (kd + 1) o  (by omega) (by omega)
                                · skip
                                  refine r_lload_n i_193_203 rfl ?_
                                  refine r_aload_n i_193_204 rfl ?_
                                  refine r_getF (v := .ref 131) i_193_205 rfl (hly 90 _ rfl) (hF.1 90 61 131 rfl) ?_
                                  refine r_aload_n i_193_208 rfl ?_
                                  refine r_getI i_193_209 rfl (hly 90 _ rfl) ?_
                                  rw [show G_4 90 38 = G 90 38 from by rw [fg5 90 38 (by omega)]]
                                  refine r_iconst i_193_212 ?_
                                  refine r_isub i_193_213 ?_
                                  refine r_iconst i_193_214 ?_
                                  refine r_bin (z := ((G 90 38) - 1) % 2) i_193_215 (by show (if Int32.ofInt 2 = 0 then none else _) = _; rw [if_neg (by decide)]; rfl) (irem2 (by omega) (by omega)) ?_
                                  refine r_iload i_193_216 rfl ?_
                                  refine r_aload_n i_193_218 rfl ?_
                                  refine r_getI i_193_219 rfl (hly 90 _ rfl) ?_
                                  have q_15 := g_90_56 hG_4
                                  refine r_iload i_193_222 rfl ?_
                                  refine r_cS (as := [V o, V (G_4 90 56), V kd, V (((G 90 38) - 1) % 2)]) i_193_224 rfl (by decide +kernel) (Nat.le_of_ble_eq_true rfl) (Nat.le_of_ble_eq_true rfl) ?_
                                  refine c_195 (layer := ((G 90 38) - 1) % 2) (kind := kd) (marks := G_4 90 56) (over := o) hly hF hG_4 hA_5 (by omega) (by omega) (by omega) (by omega) (fun r_16 p16_0 => ?_)
                                  show Re L xs 193 227 [(0, .ref 90), (1, V gap), (2, .long sum), (4, V kd), (5, V o)] [V r_16, .ref 131, .long sum] (HP ly F G_4 A_5 B63) _
                                  refine r_lald i_193_227 (hly 131 _ rfl) (by omega) (by omega) (by omega) ?_
                                  refine re_nx i_193_228 rfl ?_
                                  refine r_lstore_n (l' := [(0, .ref 90), (1, V gap), (2, .long (sum + (B63 131 r_16.toNat))), (4, V kd), (5, V o)]) i_193_229 (by decide +kernel) rfl ?_
                                  refine r_iinc (l' := [(0, .ref 90), (1, V gap), (2, .long (sum + (B63 131 r_16.toNat))), (4, V kd), (5, V (o + 1))]) i_193_230 rfl (by decide +kernel) rfl ?_
                                  refine r_go (t := 197) i_193_233 (by decide) ?_
                                  exact ih197B (sum + (B63 131 r_16.toNat)) (o + 1)  (by omega) (by omega)
                            exact lp197B _ sum 0  (by omega) (Nat.lt_succ_self _)
                      exact lp187B _ (Int64.ofNat 0) 0 l5  (by omega) (Nat.lt_succ_self _)
                    · skip
                      refine r_aload_n i_193_71 rfl ?_
                      refine r_iload_n i_193_72 rfl ?_
                      refine r_iconst i_193_73 ?_
                      refine r_bin (z := p % 2) i_193_74 (by show (if Int32.ofInt 2 = 0 then none else _) = _; rw [if_neg (by decide)]; rfl) (irem2 (by omega) (by omega)) ?_
                      refine r_cV (as := [V (p % 2)]) i_193_75 rfl (by decide +kernel) (Nat.le_of_ble_eq_true rfl) (Nat.le_of_ble_eq_true rfl) (hly 90 _ rfl) rfl ?_
                      refine c_194 (layer := p % 2) hly hF hG_4 hA_5 (by omega) (by omega) (fun B_17 => ?_)
                      show Re L xs 193 78 [(0, .ref 90), (1, V gap), (2, V p), (3, V l3), (4, V l4), (5, V l5)] [] (HP ly F G_4 A_5 B_17) _
                      refine r_iconst i_193_78 ?_
                      refine r_istore_n (l' := [(0, .ref 90), (1, V gap), (2, V p), (3, V 0), (4, V l4), (5, V l5)]) i_193_79 (by decide +kernel) rfl ?_
                      have lp80B : ∀ (nf : Nat) (kind : Int) (l4 : Int) (l5 : Int) (B80 : Nat → Nat → Int64), (0 ≤ kind ∧ kind ≤ 8) → (20 - kind).toNat < nf → Re L xs 193 80 [(0, .ref 90), (1, V gap), (2, V p), (3, V kind), (4, V l4), (5, V l5)] [] (HP ly F G_4 A_5 B80) Q := by
                        intro nf
                        induction nf with
                        | zero => intros; omega
                        | succ nf ih80B =>
                          intro kind l4 l5 B80  hk hm80
                          refine r_iload_n i_193_80 rfl ?_
                          refine r_bipush i_193_81 (by decide) ?_
                          refine r_cge (t := 176) i_193_83 (by decide) (by omega) (by omega) (fun c_18 => ?_) (fun c_18 => ?_)
                          · skip
                            refine r_iinc (l' := [(0, .ref 90), (1, V gap), (2, V (p + 1)), (3, V kind), (4, V l4), (5, V l5)]) i_193_176 rfl (by decide +kernel) rfl ?_
                            refine r_go (t := 63) i_193_179 (by decide) ?_
                            exact ih63B (p + 1) kind l4 l5 B80  (by omega) (by omega)
                          · skip
                            refine r_iconst i_193_86 ?_
                            refine r_istore (l' := [(0, .ref 90), (1, V gap), (2, V p), (3, V kind), (4, V 0), (5, V l5)]) i_193_87 (by decide +kernel) rfl ?_
                            have lp89B : ∀ (nf : Nat) (m : Int) (l5 : Int) (B89 : Nat → Nat → Int64), (0 ≤ m ∧ m ≤ 169) → (200 - m).toNat < nf → Re L xs 193 89 [(0, .ref 90), (1, V gap), (2, V p), (3, V kind), (4, V m), (5, V l5)] [] (HP ly F G_4 A_5 B89) Q := by
                              intro nf
                              induction nf with
                              | zero => intros; omega
                              | succ nf ih89B =>
                                intro m l5 B89  hm2 hm89
                                refine r_iload i_193_89 rfl ?_
                                refine r_sipush i_193_91 (by decide) ?_
                                refine r_cge (t := 170) i_193_94 (by decide) (by omega) (by omega) (fun c_19 => ?_) (fun c_19 => ?_)
                                · skip
                                  refine r_iinc (l' := [(0, .ref 90), (1, V gap), (2, V p), (3, V (kind + 1)), (4, V m), (5, V l5)]) i_193_170 rfl (by decide +kernel) rfl ?_
                                  refine r_go (t := 80) i_193_173 (by decide) ?_
                                  exact ih80B (kind + 1) m l5 B89  (by omega) (by omega)
                                · skip
                                  refine r_iload i_193_97 rfl ?_
                                  refine r_aload_n i_193_99 rfl ?_
                                  refine r_getI i_193_100 rfl (hly 90 _ rfl) ?_
                                  have q_20 := g_90_56 hG_4
                                  refine r_cgt (t := 170) i_193_103 (by decide) (by omega) (by omega) (fun c_21 => ?_) (fun c_21 => ?_)
                                  · skip
                                    refine r_iinc (l' := [(0, .ref 90), (1, V gap), (2, V p), (3, V (kind + 1)), (4, V m), (5, V l5)]) i_193_170 rfl (by decide +kernel) rfl ?_
                                    refine r_go (t := 80) i_193_173 (by decide) ?_
                                    exact ih80B (kind + 1) m l5 B89  (by omega) (by omega)
                                  · skip
                                    refine r_aload_n i_193_106 rfl ?_
                                    refine r_iload_n i_193_107 rfl ?_
                                    refine r_iconst i_193_108 ?_
                                    refine r_isub i_193_109 ?_
                                    refine r_iconst i_193_110 ?_
                                    refine r_bin (z := (p - 1) % 2) i_193_111 (by show (if Int32.ofInt 2 = 0 then none else _) = _; rw [if_neg (by decide)]; rfl) (irem2 (by omega) (by omega)) ?_
                                    refine r_iload_n i_193_112 rfl ?_
                                    refine r_iload i_193_113 rfl ?_
                                    refine r_iload_n i_193_115 rfl ?_
                                    refine r_cV (as := [V gap, V m, V kind, V ((p - 1) % 2)]) i_193_116 rfl (by decide +kernel) (Nat.le_of_ble_eq_true rfl) (Nat.le_of_ble_eq_true rfl) (hly 90 _ rfl) rfl ?_
                                    refine c_198 (layer := (p - 1) % 2) (kind := kind) (m := m) (gap := gap) hly hF hG_4 hA_5 (by omega) (by omega) (by omega) (by omega) (by omega) (by omega) (by omega) (by omega) (fun r_22 p22_0 => ?_)
                                    show Re L xs 193 119 [(0, .ref 90), (1, V gap), (2, V p), (3, V kind), (4, V m), (5, V l5)] [V r_22] (HP ly F G_4 A_5 B89) _
                                    refine r_ne0 (t := 125) i_193_119 (by decide) (by omega) (fun c_23 => ?_) (fun c_23 => ?_)
                                    · skip
                                      refine r_bipush i_193_125 (by decide) ?_
                                      refine r_iload_n i_193_127 rfl ?_
                                      refine r_imul i_193_128 ?_
                                      refine r_istore (l' := [(0, .ref 90), (1, V gap), (2, V p), (3, V kind), (4, V m), (5, V (13 * p))]) i_193_129 (by decide +kernel) rfl ?_
                                      have lp131B : ∀ (nf : Nat) (r : Int) (B131 : Nat → Nat → Int64), (13 * p ≤ r ∧ r ≤ 13 * p + 13) → (13 * p + 20 - r).toNat < nf → Re L xs 193 131 [(0, .ref 90), (1, V gap), (2, V p), (3, V kind), (4, V m), (5, V r)] [] (HP ly F G_4 A_5 B131) Q := by
                                        intro nf
                                        induction nf with
                                        | zero => intros; omega
                                        | succ nf ih131B =>
                                          intro r B131  hr hm131
                                          refine r_iload i_193_131 rfl ?_
                                          refine r_bipush i_193_133 (by decide) ?_
                                          refine r_iload_n i_193_135 rfl ?_
                                          refine r_imul i_193_136 ?_
                                          refine r_aload_n i_193_137 rfl ?_
                                          refine r_getF (v := .ref 122) i_193_138 rfl (hly 90 _ rfl) (hF.1 90 47 122 rfl) ?_
                                          refine r_iload_n i_193_141 rfl ?_
                                          refine r_iald i_193_142 (hly 122 _ rfl) (by omega) (by omega) (by omega) ?_
                                          have q_24 := a_122 hA_5 (p.toNat)
                                          refine r_iadd i_193_143 ?_
                                          refine r_cge (t := 164) i_193_144 (by decide) (by omega) (by omega) (fun c_25 => ?_) (fun c_25 => ?_)
                                          · skip
                                            refine r_iinc (l' := [(0, .ref 90), (1, V gap), (2, V p), (3, V kind), (4, V (m + 1)), (5, V r)]) i_193_164 rfl (by decide +kernel) rfl ?_
                                            refine r_go (t := 89) i_193_167 (by decide) ?_
                                            exact ih89B (m + 1) r B131  (by omega) (by omega)
                                          · skip
                                            refine r_aload_n i_193_147 rfl ?_
                                            refine r_iload_n i_193_148 rfl ?_
                                            refine r_iload i_193_149 rfl ?_
                                            refine r_iload_n i_193_151 rfl ?_
                                            refine r_iload i_193_152 rfl ?_
                                            refine r_iload_n i_193_154 rfl ?_
                                            refine r_cV (as := [V gap, V m, V kind, V r, V p]) i_193_155 rfl (by decide +kernel) (Nat.le_of_ble_eq_true rfl) (Nat.le_of_ble_eq_true rfl) (hly 90 _ rfl) rfl ?_
                                            have q_26 := g_90_57 hG_4
                                            have w_27 : G_4 90 38 = G 90 38 := by rw [fg5 90 38 (by omega)]
                                            refine c_199 (p := p) (r0 := r) (kind := kind) (m := m) (gap := gap) hly hF hG_4 hA_5 (by omega) (by omega) (by omega) (by omega) (by omega) (by exact hkn) (by exact hbb) (by omega) (by omega) (by omega) (by omega) (by omega) (fun B_28 => ?_)
                                            show Re L xs 193 158 [(0, .ref 90), (1, V gap), (2, V p), (3, V kind), (4, V m), (5, V r)] [] (HP ly F G_4 A_5 B_28) _
                                            refine r_iinc (l' := [(0, .ref 90), (1, V gap), (2, V p), (3, V kind), (4, V m), (5, V (r + 1))]) i_193_158 rfl (by decide +kernel) rfl ?_
                                            refine r_go (t := 131) i_193_161 (by decide) ?_
                                            exact ih131B (r + 1) B_28  (by omega) (by omega)
                                      exact lp131B _ (13 * p) B89  (by omega) (Nat.lt_succ_self _)
                                    · skip
                                      refine r_go (t := 164) i_193_122 (by decide) ?_
                                      refine r_iinc (l' := [(0, .ref 90), (1, V gap), (2, V p), (3, V kind), (4, V (m + 1)), (5, V l5)]) i_193_164 rfl (by decide +kernel) rfl ?_
                                      refine r_go (t := 89) i_193_167 (by decide) ?_
                                      exact ih89B (m + 1) l5 B89  (by omega) (by omega)
                            exact lp89B _ 0 l5 B80  (by omega) (Nat.lt_succ_self _)
                      exact lp80B _ 0 l4 l5 B_17  (by omega) (Nat.lt_succ_self _)
                have lp63A234 : ∀ (nf : Nat) (p : Int) (l3 : Int) (l4 : Int) (B63 : Nat → Nat → Int64), (1 ≤ p ∧ p ≤ 14) → (20 - p).toNat < nf → Re L xs 193 63 [(0, .ref 90), (1, V gap), (2, V p), (3, V l3), (4, V l4)] [] (HP ly F G_4 A_5 B63) Q := by
                  intro nf
                  induction nf with
                  | zero => intros; omega
                  | succ nf ih63A234 =>
                    intro p l3 l4 B63  hp hm63
                    refine r_iload_n i_193_63 rfl ?_
                    refine r_aload_n i_193_64 rfl ?_
                    refine r_getI i_193_65 rfl (hly 90 _ rfl) ?_
                    rw [show G_4 90 38 = G 90 38 from by rw [fg5 90 38 (by omega)]]
                    refine r_cge (t := 182) i_193_68 (by decide) (by omega) (by omega) (fun c_29 => ?_) (fun c_29 => ?_)
                    · skip
                      refine r_lconst i_193_182 ?_
                      show Re L xs 193 183 [(0, .ref 90), (1, V gap), (2, V p), (3, V l3), (4, V l4)] [.long (Int64.ofNat 0)] (HP ly F G_4 A_5 B63) _
                      refine r_lstore_n (l' := [(0, .ref 90), (1, V gap), (2, .long (Int64.ofNat 0)), (4, V l4)]) i_193_183 (by decide +kernel) rfl ?_
                      refine r_iconst i_193_184 ?_
                      refine r_istore (l' := [(0, .ref 90), (1, V gap), (2, .long (Int64.ofNat 0)), (4, V 0)]) i_193_185 (by decide +kernel) rfl ?_
                      have lp187B : ∀ (nf : Nat) (sum : Int64) (kd : Int) (l5 : Int), (0 ≤ kd ∧ kd ≤ 8) → (20 - kd).toNat < nf → Re L xs 193 187 [(0, .ref 90), (1, V gap), (2, .long sum), (4, V kd), (5, V l5)] [] (HP ly F G_4 A_5 B63) Q := by
                        intro nf
                        induction nf with
                        | zero => intros; omega
                        | succ nf ih187B =>
                          intro sum kd l5  hkd hm187
                          refine r_iload i_193_187 rfl ?_
                          refine r_bipush i_193_189 (by decide) ?_
                          refine r_cge (t := 242) i_193_191 (by decide) (by omega) (by omega) (fun c_30 => ?_) (fun c_30 => ?_)
                          · skip
                            refine r_lload_n i_193_242 rfl ?_
                            exact r_lret i_193_243 rfl (K sum G_4 A_5 B63 hG_4 hA_5 (by intro a k hh; rw [fg5 a k (by omega)]) (by intro a hh; rw [fa5 a (by omega)]) (by exact p5_0))
                          · skip
                            refine r_iconst i_193_194 ?_
                            refine r_istore (l' := [(0, .ref 90), (1, V gap), (2, .long sum), (4, V kd), (5, V 0)]) i_193_195 (by decide +kernel) rfl ?_
                            have lp197B : ∀ (nf : Nat) (sum : Int64) (o : Int), (0 ≤ o ∧ o ≤ 101) → (200 - o).toNat < nf → Re L xs 193 197 [(0, .ref 90), (1, V gap), (2, .long sum), (4, V kd), (5, V o)] [] (HP ly F G_4 A_5 B63) Q := by
                              intro nf
                              induction nf with
                              | zero => intros; omega
                              | succ nf ih197B =>
                                intro sum o  ho hm197
                                refine r_iload i_193_197 rfl ?_
                                refine r_iload_n i_193_199 rfl ?_
                                refine r_cgt (t := 236) i_193_200 (by decide) (by omega) (by omega) (fun c_31 => ?_) (fun c_31 => ?_)
                                · skip
                                  refine r_iinc (l' := [(0, .ref 90), (1, V gap), (2, .long sum), (4, V (kd + 1)), (5, V o)]) i_193_236 rfl (by decide +kernel) rfl ?_
                                  refine r_go (t := 187) i_193_239 (by decide) ?_
                                  exact ih187B sum (kd + 1) o  (by omega) (by omega)
                                · skip
                                  refine r_lload_n i_193_203 rfl ?_
                                  refine r_aload_n i_193_204 rfl ?_
                                  refine r_getF (v := .ref 131) i_193_205 rfl (hly 90 _ rfl) (hF.1 90 61 131 rfl) ?_
                                  refine r_aload_n i_193_208 rfl ?_
                                  refine r_getI i_193_209 rfl (hly 90 _ rfl) ?_
                                  rw [show G_4 90 38 = G 90 38 from by rw [fg5 90 38 (by omega)]]
                                  refine r_iconst i_193_212 ?_
                                  refine r_isub i_193_213 ?_
                                  refine r_iconst i_193_214 ?_
                                  refine r_bin (z := ((G 90 38) - 1) % 2) i_193_215 (by show (if Int32.ofInt 2 = 0 then none else _) = _; rw [if_neg (by decide)]; rfl) (irem2 (by omega) (by omega)) ?_
                                  refine r_iload i_193_216 rfl ?_
                                  refine r_aload_n i_193_218 rfl ?_
                                  refine r_getI i_193_219 rfl (hly 90 _ rfl) ?_
                                  have q_32 := g_90_56 hG_4
                                  refine r_iload i_193_222 rfl ?_
                                  refine r_cS (as := [V o, V (G_4 90 56), V kd, V (((G 90 38) - 1) % 2)]) i_193_224 rfl (by decide +kernel) (Nat.le_of_ble_eq_true rfl) (Nat.le_of_ble_eq_true rfl) ?_
                                  refine c_195 (layer := ((G 90 38) - 1) % 2) (kind := kd) (marks := G_4 90 56) (over := o) hly hF hG_4 hA_5 (by omega) (by omega) (by omega) (by omega) (fun r_33 p33_0 => ?_)
                                  show Re L xs 193 227 [(0, .ref 90), (1, V gap), (2, .long sum), (4, V kd), (5, V o)] [V r_33, .ref 131, .long sum] (HP ly F G_4 A_5 B63) _
                                  refine r_lald i_193_227 (hly 131 _ rfl) (by omega) (by omega) (by omega) ?_
                                  refine re_nx i_193_228 rfl ?_
                                  refine r_lstore_n (l' := [(0, .ref 90), (1, V gap), (2, .long (sum + (B63 131 r_33.toNat))), (4, V kd), (5, V o)]) i_193_229 (by decide +kernel) rfl ?_
                                  refine r_iinc (l' := [(0, .ref 90), (1, V gap), (2, .long (sum + (B63 131 r_33.toNat))), (4, V kd), (5, V (o + 1))]) i_193_230 rfl (by decide +kernel) rfl ?_
                                  refine r_go (t := 197) i_193_233 (by decide) ?_
                                  exact ih197B (sum + (B63 131 r_33.toNat)) (o + 1)  (by omega) (by omega)
                            exact lp197B _ sum 0  (by omega) (Nat.lt_succ_self _)
                      have lp187A24 : ∀ (nf : Nat) (sum : Int64) (kd : Int), (0 ≤ kd ∧ kd ≤ 8) → (20 - kd).toNat < nf → Re L xs 193 187 [(0, .ref 90), (1, V gap), (2, .long sum), (4, V kd)] [] (HP ly F G_4 A_5 B63) Q := by
                        intro nf
                        induction nf with
                        | zero => intros; omega
                        | succ nf ih187A24 =>
                          intro sum kd  hkd hm187
                          refine r_iload i_193_187 rfl ?_
                          refine r_bipush i_193_189 (by decide) ?_
                          refine r_cge (t := 242) i_193_191 (by decide) (by omega) (by omega) (fun c_34 => ?_) (fun c_34 => ?_)
                          · skip
                            refine r_lload_n i_193_242 rfl ?_
                            exact r_lret i_193_243 rfl (K sum G_4 A_5 B63 hG_4 hA_5 (by intro a k hh; rw [fg5 a k (by omega)]) (by intro a hh; rw [fa5 a (by omega)]) (by exact p5_0))
                          · skip
                            refine r_iconst i_193_194 ?_
                            refine r_istore (l' := [(0, .ref 90), (1, V gap), (2, .long sum), (4, V kd), (5, V 0)]) i_193_195 (by decide +kernel) rfl ?_
                            have lp197B : ∀ (nf : Nat) (sum : Int64) (o : Int), (0 ≤ o ∧ o ≤ 101) → (200 - o).toNat < nf → Re L xs 193 197 [(0, .ref 90), (1, V gap), (2, .long sum), (4, V kd), (5, V o)] [] (HP ly F G_4 A_5 B63) Q := by
                              intro nf
                              induction nf with
                              | zero => intros; omega
                              | succ nf ih197B =>
                                intro sum o  ho hm197
                                refine r_iload i_193_197 rfl ?_
                                refine r_iload_n i_193_199 rfl ?_
                                refine r_cgt (t := 236) i_193_200 (by decide) (by omega) (by omega) (fun c_35 => ?_) (fun c_35 => ?_)
                                · skip
                                  refine r_iinc (l' := [(0, .ref 90), (1, V gap), (2, .long sum), (4, V (kd + 1)), (5, V o)]) i_193_236 rfl (by decide +kernel) rfl ?_
                                  refine r_go (t := 187) i_193_239 (by decide) ?_
                                  exact lp187B _ sum (kd + 1) o  (by omega) (Nat.lt_succ_self _)
                                · skip
                                  refine r_lload_n i_193_203 rfl ?_
                                  refine r_aload_n i_193_204 rfl ?_
                                  refine r_getF (v := .ref 131) i_193_205 rfl (hly 90 _ rfl) (hF.1 90 61 131 rfl) ?_
                                  refine r_aload_n i_193_208 rfl ?_
                                  refine r_getI i_193_209 rfl (hly 90 _ rfl) ?_
                                  rw [show G_4 90 38 = G 90 38 from by rw [fg5 90 38 (by omega)]]
                                  refine r_iconst i_193_212 ?_
                                  refine r_isub i_193_213 ?_
                                  refine r_iconst i_193_214 ?_
                                  refine r_bin (z := ((G 90 38) - 1) % 2) i_193_215 (by show (if Int32.ofInt 2 = 0 then none else _) = _; rw [if_neg (by decide)]; rfl) (irem2 (by omega) (by omega)) ?_
                                  refine r_iload i_193_216 rfl ?_
                                  refine r_aload_n i_193_218 rfl ?_
                                  refine r_getI i_193_219 rfl (hly 90 _ rfl) ?_
                                  have q_36 := g_90_56 hG_4
                                  refine r_iload i_193_222 rfl ?_
                                  refine r_cS (as := [V o, V (G_4 90 56), V kd, V (((G 90 38) - 1) % 2)]) i_193_224 rfl (by decide +kernel) (Nat.le_of_ble_eq_true rfl) (Nat.le_of_ble_eq_true rfl) ?_
                                  refine c_195 (layer := ((G 90 38) - 1) % 2) (kind := kd) (marks := G_4 90 56) (over := o) hly hF hG_4 hA_5 (by omega) (by omega) (by omega) (by omega) (fun r_37 p37_0 => ?_)
                                  show Re L xs 193 227 [(0, .ref 90), (1, V gap), (2, .long sum), (4, V kd), (5, V o)] [V r_37, .ref 131, .long sum] (HP ly F G_4 A_5 B63) _
                                  refine r_lald i_193_227 (hly 131 _ rfl) (by omega) (by omega) (by omega) ?_
                                  refine re_nx i_193_228 rfl ?_
                                  refine r_lstore_n (l' := [(0, .ref 90), (1, V gap), (2, .long (sum + (B63 131 r_37.toNat))), (4, V kd), (5, V o)]) i_193_229 (by decide +kernel) rfl ?_
                                  refine r_iinc (l' := [(0, .ref 90), (1, V gap), (2, .long (sum + (B63 131 r_37.toNat))), (4, V kd), (5, V (o + 1))]) i_193_230 rfl (by decide +kernel) rfl ?_
                                  refine r_go (t := 197) i_193_233 (by decide) ?_
                                  exact ih197B (sum + (B63 131 r_37.toNat)) (o + 1)  (by omega) (by omega)
                            exact lp197B _ sum 0  (by omega) (Nat.lt_succ_self _)
                      exact lp187A24 _ (Int64.ofNat 0) 0  (by omega) (Nat.lt_succ_self _)
                    · skip
                      refine r_aload_n i_193_71 rfl ?_
                      refine r_iload_n i_193_72 rfl ?_
                      refine r_iconst i_193_73 ?_
                      refine r_bin (z := p % 2) i_193_74 (by show (if Int32.ofInt 2 = 0 then none else _) = _; rw [if_neg (by decide)]; rfl) (irem2 (by omega) (by omega)) ?_
                      refine r_cV (as := [V (p % 2)]) i_193_75 rfl (by decide +kernel) (Nat.le_of_ble_eq_true rfl) (Nat.le_of_ble_eq_true rfl) (hly 90 _ rfl) rfl ?_
                      refine c_194 (layer := p % 2) hly hF hG_4 hA_5 (by omega) (by omega) (fun B_38 => ?_)
                      show Re L xs 193 78 [(0, .ref 90), (1, V gap), (2, V p), (3, V l3), (4, V l4)] [] (HP ly F G_4 A_5 B_38) _
                      refine r_iconst i_193_78 ?_
                      refine r_istore_n (l' := [(0, .ref 90), (1, V gap), (2, V p), (3, V 0), (4, V l4)]) i_193_79 (by decide +kernel) rfl ?_
                      have lp80B : ∀ (nf : Nat) (kind : Int) (l4 : Int) (l5 : Int) (B80 : Nat → Nat → Int64), (0 ≤ kind ∧ kind ≤ 8) → (20 - kind).toNat < nf → Re L xs 193 80 [(0, .ref 90), (1, V gap), (2, V p), (3, V kind), (4, V l4), (5, V l5)] [] (HP ly F G_4 A_5 B80) Q := by
                        intro nf
                        induction nf with
                        | zero => intros; omega
                        | succ nf ih80B =>
                          intro kind l4 l5 B80  hk hm80
                          refine r_iload_n i_193_80 rfl ?_
                          refine r_bipush i_193_81 (by decide) ?_
                          refine r_cge (t := 176) i_193_83 (by decide) (by omega) (by omega) (fun c_39 => ?_) (fun c_39 => ?_)
                          · skip
                            refine r_iinc (l' := [(0, .ref 90), (1, V gap), (2, V (p + 1)), (3, V kind), (4, V l4), (5, V l5)]) i_193_176 rfl (by decide +kernel) rfl ?_
                            refine r_go (t := 63) i_193_179 (by decide) ?_
                            exact lp63B _ (p + 1) kind l4 l5 B80  (by omega) (Nat.lt_succ_self _)
                          · skip
                            refine r_iconst i_193_86 ?_
                            refine r_istore (l' := [(0, .ref 90), (1, V gap), (2, V p), (3, V kind), (4, V 0), (5, V l5)]) i_193_87 (by decide +kernel) rfl ?_
                            have lp89B : ∀ (nf : Nat) (m : Int) (l5 : Int) (B89 : Nat → Nat → Int64), (0 ≤ m ∧ m ≤ 169) → (200 - m).toNat < nf → Re L xs 193 89 [(0, .ref 90), (1, V gap), (2, V p), (3, V kind), (4, V m), (5, V l5)] [] (HP ly F G_4 A_5 B89) Q := by
                              intro nf
                              induction nf with
                              | zero => intros; omega
                              | succ nf ih89B =>
                                intro m l5 B89  hm2 hm89
                                refine r_iload i_193_89 rfl ?_
                                refine r_sipush i_193_91 (by decide) ?_
                                refine r_cge (t := 170) i_193_94 (by decide) (by omega) (by omega) (fun c_40 => ?_) (fun c_40 => ?_)
                                · skip
                                  refine r_iinc (l' := [(0, .ref 90), (1, V gap), (2, V p), (3, V (kind + 1)), (4, V m), (5, V l5)]) i_193_170 rfl (by decide +kernel) rfl ?_
                                  refine r_go (t := 80) i_193_173 (by decide) ?_
                                  exact ih80B (kind + 1) m l5 B89  (by omega) (by omega)
                                · skip
                                  refine r_iload i_193_97 rfl ?_
                                  refine r_aload_n i_193_99 rfl ?_
                                  refine r_getI i_193_100 rfl (hly 90 _ rfl) ?_
                                  have q_41 := g_90_56 hG_4
                                  refine r_cgt (t := 170) i_193_103 (by decide) (by omega) (by omega) (fun c_42 => ?_) (fun c_42 => ?_)
                                  · skip
                                    refine r_iinc (l' := [(0, .ref 90), (1, V gap), (2, V p), (3, V (kind + 1)), (4, V m), (5, V l5)]) i_193_170 rfl (by decide +kernel) rfl ?_
                                    refine r_go (t := 80) i_193_173 (by decide) ?_
                                    exact ih80B (kind + 1) m l5 B89  (by omega) (by omega)
                                  · skip
                                    refine r_aload_n i_193_106 rfl ?_
                                    refine r_iload_n i_193_107 rfl ?_
                                    refine r_iconst i_193_108 ?_
                                    refine r_isub i_193_109 ?_
                                    refine r_iconst i_193_110 ?_
                                    refine r_bin (z := (p - 1) % 2) i_193_111 (by show (if Int32.ofInt 2 = 0 then none else _) = _; rw [if_neg (by decide)]; rfl) (irem2 (by omega) (by omega)) ?_
                                    refine r_iload_n i_193_112 rfl ?_
                                    refine r_iload i_193_113 rfl ?_
                                    refine r_iload_n i_193_115 rfl ?_
                                    refine r_cV (as := [V gap, V m, V kind, V ((p - 1) % 2)]) i_193_116 rfl (by decide +kernel) (Nat.le_of_ble_eq_true rfl) (Nat.le_of_ble_eq_true rfl) (hly 90 _ rfl) rfl ?_
                                    refine c_198 (layer := (p - 1) % 2) (kind := kind) (m := m) (gap := gap) hly hF hG_4 hA_5 (by omega) (by omega) (by omega) (by omega) (by omega) (by omega) (by omega) (by omega) (fun r_43 p43_0 => ?_)
                                    show Re L xs 193 119 [(0, .ref 90), (1, V gap), (2, V p), (3, V kind), (4, V m), (5, V l5)] [V r_43] (HP ly F G_4 A_5 B89) _
                                    refine r_ne0 (t := 125) i_193_119 (by decide) (by omega) (fun c_44 => ?_) (fun c_44 => ?_)
                                    · skip
                                      refine r_bipush i_193_125 (by decide) ?_
                                      refine r_iload_n i_193_127 rfl ?_
                                      refine r_imul i_193_128 ?_
                                      refine r_istore (l' := [(0, .ref 90), (1, V gap), (2, V p), (3, V kind), (4, V m), (5, V (13 * p))]) i_193_129 (by decide +kernel) rfl ?_
                                      have lp131B : ∀ (nf : Nat) (r : Int) (B131 : Nat → Nat → Int64), (13 * p ≤ r ∧ r ≤ 13 * p + 13) → (13 * p + 20 - r).toNat < nf → Re L xs 193 131 [(0, .ref 90), (1, V gap), (2, V p), (3, V kind), (4, V m), (5, V r)] [] (HP ly F G_4 A_5 B131) Q := by
                                        intro nf
                                        induction nf with
                                        | zero => intros; omega
                                        | succ nf ih131B =>
                                          intro r B131  hr hm131
                                          refine r_iload i_193_131 rfl ?_
                                          refine r_bipush i_193_133 (by decide) ?_
                                          refine r_iload_n i_193_135 rfl ?_
                                          refine r_imul i_193_136 ?_
                                          refine r_aload_n i_193_137 rfl ?_
                                          refine r_getF (v := .ref 122) i_193_138 rfl (hly 90 _ rfl) (hF.1 90 47 122 rfl) ?_
                                          refine r_iload_n i_193_141 rfl ?_
                                          refine r_iald i_193_142 (hly 122 _ rfl) (by omega) (by omega) (by omega) ?_
                                          have q_45 := a_122 hA_5 (p.toNat)
                                          refine r_iadd i_193_143 ?_
                                          refine r_cge (t := 164) i_193_144 (by decide) (by omega) (by omega) (fun c_46 => ?_) (fun c_46 => ?_)
                                          · skip
                                            refine r_iinc (l' := [(0, .ref 90), (1, V gap), (2, V p), (3, V kind), (4, V (m + 1)), (5, V r)]) i_193_164 rfl (by decide +kernel) rfl ?_
                                            refine r_go (t := 89) i_193_167 (by decide) ?_
                                            exact ih89B (m + 1) r B131  (by omega) (by omega)
                                          · skip
                                            refine r_aload_n i_193_147 rfl ?_
                                            refine r_iload_n i_193_148 rfl ?_
                                            refine r_iload i_193_149 rfl ?_
                                            refine r_iload_n i_193_151 rfl ?_
                                            refine r_iload i_193_152 rfl ?_
                                            refine r_iload_n i_193_154 rfl ?_
                                            refine r_cV (as := [V gap, V m, V kind, V r, V p]) i_193_155 rfl (by decide +kernel) (Nat.le_of_ble_eq_true rfl) (Nat.le_of_ble_eq_true rfl) (hly 90 _ rfl) rfl ?_
                                            have q_47 := g_90_57 hG_4
                                            have w_48 : G_4 90 38 = G 90 38 := by rw [fg5 90 38 (by omega)]
                                            refine c_199 (p := p) (r0 := r) (kind := kind) (m := m) (gap := gap) hly hF hG_4 hA_5 (by omega) (by omega) (by omega) (by omega) (by omega) (by exact hkn) (by exact hbb) (by omega) (by omega) (by omega) (by omega) (by omega) (fun B_49 => ?_)
                                            show Re L xs 193 158 [(0, .ref 90), (1, V gap), (2, V p), (3, V kind), (4, V m), (5, V r)] [] (HP ly F G_4 A_5 B_49) _
                                            refine r_iinc (l' := [(0, .ref 90), (1, V gap), (2, V p), (3, V kind), (4, V m), (5, V (r + 1))]) i_193_158 rfl (by decide +kernel) rfl ?_
                                            refine r_go (t := 131) i_193_161 (by decide) ?_
                                            exact ih131B (r + 1) B_49  (by omega) (by omega)
                                      exact lp131B _ (13 * p) B89  (by omega) (Nat.lt_succ_self _)
                                    · skip
                                      refine r_go (t := 164) i_193_122 (by decide) ?_
                                      refine r_iinc (l' := [(0, .ref 90), (1, V gap), (2, V p), (3, V kind), (4, V (m + 1)), (5, V l5)]) i_193_164 rfl (by decide +kernel) rfl ?_
                                      refine r_go (t := 89) i_193_167 (by decide) ?_
                                      exact ih89B (m + 1) l5 B89  (by omega) (by omega)
                            exact lp89B _ 0 l5 B80  (by omega) (Nat.lt_succ_self _)
                      have lp80A34 : ∀ (nf : Nat) (kind : Int) (l4 : Int) (B80 : Nat → Nat → Int64), (0 ≤ kind ∧ kind ≤ 8) → (20 - kind).toNat < nf → Re L xs 193 80 [(0, .ref 90), (1, V gap), (2, V p), (3, V kind), (4, V l4)] [] (HP ly F G_4 A_5 B80) Q := by
                        intro nf
                        induction nf with
                        | zero => intros; omega
                        | succ nf ih80A34 =>
                          intro kind l4 B80  hk hm80
                          refine r_iload_n i_193_80 rfl ?_
                          refine r_bipush i_193_81 (by decide) ?_
                          refine r_cge (t := 176) i_193_83 (by decide) (by omega) (by omega) (fun c_50 => ?_) (fun c_50 => ?_)
                          · skip
                            refine r_iinc (l' := [(0, .ref 90), (1, V gap), (2, V (p + 1)), (3, V kind), (4, V l4)]) i_193_176 rfl (by decide +kernel) rfl ?_
                            refine r_go (t := 63) i_193_179 (by decide) ?_
                            exact ih63A234 (p + 1) kind l4 B80  (by omega) (by omega)
                          · skip
                            refine r_iconst i_193_86 ?_
                            refine r_istore (l' := [(0, .ref 90), (1, V gap), (2, V p), (3, V kind), (4, V 0)]) i_193_87 (by decide +kernel) rfl ?_
                            have lp89B : ∀ (nf : Nat) (m : Int) (l5 : Int) (B89 : Nat → Nat → Int64), (0 ≤ m ∧ m ≤ 169) → (200 - m).toNat < nf → Re L xs 193 89 [(0, .ref 90), (1, V gap), (2, V p), (3, V kind), (4, V m), (5, V l5)] [] (HP ly F G_4 A_5 B89) Q := by
                              intro nf
                              induction nf with
                              | zero => intros; omega
                              | succ nf ih89B =>
                                intro m l5 B89  hm2 hm89
                                refine r_iload i_193_89 rfl ?_
                                refine r_sipush i_193_91 (by decide) ?_
                                refine r_cge (t := 170) i_193_94 (by decide) (by omega) (by omega) (fun c_51 => ?_) (fun c_51 => ?_)
                                · skip
                                  refine r_iinc (l' := [(0, .ref 90), (1, V gap), (2, V p), (3, V (kind + 1)), (4, V m), (5, V l5)]) i_193_170 rfl (by decide +kernel) rfl ?_
                                  refine r_go (t := 80) i_193_173 (by decide) ?_
                                  exact lp80B _ (kind + 1) m l5 B89  (by omega) (Nat.lt_succ_self _)
                                · skip
                                  refine r_iload i_193_97 rfl ?_
                                  refine r_aload_n i_193_99 rfl ?_
                                  refine r_getI i_193_100 rfl (hly 90 _ rfl) ?_
                                  have q_52 := g_90_56 hG_4
                                  refine r_cgt (t := 170) i_193_103 (by decide) (by omega) (by omega) (fun c_53 => ?_) (fun c_53 => ?_)
                                  · skip
                                    refine r_iinc (l' := [(0, .ref 90), (1, V gap), (2, V p), (3, V (kind + 1)), (4, V m), (5, V l5)]) i_193_170 rfl (by decide +kernel) rfl ?_
                                    refine r_go (t := 80) i_193_173 (by decide) ?_
                                    exact lp80B _ (kind + 1) m l5 B89  (by omega) (Nat.lt_succ_self _)
                                  · skip
                                    refine r_aload_n i_193_106 rfl ?_
                                    refine r_iload_n i_193_107 rfl ?_
                                    refine r_iconst i_193_108 ?_
                                    refine r_isub i_193_109 ?_
                                    refine r_iconst i_193_110 ?_
                                    refine r_bin (z := (p - 1) % 2) i_193_111 (by show (if Int32.ofInt 2 = 0 then none else _) = _; rw [if_neg (by decide)]; rfl) (irem2 (by omega) (by omega)) ?_
                                    refine r_iload_n i_193_112 rfl ?_
                                    refine r_iload i_193_113 rfl ?_
                                    refine r_iload_n i_193_115 rfl ?_
                                    refine r_cV (as := [V gap, V m, V kind, V ((p - 1) % 2)]) i_193_116 rfl (by decide +kernel) (Nat.le_of_ble_eq_true rfl) (Nat.le_of_ble_eq_true rfl) (hly 90 _ rfl) rfl ?_
                                    refine c_198 (layer := (p - 1) % 2) (kind := kind) (m := m) (gap := gap) hly hF hG_4 hA_5 (by omega) (by omega) (by omega) (by omega) (by omega) (by omega) (by omega) (by omega) (fun r_54 p54_0 => ?_)
                                    show Re L xs 193 119 [(0, .ref 90), (1, V gap), (2, V p), (3, V kind), (4, V m), (5, V l5)] [V r_54] (HP ly F G_4 A_5 B89) _
                                    refine r_ne0 (t := 125) i_193_119 (by decide) (by omega) (fun c_55 => ?_) (fun c_55 => ?_)
                                    · skip
                                      refine r_bipush i_193_125 (by decide) ?_
                                      refine r_iload_n i_193_127 rfl ?_
                                      refine r_imul i_193_128 ?_
                                      refine r_istore (l' := [(0, .ref 90), (1, V gap), (2, V p), (3, V kind), (4, V m), (5, V (13 * p))]) i_193_129 (by decide +kernel) rfl ?_
                                      have lp131B : ∀ (nf : Nat) (r : Int) (B131 : Nat → Nat → Int64), (13 * p ≤ r ∧ r ≤ 13 * p + 13) → (13 * p + 20 - r).toNat < nf → Re L xs 193 131 [(0, .ref 90), (1, V gap), (2, V p), (3, V kind), (4, V m), (5, V r)] [] (HP ly F G_4 A_5 B131) Q := by
                                        intro nf
                                        induction nf with
                                        | zero => intros; omega
                                        | succ nf ih131B =>
                                          intro r B131  hr hm131
                                          refine r_iload i_193_131 rfl ?_
                                          refine r_bipush i_193_133 (by decide) ?_
                                          refine r_iload_n i_193_135 rfl ?_
                                          refine r_imul i_193_136 ?_
                                          refine r_aload_n i_193_137 rfl ?_
                                          refine r_getF (v := .ref 122) i_193_138 rfl (hly 90 _ rfl) (hF.1 90 47 122 rfl) ?_
                                          refine r_iload_n i_193_141 rfl ?_
                                          refine r_iald i_193_142 (hly 122 _ rfl) (by omega) (by omega) (by omega) ?_
                                          have q_56 := a_122 hA_5 (p.toNat)
                                          refine r_iadd i_193_143 ?_
                                          refine r_cge (t := 164) i_193_144 (by decide) (by omega) (by omega) (fun c_57 => ?_) (fun c_57 => ?_)
                                          · skip
                                            refine r_iinc (l' := [(0, .ref 90), (1, V gap), (2, V p), (3, V kind), (4, V (m + 1)), (5, V r)]) i_193_164 rfl (by decide +kernel) rfl ?_
                                            refine r_go (t := 89) i_193_167 (by decide) ?_
                                            exact ih89B (m + 1) r B131  (by omega) (by omega)
                                          · skip
                                            refine r_aload_n i_193_147 rfl ?_
                                            refine r_iload_n i_193_148 rfl ?_
                                            refine r_iload i_193_149 rfl ?_
                                            refine r_iload_n i_193_151 rfl ?_
                                            refine r_iload i_193_152 rfl ?_
                                            refine r_iload_n i_193_154 rfl ?_
                                            refine r_cV (as := [V gap, V m, V kind, V r, V p]) i_193_155 rfl (by decide +kernel) (Nat.le_of_ble_eq_true rfl) (Nat.le_of_ble_eq_true rfl) (hly 90 _ rfl) rfl ?_
                                            have q_58 := g_90_57 hG_4
                                            have w_59 : G_4 90 38 = G 90 38 := by rw [fg5 90 38 (by omega)]
                                            refine c_199 (p := p) (r0 := r) (kind := kind) (m := m) (gap := gap) hly hF hG_4 hA_5 (by omega) (by omega) (by omega) (by omega) (by omega) (by exact hkn) (by exact hbb) (by omega) (by omega) (by omega) (by omega) (by omega) (fun B_60 => ?_)
                                            show Re L xs 193 158 [(0, .ref 90), (1, V gap), (2, V p), (3, V kind), (4, V m), (5, V r)] [] (HP ly F G_4 A_5 B_60) _
                                            refine r_iinc (l' := [(0, .ref 90), (1, V gap), (2, V p), (3, V kind), (4, V m), (5, V (r + 1))]) i_193_158 rfl (by decide +kernel) rfl ?_
                                            refine r_go (t := 131) i_193_161 (by decide) ?_
                                            exact ih131B (r + 1) B_60  (by omega) (by omega)
                                      exact lp131B _ (13 * p) B89  (by omega) (Nat.lt_succ_self _)
                                    · skip
                                      refine r_go (t := 164) i_193_122 (by decide) ?_
                                      refine r_iinc (l' := [(0, .ref 90), (1, V gap), (2, V p), (3, V kind), (4, V (m + 1)), (5, V l5)]) i_193_164 rfl (by decide +kernel) rfl ?_
                                      refine r_go (t := 89) i_193_167 (by decide) ?_
                                      exact ih89B (m + 1) l5 B89  (by omega) (by omega)
                            have lp89A4 : ∀ (nf : Nat) (m : Int) (B89 : Nat → Nat → Int64), (0 ≤ m ∧ m ≤ 169) → (200 - m).toNat < nf → Re L xs 193 89 [(0, .ref 90), (1, V gap), (2, V p), (3, V kind), (4, V m)] [] (HP ly F G_4 A_5 B89) Q := by
                              intro nf
                              induction nf with
                              | zero => intros; omega
                              | succ nf ih89A4 =>
                                intro m B89  hm2 hm89
                                refine r_iload i_193_89 rfl ?_
                                refine r_sipush i_193_91 (by decide) ?_
                                refine r_cge (t := 170) i_193_94 (by decide) (by omega) (by omega) (fun c_61 => ?_) (fun c_61 => ?_)
                                · skip
                                  refine r_iinc (l' := [(0, .ref 90), (1, V gap), (2, V p), (3, V (kind + 1)), (4, V m)]) i_193_170 rfl (by decide +kernel) rfl ?_
                                  refine r_go (t := 80) i_193_173 (by decide) ?_
                                  exact ih80A34 (kind + 1) m B89  (by omega) (by omega)
                                · skip
                                  refine r_iload i_193_97 rfl ?_
                                  refine r_aload_n i_193_99 rfl ?_
                                  refine r_getI i_193_100 rfl (hly 90 _ rfl) ?_
                                  have q_62 := g_90_56 hG_4
                                  refine r_cgt (t := 170) i_193_103 (by decide) (by omega) (by omega) (fun c_63 => ?_) (fun c_63 => ?_)
                                  · skip
                                    refine r_iinc (l' := [(0, .ref 90), (1, V gap), (2, V p), (3, V (kind + 1)), (4, V m)]) i_193_170 rfl (by decide +kernel) rfl ?_
                                    refine r_go (t := 80) i_193_173 (by decide) ?_
                                    exact ih80A34 (kind + 1) m B89  (by omega) (by omega)
                                  · skip
                                    refine r_aload_n i_193_106 rfl ?_
                                    refine r_iload_n i_193_107 rfl ?_
                                    refine r_iconst i_193_108 ?_
                                    refine r_isub i_193_109 ?_
                                    refine r_iconst i_193_110 ?_
                                    refine r_bin (z := (p - 1) % 2) i_193_111 (by show (if Int32.ofInt 2 = 0 then none else _) = _; rw [if_neg (by decide)]; rfl) (irem2 (by omega) (by omega)) ?_
                                    refine r_iload_n i_193_112 rfl ?_
                                    refine r_iload i_193_113 rfl ?_
                                    refine r_iload_n i_193_115 rfl ?_
                                    refine r_cV (as := [V gap, V m, V kind, V ((p - 1) % 2)]) i_193_116 rfl (by decide +kernel) (Nat.le_of_ble_eq_true rfl) (Nat.le_of_ble_eq_true rfl) (hly 90 _ rfl) rfl ?_
                                    refine c_198 (layer := (p - 1) % 2) (kind := kind) (m := m) (gap := gap) hly hF hG_4 hA_5 (by omega) (by omega) (by omega) (by omega) (by omega) (by omega) (by omega) (by omega) (fun r_64 p64_0 => ?_)
                                    show Re L xs 193 119 [(0, .ref 90), (1, V gap), (2, V p), (3, V kind), (4, V m)] [V r_64] (HP ly F G_4 A_5 B89) _
                                    refine r_ne0 (t := 125) i_193_119 (by decide) (by omega) (fun c_65 => ?_) (fun c_65 => ?_)
                                    · skip
                                      refine r_bipush i_193_125 (by decide) ?_
                                      refine r_iload_n i_193_127 rfl ?_
                                      refine r_imul i_193_128 ?_
                                      refine r_istore (l' := [(0, .ref 90), (1, V gap), (2, V p), (3, V kind), (4, V m), (5, V (13 * p))]) i_193_129 (by decide +kernel) rfl ?_
                                      have lp131B : ∀ (nf : Nat) (r : Int) (B131 : Nat → Nat → Int64), (13 * p ≤ r ∧ r ≤ 13 * p + 13) → (13 * p + 20 - r).toNat < nf → Re L xs 193 131 [(0, .ref 90), (1, V gap), (2, V p), (3, V kind), (4, V m), (5, V r)] [] (HP ly F G_4 A_5 B131) Q := by
                                        intro nf
                                        induction nf with
                                        | zero => intros; omega
                                        | succ nf ih131B =>
                                          intro r B131  hr hm131
                                          refine r_iload i_193_131 rfl ?_
                                          refine r_bipush i_193_133 (by decide) ?_
                                          refine r_iload_n i_193_135 rfl ?_
                                          refine r_imul i_193_136 ?_
                                          refine r_aload_n i_193_137 rfl ?_
                                          refine r_getF (v := .ref 122) i_193_138 rfl (hly 90 _ rfl) (hF.1 90 47 122 rfl) ?_
                                          refine r_iload_n i_193_141 rfl ?_
                                          refine r_iald i_193_142 (hly 122 _ rfl) (by omega) (by omega) (by omega) ?_
                                          have q_66 := a_122 hA_5 (p.toNat)
                                          refine r_iadd i_193_143 ?_
                                          refine r_cge (t := 164) i_193_144 (by decide) (by omega) (by omega) (fun c_67 => ?_) (fun c_67 => ?_)
                                          · skip
                                            refine r_iinc (l' := [(0, .ref 90), (1, V gap), (2, V p), (3, V kind), (4, V (m + 1)), (5, V r)]) i_193_164 rfl (by decide +kernel) rfl ?_
                                            refine r_go (t := 89) i_193_167 (by decide) ?_
                                            exact lp89B _ (m + 1) r B131  (by omega) (Nat.lt_succ_self _)
                                          · skip
                                            refine r_aload_n i_193_147 rfl ?_
                                            refine r_iload_n i_193_148 rfl ?_
                                            refine r_iload i_193_149 rfl ?_
                                            refine r_iload_n i_193_151 rfl ?_
                                            refine r_iload i_193_152 rfl ?_
                                            refine r_iload_n i_193_154 rfl ?_
                                            refine r_cV (as := [V gap, V m, V kind, V r, V p]) i_193_155 rfl (by decide +kernel) (Nat.le_of_ble_eq_true rfl) (Nat.le_of_ble_eq_true rfl) (hly 90 _ rfl) rfl ?_
                                            have q_68 := g_90_57 hG_4
                                            have w_69 : G_4 90 38 = G 90 38 := by rw [fg5 90 38 (by omega)]
                                            refine c_199 (p := p) (r0 := r) (kind := kind) (m := m) (gap := gap) hly hF hG_4 hA_5 (by omega) (by omega) (by omega) (by omega) (by omega) (by exact hkn) (by exact hbb) (by omega) (by omega) (by omega) (by omega) (by omega) (fun B_70 => ?_)
                                            show Re L xs 193 158 [(0, .ref 90), (1, V gap), (2, V p), (3, V kind), (4, V m), (5, V r)] [] (HP ly F G_4 A_5 B_70) _
                                            refine r_iinc (l' := [(0, .ref 90), (1, V gap), (2, V p), (3, V kind), (4, V m), (5, V (r + 1))]) i_193_158 rfl (by decide +kernel) rfl ?_
                                            refine r_go (t := 131) i_193_161 (by decide) ?_
                                            exact ih131B (r + 1) B_70  (by omega) (by omega)
                                      exact lp131B _ (13 * p) B89  (by omega) (Nat.lt_succ_self _)
                                    · skip
                                      refine r_go (t := 164) i_193_122 (by decide) ?_
                                      refine r_iinc (l' := [(0, .ref 90), (1, V gap), (2, V p), (3, V kind), (4, V (m + 1))]) i_193_164 rfl (by decide +kernel) rfl ?_
                                      refine r_go (t := 89) i_193_167 (by decide) ?_
                                      exact ih89A4 (m + 1) B89  (by omega) (by omega)
                            exact lp89A4 _ 0 B80  (by omega) (Nat.lt_succ_self _)
                      exact lp80A34 _ 0 l4 B_38  (by omega) (Nat.lt_succ_self _)
                have lp63A23 : ∀ (nf : Nat) (p : Int) (l3 : Int) (B63 : Nat → Nat → Int64), (1 ≤ p ∧ p ≤ 14) → (20 - p).toNat < nf → Re L xs 193 63 [(0, .ref 90), (1, V gap), (2, V p), (3, V l3)] [] (HP ly F G_4 A_5 B63) Q := by
                  intro nf
                  induction nf with
                  | zero => intros; omega
                  | succ nf ih63A23 =>
                    intro p l3 B63  hp hm63
                    refine r_iload_n i_193_63 rfl ?_
                    refine r_aload_n i_193_64 rfl ?_
                    refine r_getI i_193_65 rfl (hly 90 _ rfl) ?_
                    rw [show G_4 90 38 = G 90 38 from by rw [fg5 90 38 (by omega)]]
                    refine r_cge (t := 182) i_193_68 (by decide) (by omega) (by omega) (fun c_71 => ?_) (fun c_71 => ?_)
                    · skip
                      refine r_lconst i_193_182 ?_
                      show Re L xs 193 183 [(0, .ref 90), (1, V gap), (2, V p), (3, V l3)] [.long (Int64.ofNat 0)] (HP ly F G_4 A_5 B63) _
                      refine r_lstore_n (l' := [(0, .ref 90), (1, V gap), (2, .long (Int64.ofNat 0))]) i_193_183 (by decide +kernel) rfl ?_
                      refine r_iconst i_193_184 ?_
                      refine r_istore (l' := [(0, .ref 90), (1, V gap), (2, .long (Int64.ofNat 0)), (4, V 0)]) i_193_185 (by decide +kernel) rfl ?_
                      have lp187B : ∀ (nf : Nat) (sum : Int64) (kd : Int) (l5 : Int), (0 ≤ kd ∧ kd ≤ 8) → (20 - kd).toNat < nf → Re L xs 193 187 [(0, .ref 90), (1, V gap), (2, .long sum), (4, V kd), (5, V l5)] [] (HP ly F G_4 A_5 B63) Q := by
                        intro nf
                        induction nf with
                        | zero => intros; omega
                        | succ nf ih187B =>
                          intro sum kd l5  hkd hm187
                          refine r_iload i_193_187 rfl ?_
                          refine r_bipush i_193_189 (by decide) ?_
                          refine r_cge (t := 242) i_193_191 (by decide) (by omega) (by omega) (fun c_72 => ?_) (fun c_72 => ?_)
                          · skip
                            refine r_lload_n i_193_242 rfl ?_
                            exact r_lret i_193_243 rfl (K sum G_4 A_5 B63 hG_4 hA_5 (by intro a k hh; rw [fg5 a k (by omega)]) (by intro a hh; rw [fa5 a (by omega)]) (by exact p5_0))
                          · skip
                            refine r_iconst i_193_194 ?_
                            refine r_istore (l' := [(0, .ref 90), (1, V gap), (2, .long sum), (4, V kd), (5, V 0)]) i_193_195 (by decide +kernel) rfl ?_
                            have lp197B : ∀ (nf : Nat) (sum : Int64) (o : Int), (0 ≤ o ∧ o ≤ 101) → (200 - o).toNat < nf → Re L xs 193 197 [(0, .ref 90), (1, V gap), (2, .long sum), (4, V kd), (5, V o)] [] (HP ly F G_4 A_5 B63) Q := by
                              intro nf
                              induction nf with
                              | zero => intros; omega
                              | succ nf ih197B =>
                                intro sum o  ho hm197
                                refine r_iload i_193_197 rfl ?_
                                refine r_iload_n i_193_199 rfl ?_
                                refine r_cgt (t := 236) i_193_200 (by decide) (by omega) (by omega) (fun c_73 => ?_) (fun c_73 => ?_)
                                · skip
                                  refine r_iinc (l' := [(0, .ref 90), (1, V gap), (2, .long sum), (4, V (kd + 1)), (5, V o)]) i_193_236 rfl (by decide +kernel) rfl ?_
                                  refine r_go (t := 187) i_193_239 (by decide) ?_
                                  exact ih187B sum (kd + 1) o  (by omega) (by omega)
                                · skip
                                  refine r_lload_n i_193_203 rfl ?_
                                  refine r_aload_n i_193_204 rfl ?_
                                  refine r_getF (v := .ref 131) i_193_205 rfl (hly 90 _ rfl) (hF.1 90 61 131 rfl) ?_
                                  refine r_aload_n i_193_208 rfl ?_
                                  refine r_getI i_193_209 rfl (hly 90 _ rfl) ?_
                                  rw [show G_4 90 38 = G 90 38 from by rw [fg5 90 38 (by omega)]]
                                  refine r_iconst i_193_212 ?_
                                  refine r_isub i_193_213 ?_
                                  refine r_iconst i_193_214 ?_
                                  refine r_bin (z := ((G 90 38) - 1) % 2) i_193_215 (by show (if Int32.ofInt 2 = 0 then none else _) = _; rw [if_neg (by decide)]; rfl) (irem2 (by omega) (by omega)) ?_
                                  refine r_iload i_193_216 rfl ?_
                                  refine r_aload_n i_193_218 rfl ?_
                                  refine r_getI i_193_219 rfl (hly 90 _ rfl) ?_
                                  have q_74 := g_90_56 hG_4
                                  refine r_iload i_193_222 rfl ?_
                                  refine r_cS (as := [V o, V (G_4 90 56), V kd, V (((G 90 38) - 1) % 2)]) i_193_224 rfl (by decide +kernel) (Nat.le_of_ble_eq_true rfl) (Nat.le_of_ble_eq_true rfl) ?_
                                  refine c_195 (layer := ((G 90 38) - 1) % 2) (kind := kd) (marks := G_4 90 56) (over := o) hly hF hG_4 hA_5 (by omega) (by omega) (by omega) (by omega) (fun r_75 p75_0 => ?_)
                                  show Re L xs 193 227 [(0, .ref 90), (1, V gap), (2, .long sum), (4, V kd), (5, V o)] [V r_75, .ref 131, .long sum] (HP ly F G_4 A_5 B63) _
                                  refine r_lald i_193_227 (hly 131 _ rfl) (by omega) (by omega) (by omega) ?_
                                  refine re_nx i_193_228 rfl ?_
                                  refine r_lstore_n (l' := [(0, .ref 90), (1, V gap), (2, .long (sum + (B63 131 r_75.toNat))), (4, V kd), (5, V o)]) i_193_229 (by decide +kernel) rfl ?_
                                  refine r_iinc (l' := [(0, .ref 90), (1, V gap), (2, .long (sum + (B63 131 r_75.toNat))), (4, V kd), (5, V (o + 1))]) i_193_230 rfl (by decide +kernel) rfl ?_
                                  refine r_go (t := 197) i_193_233 (by decide) ?_
                                  exact ih197B (sum + (B63 131 r_75.toNat)) (o + 1)  (by omega) (by omega)
                            exact lp197B _ sum 0  (by omega) (Nat.lt_succ_self _)
                      have lp187A24 : ∀ (nf : Nat) (sum : Int64) (kd : Int), (0 ≤ kd ∧ kd ≤ 8) → (20 - kd).toNat < nf → Re L xs 193 187 [(0, .ref 90), (1, V gap), (2, .long sum), (4, V kd)] [] (HP ly F G_4 A_5 B63) Q := by
                        intro nf
                        induction nf with
                        | zero => intros; omega
                        | succ nf ih187A24 =>
                          intro sum kd  hkd hm187
                          refine r_iload i_193_187 rfl ?_
                          refine r_bipush i_193_189 (by decide) ?_
                          refine r_cge (t := 242) i_193_191 (by decide) (by omega) (by omega) (fun c_76 => ?_) (fun c_76 => ?_)
                          · skip
                            refine r_lload_n i_193_242 rfl ?_
                            exact r_lret i_193_243 rfl (K sum G_4 A_5 B63 hG_4 hA_5 (by intro a k hh; rw [fg5 a k (by omega)]) (by intro a hh; rw [fa5 a (by omega)]) (by exact p5_0))
                          · skip
                            refine r_iconst i_193_194 ?_
                            refine r_istore (l' := [(0, .ref 90), (1, V gap), (2, .long sum), (4, V kd), (5, V 0)]) i_193_195 (by decide +kernel) rfl ?_
                            have lp197B : ∀ (nf : Nat) (sum : Int64) (o : Int), (0 ≤ o ∧ o ≤ 101) → (200 - o).toNat < nf → Re L xs 193 197 [(0, .ref 90), (1, V gap), (2, .long sum), (4, V kd), (5, V o)] [] (HP ly F G_4 A_5 B63) Q := by
                              intro nf
                              induction nf with
                              | zero => intros; omega
                              | succ nf ih197B =>
                                intro sum o  ho hm197
                                refine r_iload i_193_197 rfl ?_
                                refine r_iload_n i_193_199 rfl ?_
                                refine r_cgt (t := 236) i_193_200 (by decide) (by omega) (by omega) (fun c_77 => ?_) (fun c_77 => ?_)
                                · skip
                                  refine r_iinc (l' := [(0, .ref 90), (1, V gap), (2, .long sum), (4, V (kd + 1)), (5, V o)]) i_193_236 rfl (by decide +kernel) rfl ?_
                                  refine r_go (t := 187) i_193_239 (by decide) ?_
                                  exact lp187B _ sum (kd + 1) o  (by omega) (Nat.lt_succ_self _)
                                · skip
                                  refine r_lload_n i_193_203 rfl ?_
                                  refine r_aload_n i_193_204 rfl ?_
                                  refine r_getF (v := .ref 131) i_193_205 rfl (hly 90 _ rfl) (hF.1 90 61 131 rfl) ?_
                                  refine r_aload_n i_193_208 rfl ?_
                                  refine r_getI i_193_209 rfl (hly 90 _ rfl) ?_
                                  rw [show G_4 90 38 = G 90 38 from by rw [fg5 90 38 (by omega)]]
                                  refine r_iconst i_193_212 ?_
                                  refine r_isub i_193_213 ?_
                                  refine r_iconst i_193_214 ?_
                                  refine r_bin (z := ((G 90 38) - 1) % 2) i_193_215 (by show (if Int32.ofInt 2 = 0 then none else _) = _; rw [if_neg (by decide)]; rfl) (irem2 (by omega) (by omega)) ?_
                                  refine r_iload i_193_216 rfl ?_
                                  refine r_aload_n i_193_218 rfl ?_
                                  refine r_getI i_193_219 rfl (hly 90 _ rfl) ?_
                                  have q_78 := g_90_56 hG_4
                                  refine r_iload i_193_222 rfl ?_
                                  refine r_cS (as := [V o, V (G_4 90 56), V kd, V (((G 90 38) - 1) % 2)]) i_193_224 rfl (by decide +kernel) (Nat.le_of_ble_eq_true rfl) (Nat.le_of_ble_eq_true rfl) ?_
                                  refine c_195 (layer := ((G 90 38) - 1) % 2) (kind := kd) (marks := G_4 90 56) (over := o) hly hF hG_4 hA_5 (by omega) (by omega) (by omega) (by omega) (fun r_79 p79_0 => ?_)
                                  show Re L xs 193 227 [(0, .ref 90), (1, V gap), (2, .long sum), (4, V kd), (5, V o)] [V r_79, .ref 131, .long sum] (HP ly F G_4 A_5 B63) _
                                  refine r_lald i_193_227 (hly 131 _ rfl) (by omega) (by omega) (by omega) ?_
                                  refine re_nx i_193_228 rfl ?_
                                  refine r_lstore_n (l' := [(0, .ref 90), (1, V gap), (2, .long (sum + (B63 131 r_79.toNat))), (4, V kd), (5, V o)]) i_193_229 (by decide +kernel) rfl ?_
                                  refine r_iinc (l' := [(0, .ref 90), (1, V gap), (2, .long (sum + (B63 131 r_79.toNat))), (4, V kd), (5, V (o + 1))]) i_193_230 rfl (by decide +kernel) rfl ?_
                                  refine r_go (t := 197) i_193_233 (by decide) ?_
                                  exact ih197B (sum + (B63 131 r_79.toNat)) (o + 1)  (by omega) (by omega)
                            exact lp197B _ sum 0  (by omega) (Nat.lt_succ_self _)
                      exact lp187A24 _ (Int64.ofNat 0) 0  (by omega) (Nat.lt_succ_self _)
                    · skip
                      refine r_aload_n i_193_71 rfl ?_
                      refine r_iload_n i_193_72 rfl ?_
                      refine r_iconst i_193_73 ?_
                      refine r_bin (z := p % 2) i_193_74 (by show (if Int32.ofInt 2 = 0 then none else _) = _; rw [if_neg (by decide)]; rfl) (irem2 (by omega) (by omega)) ?_
                      refine r_cV (as := [V (p % 2)]) i_193_75 rfl (by decide +kernel) (Nat.le_of_ble_eq_true rfl) (Nat.le_of_ble_eq_true rfl) (hly 90 _ rfl) rfl ?_
                      refine c_194 (layer := p % 2) hly hF hG_4 hA_5 (by omega) (by omega) (fun B_80 => ?_)
                      show Re L xs 193 78 [(0, .ref 90), (1, V gap), (2, V p), (3, V l3)] [] (HP ly F G_4 A_5 B_80) _
                      refine r_iconst i_193_78 ?_
                      refine r_istore_n (l' := [(0, .ref 90), (1, V gap), (2, V p), (3, V 0)]) i_193_79 (by decide +kernel) rfl ?_
                      have lp80B : ∀ (nf : Nat) (kind : Int) (l4 : Int) (l5 : Int) (B80 : Nat → Nat → Int64), (0 ≤ kind ∧ kind ≤ 8) → (20 - kind).toNat < nf → Re L xs 193 80 [(0, .ref 90), (1, V gap), (2, V p), (3, V kind), (4, V l4), (5, V l5)] [] (HP ly F G_4 A_5 B80) Q := by
                        intro nf
                        induction nf with
                        | zero => intros; omega
                        | succ nf ih80B =>
                          intro kind l4 l5 B80  hk hm80
                          refine r_iload_n i_193_80 rfl ?_
                          refine r_bipush i_193_81 (by decide) ?_
                          refine r_cge (t := 176) i_193_83 (by decide) (by omega) (by omega) (fun c_81 => ?_) (fun c_81 => ?_)
                          · skip
                            refine r_iinc (l' := [(0, .ref 90), (1, V gap), (2, V (p + 1)), (3, V kind), (4, V l4), (5, V l5)]) i_193_176 rfl (by decide +kernel) rfl ?_
                            refine r_go (t := 63) i_193_179 (by decide) ?_
                            exact lp63B _ (p + 1) kind l4 l5 B80  (by omega) (Nat.lt_succ_self _)
                          · skip
                            refine r_iconst i_193_86 ?_
                            refine r_istore (l' := [(0, .ref 90), (1, V gap), (2, V p), (3, V kind), (4, V 0), (5, V l5)]) i_193_87 (by decide +kernel) rfl ?_
                            have lp89B : ∀ (nf : Nat) (m : Int) (l5 : Int) (B89 : Nat → Nat → Int64), (0 ≤ m ∧ m ≤ 169) → (200 - m).toNat < nf → Re L xs 193 89 [(0, .ref 90), (1, V gap), (2, V p), (3, V kind), (4, V m), (5, V l5)] [] (HP ly F G_4 A_5 B89) Q := by
                              intro nf
                              induction nf with
                              | zero => intros; omega
                              | succ nf ih89B =>
                                intro m l5 B89  hm2 hm89
                                refine r_iload i_193_89 rfl ?_
                                refine r_sipush i_193_91 (by decide) ?_
                                refine r_cge (t := 170) i_193_94 (by decide) (by omega) (by omega) (fun c_82 => ?_) (fun c_82 => ?_)
                                · skip
                                  refine r_iinc (l' := [(0, .ref 90), (1, V gap), (2, V p), (3, V (kind + 1)), (4, V m), (5, V l5)]) i_193_170 rfl (by decide +kernel) rfl ?_
                                  refine r_go (t := 80) i_193_173 (by decide) ?_
                                  exact ih80B (kind + 1) m l5 B89  (by omega) (by omega)
                                · skip
                                  refine r_iload i_193_97 rfl ?_
                                  refine r_aload_n i_193_99 rfl ?_
                                  refine r_getI i_193_100 rfl (hly 90 _ rfl) ?_
                                  have q_83 := g_90_56 hG_4
                                  refine r_cgt (t := 170) i_193_103 (by decide) (by omega) (by omega) (fun c_84 => ?_) (fun c_84 => ?_)
                                  · skip
                                    refine r_iinc (l' := [(0, .ref 90), (1, V gap), (2, V p), (3, V (kind + 1)), (4, V m), (5, V l5)]) i_193_170 rfl (by decide +kernel) rfl ?_
                                    refine r_go (t := 80) i_193_173 (by decide) ?_
                                    exact ih80B (kind + 1) m l5 B89  (by omega) (by omega)
                                  · skip
                                    refine r_aload_n i_193_106 rfl ?_
                                    refine r_iload_n i_193_107 rfl ?_
                                    refine r_iconst i_193_108 ?_
                                    refine r_isub i_193_109 ?_
                                    refine r_iconst i_193_110 ?_
                                    refine r_bin (z := (p - 1) % 2) i_193_111 (by show (if Int32.ofInt 2 = 0 then none else _) = _; rw [if_neg (by decide)]; rfl) (irem2 (by omega) (by omega)) ?_
                                    refine r_iload_n i_193_112 rfl ?_
                                    refine r_iload i_193_113 rfl ?_
                                    refine r_iload_n i_193_115 rfl ?_
                                    refine r_cV (as := [V gap, V m, V kind, V ((p - 1) % 2)]) i_193_116 rfl (by decide +kernel) (Nat.le_of_ble_eq_true rfl) (Nat.le_of_ble_eq_true rfl) (hly 90 _ rfl) rfl ?_
                                    refine c_198 (layer := (p - 1) % 2) (kind := kind) (m := m) (gap := gap) hly hF hG_4 hA_5 (by omega) (by omega) (by omega) (by omega) (by omega) (by omega) (by omega) (by omega) (fun r_85 p85_0 => ?_)
                                    show Re L xs 193 119 [(0, .ref 90), (1, V gap), (2, V p), (3, V kind), (4, V m), (5, V l5)] [V r_85] (HP ly F G_4 A_5 B89) _
                                    refine r_ne0 (t := 125) i_193_119 (by decide) (by omega) (fun c_86 => ?_) (fun c_86 => ?_)
                                    · skip
                                      refine r_bipush i_193_125 (by decide) ?_
                                      refine r_iload_n i_193_127 rfl ?_
                                      refine r_imul i_193_128 ?_
                                      refine r_istore (l' := [(0, .ref 90), (1, V gap), (2, V p), (3, V kind), (4, V m), (5, V (13 * p))]) i_193_129 (by decide +kernel) rfl ?_
                                      have lp131B : ∀ (nf : Nat) (r : Int) (B131 : Nat → Nat → Int64), (13 * p ≤ r ∧ r ≤ 13 * p + 13) → (13 * p + 20 - r).toNat < nf → Re L xs 193 131 [(0, .ref 90), (1, V gap), (2, V p), (3, V kind), (4, V m), (5, V r)] [] (HP ly F G_4 A_5 B131) Q := by
                                        intro nf
                                        induction nf with
                                        | zero => intros; omega
                                        | succ nf ih131B =>
                                          intro r B131  hr hm131
                                          refine r_iload i_193_131 rfl ?_
                                          refine r_bipush i_193_133 (by decide) ?_
                                          refine r_iload_n i_193_135 rfl ?_
                                          refine r_imul i_193_136 ?_
                                          refine r_aload_n i_193_137 rfl ?_
                                          refine r_getF (v := .ref 122) i_193_138 rfl (hly 90 _ rfl) (hF.1 90 47 122 rfl) ?_
                                          refine r_iload_n i_193_141 rfl ?_
                                          refine r_iald i_193_142 (hly 122 _ rfl) (by omega) (by omega) (by omega) ?_
                                          have q_87 := a_122 hA_5 (p.toNat)
                                          refine r_iadd i_193_143 ?_
                                          refine r_cge (t := 164) i_193_144 (by decide) (by omega) (by omega) (fun c_88 => ?_) (fun c_88 => ?_)
                                          · skip
                                            refine r_iinc (l' := [(0, .ref 90), (1, V gap), (2, V p), (3, V kind), (4, V (m + 1)), (5, V r)]) i_193_164 rfl (by decide +kernel) rfl ?_
                                            refine r_go (t := 89) i_193_167 (by decide) ?_
                                            exact ih89B (m + 1) r B131  (by omega) (by omega)
                                          · skip
                                            refine r_aload_n i_193_147 rfl ?_
                                            refine r_iload_n i_193_148 rfl ?_
                                            refine r_iload i_193_149 rfl ?_
                                            refine r_iload_n i_193_151 rfl ?_
                                            refine r_iload i_193_152 rfl ?_
                                            refine r_iload_n i_193_154 rfl ?_
                                            refine r_cV (as := [V gap, V m, V kind, V r, V p]) i_193_155 rfl (by decide +kernel) (Nat.le_of_ble_eq_true rfl) (Nat.le_of_ble_eq_true rfl) (hly 90 _ rfl) rfl ?_
                                            have q_89 := g_90_57 hG_4
                                            have w_90 : G_4 90 38 = G 90 38 := by rw [fg5 90 38 (by omega)]
                                            refine c_199 (p := p) (r0 := r) (kind := kind) (m := m) (gap := gap) hly hF hG_4 hA_5 (by omega) (by omega) (by omega) (by omega) (by omega) (by exact hkn) (by exact hbb) (by omega) (by omega) (by omega) (by omega) (by omega) (fun B_91 => ?_)
                                            show Re L xs 193 158 [(0, .ref 90), (1, V gap), (2, V p), (3, V kind), (4, V m), (5, V r)] [] (HP ly F G_4 A_5 B_91) _
                                            refine r_iinc (l' := [(0, .ref 90), (1, V gap), (2, V p), (3, V kind), (4, V m), (5, V (r + 1))]) i_193_158 rfl (by decide +kernel) rfl ?_
                                            refine r_go (t := 131) i_193_161 (by decide) ?_
                                            exact ih131B (r + 1) B_91  (by omega) (by omega)
                                      exact lp131B _ (13 * p) B89  (by omega) (Nat.lt_succ_self _)
                                    · skip
                                      refine r_go (t := 164) i_193_122 (by decide) ?_
                                      refine r_iinc (l' := [(0, .ref 90), (1, V gap), (2, V p), (3, V kind), (4, V (m + 1)), (5, V l5)]) i_193_164 rfl (by decide +kernel) rfl ?_
                                      refine r_go (t := 89) i_193_167 (by decide) ?_
                                      exact ih89B (m + 1) l5 B89  (by omega) (by omega)
                            exact lp89B _ 0 l5 B80  (by omega) (Nat.lt_succ_self _)
                      have lp80A34 : ∀ (nf : Nat) (kind : Int) (l4 : Int) (B80 : Nat → Nat → Int64), (0 ≤ kind ∧ kind ≤ 8) → (20 - kind).toNat < nf → Re L xs 193 80 [(0, .ref 90), (1, V gap), (2, V p), (3, V kind), (4, V l4)] [] (HP ly F G_4 A_5 B80) Q := by
                        intro nf
                        induction nf with
                        | zero => intros; omega
                        | succ nf ih80A34 =>
                          intro kind l4 B80  hk hm80
                          refine r_iload_n i_193_80 rfl ?_
                          refine r_bipush i_193_81 (by decide) ?_
                          refine r_cge (t := 176) i_193_83 (by decide) (by omega) (by omega) (fun c_92 => ?_) (fun c_92 => ?_)
                          · skip
                            refine r_iinc (l' := [(0, .ref 90), (1, V gap), (2, V (p + 1)), (3, V kind), (4, V l4)]) i_193_176 rfl (by decide +kernel) rfl ?_
                            refine r_go (t := 63) i_193_179 (by decide) ?_
                            exact lp63A234 _ (p + 1) kind l4 B80  (by omega) (Nat.lt_succ_self _)
                          · skip
                            refine r_iconst i_193_86 ?_
                            refine r_istore (l' := [(0, .ref 90), (1, V gap), (2, V p), (3, V kind), (4, V 0)]) i_193_87 (by decide +kernel) rfl ?_
                            have lp89B : ∀ (nf : Nat) (m : Int) (l5 : Int) (B89 : Nat → Nat → Int64), (0 ≤ m ∧ m ≤ 169) → (200 - m).toNat < nf → Re L xs 193 89 [(0, .ref 90), (1, V gap), (2, V p), (3, V kind), (4, V m), (5, V l5)] [] (HP ly F G_4 A_5 B89) Q := by
                              intro nf
                              induction nf with
                              | zero => intros; omega
                              | succ nf ih89B =>
                                intro m l5 B89  hm2 hm89
                                refine r_iload i_193_89 rfl ?_
                                refine r_sipush i_193_91 (by decide) ?_
                                refine r_cge (t := 170) i_193_94 (by decide) (by omega) (by omega) (fun c_93 => ?_) (fun c_93 => ?_)
                                · skip
                                  refine r_iinc (l' := [(0, .ref 90), (1, V gap), (2, V p), (3, V (kind + 1)), (4, V m), (5, V l5)]) i_193_170 rfl (by decide +kernel) rfl ?_
                                  refine r_go (t := 80) i_193_173 (by decide) ?_
                                  exact lp80B _ (kind + 1) m l5 B89  (by omega) (Nat.lt_succ_self _)
                                · skip
                                  refine r_iload i_193_97 rfl ?_
                                  refine r_aload_n i_193_99 rfl ?_
                                  refine r_getI i_193_100 rfl (hly 90 _ rfl) ?_
                                  have q_94 := g_90_56 hG_4
                                  refine r_cgt (t := 170) i_193_103 (by decide) (by omega) (by omega) (fun c_95 => ?_) (fun c_95 => ?_)
                                  · skip
                                    refine r_iinc (l' := [(0, .ref 90), (1, V gap), (2, V p), (3, V (kind + 1)), (4, V m), (5, V l5)]) i_193_170 rfl (by decide +kernel) rfl ?_
                                    refine r_go (t := 80) i_193_173 (by decide) ?_
                                    exact lp80B _ (kind + 1) m l5 B89  (by omega) (Nat.lt_succ_self _)
                                  · skip
                                    refine r_aload_n i_193_106 rfl ?_
                                    refine r_iload_n i_193_107 rfl ?_
                                    refine r_iconst i_193_108 ?_
                                    refine r_isub i_193_109 ?_
                                    refine r_iconst i_193_110 ?_
                                    refine r_bin (z := (p - 1) % 2) i_193_111 (by show (if Int32.ofInt 2 = 0 then none else _) = _; rw [if_neg (by decide)]; rfl) (irem2 (by omega) (by omega)) ?_
                                    refine r_iload_n i_193_112 rfl ?_
                                    refine r_iload i_193_113 rfl ?_
                                    refine r_iload_n i_193_115 rfl ?_
                                    refine r_cV (as := [V gap, V m, V kind, V ((p - 1) % 2)]) i_193_116 rfl (by decide +kernel) (Nat.le_of_ble_eq_true rfl) (Nat.le_of_ble_eq_true rfl) (hly 90 _ rfl) rfl ?_
                                    refine c_198 (layer := (p - 1) % 2) (kind := kind) (m := m) (gap := gap) hly hF hG_4 hA_5 (by omega) (by omega) (by omega) (by omega) (by omega) (by omega) (by omega) (by omega) (fun r_96 p96_0 => ?_)
                                    show Re L xs 193 119 [(0, .ref 90), (1, V gap), (2, V p), (3, V kind), (4, V m), (5, V l5)] [V r_96] (HP ly F G_4 A_5 B89) _
                                    refine r_ne0 (t := 125) i_193_119 (by decide) (by omega) (fun c_97 => ?_) (fun c_97 => ?_)
                                    · skip
                                      refine r_bipush i_193_125 (by decide) ?_
                                      refine r_iload_n i_193_127 rfl ?_
                                      refine r_imul i_193_128 ?_
                                      refine r_istore (l' := [(0, .ref 90), (1, V gap), (2, V p), (3, V kind), (4, V m), (5, V (13 * p))]) i_193_129 (by decide +kernel) rfl ?_
                                      have lp131B : ∀ (nf : Nat) (r : Int) (B131 : Nat → Nat → Int64), (13 * p ≤ r ∧ r ≤ 13 * p + 13) → (13 * p + 20 - r).toNat < nf → Re L xs 193 131 [(0, .ref 90), (1, V gap), (2, V p), (3, V kind), (4, V m), (5, V r)] [] (HP ly F G_4 A_5 B131) Q := by
                                        intro nf
                                        induction nf with
                                        | zero => intros; omega
                                        | succ nf ih131B =>
                                          intro r B131  hr hm131
                                          refine r_iload i_193_131 rfl ?_
                                          refine r_bipush i_193_133 (by decide) ?_
                                          refine r_iload_n i_193_135 rfl ?_
                                          refine r_imul i_193_136 ?_
                                          refine r_aload_n i_193_137 rfl ?_
                                          refine r_getF (v := .ref 122) i_193_138 rfl (hly 90 _ rfl) (hF.1 90 47 122 rfl) ?_
                                          refine r_iload_n i_193_141 rfl ?_
                                          refine r_iald i_193_142 (hly 122 _ rfl) (by omega) (by omega) (by omega) ?_
                                          have q_98 := a_122 hA_5 (p.toNat)
                                          refine r_iadd i_193_143 ?_
                                          refine r_cge (t := 164) i_193_144 (by decide) (by omega) (by omega) (fun c_99 => ?_) (fun c_99 => ?_)
                                          · skip
                                            refine r_iinc (l' := [(0, .ref 90), (1, V gap), (2, V p), (3, V kind), (4, V (m + 1)), (5, V r)]) i_193_164 rfl (by decide +kernel) rfl ?_
                                            refine r_go (t := 89) i_193_167 (by decide) ?_
                                            exact ih89B (m + 1) r B131  (by omega) (by omega)
                                          · skip
                                            refine r_aload_n i_193_147 rfl ?_
                                            refine r_iload_n i_193_148 rfl ?_
                                            refine r_iload i_193_149 rfl ?_
                                            refine r_iload_n i_193_151 rfl ?_
                                            refine r_iload i_193_152 rfl ?_
                                            refine r_iload_n i_193_154 rfl ?_
                                            refine r_cV (as := [V gap, V m, V kind, V r, V p]) i_193_155 rfl (by decide +kernel) (Nat.le_of_ble_eq_true rfl) (Nat.le_of_ble_eq_true rfl) (hly 90 _ rfl) rfl ?_
                                            have q_100 := g_90_57 hG_4
                                            have w_101 : G_4 90 38 = G 90 38 := by rw [fg5 90 38 (by omega)]
                                            refine c_199 (p := p) (r0 := r) (kind := kind) (m := m) (gap := gap) hly hF hG_4 hA_5 (by omega) (by omega) (by omega) (by omega) (by omega) (by exact hkn) (by exact hbb) (by omega) (by omega) (by omega) (by omega) (by omega) (fun B_102 => ?_)
                                            show Re L xs 193 158 [(0, .ref 90), (1, V gap), (2, V p), (3, V kind), (4, V m), (5, V r)] [] (HP ly F G_4 A_5 B_102) _
                                            refine r_iinc (l' := [(0, .ref 90), (1, V gap), (2, V p), (3, V kind), (4, V m), (5, V (r + 1))]) i_193_158 rfl (by decide +kernel) rfl ?_
                                            refine r_go (t := 131) i_193_161 (by decide) ?_
                                            exact ih131B (r + 1) B_102  (by omega) (by omega)
                                      exact lp131B _ (13 * p) B89  (by omega) (Nat.lt_succ_self _)
                                    · skip
                                      refine r_go (t := 164) i_193_122 (by decide) ?_
                                      refine r_iinc (l' := [(0, .ref 90), (1, V gap), (2, V p), (3, V kind), (4, V (m + 1)), (5, V l5)]) i_193_164 rfl (by decide +kernel) rfl ?_
                                      refine r_go (t := 89) i_193_167 (by decide) ?_
                                      exact ih89B (m + 1) l5 B89  (by omega) (by omega)
                            have lp89A4 : ∀ (nf : Nat) (m : Int) (B89 : Nat → Nat → Int64), (0 ≤ m ∧ m ≤ 169) → (200 - m).toNat < nf → Re L xs 193 89 [(0, .ref 90), (1, V gap), (2, V p), (3, V kind), (4, V m)] [] (HP ly F G_4 A_5 B89) Q := by
                              intro nf
                              induction nf with
                              | zero => intros; omega
                              | succ nf ih89A4 =>
                                intro m B89  hm2 hm89
                                refine r_iload i_193_89 rfl ?_
                                refine r_sipush i_193_91 (by decide) ?_
                                refine r_cge (t := 170) i_193_94 (by decide) (by omega) (by omega) (fun c_103 => ?_) (fun c_103 => ?_)
                                · skip
                                  refine r_iinc (l' := [(0, .ref 90), (1, V gap), (2, V p), (3, V (kind + 1)), (4, V m)]) i_193_170 rfl (by decide +kernel) rfl ?_
                                  refine r_go (t := 80) i_193_173 (by decide) ?_
                                  exact ih80A34 (kind + 1) m B89  (by omega) (by omega)
                                · skip
                                  refine r_iload i_193_97 rfl ?_
                                  refine r_aload_n i_193_99 rfl ?_
                                  refine r_getI i_193_100 rfl (hly 90 _ rfl) ?_
                                  have q_104 := g_90_56 hG_4
                                  refine r_cgt (t := 170) i_193_103 (by decide) (by omega) (by omega) (fun c_105 => ?_) (fun c_105 => ?_)
                                  · skip
                                    refine r_iinc (l' := [(0, .ref 90), (1, V gap), (2, V p), (3, V (kind + 1)), (4, V m)]) i_193_170 rfl (by decide +kernel) rfl ?_
                                    refine r_go (t := 80) i_193_173 (by decide) ?_
                                    exact ih80A34 (kind + 1) m B89  (by omega) (by omega)
                                  · skip
                                    refine r_aload_n i_193_106 rfl ?_
                                    refine r_iload_n i_193_107 rfl ?_
                                    refine r_iconst i_193_108 ?_
                                    refine r_isub i_193_109 ?_
                                    refine r_iconst i_193_110 ?_
                                    refine r_bin (z := (p - 1) % 2) i_193_111 (by show (if Int32.ofInt 2 = 0 then none else _) = _; rw [if_neg (by decide)]; rfl) (irem2 (by omega) (by omega)) ?_
                                    refine r_iload_n i_193_112 rfl ?_
                                    refine r_iload i_193_113 rfl ?_
                                    refine r_iload_n i_193_115 rfl ?_
                                    refine r_cV (as := [V gap, V m, V kind, V ((p - 1) % 2)]) i_193_116 rfl (by decide +kernel) (Nat.le_of_ble_eq_true rfl) (Nat.le_of_ble_eq_true rfl) (hly 90 _ rfl) rfl ?_
                                    refine c_198 (layer := (p - 1) % 2) (kind := kind) (m := m) (gap := gap) hly hF hG_4 hA_5 (by omega) (by omega) (by omega) (by omega) (by omega) (by omega) (by omega) (by omega) (fun r_106 p106_0 => ?_)
                                    show Re L xs 193 119 [(0, .ref 90), (1, V gap), (2, V p), (3, V kind), (4, V m)] [V r_106] (HP ly F G_4 A_5 B89) _
                                    refine r_ne0 (t := 125) i_193_119 (by decide) (by omega) (fun c_107 => ?_) (fun c_107 => ?_)
                                    · skip
                                      refine r_bipush i_193_125 (by decide) ?_
                                      refine r_iload_n i_193_127 rfl ?_
                                      refine r_imul i_193_128 ?_
                                      refine r_istore (l' := [(0, .ref 90), (1, V gap), (2, V p), (3, V kind), (4, V m), (5, V (13 * p))]) i_193_129 (by decide +kernel) rfl ?_
                                      have lp131B : ∀ (nf : Nat) (r : Int) (B131 : Nat → Nat → Int64), (13 * p ≤ r ∧ r ≤ 13 * p + 13) → (13 * p + 20 - r).toNat < nf → Re L xs 193 131 [(0, .ref 90), (1, V gap), (2, V p), (3, V kind), (4, V m), (5, V r)] [] (HP ly F G_4 A_5 B131) Q := by
                                        intro nf
                                        induction nf with
                                        | zero => intros; omega
                                        | succ nf ih131B =>
                                          intro r B131  hr hm131
                                          refine r_iload i_193_131 rfl ?_
                                          refine r_bipush i_193_133 (by decide) ?_
                                          refine r_iload_n i_193_135 rfl ?_
                                          refine r_imul i_193_136 ?_
                                          refine r_aload_n i_193_137 rfl ?_
                                          refine r_getF (v := .ref 122) i_193_138 rfl (hly 90 _ rfl) (hF.1 90 47 122 rfl) ?_
                                          refine r_iload_n i_193_141 rfl ?_
                                          refine r_iald i_193_142 (hly 122 _ rfl) (by omega) (by omega) (by omega) ?_
                                          have q_108 := a_122 hA_5 (p.toNat)
                                          refine r_iadd i_193_143 ?_
                                          refine r_cge (t := 164) i_193_144 (by decide) (by omega) (by omega) (fun c_109 => ?_) (fun c_109 => ?_)
                                          · skip
                                            refine r_iinc (l' := [(0, .ref 90), (1, V gap), (2, V p), (3, V kind), (4, V (m + 1)), (5, V r)]) i_193_164 rfl (by decide +kernel) rfl ?_
                                            refine r_go (t := 89) i_193_167 (by decide) ?_
                                            exact lp89B _ (m + 1) r B131  (by omega) (Nat.lt_succ_self _)
                                          · skip
                                            refine r_aload_n i_193_147 rfl ?_
                                            refine r_iload_n i_193_148 rfl ?_
                                            refine r_iload i_193_149 rfl ?_
                                            refine r_iload_n i_193_151 rfl ?_
                                            refine r_iload i_193_152 rfl ?_
                                            refine r_iload_n i_193_154 rfl ?_
                                            refine r_cV (as := [V gap, V m, V kind, V r, V p]) i_193_155 rfl (by decide +kernel) (Nat.le_of_ble_eq_true rfl) (Nat.le_of_ble_eq_true rfl) (hly 90 _ rfl) rfl ?_
                                            have q_110 := g_90_57 hG_4
                                            have w_111 : G_4 90 38 = G 90 38 := by rw [fg5 90 38 (by omega)]
                                            refine c_199 (p := p) (r0 := r) (kind := kind) (m := m) (gap := gap) hly hF hG_4 hA_5 (by omega) (by omega) (by omega) (by omega) (by omega) (by exact hkn) (by exact hbb) (by omega) (by omega) (by omega) (by omega) (by omega) (fun B_112 => ?_)
                                            show Re L xs 193 158 [(0, .ref 90), (1, V gap), (2, V p), (3, V kind), (4, V m), (5, V r)] [] (HP ly F G_4 A_5 B_112) _
                                            refine r_iinc (l' := [(0, .ref 90), (1, V gap), (2, V p), (3, V kind), (4, V m), (5, V (r + 1))]) i_193_158 rfl (by decide +kernel) rfl ?_
                                            refine r_go (t := 131) i_193_161 (by decide) ?_
                                            exact ih131B (r + 1) B_112  (by omega) (by omega)
                                      exact lp131B _ (13 * p) B89  (by omega) (Nat.lt_succ_self _)
                                    · skip
                                      refine r_go (t := 164) i_193_122 (by decide) ?_
                                      refine r_iinc (l' := [(0, .ref 90), (1, V gap), (2, V p), (3, V kind), (4, V (m + 1))]) i_193_164 rfl (by decide +kernel) rfl ?_
                                      refine r_go (t := 89) i_193_167 (by decide) ?_
                                      exact ih89A4 (m + 1) B89  (by omega) (by omega)
                            exact lp89A4 _ 0 B80  (by omega) (Nat.lt_succ_self _)
                      have lp80A3 : ∀ (nf : Nat) (kind : Int) (B80 : Nat → Nat → Int64), (0 ≤ kind ∧ kind ≤ 8) → (20 - kind).toNat < nf → Re L xs 193 80 [(0, .ref 90), (1, V gap), (2, V p), (3, V kind)] [] (HP ly F G_4 A_5 B80) Q := by
                        intro nf
                        induction nf with
                        | zero => intros; omega
                        | succ nf ih80A3 =>
                          intro kind B80  hk hm80
                          refine r_iload_n i_193_80 rfl ?_
                          refine r_bipush i_193_81 (by decide) ?_
                          refine r_cge (t := 176) i_193_83 (by decide) (by omega) (by omega) (fun c_113 => ?_) (fun c_113 => ?_)
                          · skip
                            refine r_iinc (l' := [(0, .ref 90), (1, V gap), (2, V (p + 1)), (3, V kind)]) i_193_176 rfl (by decide +kernel) rfl ?_
                            refine r_go (t := 63) i_193_179 (by decide) ?_
                            exact ih63A23 (p + 1) kind B80  (by omega) (by omega)
                          · skip
                            refine r_iconst i_193_86 ?_
                            refine r_istore (l' := [(0, .ref 90), (1, V gap), (2, V p), (3, V kind), (4, V 0)]) i_193_87 (by decide +kernel) rfl ?_
                            have lp89B : ∀ (nf : Nat) (m : Int) (l5 : Int) (B89 : Nat → Nat → Int64), (0 ≤ m ∧ m ≤ 169) → (200 - m).toNat < nf → Re L xs 193 89 [(0, .ref 90), (1, V gap), (2, V p), (3, V kind), (4, V m), (5, V l5)] [] (HP ly F G_4 A_5 B89) Q := by
                              intro nf
                              induction nf with
                              | zero => intros; omega
                              | succ nf ih89B =>
                                intro m l5 B89  hm2 hm89
                                refine r_iload i_193_89 rfl ?_
                                refine r_sipush i_193_91 (by decide) ?_
                                refine r_cge (t := 170) i_193_94 (by decide) (by omega) (by omega) (fun c_114 => ?_) (fun c_114 => ?_)
                                · skip
                                  refine r_iinc (l' := [(0, .ref 90), (1, V gap), (2, V p), (3, V (kind + 1)), (4, V m), (5, V l5)]) i_193_170 rfl (by decide +kernel) rfl ?_
                                  refine r_go (t := 80) i_193_173 (by decide) ?_
                                  exact lp80B _ (kind + 1) m l5 B89  (by omega) (Nat.lt_succ_self _)
                                · skip
                                  refine r_iload i_193_97 rfl ?_
                                  refine r_aload_n i_193_99 rfl ?_
                                  refine r_getI i_193_100 rfl (hly 90 _ rfl) ?_
                                  have q_115 := g_90_56 hG_4
                                  refine r_cgt (t := 170) i_193_103 (by decide) (by omega) (by omega) (fun c_116 => ?_) (fun c_116 => ?_)
                                  · skip
                                    refine r_iinc (l' := [(0, .ref 90), (1, V gap), (2, V p), (3, V (kind + 1)), (4, V m), (5, V l5)]) i_193_170 rfl (by decide +kernel) rfl ?_
                                    refine r_go (t := 80) i_193_173 (by decide) ?_
                                    exact lp80B _ (kind + 1) m l5 B89  (by omega) (Nat.lt_succ_self _)
                                  · skip
                                    refine r_aload_n i_193_106 rfl ?_
                                    refine r_iload_n i_193_107 rfl ?_
                                    refine r_iconst i_193_108 ?_
                                    refine r_isub i_193_109 ?_
                                    refine r_iconst i_193_110 ?_
                                    refine r_bin (z := (p - 1) % 2) i_193_111 (by show (if Int32.ofInt 2 = 0 then none else _) = _; rw [if_neg (by decide)]; rfl) (irem2 (by omega) (by omega)) ?_
                                    refine r_iload_n i_193_112 rfl ?_
                                    refine r_iload i_193_113 rfl ?_
                                    refine r_iload_n i_193_115 rfl ?_
                                    refine r_cV (as := [V gap, V m, V kind, V ((p - 1) % 2)]) i_193_116 rfl (by decide +kernel) (Nat.le_of_ble_eq_true rfl) (Nat.le_of_ble_eq_true rfl) (hly 90 _ rfl) rfl ?_
                                    refine c_198 (layer := (p - 1) % 2) (kind := kind) (m := m) (gap := gap) hly hF hG_4 hA_5 (by omega) (by omega) (by omega) (by omega) (by omega) (by omega) (by omega) (by omega) (fun r_117 p117_0 => ?_)
                                    show Re L xs 193 119 [(0, .ref 90), (1, V gap), (2, V p), (3, V kind), (4, V m), (5, V l5)] [V r_117] (HP ly F G_4 A_5 B89) _
                                    refine r_ne0 (t := 125) i_193_119 (by decide) (by omega) (fun c_118 => ?_) (fun c_118 => ?_)
                                    · skip
                                      refine r_bipush i_193_125 (by decide) ?_
                                      refine r_iload_n i_193_127 rfl ?_
                                      refine r_imul i_193_128 ?_
                                      refine r_istore (l' := [(0, .ref 90), (1, V gap), (2, V p), (3, V kind), (4, V m), (5, V (13 * p))]) i_193_129 (by decide +kernel) rfl ?_
                                      have lp131B : ∀ (nf : Nat) (r : Int) (B131 : Nat → Nat → Int64), (13 * p ≤ r ∧ r ≤ 13 * p + 13) → (13 * p + 20 - r).toNat < nf → Re L xs 193 131 [(0, .ref 90), (1, V gap), (2, V p), (3, V kind), (4, V m), (5, V r)] [] (HP ly F G_4 A_5 B131) Q := by
                                        intro nf
                                        induction nf with
                                        | zero => intros; omega
                                        | succ nf ih131B =>
                                          intro r B131  hr hm131
                                          refine r_iload i_193_131 rfl ?_
                                          refine r_bipush i_193_133 (by decide) ?_
                                          refine r_iload_n i_193_135 rfl ?_
                                          refine r_imul i_193_136 ?_
                                          refine r_aload_n i_193_137 rfl ?_
                                          refine r_getF (v := .ref 122) i_193_138 rfl (hly 90 _ rfl) (hF.1 90 47 122 rfl) ?_
                                          refine r_iload_n i_193_141 rfl ?_
                                          refine r_iald i_193_142 (hly 122 _ rfl) (by omega) (by omega) (by omega) ?_
                                          have q_119 := a_122 hA_5 (p.toNat)
                                          refine r_iadd i_193_143 ?_
                                          refine r_cge (t := 164) i_193_144 (by decide) (by omega) (by omega) (fun c_120 => ?_) (fun c_120 => ?_)
                                          · skip
                                            refine r_iinc (l' := [(0, .ref 90), (1, V gap), (2, V p), (3, V kind), (4, V (m + 1)), (5, V r)]) i_193_164 rfl (by decide +kernel) rfl ?_
                                            refine r_go (t := 89) i_193_167 (by decide) ?_
                                            exact ih89B (m + 1) r B131  (by omega) (by omega)
                                          · skip
                                            refine r_aload_n i_193_147 rfl ?_
                                            refine r_iload_n i_193_148 rfl ?_
                                            refine r_iload i_193_149 rfl ?_
                                            refine r_iload_n i_193_151 rfl ?_
                                            refine r_iload i_193_152 rfl ?_
                                            refine r_iload_n i_193_154 rfl ?_
                                            refine r_cV (as := [V gap, V m, V kind, V r, V p]) i_193_155 rfl (by decide +kernel) (Nat.le_of_ble_eq_true rfl) (Nat.le_of_ble_eq_true rfl) (hly 90 _ rfl) rfl ?_
                                            have q_121 := g_90_57 hG_4
                                            have w_122 : G_4 90 38 = G 90 38 := by rw [fg5 90 38 (by omega)]
                                            refine c_199 (p := p) (r0 := r) (kind := kind) (m := m) (gap := gap) hly hF hG_4 hA_5 (by omega) (by omega) (by omega) (by omega) (by omega) (by exact hkn) (by exact hbb) (by omega) (by omega) (by omega) (by omega) (by omega) (fun B_123 => ?_)
                                            show Re L xs 193 158 [(0, .ref 90), (1, V gap), (2, V p), (3, V kind), (4, V m), (5, V r)] [] (HP ly F G_4 A_5 B_123) _
                                            refine r_iinc (l' := [(0, .ref 90), (1, V gap), (2, V p), (3, V kind), (4, V m), (5, V (r + 1))]) i_193_158 rfl (by decide +kernel) rfl ?_
                                            refine r_go (t := 131) i_193_161 (by decide) ?_
                                            exact ih131B (r + 1) B_123  (by omega) (by omega)
                                      exact lp131B _ (13 * p) B89  (by omega) (Nat.lt_succ_self _)
                                    · skip
                                      refine r_go (t := 164) i_193_122 (by decide) ?_
                                      refine r_iinc (l' := [(0, .ref 90), (1, V gap), (2, V p), (3, V kind), (4, V (m + 1)), (5, V l5)]) i_193_164 rfl (by decide +kernel) rfl ?_
                                      refine r_go (t := 89) i_193_167 (by decide) ?_
                                      exact ih89B (m + 1) l5 B89  (by omega) (by omega)
                            have lp89A4 : ∀ (nf : Nat) (m : Int) (B89 : Nat → Nat → Int64), (0 ≤ m ∧ m ≤ 169) → (200 - m).toNat < nf → Re L xs 193 89 [(0, .ref 90), (1, V gap), (2, V p), (3, V kind), (4, V m)] [] (HP ly F G_4 A_5 B89) Q := by
                              intro nf
                              induction nf with
                              | zero => intros; omega
                              | succ nf ih89A4 =>
                                intro m B89  hm2 hm89
                                refine r_iload i_193_89 rfl ?_
                                refine r_sipush i_193_91 (by decide) ?_
                                refine r_cge (t := 170) i_193_94 (by decide) (by omega) (by omega) (fun c_124 => ?_) (fun c_124 => ?_)
                                · skip
                                  refine r_iinc (l' := [(0, .ref 90), (1, V gap), (2, V p), (3, V (kind + 1)), (4, V m)]) i_193_170 rfl (by decide +kernel) rfl ?_
                                  refine r_go (t := 80) i_193_173 (by decide) ?_
                                  exact lp80A34 _ (kind + 1) m B89  (by omega) (Nat.lt_succ_self _)
                                · skip
                                  refine r_iload i_193_97 rfl ?_
                                  refine r_aload_n i_193_99 rfl ?_
                                  refine r_getI i_193_100 rfl (hly 90 _ rfl) ?_
                                  have q_125 := g_90_56 hG_4
                                  refine r_cgt (t := 170) i_193_103 (by decide) (by omega) (by omega) (fun c_126 => ?_) (fun c_126 => ?_)
                                  · skip
                                    refine r_iinc (l' := [(0, .ref 90), (1, V gap), (2, V p), (3, V (kind + 1)), (4, V m)]) i_193_170 rfl (by decide +kernel) rfl ?_
                                    refine r_go (t := 80) i_193_173 (by decide) ?_
                                    exact lp80A34 _ (kind + 1) m B89  (by omega) (Nat.lt_succ_self _)
                                  · skip
                                    refine r_aload_n i_193_106 rfl ?_
                                    refine r_iload_n i_193_107 rfl ?_
                                    refine r_iconst i_193_108 ?_
                                    refine r_isub i_193_109 ?_
                                    refine r_iconst i_193_110 ?_
                                    refine r_bin (z := (p - 1) % 2) i_193_111 (by show (if Int32.ofInt 2 = 0 then none else _) = _; rw [if_neg (by decide)]; rfl) (irem2 (by omega) (by omega)) ?_
                                    refine r_iload_n i_193_112 rfl ?_
                                    refine r_iload i_193_113 rfl ?_
                                    refine r_iload_n i_193_115 rfl ?_
                                    refine r_cV (as := [V gap, V m, V kind, V ((p - 1) % 2)]) i_193_116 rfl (by decide +kernel) (Nat.le_of_ble_eq_true rfl) (Nat.le_of_ble_eq_true rfl) (hly 90 _ rfl) rfl ?_
                                    refine c_198 (layer := (p - 1) % 2) (kind := kind) (m := m) (gap := gap) hly hF hG_4 hA_5 (by omega) (by omega) (by omega) (by omega) (by omega) (by omega) (by omega) (by omega) (fun r_127 p127_0 => ?_)
                                    show Re L xs 193 119 [(0, .ref 90), (1, V gap), (2, V p), (3, V kind), (4, V m)] [V r_127] (HP ly F G_4 A_5 B89) _
                                    refine r_ne0 (t := 125) i_193_119 (by decide) (by omega) (fun c_128 => ?_) (fun c_128 => ?_)
                                    · skip
                                      refine r_bipush i_193_125 (by decide) ?_
                                      refine r_iload_n i_193_127 rfl ?_
                                      refine r_imul i_193_128 ?_
                                      refine r_istore (l' := [(0, .ref 90), (1, V gap), (2, V p), (3, V kind), (4, V m), (5, V (13 * p))]) i_193_129 (by decide +kernel) rfl ?_
                                      have lp131B : ∀ (nf : Nat) (r : Int) (B131 : Nat → Nat → Int64), (13 * p ≤ r ∧ r ≤ 13 * p + 13) → (13 * p + 20 - r).toNat < nf → Re L xs 193 131 [(0, .ref 90), (1, V gap), (2, V p), (3, V kind), (4, V m), (5, V r)] [] (HP ly F G_4 A_5 B131) Q := by
                                        intro nf
                                        induction nf with
                                        | zero => intros; omega
                                        | succ nf ih131B =>
                                          intro r B131  hr hm131
                                          refine r_iload i_193_131 rfl ?_
                                          refine r_bipush i_193_133 (by decide) ?_
                                          refine r_iload_n i_193_135 rfl ?_
                                          refine r_imul i_193_136 ?_
                                          refine r_aload_n i_193_137 rfl ?_
                                          refine r_getF (v := .ref 122) i_193_138 rfl (hly 90 _ rfl) (hF.1 90 47 122 rfl) ?_
                                          refine r_iload_n i_193_141 rfl ?_
                                          refine r_iald i_193_142 (hly 122 _ rfl) (by omega) (by omega) (by omega) ?_
                                          have q_129 := a_122 hA_5 (p.toNat)
                                          refine r_iadd i_193_143 ?_
                                          refine r_cge (t := 164) i_193_144 (by decide) (by omega) (by omega) (fun c_130 => ?_) (fun c_130 => ?_)
                                          · skip
                                            refine r_iinc (l' := [(0, .ref 90), (1, V gap), (2, V p), (3, V kind), (4, V (m + 1)), (5, V r)]) i_193_164 rfl (by decide +kernel) rfl ?_
                                            refine r_go (t := 89) i_193_167 (by decide) ?_
                                            exact lp89B _ (m + 1) r B131  (by omega) (Nat.lt_succ_self _)
                                          · skip
                                            refine r_aload_n i_193_147 rfl ?_
                                            refine r_iload_n i_193_148 rfl ?_
                                            refine r_iload i_193_149 rfl ?_
                                            refine r_iload_n i_193_151 rfl ?_
                                            refine r_iload i_193_152 rfl ?_
                                            refine r_iload_n i_193_154 rfl ?_
                                            refine r_cV (as := [V gap, V m, V kind, V r, V p]) i_193_155 rfl (by decide +kernel) (Nat.le_of_ble_eq_true rfl) (Nat.le_of_ble_eq_true rfl) (hly 90 _ rfl) rfl ?_
                                            have q_131 := g_90_57 hG_4
                                            have w_132 : G_4 90 38 = G 90 38 := by rw [fg5 90 38 (by omega)]
                                            refine c_199 (p := p) (r0 := r) (kind := kind) (m := m) (gap := gap) hly hF hG_4 hA_5 (by omega) (by omega) (by omega) (by omega) (by omega) (by exact hkn) (by exact hbb) (by omega) (by omega) (by omega) (by omega) (by omega) (fun B_133 => ?_)
                                            show Re L xs 193 158 [(0, .ref 90), (1, V gap), (2, V p), (3, V kind), (4, V m), (5, V r)] [] (HP ly F G_4 A_5 B_133) _
                                            refine r_iinc (l' := [(0, .ref 90), (1, V gap), (2, V p), (3, V kind), (4, V m), (5, V (r + 1))]) i_193_158 rfl (by decide +kernel) rfl ?_
                                            refine r_go (t := 131) i_193_161 (by decide) ?_
                                            exact ih131B (r + 1) B_133  (by omega) (by omega)
                                      exact lp131B _ (13 * p) B89  (by omega) (Nat.lt_succ_self _)
                                    · skip
                                      refine r_go (t := 164) i_193_122 (by decide) ?_
                                      refine r_iinc (l' := [(0, .ref 90), (1, V gap), (2, V p), (3, V kind), (4, V (m + 1))]) i_193_164 rfl (by decide +kernel) rfl ?_
                                      refine r_go (t := 89) i_193_167 (by decide) ?_
                                      exact ih89A4 (m + 1) B89  (by omega) (by omega)
                            exact lp89A4 _ 0 B80  (by omega) (Nat.lt_succ_self _)
                      exact lp80A3 _ 0 B_80  (by omega) (Nat.lt_succ_self _)
                have lp63A2 : ∀ (nf : Nat) (p : Int) (B63 : Nat → Nat → Int64), (1 ≤ p ∧ p ≤ 14) → (20 - p).toNat < nf → Re L xs 193 63 [(0, .ref 90), (1, V gap), (2, V p)] [] (HP ly F G_4 A_5 B63) Q := by
                  intro nf
                  induction nf with
                  | zero => intros; omega
                  | succ nf ih63A2 =>
                    intro p B63  hp hm63
                    refine r_iload_n i_193_63 rfl ?_
                    refine r_aload_n i_193_64 rfl ?_
                    refine r_getI i_193_65 rfl (hly 90 _ rfl) ?_
                    rw [show G_4 90 38 = G 90 38 from by rw [fg5 90 38 (by omega)]]
                    refine r_cge (t := 182) i_193_68 (by decide) (by omega) (by omega) (fun c_134 => ?_) (fun c_134 => ?_)
                    · skip
                      refine r_lconst i_193_182 ?_
                      show Re L xs 193 183 [(0, .ref 90), (1, V gap), (2, V p)] [.long (Int64.ofNat 0)] (HP ly F G_4 A_5 B63) _
                      refine r_lstore_n (l' := [(0, .ref 90), (1, V gap), (2, .long (Int64.ofNat 0))]) i_193_183 (by decide +kernel) rfl ?_
                      refine r_iconst i_193_184 ?_
                      refine r_istore (l' := [(0, .ref 90), (1, V gap), (2, .long (Int64.ofNat 0)), (4, V 0)]) i_193_185 (by decide +kernel) rfl ?_
                      have lp187B : ∀ (nf : Nat) (sum : Int64) (kd : Int) (l5 : Int), (0 ≤ kd ∧ kd ≤ 8) → (20 - kd).toNat < nf → Re L xs 193 187 [(0, .ref 90), (1, V gap), (2, .long sum), (4, V kd), (5, V l5)] [] (HP ly F G_4 A_5 B63) Q := by
                        intro nf
                        induction nf with
                        | zero => intros; omega
                        | succ nf ih187B =>
                          intro sum kd l5  hkd hm187
                          refine r_iload i_193_187 rfl ?_
                          refine r_bipush i_193_189 (by decide) ?_
                          refine r_cge (t := 242) i_193_191 (by decide) (by omega) (by omega) (fun c_135 => ?_) (fun c_135 => ?_)
                          · skip
                            refine r_lload_n i_193_242 rfl ?_
                            exact r_lret i_193_243 rfl (K sum G_4 A_5 B63 hG_4 hA_5 (by intro a k hh; rw [fg5 a k (by omega)]) (by intro a hh; rw [fa5 a (by omega)]) (by exact p5_0))
                          · skip
                            refine r_iconst i_193_194 ?_
                            refine r_istore (l' := [(0, .ref 90), (1, V gap), (2, .long sum), (4, V kd), (5, V 0)]) i_193_195 (by decide +kernel) rfl ?_
                            have lp197B : ∀ (nf : Nat) (sum : Int64) (o : Int), (0 ≤ o ∧ o ≤ 101) → (200 - o).toNat < nf → Re L xs 193 197 [(0, .ref 90), (1, V gap), (2, .long sum), (4, V kd), (5, V o)] [] (HP ly F G_4 A_5 B63) Q := by
                              intro nf
                              induction nf with
                              | zero => intros; omega
                              | succ nf ih197B =>
                                intro sum o  ho hm197
                                refine r_iload i_193_197 rfl ?_
                                refine r_iload_n i_193_199 rfl ?_
                                refine r_cgt (t := 236) i_193_200 (by decide) (by omega) (by omega) (fun c_136 => ?_) (fun c_136 => ?_)
                                · skip
                                  refine r_iinc (l' := [(0, .ref 90), (1, V gap), (2, .long sum), (4, V (kd + 1)), (5, V o)]) i_193_236 rfl (by decide +kernel) rfl ?_
                                  refine r_go (t := 187) i_193_239 (by decide) ?_
                                  exact ih187B sum (kd + 1) o  (by omega) (by omega)
                                · skip
                                  refine r_lload_n i_193_203 rfl ?_
                                  refine r_aload_n i_193_204 rfl ?_
                                  refine r_getF (v := .ref 131) i_193_205 rfl (hly 90 _ rfl) (hF.1 90 61 131 rfl) ?_
                                  refine r_aload_n i_193_208 rfl ?_
                                  refine r_getI i_193_209 rfl (hly 90 _ rfl) ?_
                                  rw [show G_4 90 38 = G 90 38 from by rw [fg5 90 38 (by omega)]]
                                  refine r_iconst i_193_212 ?_
                                  refine r_isub i_193_213 ?_
                                  refine r_iconst i_193_214 ?_
                                  refine r_bin (z := ((G 90 38) - 1) % 2) i_193_215 (by show (if Int32.ofInt 2 = 0 then none else _) = _; rw [if_neg (by decide)]; rfl) (irem2 (by omega) (by omega)) ?_
                                  refine r_iload i_193_216 rfl ?_
                                  refine r_aload_n i_193_218 rfl ?_
                                  refine r_getI i_193_219 rfl (hly 90 _ rfl) ?_
                                  have q_137 := g_90_56 hG_4
                                  refine r_iload i_193_222 rfl ?_
                                  refine r_cS (as := [V o, V (G_4 90 56), V kd, V (((G 90 38) - 1) % 2)]) i_193_224 rfl (by decide +kernel) (Nat.le_of_ble_eq_true rfl) (Nat.le_of_ble_eq_true rfl) ?_
                                  refine c_195 (layer := ((G 90 38) - 1) % 2) (kind := kd) (marks := G_4 90 56) (over := o) hly hF hG_4 hA_5 (by omega) (by omega) (by omega) (by omega) (fun r_138 p138_0 => ?_)
                                  show Re L xs 193 227 [(0, .ref 90), (1, V gap), (2, .long sum), (4, V kd), (5, V o)] [V r_138, .ref 131, .long sum] (HP ly F G_4 A_5 B63) _
                                  refine r_lald i_193_227 (hly 131 _ rfl) (by omega) (by omega) (by omega) ?_
                                  refine re_nx i_193_228 rfl ?_
                                  refine r_lstore_n (l' := [(0, .ref 90), (1, V gap), (2, .long (sum + (B63 131 r_138.toNat))), (4, V kd), (5, V o)]) i_193_229 (by decide +kernel) rfl ?_
                                  refine r_iinc (l' := [(0, .ref 90), (1, V gap), (2, .long (sum + (B63 131 r_138.toNat))), (4, V kd), (5, V (o + 1))]) i_193_230 rfl (by decide +kernel) rfl ?_
                                  refine r_go (t := 197) i_193_233 (by decide) ?_
                                  exact ih197B (sum + (B63 131 r_138.toNat)) (o + 1)  (by omega) (by omega)
                            exact lp197B _ sum 0  (by omega) (Nat.lt_succ_self _)
                      have lp187A24 : ∀ (nf : Nat) (sum : Int64) (kd : Int), (0 ≤ kd ∧ kd ≤ 8) → (20 - kd).toNat < nf → Re L xs 193 187 [(0, .ref 90), (1, V gap), (2, .long sum), (4, V kd)] [] (HP ly F G_4 A_5 B63) Q := by
                        intro nf
                        induction nf with
                        | zero => intros; omega
                        | succ nf ih187A24 =>
                          intro sum kd  hkd hm187
                          refine r_iload i_193_187 rfl ?_
                          refine r_bipush i_193_189 (by decide) ?_
                          refine r_cge (t := 242) i_193_191 (by decide) (by omega) (by omega) (fun c_139 => ?_) (fun c_139 => ?_)
                          · skip
                            refine r_lload_n i_193_242 rfl ?_
                            exact r_lret i_193_243 rfl (K sum G_4 A_5 B63 hG_4 hA_5 (by intro a k hh; rw [fg5 a k (by omega)]) (by intro a hh; rw [fa5 a (by omega)]) (by exact p5_0))
                          · skip
                            refine r_iconst i_193_194 ?_
                            refine r_istore (l' := [(0, .ref 90), (1, V gap), (2, .long sum), (4, V kd), (5, V 0)]) i_193_195 (by decide +kernel) rfl ?_
                            have lp197B : ∀ (nf : Nat) (sum : Int64) (o : Int), (0 ≤ o ∧ o ≤ 101) → (200 - o).toNat < nf → Re L xs 193 197 [(0, .ref 90), (1, V gap), (2, .long sum), (4, V kd), (5, V o)] [] (HP ly F G_4 A_5 B63) Q := by
                              intro nf
                              induction nf with
                              | zero => intros; omega
                              | succ nf ih197B =>
                                intro sum o  ho hm197
                                refine r_iload i_193_197 rfl ?_
                                refine r_iload_n i_193_199 rfl ?_
                                refine r_cgt (t := 236) i_193_200 (by decide) (by omega) (by omega) (fun c_140 => ?_) (fun c_140 => ?_)
                                · skip
                                  refine r_iinc (l' := [(0, .ref 90), (1, V gap), (2, .long sum), (4, V (kd + 1)), (5, V o)]) i_193_236 rfl (by decide +kernel) rfl ?_
                                  refine r_go (t := 187) i_193_239 (by decide) ?_
                                  exact lp187B _ sum (kd + 1) o  (by omega) (Nat.lt_succ_self _)
                                · skip
                                  refine r_lload_n i_193_203 rfl ?_
                                  refine r_aload_n i_193_204 rfl ?_
                                  refine r_getF (v := .ref 131) i_193_205 rfl (hly 90 _ rfl) (hF.1 90 61 131 rfl) ?_
                                  refine r_aload_n i_193_208 rfl ?_
                                  refine r_getI i_193_209 rfl (hly 90 _ rfl) ?_
                                  rw [show G_4 90 38 = G 90 38 from by rw [fg5 90 38 (by omega)]]
                                  refine r_iconst i_193_212 ?_
                                  refine r_isub i_193_213 ?_
                                  refine r_iconst i_193_214 ?_
                                  refine r_bin (z := ((G 90 38) - 1) % 2) i_193_215 (by show (if Int32.ofInt 2 = 0 then none else _) = _; rw [if_neg (by decide)]; rfl) (irem2 (by omega) (by omega)) ?_
                                  refine r_iload i_193_216 rfl ?_
                                  refine r_aload_n i_193_218 rfl ?_
                                  refine r_getI i_193_219 rfl (hly 90 _ rfl) ?_
                                  have q_141 := g_90_56 hG_4
                                  refine r_iload i_193_222 rfl ?_
                                  refine r_cS (as := [V o, V (G_4 90 56), V kd, V (((G 90 38) - 1) % 2)]) i_193_224 rfl (by decide +kernel) (Nat.le_of_ble_eq_true rfl) (Nat.le_of_ble_eq_true rfl) ?_
                                  refine c_195 (layer := ((G 90 38) - 1) % 2) (kind := kd) (marks := G_4 90 56) (over := o) hly hF hG_4 hA_5 (by omega) (by omega) (by omega) (by omega) (fun r_142 p142_0 => ?_)
                                  show Re L xs 193 227 [(0, .ref 90), (1, V gap), (2, .long sum), (4, V kd), (5, V o)] [V r_142, .ref 131, .long sum] (HP ly F G_4 A_5 B63) _
                                  refine r_lald i_193_227 (hly 131 _ rfl) (by omega) (by omega) (by omega) ?_
                                  refine re_nx i_193_228 rfl ?_
                                  refine r_lstore_n (l' := [(0, .ref 90), (1, V gap), (2, .long (sum + (B63 131 r_142.toNat))), (4, V kd), (5, V o)]) i_193_229 (by decide +kernel) rfl ?_
                                  refine r_iinc (l' := [(0, .ref 90), (1, V gap), (2, .long (sum + (B63 131 r_142.toNat))), (4, V kd), (5, V (o + 1))]) i_193_230 rfl (by decide +kernel) rfl ?_
                                  refine r_go (t := 197) i_193_233 (by decide) ?_
                                  exact ih197B (sum + (B63 131 r_142.toNat)) (o + 1)  (by omega) (by omega)
                            exact lp197B _ sum 0  (by omega) (Nat.lt_succ_self _)
                      exact lp187A24 _ (Int64.ofNat 0) 0  (by omega) (Nat.lt_succ_self _)
                    · skip
                      refine r_aload_n i_193_71 rfl ?_
                      refine r_iload_n i_193_72 rfl ?_
                      refine r_iconst i_193_73 ?_
                      refine r_bin (z := p % 2) i_193_74 (by show (if Int32.ofInt 2 = 0 then none else _) = _; rw [if_neg (by decide)]; rfl) (irem2 (by omega) (by omega)) ?_
                      refine r_cV (as := [V (p % 2)]) i_193_75 rfl (by decide +kernel) (Nat.le_of_ble_eq_true rfl) (Nat.le_of_ble_eq_true rfl) (hly 90 _ rfl) rfl ?_
                      refine c_194 (layer := p % 2) hly hF hG_4 hA_5 (by omega) (by omega) (fun B_143 => ?_)
                      show Re L xs 193 78 [(0, .ref 90), (1, V gap), (2, V p)] [] (HP ly F G_4 A_5 B_143) _
                      refine r_iconst i_193_78 ?_
                      refine r_istore_n (l' := [(0, .ref 90), (1, V gap), (2, V p), (3, V 0)]) i_193_79 (by decide +kernel) rfl ?_
                      have lp80B : ∀ (nf : Nat) (kind : Int) (l4 : Int) (l5 : Int) (B80 : Nat → Nat → Int64), (0 ≤ kind ∧ kind ≤ 8) → (20 - kind).toNat < nf → Re L xs 193 80 [(0, .ref 90), (1, V gap), (2, V p), (3, V kind), (4, V l4), (5, V l5)] [] (HP ly F G_4 A_5 B80) Q := by
                        intro nf
                        induction nf with
                        | zero => intros; omega
                        | succ nf ih80B =>
                          intro kind l4 l5 B80  hk hm80
                          refine r_iload_n i_193_80 rfl ?_
                          refine r_bipush i_193_81 (by decide) ?_
                          refine r_cge (t := 176) i_193_83 (by decide) (by omega) (by omega) (fun c_144 => ?_) (fun c_144 => ?_)
                          · skip
                            refine r_iinc (l' := [(0, .ref 90), (1, V gap), (2, V (p + 1)), (3, V kind), (4, V l4), (5, V l5)]) i_193_176 rfl (by decide +kernel) rfl ?_
                            refine r_go (t := 63) i_193_179 (by decide) ?_
                            exact lp63B _ (p + 1) kind l4 l5 B80  (by omega) (Nat.lt_succ_self _)
                          · skip
                            refine r_iconst i_193_86 ?_
                            refine r_istore (l' := [(0, .ref 90), (1, V gap), (2, V p), (3, V kind), (4, V 0), (5, V l5)]) i_193_87 (by decide +kernel) rfl ?_
                            have lp89B : ∀ (nf : Nat) (m : Int) (l5 : Int) (B89 : Nat → Nat → Int64), (0 ≤ m ∧ m ≤ 169) → (200 - m).toNat < nf → Re L xs 193 89 [(0, .ref 90), (1, V gap), (2, V p), (3, V kind), (4, V m), (5, V l5)] [] (HP ly F G_4 A_5 B89) Q := by
                              intro nf
                              induction nf with
                              | zero => intros; omega
                              | succ nf ih89B =>
                                intro m l5 B89  hm2 hm89
                                refine r_iload i_193_89 rfl ?_
                                refine r_sipush i_193_91 (by decide) ?_
                                refine r_cge (t := 170) i_193_94 (by decide) (by omega) (by omega) (fun c_145 => ?_) (fun c_145 => ?_)
                                · skip
                                  refine r_iinc (l' := [(0, .ref 90), (1, V gap), (2, V p), (3, V (kind + 1)), (4, V m), (5, V l5)]) i_193_170 rfl (by decide +kernel) rfl ?_
                                  refine r_go (t := 80) i_193_173 (by decide) ?_
                                  exact ih80B (kind + 1) m l5 B89  (by omega) (by omega)
                                · skip
                                  refine r_iload i_193_97 rfl ?_
                                  refine r_aload_n i_193_99 rfl ?_
                                  refine r_getI i_193_100 rfl (hly 90 _ rfl) ?_
                                  have q_146 := g_90_56 hG_4
                                  refine r_cgt (t := 170) i_193_103 (by decide) (by omega) (by omega) (fun c_147 => ?_) (fun c_147 => ?_)
                                  · skip
                                    refine r_iinc (l' := [(0, .ref 90), (1, V gap), (2, V p), (3, V (kind + 1)), (4, V m), (5, V l5)]) i_193_170 rfl (by decide +kernel) rfl ?_
                                    refine r_go (t := 80) i_193_173 (by decide) ?_
                                    exact ih80B (kind + 1) m l5 B89  (by omega) (by omega)
                                  · skip
                                    refine r_aload_n i_193_106 rfl ?_
                                    refine r_iload_n i_193_107 rfl ?_
                                    refine r_iconst i_193_108 ?_
                                    refine r_isub i_193_109 ?_
                                    refine r_iconst i_193_110 ?_
                                    refine r_bin (z := (p - 1) % 2) i_193_111 (by show (if Int32.ofInt 2 = 0 then none else _) = _; rw [if_neg (by decide)]; rfl) (irem2 (by omega) (by omega)) ?_
                                    refine r_iload_n i_193_112 rfl ?_
                                    refine r_iload i_193_113 rfl ?_
                                    refine r_iload_n i_193_115 rfl ?_
                                    refine r_cV (as := [V gap, V m, V kind, V ((p - 1) % 2)]) i_193_116 rfl (by decide +kernel) (Nat.le_of_ble_eq_true rfl) (Nat.le_of_ble_eq_true rfl) (hly 90 _ rfl) rfl ?_
                                    refine c_198 (layer := (p - 1) % 2) (kind := kind) (m := m) (gap := gap) hly hF hG_4 hA_5 (by omega) (by omega) (by omega) (by omega) (by omega) (by omega) (by omega) (by omega) (fun r_148 p148_0 => ?_)
                                    show Re L xs 193 119 [(0, .ref 90), (1, V gap), (2, V p), (3, V kind), (4, V m), (5, V l5)] [V r_148] (HP ly F G_4 A_5 B89) _
                                    refine r_ne0 (t := 125) i_193_119 (by decide) (by omega) (fun c_149 => ?_) (fun c_149 => ?_)
                                    · skip
                                      refine r_bipush i_193_125 (by decide) ?_
                                      refine r_iload_n i_193_127 rfl ?_
                                      refine r_imul i_193_128 ?_
                                      refine r_istore (l' := [(0, .ref 90), (1, V gap), (2, V p), (3, V kind), (4, V m), (5, V (13 * p))]) i_193_129 (by decide +kernel) rfl ?_
                                      have lp131B : ∀ (nf : Nat) (r : Int) (B131 : Nat → Nat → Int64), (13 * p ≤ r ∧ r ≤ 13 * p + 13) → (13 * p + 20 - r).toNat < nf → Re L xs 193 131 [(0, .ref 90), (1, V gap), (2, V p), (3, V kind), (4, V m), (5, V r)] [] (HP ly F G_4 A_5 B131) Q := by
                                        intro nf
                                        induction nf with
                                        | zero => intros; omega
                                        | succ nf ih131B =>
                                          intro r B131  hr hm131
                                          refine r_iload i_193_131 rfl ?_
                                          refine r_bipush i_193_133 (by decide) ?_
                                          refine r_iload_n i_193_135 rfl ?_
                                          refine r_imul i_193_136 ?_
                                          refine r_aload_n i_193_137 rfl ?_
                                          refine r_getF (v := .ref 122) i_193_138 rfl (hly 90 _ rfl) (hF.1 90 47 122 rfl) ?_
                                          refine r_iload_n i_193_141 rfl ?_
                                          refine r_iald i_193_142 (hly 122 _ rfl) (by omega) (by omega) (by omega) ?_
                                          have q_150 := a_122 hA_5 (p.toNat)
                                          refine r_iadd i_193_143 ?_
                                          refine r_cge (t := 164) i_193_144 (by decide) (by omega) (by omega) (fun c_151 => ?_) (fun c_151 => ?_)
                                          · skip
                                            refine r_iinc (l' := [(0, .ref 90), (1, V gap), (2, V p), (3, V kind), (4, V (m + 1)), (5, V r)]) i_193_164 rfl (by decide +kernel) rfl ?_
                                            refine r_go (t := 89) i_193_167 (by decide) ?_
                                            exact ih89B (m + 1) r B131  (by omega) (by omega)
                                          · skip
                                            refine r_aload_n i_193_147 rfl ?_
                                            refine r_iload_n i_193_148 rfl ?_
                                            refine r_iload i_193_149 rfl ?_
                                            refine r_iload_n i_193_151 rfl ?_
                                            refine r_iload i_193_152 rfl ?_
                                            refine r_iload_n i_193_154 rfl ?_
                                            refine r_cV (as := [V gap, V m, V kind, V r, V p]) i_193_155 rfl (by decide +kernel) (Nat.le_of_ble_eq_true rfl) (Nat.le_of_ble_eq_true rfl) (hly 90 _ rfl) rfl ?_
                                            have q_152 := g_90_57 hG_4
                                            have w_153 : G_4 90 38 = G 90 38 := by rw [fg5 90 38 (by omega)]
                                            refine c_199 (p := p) (r0 := r) (kind := kind) (m := m) (gap := gap) hly hF hG_4 hA_5 (by omega) (by omega) (by omega) (by omega) (by omega) (by exact hkn) (by exact hbb) (by omega) (by omega) (by omega) (by omega) (by omega) (fun B_154 => ?_)
                                            show Re L xs 193 158 [(0, .ref 90), (1, V gap), (2, V p), (3, V kind), (4, V m), (5, V r)] [] (HP ly F G_4 A_5 B_154) _
                                            refine r_iinc (l' := [(0, .ref 90), (1, V gap), (2, V p), (3, V kind), (4, V m), (5, V (r + 1))]) i_193_158 rfl (by decide +kernel) rfl ?_
                                            refine r_go (t := 131) i_193_161 (by decide) ?_
                                            exact ih131B (r + 1) B_154  (by omega) (by omega)
                                      exact lp131B _ (13 * p) B89  (by omega) (Nat.lt_succ_self _)
                                    · skip
                                      refine r_go (t := 164) i_193_122 (by decide) ?_
                                      refine r_iinc (l' := [(0, .ref 90), (1, V gap), (2, V p), (3, V kind), (4, V (m + 1)), (5, V l5)]) i_193_164 rfl (by decide +kernel) rfl ?_
                                      refine r_go (t := 89) i_193_167 (by decide) ?_
                                      exact ih89B (m + 1) l5 B89  (by omega) (by omega)
                            exact lp89B _ 0 l5 B80  (by omega) (Nat.lt_succ_self _)
                      have lp80A34 : ∀ (nf : Nat) (kind : Int) (l4 : Int) (B80 : Nat → Nat → Int64), (0 ≤ kind ∧ kind ≤ 8) → (20 - kind).toNat < nf → Re L xs 193 80 [(0, .ref 90), (1, V gap), (2, V p), (3, V kind), (4, V l4)] [] (HP ly F G_4 A_5 B80) Q := by
                        intro nf
                        induction nf with
                        | zero => intros; omega
                        | succ nf ih80A34 =>
                          intro kind l4 B80  hk hm80
                          refine r_iload_n i_193_80 rfl ?_
                          refine r_bipush i_193_81 (by decide) ?_
                          refine r_cge (t := 176) i_193_83 (by decide) (by omega) (by omega) (fun c_155 => ?_) (fun c_155 => ?_)
                          · skip
                            refine r_iinc (l' := [(0, .ref 90), (1, V gap), (2, V (p + 1)), (3, V kind), (4, V l4)]) i_193_176 rfl (by decide +kernel) rfl ?_
                            refine r_go (t := 63) i_193_179 (by decide) ?_
                            exact lp63A234 _ (p + 1) kind l4 B80  (by omega) (Nat.lt_succ_self _)
                          · skip
                            refine r_iconst i_193_86 ?_
                            refine r_istore (l' := [(0, .ref 90), (1, V gap), (2, V p), (3, V kind), (4, V 0)]) i_193_87 (by decide +kernel) rfl ?_
                            have lp89B : ∀ (nf : Nat) (m : Int) (l5 : Int) (B89 : Nat → Nat → Int64), (0 ≤ m ∧ m ≤ 169) → (200 - m).toNat < nf → Re L xs 193 89 [(0, .ref 90), (1, V gap), (2, V p), (3, V kind), (4, V m), (5, V l5)] [] (HP ly F G_4 A_5 B89) Q := by
                              intro nf
                              induction nf with
                              | zero => intros; omega
                              | succ nf ih89B =>
                                intro m l5 B89  hm2 hm89
                                refine r_iload i_193_89 rfl ?_
                                refine r_sipush i_193_91 (by decide) ?_
                                refine r_cge (t := 170) i_193_94 (by decide) (by omega) (by omega) (fun c_156 => ?_) (fun c_156 => ?_)
                                · skip
                                  refine r_iinc (l' := [(0, .ref 90), (1, V gap), (2, V p), (3, V (kind + 1)), (4, V m), (5, V l5)]) i_193_170 rfl (by decide +kernel) rfl ?_
                                  refine r_go (t := 80) i_193_173 (by decide) ?_
                                  exact lp80B _ (kind + 1) m l5 B89  (by omega) (Nat.lt_succ_self _)
                                · skip
                                  refine r_iload i_193_97 rfl ?_
                                  refine r_aload_n i_193_99 rfl ?_
                                  refine r_getI i_193_100 rfl (hly 90 _ rfl) ?_
                                  have q_157 := g_90_56 hG_4
                                  refine r_cgt (t := 170) i_193_103 (by decide) (by omega) (by omega) (fun c_158 => ?_) (fun c_158 => ?_)
                                  · skip
                                    refine r_iinc (l' := [(0, .ref 90), (1, V gap), (2, V p), (3, V (kind + 1)), (4, V m), (5, V l5)]) i_193_170 rfl (by decide +kernel) rfl ?_
                                    refine r_go (t := 80) i_193_173 (by decide) ?_
                                    exact lp80B _ (kind + 1) m l5 B89  (by omega) (Nat.lt_succ_self _)
                                  · skip
                                    refine r_aload_n i_193_106 rfl ?_
                                    refine r_iload_n i_193_107 rfl ?_
                                    refine r_iconst i_193_108 ?_
                                    refine r_isub i_193_109 ?_
                                    refine r_iconst i_193_110 ?_
                                    refine r_bin (z := (p - 1) % 2) i_193_111 (by show (if Int32.ofInt 2 = 0 then none else _) = _; rw [if_neg (by decide)]; rfl) (irem2 (by omega) (by omega)) ?_
                                    refine r_iload_n i_193_112 rfl ?_
                                    refine r_iload i_193_113 rfl ?_
                                    refine r_iload_n i_193_115 rfl ?_
                                    refine r_cV (as := [V gap, V m, V kind, V ((p - 1) % 2)]) i_193_116 rfl (by decide +kernel) (Nat.le_of_ble_eq_true rfl) (Nat.le_of_ble_eq_true rfl) (hly 90 _ rfl) rfl ?_
                                    refine c_198 (layer := (p - 1) % 2) (kind := kind) (m := m) (gap := gap) hly hF hG_4 hA_5 (by omega) (by omega) (by omega) (by omega) (by omega) (by omega) (by omega) (by omega) (fun r_159 p159_0 => ?_)
                                    show Re L xs 193 119 [(0, .ref 90), (1, V gap), (2, V p), (3, V kind), (4, V m), (5, V l5)] [V r_159] (HP ly F G_4 A_5 B89) _
                                    refine r_ne0 (t := 125) i_193_119 (by decide) (by omega) (fun c_160 => ?_) (fun c_160 => ?_)
                                    · skip
                                      refine r_bipush i_193_125 (by decide) ?_
                                      refine r_iload_n i_193_127 rfl ?_
                                      refine r_imul i_193_128 ?_
                                      refine r_istore (l' := [(0, .ref 90), (1, V gap), (2, V p), (3, V kind), (4, V m), (5, V (13 * p))]) i_193_129 (by decide +kernel) rfl ?_
                                      have lp131B : ∀ (nf : Nat) (r : Int) (B131 : Nat → Nat → Int64), (13 * p ≤ r ∧ r ≤ 13 * p + 13) → (13 * p + 20 - r).toNat < nf → Re L xs 193 131 [(0, .ref 90), (1, V gap), (2, V p), (3, V kind), (4, V m), (5, V r)] [] (HP ly F G_4 A_5 B131) Q := by
                                        intro nf
                                        induction nf with
                                        | zero => intros; omega
                                        | succ nf ih131B =>
                                          intro r B131  hr hm131
                                          refine r_iload i_193_131 rfl ?_
                                          refine r_bipush i_193_133 (by decide) ?_
                                          refine r_iload_n i_193_135 rfl ?_
                                          refine r_imul i_193_136 ?_
                                          refine r_aload_n i_193_137 rfl ?_
                                          refine r_getF (v := .ref 122) i_193_138 rfl (hly 90 _ rfl) (hF.1 90 47 122 rfl) ?_
                                          refine r_iload_n i_193_141 rfl ?_
                                          refine r_iald i_193_142 (hly 122 _ rfl) (by omega) (by omega) (by omega) ?_
                                          have q_161 := a_122 hA_5 (p.toNat)
                                          refine r_iadd i_193_143 ?_
                                          refine r_cge (t := 164) i_193_144 (by decide) (by omega) (by omega) (fun c_162 => ?_) (fun c_162 => ?_)
                                          · skip
                                            refine r_iinc (l' := [(0, .ref 90), (1, V gap), (2, V p), (3, V kind), (4, V (m + 1)), (5, V r)]) i_193_164 rfl (by decide +kernel) rfl ?_
                                            refine r_go (t := 89) i_193_167 (by decide) ?_
                                            exact ih89B (m + 1) r B131  (by omega) (by omega)
                                          · skip
                                            refine r_aload_n i_193_147 rfl ?_
                                            refine r_iload_n i_193_148 rfl ?_
                                            refine r_iload i_193_149 rfl ?_
                                            refine r_iload_n i_193_151 rfl ?_
                                            refine r_iload i_193_152 rfl ?_
                                            refine r_iload_n i_193_154 rfl ?_
                                            refine r_cV (as := [V gap, V m, V kind, V r, V p]) i_193_155 rfl (by decide +kernel) (Nat.le_of_ble_eq_true rfl) (Nat.le_of_ble_eq_true rfl) (hly 90 _ rfl) rfl ?_
                                            have q_163 := g_90_57 hG_4
                                            have w_164 : G_4 90 38 = G 90 38 := by rw [fg5 90 38 (by omega)]
                                            refine c_199 (p := p) (r0 := r) (kind := kind) (m := m) (gap := gap) hly hF hG_4 hA_5 (by omega) (by omega) (by omega) (by omega) (by omega) (by exact hkn) (by exact hbb) (by omega) (by omega) (by omega) (by omega) (by omega) (fun B_165 => ?_)
                                            show Re L xs 193 158 [(0, .ref 90), (1, V gap), (2, V p), (3, V kind), (4, V m), (5, V r)] [] (HP ly F G_4 A_5 B_165) _
                                            refine r_iinc (l' := [(0, .ref 90), (1, V gap), (2, V p), (3, V kind), (4, V m), (5, V (r + 1))]) i_193_158 rfl (by decide +kernel) rfl ?_
                                            refine r_go (t := 131) i_193_161 (by decide) ?_
                                            exact ih131B (r + 1) B_165  (by omega) (by omega)
                                      exact lp131B _ (13 * p) B89  (by omega) (Nat.lt_succ_self _)
                                    · skip
                                      refine r_go (t := 164) i_193_122 (by decide) ?_
                                      refine r_iinc (l' := [(0, .ref 90), (1, V gap), (2, V p), (3, V kind), (4, V (m + 1)), (5, V l5)]) i_193_164 rfl (by decide +kernel) rfl ?_
                                      refine r_go (t := 89) i_193_167 (by decide) ?_
                                      exact ih89B (m + 1) l5 B89  (by omega) (by omega)
                            have lp89A4 : ∀ (nf : Nat) (m : Int) (B89 : Nat → Nat → Int64), (0 ≤ m ∧ m ≤ 169) → (200 - m).toNat < nf → Re L xs 193 89 [(0, .ref 90), (1, V gap), (2, V p), (3, V kind), (4, V m)] [] (HP ly F G_4 A_5 B89) Q := by
                              intro nf
                              induction nf with
                              | zero => intros; omega
                              | succ nf ih89A4 =>
                                intro m B89  hm2 hm89
                                refine r_iload i_193_89 rfl ?_
                                refine r_sipush i_193_91 (by decide) ?_
                                refine r_cge (t := 170) i_193_94 (by decide) (by omega) (by omega) (fun c_166 => ?_) (fun c_166 => ?_)
                                · skip
                                  refine r_iinc (l' := [(0, .ref 90), (1, V gap), (2, V p), (3, V (kind + 1)), (4, V m)]) i_193_170 rfl (by decide +kernel) rfl ?_
                                  refine r_go (t := 80) i_193_173 (by decide) ?_
                                  exact ih80A34 (kind + 1) m B89  (by omega) (by omega)
                                · skip
                                  refine r_iload i_193_97 rfl ?_
                                  refine r_aload_n i_193_99 rfl ?_
                                  refine r_getI i_193_100 rfl (hly 90 _ rfl) ?_
                                  have q_167 := g_90_56 hG_4
                                  refine r_cgt (t := 170) i_193_103 (by decide) (by omega) (by omega) (fun c_168 => ?_) (fun c_168 => ?_)
                                  · skip
                                    refine r_iinc (l' := [(0, .ref 90), (1, V gap), (2, V p), (3, V (kind + 1)), (4, V m)]) i_193_170 rfl (by decide +kernel) rfl ?_
                                    refine r_go (t := 80) i_193_173 (by decide) ?_
                                    exact ih80A34 (kind + 1) m B89  (by omega) (by omega)
                                  · skip
                                    refine r_aload_n i_193_106 rfl ?_
                                    refine r_iload_n i_193_107 rfl ?_
                                    refine r_iconst i_193_108 ?_
                                    refine r_isub i_193_109 ?_
                                    refine r_iconst i_193_110 ?_
                                    refine r_bin (z := (p - 1) % 2) i_193_111 (by show (if Int32.ofInt 2 = 0 then none else _) = _; rw [if_neg (by decide)]; rfl) (irem2 (by omega) (by omega)) ?_
                                    refine r_iload_n i_193_112 rfl ?_
                                    refine r_iload i_193_113 rfl ?_
                                    refine r_iload_n i_193_115 rfl ?_
                                    refine r_cV (as := [V gap, V m, V kind, V ((p - 1) % 2)]) i_193_116 rfl (by decide +kernel) (Nat.le_of_ble_eq_true rfl) (Nat.le_of_ble_eq_true rfl) (hly 90 _ rfl) rfl ?_
                                    refine c_198 (layer := (p - 1) % 2) (kind := kind) (m := m) (gap := gap) hly hF hG_4 hA_5 (by omega) (by omega) (by omega) (by omega) (by omega) (by omega) (by omega) (by omega) (fun r_169 p169_0 => ?_)
                                    show Re L xs 193 119 [(0, .ref 90), (1, V gap), (2, V p), (3, V kind), (4, V m)] [V r_169] (HP ly F G_4 A_5 B89) _
                                    refine r_ne0 (t := 125) i_193_119 (by decide) (by omega) (fun c_170 => ?_) (fun c_170 => ?_)
                                    · skip
                                      refine r_bipush i_193_125 (by decide) ?_
                                      refine r_iload_n i_193_127 rfl ?_
                                      refine r_imul i_193_128 ?_
                                      refine r_istore (l' := [(0, .ref 90), (1, V gap), (2, V p), (3, V kind), (4, V m), (5, V (13 * p))]) i_193_129 (by decide +kernel) rfl ?_
                                      have lp131B : ∀ (nf : Nat) (r : Int) (B131 : Nat → Nat → Int64), (13 * p ≤ r ∧ r ≤ 13 * p + 13) → (13 * p + 20 - r).toNat < nf → Re L xs 193 131 [(0, .ref 90), (1, V gap), (2, V p), (3, V kind), (4, V m), (5, V r)] [] (HP ly F G_4 A_5 B131) Q := by
                                        intro nf
                                        induction nf with
                                        | zero => intros; omega
                                        | succ nf ih131B =>
                                          intro r B131  hr hm131
                                          refine r_iload i_193_131 rfl ?_
                                          refine r_bipush i_193_133 (by decide) ?_
                                          refine r_iload_n i_193_135 rfl ?_
                                          refine r_imul i_193_136 ?_
                                          refine r_aload_n i_193_137 rfl ?_
                                          refine r_getF (v := .ref 122) i_193_138 rfl (hly 90 _ rfl) (hF.1 90 47 122 rfl) ?_
                                          refine r_iload_n i_193_141 rfl ?_
                                          refine r_iald i_193_142 (hly 122 _ rfl) (by omega) (by omega) (by omega) ?_
                                          have q_171 := a_122 hA_5 (p.toNat)
                                          refine r_iadd i_193_143 ?_
                                          refine r_cge (t := 164) i_193_144 (by decide) (by omega) (by omega) (fun c_172 => ?_) (fun c_172 => ?_)
                                          · skip
                                            refine r_iinc (l' := [(0, .ref 90), (1, V gap), (2, V p), (3, V kind), (4, V (m + 1)), (5, V r)]) i_193_164 rfl (by decide +kernel) rfl ?_
                                            refine r_go (t := 89) i_193_167 (by decide) ?_
                                            exact lp89B _ (m + 1) r B131  (by omega) (Nat.lt_succ_self _)
                                          · skip
                                            refine r_aload_n i_193_147 rfl ?_
                                            refine r_iload_n i_193_148 rfl ?_
                                            refine r_iload i_193_149 rfl ?_
                                            refine r_iload_n i_193_151 rfl ?_
                                            refine r_iload i_193_152 rfl ?_
                                            refine r_iload_n i_193_154 rfl ?_
                                            refine r_cV (as := [V gap, V m, V kind, V r, V p]) i_193_155 rfl (by decide +kernel) (Nat.le_of_ble_eq_true rfl) (Nat.le_of_ble_eq_true rfl) (hly 90 _ rfl) rfl ?_
                                            have q_173 := g_90_57 hG_4
                                            have w_174 : G_4 90 38 = G 90 38 := by rw [fg5 90 38 (by omega)]
                                            refine c_199 (p := p) (r0 := r) (kind := kind) (m := m) (gap := gap) hly hF hG_4 hA_5 (by omega) (by omega) (by omega) (by omega) (by omega) (by exact hkn) (by exact hbb) (by omega) (by omega) (by omega) (by omega) (by omega) (fun B_175 => ?_)
                                            show Re L xs 193 158 [(0, .ref 90), (1, V gap), (2, V p), (3, V kind), (4, V m), (5, V r)] [] (HP ly F G_4 A_5 B_175) _
                                            refine r_iinc (l' := [(0, .ref 90), (1, V gap), (2, V p), (3, V kind), (4, V m), (5, V (r + 1))]) i_193_158 rfl (by decide +kernel) rfl ?_
                                            refine r_go (t := 131) i_193_161 (by decide) ?_
                                            exact ih131B (r + 1) B_175  (by omega) (by omega)
                                      exact lp131B _ (13 * p) B89  (by omega) (Nat.lt_succ_self _)
                                    · skip
                                      refine r_go (t := 164) i_193_122 (by decide) ?_
                                      refine r_iinc (l' := [(0, .ref 90), (1, V gap), (2, V p), (3, V kind), (4, V (m + 1))]) i_193_164 rfl (by decide +kernel) rfl ?_
                                      refine r_go (t := 89) i_193_167 (by decide) ?_
                                      exact ih89A4 (m + 1) B89  (by omega) (by omega)
                            exact lp89A4 _ 0 B80  (by omega) (Nat.lt_succ_self _)
                      have lp80A3 : ∀ (nf : Nat) (kind : Int) (B80 : Nat → Nat → Int64), (0 ≤ kind ∧ kind ≤ 8) → (20 - kind).toNat < nf → Re L xs 193 80 [(0, .ref 90), (1, V gap), (2, V p), (3, V kind)] [] (HP ly F G_4 A_5 B80) Q := by
                        intro nf
                        induction nf with
                        | zero => intros; omega
                        | succ nf ih80A3 =>
                          intro kind B80  hk hm80
                          refine r_iload_n i_193_80 rfl ?_
                          refine r_bipush i_193_81 (by decide) ?_
                          refine r_cge (t := 176) i_193_83 (by decide) (by omega) (by omega) (fun c_176 => ?_) (fun c_176 => ?_)
                          · skip
                            refine r_iinc (l' := [(0, .ref 90), (1, V gap), (2, V (p + 1)), (3, V kind)]) i_193_176 rfl (by decide +kernel) rfl ?_
                            refine r_go (t := 63) i_193_179 (by decide) ?_
                            exact lp63A23 _ (p + 1) kind B80  (by omega) (Nat.lt_succ_self _)
                          · skip
                            refine r_iconst i_193_86 ?_
                            refine r_istore (l' := [(0, .ref 90), (1, V gap), (2, V p), (3, V kind), (4, V 0)]) i_193_87 (by decide +kernel) rfl ?_
                            have lp89B : ∀ (nf : Nat) (m : Int) (l5 : Int) (B89 : Nat → Nat → Int64), (0 ≤ m ∧ m ≤ 169) → (200 - m).toNat < nf → Re L xs 193 89 [(0, .ref 90), (1, V gap), (2, V p), (3, V kind), (4, V m), (5, V l5)] [] (HP ly F G_4 A_5 B89) Q := by
                              intro nf
                              induction nf with
                              | zero => intros; omega
                              | succ nf ih89B =>
                                intro m l5 B89  hm2 hm89
                                refine r_iload i_193_89 rfl ?_
                                refine r_sipush i_193_91 (by decide) ?_
                                refine r_cge (t := 170) i_193_94 (by decide) (by omega) (by omega) (fun c_177 => ?_) (fun c_177 => ?_)
                                · skip
                                  refine r_iinc (l' := [(0, .ref 90), (1, V gap), (2, V p), (3, V (kind + 1)), (4, V m), (5, V l5)]) i_193_170 rfl (by decide +kernel) rfl ?_
                                  refine r_go (t := 80) i_193_173 (by decide) ?_
                                  exact lp80B _ (kind + 1) m l5 B89  (by omega) (Nat.lt_succ_self _)
                                · skip
                                  refine r_iload i_193_97 rfl ?_
                                  refine r_aload_n i_193_99 rfl ?_
                                  refine r_getI i_193_100 rfl (hly 90 _ rfl) ?_
                                  have q_178 := g_90_56 hG_4
                                  refine r_cgt (t := 170) i_193_103 (by decide) (by omega) (by omega) (fun c_179 => ?_) (fun c_179 => ?_)
                                  · skip
                                    refine r_iinc (l' := [(0, .ref 90), (1, V gap), (2, V p), (3, V (kind + 1)), (4, V m), (5, V l5)]) i_193_170 rfl (by decide +kernel) rfl ?_
                                    refine r_go (t := 80) i_193_173 (by decide) ?_
                                    exact lp80B _ (kind + 1) m l5 B89  (by omega) (Nat.lt_succ_self _)
                                  · skip
                                    refine r_aload_n i_193_106 rfl ?_
                                    refine r_iload_n i_193_107 rfl ?_
                                    refine r_iconst i_193_108 ?_
                                    refine r_isub i_193_109 ?_
                                    refine r_iconst i_193_110 ?_
                                    refine r_bin (z := (p - 1) % 2) i_193_111 (by show (if Int32.ofInt 2 = 0 then none else _) = _; rw [if_neg (by decide)]; rfl) (irem2 (by omega) (by omega)) ?_
                                    refine r_iload_n i_193_112 rfl ?_
                                    refine r_iload i_193_113 rfl ?_
                                    refine r_iload_n i_193_115 rfl ?_
                                    refine r_cV (as := [V gap, V m, V kind, V ((p - 1) % 2)]) i_193_116 rfl (by decide +kernel) (Nat.le_of_ble_eq_true rfl) (Nat.le_of_ble_eq_true rfl) (hly 90 _ rfl) rfl ?_
                                    refine c_198 (layer := (p - 1) % 2) (kind := kind) (m := m) (gap := gap) hly hF hG_4 hA_5 (by omega) (by omega) (by omega) (by omega) (by omega) (by omega) (by omega) (by omega) (fun r_180 p180_0 => ?_)
                                    show Re L xs 193 119 [(0, .ref 90), (1, V gap), (2, V p), (3, V kind), (4, V m), (5, V l5)] [V r_180] (HP ly F G_4 A_5 B89) _
                                    refine r_ne0 (t := 125) i_193_119 (by decide) (by omega) (fun c_181 => ?_) (fun c_181 => ?_)
                                    · skip
                                      refine r_bipush i_193_125 (by decide) ?_
                                      refine r_iload_n i_193_127 rfl ?_
                                      refine r_imul i_193_128 ?_
                                      refine r_istore (l' := [(0, .ref 90), (1, V gap), (2, V p), (3, V kind), (4, V m), (5, V (13 * p))]) i_193_129 (by decide +kernel) rfl ?_
                                      have lp131B : ∀ (nf : Nat) (r : Int) (B131 : Nat → Nat → Int64), (13 * p ≤ r ∧ r ≤ 13 * p + 13) → (13 * p + 20 - r).toNat < nf → Re L xs 193 131 [(0, .ref 90), (1, V gap), (2, V p), (3, V kind), (4, V m), (5, V r)] [] (HP ly F G_4 A_5 B131) Q := by
                                        intro nf
                                        induction nf with
                                        | zero => intros; omega
                                        | succ nf ih131B =>
                                          intro r B131  hr hm131
                                          refine r_iload i_193_131 rfl ?_
                                          refine r_bipush i_193_133 (by decide) ?_
                                          refine r_iload_n i_193_135 rfl ?_
                                          refine r_imul i_193_136 ?_
                                          refine r_aload_n i_193_137 rfl ?_
                                          refine r_getF (v := .ref 122) i_193_138 rfl (hly 90 _ rfl) (hF.1 90 47 122 rfl) ?_
                                          refine r_iload_n i_193_141 rfl ?_
                                          refine r_iald i_193_142 (hly 122 _ rfl) (by omega) (by omega) (by omega) ?_
                                          have q_182 := a_122 hA_5 (p.toNat)
                                          refine r_iadd i_193_143 ?_
                                          refine r_cge (t := 164) i_193_144 (by decide) (by omega) (by omega) (fun c_183 => ?_) (fun c_183 => ?_)
                                          · skip
                                            refine r_iinc (l' := [(0, .ref 90), (1, V gap), (2, V p), (3, V kind), (4, V (m + 1)), (5, V r)]) i_193_164 rfl (by decide +kernel) rfl ?_
                                            refine r_go (t := 89) i_193_167 (by decide) ?_
                                            exact ih89B (m + 1) r B131  (by omega) (by omega)
                                          · skip
                                            refine r_aload_n i_193_147 rfl ?_
                                            refine r_iload_n i_193_148 rfl ?_
                                            refine r_iload i_193_149 rfl ?_
                                            refine r_iload_n i_193_151 rfl ?_
                                            refine r_iload i_193_152 rfl ?_
                                            refine r_iload_n i_193_154 rfl ?_
                                            refine r_cV (as := [V gap, V m, V kind, V r, V p]) i_193_155 rfl (by decide +kernel) (Nat.le_of_ble_eq_true rfl) (Nat.le_of_ble_eq_true rfl) (hly 90 _ rfl) rfl ?_
                                            have q_184 := g_90_57 hG_4
                                            have w_185 : G_4 90 38 = G 90 38 := by rw [fg5 90 38 (by omega)]
                                            refine c_199 (p := p) (r0 := r) (kind := kind) (m := m) (gap := gap) hly hF hG_4 hA_5 (by omega) (by omega) (by omega) (by omega) (by omega) (by exact hkn) (by exact hbb) (by omega) (by omega) (by omega) (by omega) (by omega) (fun B_186 => ?_)
                                            show Re L xs 193 158 [(0, .ref 90), (1, V gap), (2, V p), (3, V kind), (4, V m), (5, V r)] [] (HP ly F G_4 A_5 B_186) _
                                            refine r_iinc (l' := [(0, .ref 90), (1, V gap), (2, V p), (3, V kind), (4, V m), (5, V (r + 1))]) i_193_158 rfl (by decide +kernel) rfl ?_
                                            refine r_go (t := 131) i_193_161 (by decide) ?_
                                            exact ih131B (r + 1) B_186  (by omega) (by omega)
                                      exact lp131B _ (13 * p) B89  (by omega) (Nat.lt_succ_self _)
                                    · skip
                                      refine r_go (t := 164) i_193_122 (by decide) ?_
                                      refine r_iinc (l' := [(0, .ref 90), (1, V gap), (2, V p), (3, V kind), (4, V (m + 1)), (5, V l5)]) i_193_164 rfl (by decide +kernel) rfl ?_
                                      refine r_go (t := 89) i_193_167 (by decide) ?_
                                      exact ih89B (m + 1) l5 B89  (by omega) (by omega)
                            have lp89A4 : ∀ (nf : Nat) (m : Int) (B89 : Nat → Nat → Int64), (0 ≤ m ∧ m ≤ 169) → (200 - m).toNat < nf → Re L xs 193 89 [(0, .ref 90), (1, V gap), (2, V p), (3, V kind), (4, V m)] [] (HP ly F G_4 A_5 B89) Q := by
                              intro nf
                              induction nf with
                              | zero => intros; omega
                              | succ nf ih89A4 =>
                                intro m B89  hm2 hm89
                                refine r_iload i_193_89 rfl ?_
                                refine r_sipush i_193_91 (by decide) ?_
                                refine r_cge (t := 170) i_193_94 (by decide) (by omega) (by omega) (fun c_187 => ?_) (fun c_187 => ?_)
                                · skip
                                  refine r_iinc (l' := [(0, .ref 90), (1, V gap), (2, V p), (3, V (kind + 1)), (4, V m)]) i_193_170 rfl (by decide +kernel) rfl ?_
                                  refine r_go (t := 80) i_193_173 (by decide) ?_
                                  exact lp80A34 _ (kind + 1) m B89  (by omega) (Nat.lt_succ_self _)
                                · skip
                                  refine r_iload i_193_97 rfl ?_
                                  refine r_aload_n i_193_99 rfl ?_
                                  refine r_getI i_193_100 rfl (hly 90 _ rfl) ?_
                                  have q_188 := g_90_56 hG_4
                                  refine r_cgt (t := 170) i_193_103 (by decide) (by omega) (by omega) (fun c_189 => ?_) (fun c_189 => ?_)
                                  · skip
                                    refine r_iinc (l' := [(0, .ref 90), (1, V gap), (2, V p), (3, V (kind + 1)), (4, V m)]) i_193_170 rfl (by decide +kernel) rfl ?_
                                    refine r_go (t := 80) i_193_173 (by decide) ?_
                                    exact lp80A34 _ (kind + 1) m B89  (by omega) (Nat.lt_succ_self _)
                                  · skip
                                    refine r_aload_n i_193_106 rfl ?_
                                    refine r_iload_n i_193_107 rfl ?_
                                    refine r_iconst i_193_108 ?_
                                    refine r_isub i_193_109 ?_
                                    refine r_iconst i_193_110 ?_
                                    refine r_bin (z := (p - 1) % 2) i_193_111 (by show (if Int32.ofInt 2 = 0 then none else _) = _; rw [if_neg (by decide)]; rfl) (irem2 (by omega) (by omega)) ?_
                                    refine r_iload_n i_193_112 rfl ?_
                                    refine r_iload i_193_113 rfl ?_
                                    refine r_iload_n i_193_115 rfl ?_
                                    refine r_cV (as := [V gap, V m, V kind, V ((p - 1) % 2)]) i_193_116 rfl (by decide +kernel) (Nat.le_of_ble_eq_true rfl) (Nat.le_of_ble_eq_true rfl) (hly 90 _ rfl) rfl ?_
                                    refine c_198 (layer := (p - 1) % 2) (kind := kind) (m := m) (gap := gap) hly hF hG_4 hA_5 (by omega) (by omega) (by omega) (by omega) (by omega) (by omega) (by omega) (by omega) (fun r_190 p190_0 => ?_)
                                    show Re L xs 193 119 [(0, .ref 90), (1, V gap), (2, V p), (3, V kind), (4, V m)] [V r_190] (HP ly F G_4 A_5 B89) _
                                    refine r_ne0 (t := 125) i_193_119 (by decide) (by omega) (fun c_191 => ?_) (fun c_191 => ?_)
                                    · skip
                                      refine r_bipush i_193_125 (by decide) ?_
                                      refine r_iload_n i_193_127 rfl ?_
                                      refine r_imul i_193_128 ?_
                                      refine r_istore (l' := [(0, .ref 90), (1, V gap), (2, V p), (3, V kind), (4, V m), (5, V (13 * p))]) i_193_129 (by decide +kernel) rfl ?_
                                      have lp131B : ∀ (nf : Nat) (r : Int) (B131 : Nat → Nat → Int64), (13 * p ≤ r ∧ r ≤ 13 * p + 13) → (13 * p + 20 - r).toNat < nf → Re L xs 193 131 [(0, .ref 90), (1, V gap), (2, V p), (3, V kind), (4, V m), (5, V r)] [] (HP ly F G_4 A_5 B131) Q := by
                                        intro nf
                                        induction nf with
                                        | zero => intros; omega
                                        | succ nf ih131B =>
                                          intro r B131  hr hm131
                                          refine r_iload i_193_131 rfl ?_
                                          refine r_bipush i_193_133 (by decide) ?_
                                          refine r_iload_n i_193_135 rfl ?_
                                          refine r_imul i_193_136 ?_
                                          refine r_aload_n i_193_137 rfl ?_
                                          refine r_getF (v := .ref 122) i_193_138 rfl (hly 90 _ rfl) (hF.1 90 47 122 rfl) ?_
                                          refine r_iload_n i_193_141 rfl ?_
                                          refine r_iald i_193_142 (hly 122 _ rfl) (by omega) (by omega) (by omega) ?_
                                          have q_192 := a_122 hA_5 (p.toNat)
                                          refine r_iadd i_193_143 ?_
                                          refine r_cge (t := 164) i_193_144 (by decide) (by omega) (by omega) (fun c_193 => ?_) (fun c_193 => ?_)
                                          · skip
                                            refine r_iinc (l' := [(0, .ref 90), (1, V gap), (2, V p), (3, V kind), (4, V (m + 1)), (5, V r)]) i_193_164 rfl (by decide +kernel) rfl ?_
                                            refine r_go (t := 89) i_193_167 (by decide) ?_
                                            exact lp89B _ (m + 1) r B131  (by omega) (Nat.lt_succ_self _)
                                          · skip
                                            refine r_aload_n i_193_147 rfl ?_
                                            refine r_iload_n i_193_148 rfl ?_
                                            refine r_iload i_193_149 rfl ?_
                                            refine r_iload_n i_193_151 rfl ?_
                                            refine r_iload i_193_152 rfl ?_
                                            refine r_iload_n i_193_154 rfl ?_
                                            refine r_cV (as := [V gap, V m, V kind, V r, V p]) i_193_155 rfl (by decide +kernel) (Nat.le_of_ble_eq_true rfl) (Nat.le_of_ble_eq_true rfl) (hly 90 _ rfl) rfl ?_
                                            have q_194 := g_90_57 hG_4
                                            have w_195 : G_4 90 38 = G 90 38 := by rw [fg5 90 38 (by omega)]
                                            refine c_199 (p := p) (r0 := r) (kind := kind) (m := m) (gap := gap) hly hF hG_4 hA_5 (by omega) (by omega) (by omega) (by omega) (by omega) (by exact hkn) (by exact hbb) (by omega) (by omega) (by omega) (by omega) (by omega) (fun B_196 => ?_)
                                            show Re L xs 193 158 [(0, .ref 90), (1, V gap), (2, V p), (3, V kind), (4, V m), (5, V r)] [] (HP ly F G_4 A_5 B_196) _
                                            refine r_iinc (l' := [(0, .ref 90), (1, V gap), (2, V p), (3, V kind), (4, V m), (5, V (r + 1))]) i_193_158 rfl (by decide +kernel) rfl ?_
                                            refine r_go (t := 131) i_193_161 (by decide) ?_
                                            exact ih131B (r + 1) B_196  (by omega) (by omega)
                                      exact lp131B _ (13 * p) B89  (by omega) (Nat.lt_succ_self _)
                                    · skip
                                      refine r_go (t := 164) i_193_122 (by decide) ?_
                                      refine r_iinc (l' := [(0, .ref 90), (1, V gap), (2, V p), (3, V kind), (4, V (m + 1))]) i_193_164 rfl (by decide +kernel) rfl ?_
                                      refine r_go (t := 89) i_193_167 (by decide) ?_
                                      exact ih89A4 (m + 1) B89  (by omega) (by omega)
                            exact lp89A4 _ 0 B80  (by omega) (Nat.lt_succ_self _)
                      exact lp80A3 _ 0 B_143  (by omega) (Nat.lt_succ_self _)
                exact lp63A2 _ 1 B39  (by omega) (Nat.lt_succ_self _)
              · skip
                refine r_aload_n i_193_49 rfl ?_
                refine r_iload_n i_193_50 rfl ?_
                refine r_iload_n i_193_51 rfl ?_
                refine r_cV (as := [V gap, V r]) i_193_52 rfl (by decide +kernel) (Nat.le_of_ble_eq_true rfl) (Nat.le_of_ble_eq_true rfl) (hly 90 _ rfl) rfl ?_
                have w_197 : G_4 90 38 = G 90 38 := by rw [fg5 90 38 (by omega)]
                have q_198 := g_90_57 hG_4
                refine c_196 (r0 := r) (gap := gap) hly hF hG_4 hA_5 (by omega) (by omega) (by exact hkn) (by exact hnn) (by exact hbb) (by omega) (by omega) (fun B_199 => ?_)
                show Re L xs 193 55 [(0, .ref 90), (1, V gap), (2, V r)] [] (HP ly F G_4 A_5 B_199) _
                refine r_iinc (l' := [(0, .ref 90), (1, V gap), (2, V (r + 1))]) i_193_55 rfl (by decide +kernel) rfl ?_
                refine r_go (t := 39) i_193_58 (by decide) ?_
                exact ih39B (r + 1) B_199  (by omega) (by omega)
          exact lp39B _ 0 B_9  (by omega) (Nat.lt_succ_self _)
        · skip
          refine r_lconst i_193_30 ?_
          show Re L xs 193 31 [(0, .ref 90), (1, V gap)] [.long (Int64.ofNat 1)] (HP ly F G_4 A_5 B) _
          exact r_lret i_193_31 rfl (K (Int64.ofNat 1) G_4 A_5 B hG_4 hA_5 (by intro a k hh; rw [fg5 a k (by omega)]) (by intro a hh; rw [fa5 a (by omega)]) (by exact p5_0))
      · skip
        refine r_lconst i_193_21 ?_
        show Re L xs 193 22 [(0, .ref 90), (1, V gap)] [.long (Int64.ofNat 0)] (HP ly F G_4 A_5 B) _
        exact r_lret i_193_22 rfl (K (Int64.ofNat 0) G_4 A_5 B hG_4 hA_5 (by intro a k hh; rw [fg5 a k (by omega)]) (by intro a hh; rw [fa5 a (by omega)]) (by exact p5_0))
    · skip
      refine r_ldc2 (v := -1) i_193_10 (by decide) ?_
      exact r_lret i_193_13 rfl (K ((-1)) G A B hG hA (by intro a k hh; rfl) (by intro a hh; rfl) (by exact hm))
set_option maxHeartbeats 4000000 in
theorem c_203 {L : Nat} {xs : Nat → Int32} {ly : List LK} {F : Nat → Nat → Value} {G A : Nat → Nat → Int} {B : Nat → Nat → Int64} {Q : Option Value → AH → Prop} {p : Int} {gap : Int} (hly : LyOk ly) (hF : RfOk F) (hG : GO G) (hA : AQ A) (in_p : inR p) (in_gap : inR gap) (hok : (dpo G A).Ok) (hp : 0 ≤ p ∧ p < G 90 38) (hr : 1 ≤ A 122 p.toNat ∧ A 122 p.toNat ≤ 12) (hg : 0 ≤ gap ∧ gap ≤ 100) (K : ∀ (r : Int), (0 ≤ r ∧ r < A 122 p.toNat) → Q (some (V r)) (HP ly F G A B)) : Re L xs 203 0 [(0, .ref 90), (1, V p), (2, V gap)] [] (HP ly F G A B) Q := by
  have z38 := g_90_38 hG
  have z57 := g_90_57 hG
  obtain ⟨rs, hrs0, hrs1, hrs⟩ := nr_ex hok hr.1 hp.1 hp.2 z57.2
  refine r_iconst i_203_0 ?_
  refine r_istore_n (l' := [(0, .ref 90), (1, V p), (2, V gap), (3, V 0)]) i_203_1 (by decide +kernel) rfl ?_
  have lp2B : ∀ (nf : Nat) (r : Int), (0 ≤ r ∧ r ≤ rs) → (20 - r).toNat < nf → Re L xs 203 2 [(0, .ref 90), (1, V p), (2, V gap), (3, V r)] [] (HP ly F G A B) Q := by
    intro nf
    induction nf with
    | zero => intros; omega
    | succ nf ih2B =>
      intro r  hrr hm2
      refine r_iload_n i_203_2 rfl ?_
      refine r_aload_n i_203_3 rfl ?_
      refine r_getF (v := .ref 122) i_203_4 rfl (hly 90 _ rfl) (hF.1 90 47 122 rfl) ?_
      refine r_iload_n i_203_7 rfl ?_
      refine r_iald i_203_8 (hly 122 _ rfl) (by omega) (by omega) (by omega) ?_
      have q_1 := a_122 hA (p.toNat)
      refine r_cge (t := 40) i_203_9 (by decide) (by omega) (by omega) (fun c_2 => ?_) (fun c_2 => ?_)
      · skip
        refine r_iconst i_203_40 ?_
        exact r_iret i_203_41 rfl rfl (K ((-1)) (by omega))
      · skip
        refine r_aload_n i_203_12 rfl ?_
        refine r_iload_n i_203_13 rfl ?_
        refine r_bipush i_203_14 (by decide) ?_
        refine r_iload_n i_203_16 rfl ?_
        refine r_imul i_203_17 ?_
        refine r_iload_n i_203_18 rfl ?_
        refine r_iadd i_203_19 ?_
        refine r_cV (as := [V ((13 * p) + r), V p]) i_203_20 rfl (by decide +kernel) (Nat.le_of_ble_eq_true rfl) (Nat.le_of_ble_eq_true rfl) (hly 90 _ rfl) rfl ?_
        have q_3 := g_90_38 hG
        have q_4 := g_90_58 hG
        have q_5 := g_90_59 hG
        have q_6 := g_90_56 hG
        refine c_187 (p := p) (r0 := (13 * p) + r) hly hF hG hA (by omega) (by omega) (by omega) (by omega) (fun r_7 p7_0 p7_1 => ?_)
        show Re L xs 203 23 [(0, .ref 90), (1, V p), (2, V gap), (3, V r)] [V r_7] (HP ly F G A B) _
        refine r_aload_n i_203_23 rfl ?_
        refine r_getI i_203_24 rfl (hly 90 _ rfl) ?_
        have q_8 := g_90_57 hG
        refine r_iload_n i_203_27 rfl ?_
        refine r_iadd i_203_28 ?_
        refine r_cgt (t := 34) i_203_29 (by decide) (by omega) (by omega) (fun c_9 => ?_) (fun c_9 => ?_)
        · skip
          refine r_iinc (l' := [(0, .ref 90), (1, V p), (2, V gap), (3, V (r + 1))]) i_203_34 rfl (by decide +kernel) rfl ?_
          refine r_go (t := 2) i_203_37 (by decide) ?_
          exact ih2B (r + 1)  (by first | omega | exact if e : r = rs then (by exfalso; subst e; (rcases hrs with hx | ⟨hc, m, m0, m1, m2, m3, hle⟩) <;> first | omega | (have hh := p7_1 hc m m0 m1 m2 m3; omega)) else (by omega)) (by omega)
        · skip
          refine r_iload_n i_203_32 rfl ?_
          exact r_iret i_203_33 rfl rfl (K r (by omega))
  exact lp2B _ 0  (by first | omega | exact if e : r = rs then (by exfalso; subst e; (rcases hrs with hx | ⟨hc, m, m0, m1, m2, m3, hle⟩) <;> first | omega | (have hh := zzp1 hc m m0 m1 m2 m3; omega)) else (by omega)) (Nat.lt_succ_self _)
set_option maxHeartbeats 4000000 in
theorem c_202 {L : Nat} {xs : Nat → Int32} {ly : List LK} {F : Nat → Nat → Value} {G A : Nat → Nat → Int} {B : Nat → Nat → Int64} {Q : Option Value → AH → Prop} {p : Int} {gap : Int} (hly : LyOk ly) (hF : RfOk F) (hG : GO G) (hA : AQ A) (in_p : inR p) (in_gap : inR gap) (hok : (dpo G A).Ok) (hp : 0 ≤ p ∧ p < G 90 38) (hr : 1 ≤ A 122 p.toNat ∧ A 122 p.toNat ≤ 12) (hg : 0 ≤ gap ∧ gap ≤ 100) (K : ∀ (r : Int), (0 ≤ r ∧ r ≤ 1) → Q (some (V r)) (HP ly F G A B)) : Re L xs 202 0 [(0, .ref 90), (1, V p), (2, V gap)] [] (HP ly F G A B) Q := by
  have z38 := g_90_38 hG
  have z57 := g_90_57 hG
  refine r_bipush i_202_0 (by decide) ?_
  refine r_iload_n i_202_2 rfl ?_
  refine r_imul i_202_3 ?_
  refine r_aload_n i_202_4 rfl ?_
  refine r_iload_n i_202_5 rfl ?_
  refine r_iload_n i_202_6 rfl ?_
  refine r_cV (as := [V gap, V p]) i_202_7 rfl (by decide +kernel) (Nat.le_of_ble_eq_true rfl) (Nat.le_of_ble_eq_true rfl) (hly 90 _ rfl) rfl ?_
  have q_1 := g_90_38 hG
  refine c_203 (p := p) (gap := gap) hly hF hG hA (by omega) (by omega) (by exact hok) (by omega) (by omega) (by omega) (fun r_2 p2_0 => ?_)
  show Re L xs 202 10 [(0, .ref 90), (1, V p), (2, V gap)] [V r_2, V (13 * p)] (HP ly F G A B) _
  refine r_iadd i_202_10 ?_
  refine r_istore_n (l' := [(0, .ref 90), (1, V p), (2, V gap), (3, V ((13 * p) + r_2))]) i_202_11 (by decide +kernel) rfl ?_
  refine r_iload_n i_202_12 rfl ?_
  refine r_iconst i_202_13 ?_
  refine r_iadd i_202_14 ?_
  refine r_istore (l' := [(0, .ref 90), (1, V p), (2, V gap), (3, V ((13 * p) + r_2)), (4, V (((13 * p) + r_2) + 1))]) i_202_15 (by decide +kernel) rfl ?_
  have lp17B : ∀ (nf : Nat) (r : Int), (13 * p + 1 ≤ r ∧ r ≤ 13 * p + 13) → (13 * p + 20 - r).toNat < nf → Re L xs 202 17 [(0, .ref 90), (1, V p), (2, V gap), (3, V ((13 * p) + r_2)), (4, V r)] [] (HP ly F G A B) Q := by
    intro nf
    induction nf with
    | zero => intros; omega
    | succ nf ih17B =>
      intro r  hrr hm17
      refine r_iload i_202_17 rfl ?_
      refine r_bipush i_202_19 (by decide) ?_
      refine r_iload_n i_202_21 rfl ?_
      refine r_imul i_202_22 ?_
      refine r_aload_n i_202_23 rfl ?_
      refine r_getF (v := .ref 122) i_202_24 rfl (hly 90 _ rfl) (hF.1 90 47 122 rfl) ?_
      refine r_iload_n i_202_27 rfl ?_
      refine r_iald i_202_28 (hly 122 _ rfl) (by omega) (by omega) (by omega) ?_
      have q_3 := a_122 hA (p.toNat)
      refine r_iadd i_202_29 ?_
      refine r_cge (t := 81) i_202_30 (by decide) (by omega) (by omega) (fun c_4 => ?_) (fun c_4 => ?_)
      · skip
        refine r_iconst i_202_81 ?_
        exact r_iret i_202_82 rfl (nar_Z (by omega)) (K 1 (by omega))
      · skip
        refine r_aload_n i_202_33 rfl ?_
        refine r_iload_n i_202_34 rfl ?_
        refine r_iload i_202_35 rfl ?_
        refine r_cV (as := [V r, V p]) i_202_37 rfl (by decide +kernel) (Nat.le_of_ble_eq_true rfl) (Nat.le_of_ble_eq_true rfl) (hly 90 _ rfl) rfl ?_
        have q_5 := g_90_58 hG
        have q_6 := g_90_59 hG
        have q_7 := g_90_56 hG
        refine c_187 (p := p) (r0 := r) hly hF hG hA (by omega) (by omega) (by omega) (by omega) (fun r_8 p8_0 p8_1 => ?_)
        show Re L xs 202 40 [(0, .ref 90), (1, V p), (2, V gap), (3, V ((13 * p) + r_2)), (4, V r)] [V r_8] (HP ly F G A B) _
        refine r_aload_n i_202_40 rfl ?_
        refine r_getI i_202_41 rfl (hly 90 _ rfl) ?_
        have q_9 := g_90_57 hG
        refine r_iload_n i_202_44 rfl ?_
        refine r_iadd i_202_45 ?_
        refine r_cgt (t := 75) i_202_46 (by decide) (by omega) (by omega) (fun c_10 => ?_) (fun c_10 => ?_)
        · skip
          refine r_iinc (l' := [(0, .ref 90), (1, V p), (2, V gap), (3, V ((13 * p) + r_2)), (4, V (r + 1))]) i_202_75 rfl (by decide +kernel) rfl ?_
          refine r_go (t := 17) i_202_78 (by decide) ?_
          exact ih17B (r + 1)  (by omega) (by omega)
        · skip
          refine r_aload_n i_202_49 rfl ?_
          refine r_getF (v := .ref 121) i_202_50 rfl (hly 90 _ rfl) (hF.1 90 46 121 rfl) ?_
          refine r_iload_n i_202_53 rfl ?_
          refine r_aload_n i_202_54 rfl ?_
          refine r_getF (v := .ref 121) i_202_55 rfl (hly 90 _ rfl) (hF.1 90 46 121 rfl) ?_
          refine r_iload i_202_58 rfl ?_
          refine r_aload_n i_202_60 rfl ?_
          refine r_getF (v := .ref 116) i_202_61 rfl (hly 90 _ rfl) (hF.1 90 36 116 rfl) ?_
          refine r_iload_n i_202_64 rfl ?_
          refine r_iald i_202_65 (hly 116 _ rfl) (by omega) (by omega) (by omega) ?_
          have q_11 := a_116 hA (p.toNat)
          refine r_iconst i_202_66 ?_
          refine r_cS (as := [V 0, V (A 116 (p.toNat)), V r, .ref 121, V ((13 * p) + r_2), .ref 121]) i_202_67 rfl (by decide +kernel) (Nat.le_of_ble_eq_true rfl) (Nat.le_of_ble_eq_true rfl) ?_
          refine c_149 (ra := 121) (p := (13 * p) + r_2) (rc := 121) (q := r) (n := A 116 (p.toNat)) (bare := 0) (capa := 2184) (capc := 2184) hly hF hG hA (by omega) (by omega) (by omega) (by omega) (by exact hly 121 _ rfl) (by exact hly 121 _ rfl) (by exact fun i => a_121 hA i) (by exact fun i => a_121 hA i) (by omega) (by omega) (by omega) (by omega) (fun r_12 p12_0 => ?_)
          show Re L xs 202 70 [(0, .ref 90), (1, V p), (2, V gap), (3, V ((13 * p) + r_2)), (4, V r)] [V r_12] (HP ly F G A B) _
          refine r_ne0 (t := 75) i_202_70 (by decide) (by omega) (fun c_13 => ?_) (fun c_13 => ?_)
          · skip
            refine r_iinc (l' := [(0, .ref 90), (1, V p), (2, V gap), (3, V ((13 * p) + r_2)), (4, V (r + 1))]) i_202_75 rfl (by decide +kernel) rfl ?_
            refine r_go (t := 17) i_202_78 (by decide) ?_
            exact ih17B (r + 1)  (by omega) (by omega)
          · skip
            refine r_iconst i_202_73 ?_
            exact r_iret i_202_74 rfl (nar_Z (by omega)) (K 0 (by omega))
  exact lp17B _ (((13 * p) + r_2) + 1)  (by omega) (Nat.lt_succ_self _)
set_option maxHeartbeats 4000000 in
theorem c_200 {L : Nat} {xs : Nat → Int32} {ly : List LK} {F : Nat → Nat → Value} {G A : Nat → Nat → Int} {B : Nat → Nat → Int64} {Q : Option Value → AH → Prop} {p : Int} {gap : Int} (hly : LyOk ly) (hF : RfOk F) (hG : GO G) (hA : AQ A) (in_p : inR p) (in_gap : inR gap) (hm : MI G A) (K : ∀ (r : Int) (G' : Nat → Nat → Int) (A' : Nat → Nat → Int), (GO G') → (AQ A') → (∀ a k, ¬ ((a = 90 ∧ k = 53) ∨ (a = 90 ∧ k = 56) ∨ (a = 90 ∧ k = 57) ∨ (a = 90 ∧ k = 58)) → G' a k = G a k) → (∀ a, ¬ (a = 121 ∨ a = 122 ∨ a = 123 ∨ a = 124 ∨ a = 125 ∨ a = 126 ∨ a = 128 ∨ a = 129) → A' a = A a) → (MI G' A') → Q (some (V r)) (HP ly F G' A' B)) : Re L xs 200 0 [(0, .ref 90), (1, V p), (2, V gap)] [] (HP ly F G A B) Q := by
  have z38 := g_90_38 hG
  refine r_aload_n i_200_0 rfl ?_
  refine r_iload_n i_200_1 rfl ?_
  refine r_cV (as := [V p]) i_200_2 rfl (by decide +kernel) (Nat.le_of_ble_eq_true rfl) (Nat.le_of_ble_eq_true rfl) (hly 90 _ rfl) rfl ?_
  have q_1 := g_90_38 hG
  refine c_160 (p := p) hly hF hG hA (by omega) (fun r_2 p2_0 p2_1 => ?_)
  show Re L xs 200 5 [(0, .ref 90), (1, V p), (2, V gap)] [V r_2] (HP ly F G A B) _
  refine r_eq0 (t := 22) i_200_5 (by decide) (by omega) (fun c_3 => ?_) (fun c_3 => ?_)
  · skip
    refine r_iconst i_200_22 ?_
    refine r_go (t := 40) i_200_23 (by decide) ?_
    exact r_iret i_200_40 rfl rfl (K ((-1)) G A hG hA (by intro a k hh; rfl) (by intro a hh; rfl) (by first | exact zzp0 | exact hm))
  · skip
    refine r_iload_n i_200_8 rfl ?_
    refine r_cS (as := [V gap]) i_200_9 rfl (by decide +kernel) (Nat.le_of_ble_eq_true rfl) (Nat.le_of_ble_eq_true rfl) ?_
    refine c_201 (g := gap) hly hF hG hA (by omega) (fun r_4 p4_0 p4_1 => ?_)
    show Re L xs 200 12 [(0, .ref 90), (1, V p), (2, V gap)] [V r_4] (HP ly F G A B) _
    refine r_eq0 (t := 22) i_200_12 (by decide) (by omega) (fun c_5 => ?_) (fun c_5 => ?_)
    · skip
      refine r_iconst i_200_22 ?_
      refine r_go (t := 40) i_200_23 (by decide) ?_
      exact r_iret i_200_40 rfl rfl (K ((-1)) G A hG hA (by intro a k hh; rfl) (by intro a hh; rfl) (by first | exact zzp0 | exact hm))
    · skip
      refine r_aload_n i_200_15 rfl ?_
      refine r_cV (as := []) i_200_16 rfl (by decide +kernel) (Nat.le_of_ble_eq_true rfl) (Nat.le_of_ble_eq_true rfl) (hly 90 _ rfl) rfl ?_
      refine c_189  hly hF hG hA (by omega) (fun r_6 G_7 A_8 hG_7 hA_8 fg8 fa8 p8_0 p8_1 p8_2 => ?_)
      show Re L xs 200 19 [(0, .ref 90), (1, V p), (2, V gap)] [V r_6] (HP ly F G_7 A_8 B) _
      refine r_ge0 (t := 26) i_200_19 (by decide) (by omega) (fun c_9 => ?_) (fun c_9 => ?_)
      · skip
        have hkn := p8_1
        have hrv := hkn.2.1 p.toNat (by rw [show G_7 90 38 = G 90 38 from by rw [fg8 90 38 (by omega)]]; omega)
        have hrv1 := hrv.1
        have hrv2 := hrv.2.1
        refine r_aload_n i_200_26 rfl ?_
        refine r_iload_n i_200_27 rfl ?_
        refine r_iload_n i_200_28 rfl ?_
        refine r_cV (as := [V gap, V p]) i_200_29 rfl (by decide +kernel) (Nat.le_of_ble_eq_true rfl) (Nat.le_of_ble_eq_true rfl) (hly 90 _ rfl) rfl ?_
        have w_10 : G_7 90 38 = G 90 38 := by rw [fg8 90 38 (by omega)]
        refine c_202 (p := p) (gap := gap) hly hF hG_7 hA_8 (by omega) (by omega) (by exact hkn.2.2) (by omega) (by omega) (by omega) (fun r_11 p11_0 => ?_)
        show Re L xs 200 32 [(0, .ref 90), (1, V p), (2, V gap)] [V r_11] (HP ly F G_7 A_8 B) _
        refine r_eq0 (t := 39) i_200_32 (by decide) (by omega) (fun c_12 => ?_) (fun c_12 => ?_)
        · skip
          refine r_iconst i_200_39 ?_
          exact r_iret i_200_40 rfl rfl (K 0 G_7 A_8 hG_7 hA_8 (by intro a k hh; rw [fg8 a k (by omega)]) (by intro a hh; rw [fa8 a (by omega)]) (by first | exact p8_0 | exact hm))
        · skip
          refine r_iconst i_200_35 ?_
          refine r_go (t := 40) i_200_36 (by decide) ?_
          exact r_iret i_200_40 rfl rfl (K 1 G_7 A_8 hG_7 hA_8 (by intro a k hh; rw [fg8 a k (by omega)]) (by intro a hh; rw [fa8 a (by omega)]) (by first | exact p8_0 | exact hm))
      · skip
        refine r_iconst i_200_22 ?_
        refine r_go (t := 40) i_200_23 (by decide) ?_
        exact r_iret i_200_40 rfl rfl (K ((-1)) G_7 A_8 hG_7 hA_8 (by intro a k hh; rw [fg8 a k (by omega)]) (by intro a hh; rw [fa8 a (by omega)]) (by first | exact p8_0 | exact hm))
set_option maxHeartbeats 4000000 in
theorem c_204 {L : Nat} {xs : Nat → Int32} {ly : List LK} {F : Nat → Nat → Value} {G A : Nat → Nat → Int} {B : Nat → Nat → Int64} {Q : Option Value → AH → Prop} {gap : Int} {k : Int} (hly : LyOk ly) (hF : RfOk F) (hG : GO G) (hA : AQ A) (in_gap : inR gap) (in_k : inR k) (hm : MI G A) (K : ∀ (r : Int) (G' : Nat → Nat → Int) (A' : Nat → Nat → Int), (GO G') → (AQ A') → (∀ a k, ¬ ((a = 90 ∧ k = 53) ∨ (a = 90 ∧ k = 56) ∨ (a = 90 ∧ k = 57) ∨ (a = 90 ∧ k = 58)) → G' a k = G a k) → (∀ a, ¬ (a = 121 ∨ a = 122 ∨ a = 123 ∨ a = 124 ∨ a = 125 ∨ a = 126 ∨ a = 128 ∨ a = 129) → A' a = A a) → (MI G' A') → Q (some (V r)) (HP ly F G' A' B)) : Re L xs 204 0 [(0, .ref 90), (1, V gap), (2, V k)] [] (HP ly F G A B) Q := by
  have z38 := g_90_38 hG
  refine r_iload_n i_204_0 rfl ?_
  refine r_cS (as := [V gap]) i_204_1 rfl (by decide +kernel) (Nat.le_of_ble_eq_true rfl) (Nat.le_of_ble_eq_true rfl) ?_
  refine c_201 (g := gap) hly hF hG hA (by omega) (fun r_1 p1_0 p1_1 => ?_)
  show Re L xs 204 4 [(0, .ref 90), (1, V gap), (2, V k)] [V r_1] (HP ly F G A B) _
  refine r_eq0 (t := 19) i_204_4 (by decide) (by omega) (fun c_2 => ?_) (fun c_2 => ?_)
  · skip
    refine r_iconst i_204_19 ?_
    exact r_iret i_204_20 rfl rfl (K ((-1)) G A hG hA (by intro a k hh; rfl) (by intro a hh; rfl) (by first | exact zzp0 | exact hm))
  · skip
    refine r_iload_n i_204_7 rfl ?_
    refine r_lt0 (t := 19) i_204_8 (by decide) (by omega) (fun c_3 => ?_) (fun c_3 => ?_)
    · skip
      refine r_iconst i_204_19 ?_
      exact r_iret i_204_20 rfl rfl (K ((-1)) G A hG hA (by intro a k hh; rfl) (by intro a hh; rfl) (by first | exact zzp0 | exact hm))
    · skip
      refine r_iload_n i_204_11 rfl ?_
      refine r_aload_n i_204_12 rfl ?_
      refine r_getI i_204_13 rfl (hly 90 _ rfl) ?_
      have q_4 := g_90_39 hG
      refine r_clt (t := 21) i_204_16 (by decide) (by omega) (by omega) (fun c_5 => ?_) (fun c_5 => ?_)
      · skip
        refine r_aload_n i_204_21 rfl ?_
        refine r_cV (as := []) i_204_22 rfl (by decide +kernel) (Nat.le_of_ble_eq_true rfl) (Nat.le_of_ble_eq_true rfl) (hly 90 _ rfl) rfl ?_
        refine c_189  hly hF hG hA (by omega) (fun r_6 G_7 A_8 hG_7 hA_8 fg8 fa8 p8_0 p8_1 p8_2 => ?_)
        show Re L xs 204 25 [(0, .ref 90), (1, V gap), (2, V k)] [V r_6] (HP ly F G_7 A_8 B) _
        refine r_ge0 (t := 35) i_204_25 (by decide) (by omega) (fun c_9 => ?_) (fun c_9 => ?_)
        · skip
          have hkn := p8_1
          have e38 : G_7 90 38 = G 90 38 := by rw [fg8 90 38 (by omega)]
          refine r_iconst i_204_35 ?_
          refine r_istore_n (l' := [(0, .ref 90), (1, V gap), (2, V k), (3, V 0)]) i_204_36 (by decide +kernel) rfl ?_
          have lp37B : ∀ (nf : Nat) (p : Int), (0 ≤ p ∧ p ≤ 14) → (20 - p).toNat < nf → Re L xs 204 37 [(0, .ref 90), (1, V gap), (2, V k), (3, V p)] [] (HP ly F G_7 A_8 B) Q := by
            intro nf
            induction nf with
            | zero => intros; omega
            | succ nf ih37B =>
              intro p  hp hm37
              refine r_iload_n i_204_37 rfl ?_
              refine r_aload_n i_204_38 rfl ?_
              refine r_getI i_204_39 rfl (hly 90 _ rfl) ?_
              rw [show G_7 90 38 = G 90 38 from by rw [fg8 90 38 (by omega)]]
              have q_10 := g_90_38 hG
              refine r_cge (t := 119) i_204_42 (by decide) (by omega) (by omega) (fun c_11 => ?_) (fun c_11 => ?_)
              · skip
                refine r_aload_n i_204_119 rfl ?_
                refine r_getF (v := .ref 114) i_204_120 rfl (hly 90 _ rfl) (hF.1 90 34 114 rfl) ?_
                refine r_iload_n i_204_123 rfl ?_
                refine r_bald i_204_124 (hly 114 _ rfl) (by omega) (by omega) (by omega) ?_
                rw [show A_8 114 = A 114 from by rw [fa8 114 (by omega)]]
                have q_12 := a_114 hA (k.toNat)
                exact r_iret i_204_125 rfl rfl (K (A 114 (k.toNat)) G_7 A_8 hG_7 hA_8 (by intro a k hh; rw [fg8 a k (by omega)]) (by intro a hh; rw [fa8 a (by omega)]) (by first | exact p8_0 | exact hm))
              · skip
                refine r_iload_n i_204_45 rfl ?_
                refine r_aload_n i_204_46 rfl ?_
                refine r_getF (v := .ref 115) i_204_47 rfl (hly 90 _ rfl) (hF.1 90 35 115 rfl) ?_
                refine r_iload_n i_204_50 rfl ?_
                refine r_iald i_204_51 (hly 115 _ rfl) (by omega) (by omega) (by omega) ?_
                rw [show A_8 115 = A 115 from by rw [fa8 115 (by omega)]]
                have q_13 := a_115 hA (p.toNat)
                refine r_clt (t := 113) i_204_52 (by decide) (by omega) (by omega) (fun c_14 => ?_) (fun c_14 => ?_)
                · skip
                  refine r_iinc (l' := [(0, .ref 90), (1, V gap), (2, V k), (3, V (p + 1))]) i_204_113 rfl (by decide +kernel) rfl ?_
                  refine r_go (t := 37) i_204_116 (by decide) ?_
                  exact ih37B (p + 1)  (by omega) (by omega)
                · skip
                  refine r_iload_n i_204_55 rfl ?_
                  refine r_aload_n i_204_56 rfl ?_
                  refine r_getF (v := .ref 115) i_204_57 rfl (hly 90 _ rfl) (hF.1 90 35 115 rfl) ?_
                  refine r_iload_n i_204_60 rfl ?_
                  refine r_iald i_204_61 (hly 115 _ rfl) (by omega) (by omega) (by omega) ?_
                  rw [show A_8 115 = A 115 from by rw [fa8 115 (by omega)]]
                  refine r_aload_n i_204_62 rfl ?_
                  refine r_getF (v := .ref 116) i_204_63 rfl (hly 90 _ rfl) (hF.1 90 36 116 rfl) ?_
                  refine r_iload_n i_204_66 rfl ?_
                  refine r_iald i_204_67 (hly 116 _ rfl) (by omega) (by omega) (by omega) ?_
                  rw [show A_8 116 = A 116 from by rw [fa8 116 (by omega)]]
                  have q_15 := a_116 hA (p.toNat)
                  refine r_iadd i_204_68 ?_
                  refine r_cge (t := 113) i_204_69 (by decide) (by omega) (by omega) (fun c_16 => ?_) (fun c_16 => ?_)
                  · skip
                    refine r_iinc (l' := [(0, .ref 90), (1, V gap), (2, V k), (3, V (p + 1))]) i_204_113 rfl (by decide +kernel) rfl ?_
                    refine r_go (t := 37) i_204_116 (by decide) ?_
                    exact ih37B (p + 1)  (by omega) (by omega)
                  · skip
                    have hrv := hkn.2.1 p.toNat (by omega)
                    have hrv1 := hrv.1
                    have hrv2 := hrv.2.1
                    refine r_aload_n i_204_72 rfl ?_
                    refine r_iload_n i_204_73 rfl ?_
                    refine r_iload_n i_204_74 rfl ?_
                    refine r_cV (as := [V gap, V p]) i_204_75 rfl (by decide +kernel) (Nat.le_of_ble_eq_true rfl) (Nat.le_of_ble_eq_true rfl) (hly 90 _ rfl) rfl ?_
                    have w_17 : G_7 90 38 = G 90 38 := by rw [fg8 90 38 (by omega)]
                    refine c_202 (p := p) (gap := gap) hly hF hG_7 hA_8 (by omega) (by omega) (by exact hkn.2.2) (by omega) (by omega) (by omega) (fun r_18 p18_0 => ?_)
                    show Re L xs 204 78 [(0, .ref 90), (1, V gap), (2, V k), (3, V p)] [V r_18] (HP ly F G_7 A_8 B) _
                    refine r_ne0 (t := 84) i_204_78 (by decide) (by omega) (fun c_19 => ?_) (fun c_19 => ?_)
                    · skip
                      refine r_aload_n i_204_84 rfl ?_
                      refine r_getF (v := .ref 121) i_204_85 rfl (hly 90 _ rfl) (hF.1 90 46 121 rfl) ?_
                      refine r_bipush i_204_88 (by decide) ?_
                      refine r_bipush i_204_90 (by decide) ?_
                      refine r_iload_n i_204_92 rfl ?_
                      refine r_imul i_204_93 ?_
                      refine r_aload_n i_204_94 rfl ?_
                      refine r_iload_n i_204_95 rfl ?_
                      refine r_iload_n i_204_96 rfl ?_
                      refine r_cV (as := [V gap, V p]) i_204_97 rfl (by decide +kernel) (Nat.le_of_ble_eq_true rfl) (Nat.le_of_ble_eq_true rfl) (hly 90 _ rfl) rfl ?_
                      refine c_203 (p := p) (gap := gap) hly hF hG_7 hA_8 (by omega) (by omega) (by exact hkn.2.2) (by omega) (by omega) (by omega) (fun r_20 p20_0 => ?_)
                      show Re L xs 204 100 [(0, .ref 90), (1, V gap), (2, V k), (3, V p)] [V r_20, V (13 * p), V 12, .ref 121] (HP ly F G_7 A_8 B) _
                      refine r_iadd i_204_100 ?_
                      refine r_imul i_204_101 ?_
                      refine r_iload_n i_204_102 rfl ?_
                      refine r_iadd i_204_103 ?_
                      refine r_aload_n i_204_104 rfl ?_
                      refine r_getF (v := .ref 115) i_204_105 rfl (hly 90 _ rfl) (hF.1 90 35 115 rfl) ?_
                      refine r_iload_n i_204_108 rfl ?_
                      refine r_iald i_204_109 (hly 115 _ rfl) (by omega) (by omega) (by omega) ?_
                      rw [show A_8 115 = A 115 from by rw [fa8 115 (by omega)]]
                      refine r_isub i_204_110 ?_
                      refine r_bald i_204_111 (hly 121 _ rfl) (by omega) (by omega) (by omega) ?_
                      have q_21 := a_121 hA_8 ((((12 * ((13 * p) + r_20)) + k) - (A 115 (p.toNat))).toNat)
                      exact r_iret i_204_112 rfl rfl (K (A_8 121 ((((12 * ((13 * p) + r_20)) + k) - (A 115 (p.toNat))).toNat)) G_7 A_8 hG_7 hA_8 (by intro a k hh; rw [fg8 a k (by omega)]) (by intro a hh; rw [fa8 a (by omega)]) (by first | exact p8_0 | exact hm))
                    · skip
                      refine r_go (t := 113) i_204_81 (by decide) ?_
                      refine r_iinc (l' := [(0, .ref 90), (1, V gap), (2, V k), (3, V (p + 1))]) i_204_113 rfl (by decide +kernel) rfl ?_
                      refine r_go (t := 37) i_204_116 (by decide) ?_
                      exact ih37B (p + 1)  (by omega) (by omega)
          exact lp37B _ 0  (by omega) (Nat.lt_succ_self _)
        · skip
          refine r_aload_n i_204_28 rfl ?_
          refine r_getF (v := .ref 114) i_204_29 rfl (hly 90 _ rfl) (hF.1 90 34 114 rfl) ?_
          refine r_iload_n i_204_32 rfl ?_
          refine r_bald i_204_33 (hly 114 _ rfl) (by omega) (by omega) (by omega) ?_
          rw [show A_8 114 = A 114 from by rw [fa8 114 (by omega)]]
          have q_22 := a_114 hA (k.toNat)
          exact r_iret i_204_34 rfl rfl (K (A 114 (k.toNat)) G_7 A_8 hG_7 hA_8 (by intro a k hh; rw [fg8 a k (by omega)]) (by intro a hh; rw [fa8 a (by omega)]) (by first | exact p8_0 | exact hm))
      · skip
        refine r_iconst i_204_19 ?_
        exact r_iret i_204_20 rfl rfl (K ((-1)) G A hG hA (by intro a k hh; rfl) (by intro a hh; rfl) (by first | exact zzp0 | exact hm))
