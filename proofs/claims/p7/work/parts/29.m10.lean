set_option maxHeartbeats 4000000 in
theorem c_162 {L : Nat} {xs : Nat → Int32} {ly : List LK} {F : Nat → Nat → Value} {G A : Nat → Nat → Int} {B : Nat → Nat → Int64} {Q : Option Value → AH → Prop} {p : Int} (hly : LyOk ly) (hF : RfOk F) (hG : GO G) (hA : AQ A) (in_p : inR p) (hp : 0 ≤ p ∧ p < G 90 38) (hm : bkV A (G 90 32).toNat ∧ lnV G A ∧ hdV G A) (K : ∀ (A' : Nat → Nat → Int), (AQ A') → (∀ a, ¬ (a = 121 ∨ a = 122 ∨ a = 123 ∨ a = 124 ∨ a = 125 ∨ a = 126) → A' a = A a) → (rdV G A' p.toNat) → (rdQ G A A' p.toNat) → Q none (HP ly F G A' B)) : Re L xs 162 0 [(0, .ref 90), (1, V p)] [] (HP ly F G A B) Q := by
  have z38 := g_90_38 hG
  have z32 := g_90_32 hG
  have hl := hm.2.1 p.toNat (by omega)
  have z116 := a_116 hA p.toNat
  have z107 := a_107 hA (G 90 32).toNat
  have z108 := a_108 hA (G 90 32).toNat
  have z66 := g_90_66 hG
  have hpp : ((p.toNat : Nat) : Int) = p := by omega
  have hb0 := hm.1.2.2.2
  refine r_aload_n i_162_0 rfl ?_
  refine r_getF (v := .ref 122) i_162_1 rfl (hly 90 _ rfl) (hF.1 90 47 122 rfl) ?_
  refine r_iload_n i_162_4 rfl ?_
  refine r_iconst i_162_5 ?_
  refine r_iastQ i_162_6 (hly 122 _ rfl) (by omega) (by omega) (by omega) (fun A_1 eA_1 => ?_)
  have hA_1 : AQ A_1 := by rw [eA_1]; exact au_122 hA (by omega) (by omega)
  have h0 : rdQ G A A_1 p.toNat := rdQ_0 (by rw [eA_1, up2_f]) (by rw [eA_1]; exact up2_a (by decide)) (by rw [eA_1]; exact up2_a (by decide))
  have hz0 : A_1 122 p.toNat = 0 := by rw [eA_1, up2_s]
  refine r_aload_n i_162_7 rfl ?_
  refine r_iload_n i_162_8 rfl ?_
  refine r_cV (as := [V p]) i_162_9 rfl (by decide +kernel) (Nat.le_of_ble_eq_true rfl) (Nat.le_of_ble_eq_true rfl) (hly 90 _ rfl) rfl ?_
  have q_2 := g_90_66 hG
  refine c_163 (p := p) hly hF hG hA_1 (by omega) (fun r_3 p3_0 => ?_)
  show Re L xs 162 12 [(0, .ref 90), (1, V p)] [V r_3] (HP ly F G A_1 B) _
  refine r_istore_n (l' := [(0, .ref 90), (1, V p), (2, V r_3)]) i_162_12 (by decide +kernel) rfl ?_
  refine r_iload_n i_162_13 rfl ?_
  refine r_lt0 (t := 29) i_162_14 (by decide) (by omega) (fun c_4 => ?_) (fun c_4 => ?_)
  · skip
    have jn46 : ∀ (_ : Unit), Re L xs 162 46 [(0, .ref 90), (1, V p), (2, V r_3)] [] (HP ly F G A_1 B) Q := by
      intro _  
      refine r_aload_n i_162_46 rfl ?_
      refine r_aload_n i_162_47 rfl ?_
      refine r_iload_n i_162_48 rfl ?_
      refine r_bipush i_162_49 (by decide) ?_
      refine r_iconst i_162_51 ?_
      refine r_iconst i_162_52 ?_
      refine r_cV (as := [V ((-1)), V 0, V 7, V p]) i_162_53 rfl (by decide +kernel) (Nat.le_of_ble_eq_true rfl) (Nat.le_of_ble_eq_true rfl) (hly 90 _ rfl) rfl ?_
      refine c_166 (p := p) (kind := 7) (cost := 0) (word := (-1)) hly hF hG hA_1 (by omega) (by omega) (by omega) (by omega) (by omega) (by rw [show A_1 115 = A 115 from by rw [eA_1, up2_a (by omega)], show A_1 116 = A 116 from by rw [eA_1, up2_a (by omega)]]; omega) (by omega) (by omega) (by omega) (by omega) (fun r_5 A_6 hA_6 fa6 p6_0 p6_1 p6_2 => ?_)
      show Re L xs 162 56 [(0, .ref 90), (1, V p), (2, V r_3)] [V r_5, .ref 90] (HP ly F G A_6 B) _
      refine r_aload_n i_162_56 rfl ?_
      refine r_getF (v := .ref 116) i_162_57 rfl (hly 90 _ rfl) (hF.1 90 36 116 rfl) ?_
      refine r_iload_n i_162_60 rfl ?_
      refine r_iald i_162_61 (hly 116 _ rfl) (by omega) (by omega) (by omega) ?_
      rw [show A_6 116 = A 116 from by rw [fa6 116 (by omega), eA_1, up2_a (by omega)]]
      have q_7 := a_116 hA (p.toNat)
      refine r_cV (as := [V (A 116 (p.toNat)), V r_5]) i_162_62 rfl (by decide +kernel) (Nat.le_of_ble_eq_true rfl) (Nat.le_of_ble_eq_true rfl) (hly 90 _ rfl) rfl ?_
      refine c_167 (r0 := r_5) (n := A 116 (p.toNat)) hly hF hG hA_6 (by omega) (by omega) (by omega) (by omega) (fun A_8 hA_8 fa8 => ?_)
      show Re L xs 162 65 [(0, .ref 90), (1, V p), (2, V r_3)] [] (HP ly F G A_8 B) _
      have y122 : A_8 122 = fun i => if i = p.toNat then A_1 122 p.toNat + 1 else A_1 122 i := by rw [show A_8 122 = A_6 122 from by rw [fa8 122 (by omega)]]; exact p6_1
      have yq : rdQ G A A_8 p.toNat := rdQ_a (w := -1) (r := 13 * p + A_1 122 p.toNat) hA_1 h0 (by omega) (by omega) (by omega) y122 (by rw [show A_8 125 = A_6 125 from by rw [fa8 125 (by omega)]]; exact p6_2) (by rw [fa8 107 (by omega), fa6 107 (by omega)])
      exact r_vret i_162_65 rfl (K A_8 hA_8 (by intro a hh; rw [fa8 a (by omega), fa6 a (by omega), eA_1, up2_a (by omega)]) (by exact rdV_q yq (by rw [y122]; dsimp only; rw [if_pos rfl]; omega)) (by exact yq))
    refine r_aload_n i_162_29 rfl ?_
    refine r_getF (v := .ref 117) i_162_30 rfl (hly 90 _ rfl) (hF.1 90 37 117 rfl) ?_
    refine r_iload_n i_162_33 rfl ?_
    refine r_zald i_162_34 (hly 117 _ rfl) (by omega) (by omega) (by omega) ?_
    rw [show A_1 117 = A 117 from by rw [eA_1, up2_a (by omega)]]
    have q_9 := a_117 hA (p.toNat)
    refine r_ne0 (t := 46) i_162_35 (by decide) (by omega) (fun c_10 => ?_) (fun c_10 => ?_)
    · skip
      exact jn46 ()  
    · skip
      refine r_aload_n i_162_38 rfl ?_
      refine r_iload_n i_162_39 rfl ?_
      refine r_cV (as := [V p]) i_162_40 rfl (by decide +kernel) (Nat.le_of_ble_eq_true rfl) (Nat.le_of_ble_eq_true rfl) (hly 90 _ rfl) rfl ?_
      refine c_169 (p := p) hly hF hG hA_1 (by omega) (by omega) (by rw [show A_1 115 = A 115 from by rw [eA_1, up2_a (by omega)], show A_1 116 = A 116 from by rw [eA_1, up2_a (by omega)]]; omega) (fun r_11 p11_0 => ?_)
      show Re L xs 162 43 [(0, .ref 90), (1, V p), (2, V r_3)] [V r_11] (HP ly F G A_1 B) _
      refine r_eq0 (t := 66) i_162_43 (by decide) (by omega) (fun c_12 => ?_) (fun c_12 => ?_)
      · skip
        refine r_iconst i_162_66 ?_
        refine r_istore_n (l' := [(0, .ref 90), (1, V p), (2, V r_3), (3, V 0)]) i_162_67 (by decide +kernel) rfl ?_
        have lp68B : ∀ (nf : Nat) (w : Int) (l4 : Int) (A68 : Nat → Nat → Int), (AQ A68) → (∀ a, ¬ (a = 121 ∨ a = 122 ∨ a = 123 ∨ a = 124 ∨ a = 125 ∨ a = 126) → A68 a = A_1 a) → (0 ≤ w ∧ w ≤ 80) → (rdQ G A A68 p.toNat) → (100 - w).toNat < nf → Re L xs 162 68 [(0, .ref 90), (1, V p), (2, V r_3), (3, V w), (4, V l4)] [] (HP ly F G A68 B) Q := by
          intro nf
          induction nf with
          | zero => intros; omega
          | succ nf ih68B =>
            intro w l4 A68 hA68 fa68 hw hq hm68
            refine r_iload_n i_162_68 rfl ?_
            refine r_aload_n i_162_69 rfl ?_
            refine r_getF (v := .ref 107) i_162_70 rfl (hly 90 _ rfl) (hF.1 90 25 107 rfl) ?_
            refine r_aload_n i_162_73 rfl ?_
            refine r_getI i_162_74 rfl (hly 90 _ rfl) ?_
            have q_13 := g_90_32 hG
            refine r_iald i_162_77 (hly 107 _ rfl) (by omega) (by omega) (by omega) ?_
            rw [show A68 107 = A 107 from by rw [fa68 107 (by omega), eA_1, up2_a (by omega)]]
            have q_14 := a_107 hA ((G 90 32).toNat)
            refine r_cge (t := 180) i_162_78 (by decide) (by omega) (by omega) (fun c_15 => ?_) (fun c_15 => ?_)
            · skip
              refine r_aload_n i_162_180 rfl ?_
              refine r_getF (v := .ref 122) i_162_181 rfl (hly 90 _ rfl) (hF.1 90 47 122 rfl) ?_
              refine r_iload_n i_162_184 rfl ?_
              refine r_iald i_162_185 (hly 122 _ rfl) (by omega) (by omega) (by omega) ?_
              have q_16 := a_122 hA68 (p.toNat)
              refine r_le0 (t := 190) i_162_186 (by decide) (by omega) (fun c_17 => ?_) (fun c_17 => ?_)
              · skip
                refine r_bipush i_162_190 (by decide) ?_
                refine r_aload_n i_162_192 rfl ?_
                refine r_getI i_162_193 rfl (hly 90 _ rfl) ?_
                refine r_imul i_162_196 ?_
                refine r_istore_n (l' := [(0, .ref 90), (1, V p), (2, V r_3), (3, V (20 * (G 90 32))), (4, V l4)]) i_162_197 (by decide +kernel) rfl ?_
                have lp198B : ∀ (nf : Nat) (e : Int) (A198 : Nat → Nat → Int), (AQ A198) → (∀ a, ¬ (a = 121 ∨ a = 122 ∨ a = 123 ∨ a = 124 ∨ a = 125 ∨ a = 126) → A198 a = A68 a) → (20 * G 90 32 ≤ e ∧ e ≤ 20 * G 90 32 + 20) → (rdQ G A A198 p.toNat) → (100 - e).toNat < nf → Re L xs 162 198 [(0, .ref 90), (1, V p), (2, V r_3), (3, V e), (4, V l4)] [] (HP ly F G A198 B) Q := by
                  intro nf
                  induction nf with
                  | zero => intros; omega
                  | succ nf ih198B =>
                    intro e A198 hA198 fa198 he hq2 hm198
                    refine r_iload_n i_162_198 rfl ?_
                    refine r_bipush i_162_199 (by decide) ?_
                    refine r_aload_n i_162_201 rfl ?_
                    refine r_getI i_162_202 rfl (hly 90 _ rfl) ?_
                    refine r_imul i_162_205 ?_
                    refine r_aload_n i_162_206 rfl ?_
                    refine r_getF (v := .ref 108) i_162_207 rfl (hly 90 _ rfl) (hF.1 90 26 108 rfl) ?_
                    refine r_aload_n i_162_210 rfl ?_
                    refine r_getI i_162_211 rfl (hly 90 _ rfl) ?_
                    refine r_iald i_162_214 (hly 108 _ rfl) (by omega) (by omega) (by omega) ?_
                    rw [show A198 108 = A 108 from by rw [fa198 108 (by omega), fa68 108 (by omega), eA_1, up2_a (by omega)]]
                    have q_18 := a_108 hA ((G 90 32).toNat)
                    refine r_iadd i_162_215 ?_
                    refine r_cge (t := 231) i_162_216 (by decide) (by omega) (by omega) (fun c_19 => ?_) (fun c_19 => ?_)
                    · skip
                      refine r_aload_n i_162_231 rfl ?_
                      refine r_getF (v := .ref 122) i_162_232 rfl (hly 90 _ rfl) (hF.1 90 47 122 rfl) ?_
                      refine r_iload_n i_162_235 rfl ?_
                      refine r_iald i_162_236 (hly 122 _ rfl) (by omega) (by omega) (by omega) ?_
                      have q_20 := a_122 hA198 (p.toNat)
                      refine r_bipush i_162_237 (by decide) ?_
                      refine r_cge (t := 271) i_162_239 (by decide) (by omega) (by omega) (fun c_21 => ?_) (fun c_21 => ?_)
                      · skip
                        exact r_vret i_162_271 rfl (K A198 hA198 (by intro a hh; rw [fa198 a (by omega), fa68 a (by omega), eA_1, up2_a (by omega)]) (by first | exact rdV_q hq2 (by omega) | exact rdV_q yq (by omega)) (by first | exact yq | exact hq2))
                      · skip
                        have z122 := a_122 hA198 p.toNat
                        refine r_aload_n i_162_242 rfl ?_
                        refine r_iload_n i_162_243 rfl ?_
                        refine r_aload_n i_162_244 rfl ?_
                        refine r_iload_n i_162_245 rfl ?_
                        refine r_aload_n i_162_246 rfl ?_
                        refine r_getF (v := .ref 111) i_162_247 rfl (hly 90 _ rfl) (hF.1 90 29 111 rfl) ?_
                        refine r_aload_n i_162_250 rfl ?_
                        refine r_getI i_162_251 rfl (hly 90 _ rfl) ?_
                        refine r_iald i_162_254 (hly 111 _ rfl) (by omega) (by omega) (by omega) ?_
                        rw [show A198 111 = A 111 from by rw [fa198 111 (by omega), fa68 111 (by omega), eA_1, up2_a (by omega)]]
                        have q_22 := a_111 hA ((G 90 32).toNat)
                        refine r_aload_n i_162_255 rfl ?_
                        refine r_getF (v := .ref 112) i_162_256 rfl (hly 90 _ rfl) (hF.1 90 30 112 rfl) ?_
                        refine r_aload_n i_162_259 rfl ?_
                        refine r_getI i_162_260 rfl (hly 90 _ rfl) ?_
                        refine r_iald i_162_263 (hly 112 _ rfl) (by omega) (by omega) (by omega) ?_
                        rw [show A198 112 = A 112 from by rw [fa198 112 (by omega), fa68 112 (by omega), eA_1, up2_a (by omega)]]
                        have q_23 := a_112 hA ((G 90 32).toNat)
                        refine r_iconst i_162_264 ?_
                        refine r_cV (as := [V ((-1)), V (A 112 ((G 90 32).toNat)), V (A 111 ((G 90 32).toNat)), V p]) i_162_265 rfl (by decide +kernel) (Nat.le_of_ble_eq_true rfl) (Nat.le_of_ble_eq_true rfl) (hly 90 _ rfl) rfl ?_
                        refine c_166 (p := p) (kind := A 111 ((G 90 32).toNat)) (cost := A 112 ((G 90 32).toNat)) (word := (-1)) hly hF hG hA198 (by omega) (by omega) (by omega) (by omega) (by omega) (by rw [show A198 115 = A 115 from by rw [fa198 115 (by omega), fa68 115 (by omega), eA_1, up2_a (by omega)], show A198 116 = A 116 from by rw [fa198 116 (by omega), fa68 116 (by omega), eA_1, up2_a (by omega)]]; omega) (by omega) (by omega) (by omega) (by omega) (fun r_24 A_25 hA_25 fa25 p25_0 p25_1 p25_2 => ?_)
                        show Re L xs 162 268 [(0, .ref 90), (1, V p), (2, V r_3), (3, V e), (4, V l4)] [V r_24, V p, .ref 90] (HP ly F G A_25 B) _
                        have y122 : A_25 122 = fun i => if i = p.toNat then A198 122 p.toNat + 1 else A198 122 i := p25_1
                        refine r_cV (as := [V r_24, V p]) i_162_268 rfl (by decide +kernel) (Nat.le_of_ble_eq_true rfl) (Nat.le_of_ble_eq_true rfl) (hly 90 _ rfl) rfl ?_
                        refine c_173 (p := p) (r0 := r_24) hly hF hG hA_25 (by omega) (by omega) (by omega) (by rw [y122]; dsimp only; rw [if_pos rfl]; omega) (by rw [y122]; dsimp only; rw [if_pos rfl]; omega) (fun A_26 hA_26 fa26 p26_0 p26_1 => ?_)
                        show Re L xs 162 271 [(0, .ref 90), (1, V p), (2, V r_3), (3, V e), (4, V l4)] [] (HP ly F G A_26 B) _
                        have yq : rdQ G A A_26 p.toNat := rdQ_n (rdQ_a (w := -1) hA198 hq2 (by omega) (by omega) (by omega) y122 p25_2 (by rw [fa25 107 (by omega)])) (by omega) p26_1 (by rw [fa26 125 (by omega)]) (by rw [fa26 107 (by omega)])
                        exact r_vret i_162_271 rfl (K A_26 hA_26 (by intro a hh; rw [fa26 a (by omega), fa25 a (by omega), fa198 a (by omega), fa68 a (by omega), eA_1, up2_a (by omega)]) (by first | exact rdV_q hq2 (by omega) | exact rdV_q yq (by omega)) (by first | exact yq | exact hq2))
                    · skip
                      have hq3 := hq2.1
                      have hbe := bk_e (e := e) hm.1 (by omega) (by omega) (by omega)
                      refine r_aload_n i_162_219 rfl ?_
                      refine r_iload_n i_162_220 rfl ?_
                      refine r_iload_n i_162_221 rfl ?_
                      refine r_cV (as := [V e, V p]) i_162_222 rfl (by decide +kernel) (Nat.le_of_ble_eq_true rfl) (Nat.le_of_ble_eq_true rfl) (hly 90 _ rfl) rfl ?_
                      refine c_172 (p := p) (e := e) hly hF hG hA198 (by omega) (by omega) (by omega) (by rw [show A198 115 = A 115 from by rw [fa198 115 (by omega), fa68 115 (by omega), eA_1, up2_a (by omega)], show A198 116 = A 116 from by rw [fa198 116 (by omega), fa68 116 (by omega), eA_1, up2_a (by omega)]]; omega) (by omega) (by omega) (by rw [show A198 103 = A 103 from by rw [fa198 103 (by omega), fa68 103 (by omega), eA_1, up2_a (by omega)]]; omega) (by rw [show A198 104 = A 104 from by rw [fa198 104 (by omega), fa68 104 (by omega), eA_1, up2_a (by omega)]]; omega) (fun A_27 hA_27 fa27 p27_0 p27_1 p27_2 p27_3 => ?_)
                      show Re L xs 162 225 [(0, .ref 90), (1, V p), (2, V r_3), (3, V e), (4, V l4)] [] (HP ly F G A_27 B) _
                      have hq4 : rdQ G A A_27 p.toNat := rdQ_e hA198 hq2 (by omega) (by omega) (by omega) p27_1 (by rw [hpp]; exact p27_2) (by rw [hpp]; exact p27_3) (by rw [fa27 107 (by omega)]) (by rw [show A198 107 = A 107 from by rw [fa198 107 (by omega), fa68 107 (by omega), eA_1, up2_a (by omega)]]; omega)
                      refine r_iinc (l' := [(0, .ref 90), (1, V p), (2, V r_3), (3, V (e + 1)), (4, V l4)]) i_162_225 rfl (by decide +kernel) rfl ?_
                      refine r_go (t := 198) i_162_228 (by decide) ?_
                      exact ih198B (e + 1) A_27 hA_27 (by intro a hh; rw [fa27 a (by omega), fa198 a (by omega)]) (by omega) (by first | exact hq4 | exact hq) (by omega)
                exact lp198B _ (20 * (G 90 32)) A68 hA68 (by intro a hh; rfl) (by omega) (by first | exact hq4 | exact hq) (Nat.lt_succ_self _)
              · skip
                exact r_vret i_162_189 rfl (K A68 hA68 (by intro a hh; rw [fa68 a (by omega), eA_1, up2_a (by omega)]) (by exact rdV_q hq (by omega)) (by exact hq))
            · skip
              refine r_bipush i_162_81 (by decide) ?_
              refine r_aload_n i_162_83 rfl ?_
              refine r_getI i_162_84 rfl (hly 90 _ rfl) ?_
              refine r_imul i_162_87 ?_
              refine r_iload_n i_162_88 rfl ?_
              refine r_iadd i_162_89 ?_
              refine r_istore (l' := [(0, .ref 90), (1, V p), (2, V r_3), (3, V w), (4, V ((80 * (G 90 32)) + w))]) i_162_90 (by decide +kernel) rfl ?_
              have jn174 : ∀ (A174 : Nat → Nat → Int), (AQ A174) → (∀ a, ¬ (a = 121 ∨ a = 122 ∨ a = 123 ∨ a = 124 ∨ a = 125 ∨ a = 126) → A174 a = A68 a) → (rdQ G A A174 p.toNat) → Re L xs 162 174 [(0, .ref 90), (1, V p), (2, V r_3), (3, V w), (4, V ((80 * (G 90 32)) + w))] [] (HP ly F G A174 B) Q := by
                intro A174 hA174 fa174 hq7
                refine r_iinc (l' := [(0, .ref 90), (1, V p), (2, V r_3), (3, V (w + 1)), (4, V ((80 * (G 90 32)) + w))]) i_162_174 rfl (by decide +kernel) rfl ?_
                refine r_go (t := 68) i_162_177 (by decide) ?_
                exact ih68B (w + 1) ((80 * (G 90 32)) + w) A174 hA174 (by intro a hh; rw [fa174 a (by omega), fa68 a (by omega)]) (by omega) (by first | exact h0 | exact hq7) (by omega)
              refine r_aload_n i_162_92 rfl ?_
              refine r_getF (v := .ref 122) i_162_93 rfl (hly 90 _ rfl) (hF.1 90 47 122 rfl) ?_
              refine r_iload_n i_162_96 rfl ?_
              refine r_iald i_162_97 (hly 122 _ rfl) (by omega) (by omega) (by omega) ?_
              have q_28 := a_122 hA68 (p.toNat)
              refine r_bipush i_162_98 (by decide) ?_
              refine r_cge (t := 174) i_162_100 (by decide) (by omega) (by omega) (fun c_29 => ?_) (fun c_29 => ?_)
              · skip
                exact jn174 A68 hA68 (by intro a hh; rfl) (by first | exact hq | exact rdQ_a hzzA hq (by omega) (by omega) (by omega) zzp0 zzp1 (by fail))
              · skip
                refine r_aload_n i_162_103 rfl ?_
                refine r_getF (v := .ref 97) i_162_104 rfl (hly 90 _ rfl) (hF.1 90 15 97 rfl) ?_
                refine r_iload i_162_107 rfl ?_
                refine r_iald i_162_109 (hly 97 _ rfl) (by omega) (by omega) (by omega) ?_
                rw [show A68 97 = A 97 from by rw [fa68 97 (by omega), eA_1, up2_a (by omega)]]
                have q_30 := a_97 hA (((80 * (G 90 32)) + w).toNat)
                refine r_aload_n i_162_110 rfl ?_
                refine r_getF (v := .ref 116) i_162_111 rfl (hly 90 _ rfl) (hF.1 90 36 116 rfl) ?_
                refine r_iload_n i_162_114 rfl ?_
                refine r_iald i_162_115 (hly 116 _ rfl) (by omega) (by omega) (by omega) ?_
                rw [show A68 116 = A 116 from by rw [fa68 116 (by omega), eA_1, up2_a (by omega)]]
                have q_31 := a_116 hA (p.toNat)
                refine r_cne (t := 174) i_162_116 (by decide) (by omega) (by omega) (fun c_32 => ?_) (fun c_32 => ?_)
                · skip
                  exact jn174 A68 hA68 (by intro a hh; rfl) (by first | exact hq | exact rdQ_a hzzA hq (by omega) (by omega) (by omega) zzp0 zzp1 (by fail))
                · skip
                  refine r_aload_n i_162_119 rfl ?_
                  refine r_getF (v := .ref 100) i_162_120 rfl (hly 90 _ rfl) (hF.1 90 18 100 rfl) ?_
                  refine r_iload i_162_123 rfl ?_
                  refine r_iald i_162_125 (hly 100 _ rfl) (by omega) (by omega) (by omega) ?_
                  rw [show A68 100 = A 100 from by rw [fa68 100 (by omega), eA_1, up2_a (by omega)]]
                  have q_33 := a_100 hA (((80 * (G 90 32)) + w).toNat)
                  refine r_aload_n i_162_126 rfl ?_
                  refine r_getI i_162_127 rfl (hly 90 _ rfl) ?_
                  have q_34 := g_90_40 hG
                  refine r_cgt (t := 174) i_162_130 (by decide) (by omega) (by omega) (fun c_35 => ?_) (fun c_35 => ?_)
                  · skip
                    exact jn174 A68 hA68 (by intro a hh; rfl) (by first | exact hq | exact rdQ_a hzzA hq (by omega) (by omega) (by omega) zzp0 zzp1 (by fail))
                  · skip
                    refine r_aload_n i_162_133 rfl ?_
                    refine r_getF (v := .ref 101) i_162_134 rfl (hly 90 _ rfl) (hF.1 90 19 101 rfl) ?_
                    refine r_iload i_162_137 rfl ?_
                    refine r_iald i_162_139 (hly 101 _ rfl) (by omega) (by omega) (by omega) ?_
                    rw [show A68 101 = A 101 from by rw [fa68 101 (by omega), eA_1, up2_a (by omega)]]
                    have q_36 := a_101 hA (((80 * (G 90 32)) + w).toNat)
                    refine r_aload_n i_162_140 rfl ?_
                    refine r_getI i_162_141 rfl (hly 90 _ rfl) ?_
                    refine r_clt (t := 174) i_162_144 (by decide) (by omega) (by omega) (fun c_37 => ?_) (fun c_37 => ?_)
                    · skip
                      exact jn174 A68 hA68 (by intro a hh; rfl) (by first | exact hq | exact rdQ_a hzzA hq (by omega) (by omega) (by omega) zzp0 zzp1 (by fail))
                    · skip
                      refine r_aload_n i_162_147 rfl ?_
                      refine r_aload_n i_162_148 rfl ?_
                      refine r_getF (v := .ref 93) i_162_149 rfl (hly 90 _ rfl) (hF.1 90 11 93 rfl) ?_
                      refine r_iload i_162_152 rfl ?_
                      refine r_iload_n i_162_154 rfl ?_
                      refine r_iconst i_162_155 ?_
                      refine r_aload_n i_162_156 rfl ?_
                      refine r_getF (v := .ref 116) i_162_157 rfl (hly 90 _ rfl) (hF.1 90 36 116 rfl) ?_
                      refine r_iload_n i_162_160 rfl ?_
                      refine r_iald i_162_161 (hly 116 _ rfl) (by omega) (by omega) (by omega) ?_
                      rw [show A68 116 = A 116 from by rw [fa68 116 (by omega), eA_1, up2_a (by omega)]]
                      refine r_cV (as := [V (A 116 (p.toNat)), V 0, V p, V ((80 * (G 90 32)) + w), .ref 93]) i_162_162 rfl (by decide +kernel) (Nat.le_of_ble_eq_true rfl) (Nat.le_of_ble_eq_true rfl) (hly 90 _ rfl) rfl ?_
                      refine c_171 (row := 93) (spot := (80 * (G 90 32)) + w) (p := p) (fr := 0) (n := A 116 (p.toNat)) (cap := 1920) hly hF hG hA68 (by omega) (by omega) (by omega) (by omega) (by exact hly 93 _ rfl) (by exact fun i => a_93 hA68 i) (by omega) (by omega) (by omega) (by rw [show A68 115 = A 115 from by rw [fa68 115 (by omega), eA_1, up2_a (by omega)]]; omega) (fun r_38 p38_0 => ?_)
                      show Re L xs 162 165 [(0, .ref 90), (1, V p), (2, V r_3), (3, V w), (4, V ((80 * (G 90 32)) + w))] [V r_38] (HP ly F G A68 B) _
                      refine r_eq0 (t := 174) i_162_165 (by decide) (by omega) (fun c_39 => ?_) (fun c_39 => ?_)
                      · skip
                        exact jn174 A68 hA68 (by intro a hh; rfl) (by first | exact hq | exact rdQ_a hzzA hq (by omega) (by omega) (by omega) zzp0 zzp1 (by fail))
                      · skip
                        have hbw := bk_w (w := w) hm.1 (by omega) (by omega) (by omega)
                        refine r_aload_n i_162_168 rfl ?_
                        refine r_iload_n i_162_169 rfl ?_
                        refine r_iload_n i_162_170 rfl ?_
                        refine r_cV (as := [V w, V p]) i_162_171 rfl (by decide +kernel) (Nat.le_of_ble_eq_true rfl) (Nat.le_of_ble_eq_true rfl) (hly 90 _ rfl) rfl ?_
                        refine c_164 (p := p) (w := w) hly hF hG hA68 (by omega) (by omega) (by omega) (by rw [show A68 115 = A 115 from by rw [fa68 115 (by omega), eA_1, up2_a (by omega)], show A68 116 = A 116 from by rw [fa68 116 (by omega), eA_1, up2_a (by omega)]]; omega) (by omega) (by omega) (by rw [show A68 98 = A 98 from by rw [fa68 98 (by omega), eA_1, up2_a (by omega)]]; omega) (by rw [show A68 99 = A 99 from by rw [fa68 99 (by omega), eA_1, up2_a (by omega)]]; omega) (fun A_40 hA_40 fa40 p40_0 p40_1 => ?_)
                        show Re L xs 162 174 [(0, .ref 90), (1, V p), (2, V r_3), (3, V w), (4, V ((80 * (G 90 32)) + w))] [] (HP ly F G A_40 B) _
                        exact jn174 A_40 hA_40 (by intro a hh; rw [fa40 a (by omega)]) (by first | exact hq | exact rdQ_a hA68 hq (by omega) (by omega) (by omega) p40_0 p40_1 (by rw [fa40 107 (by omega)]))
        have lp68A3 : ∀ (nf : Nat) (w : Int) (A68 : Nat → Nat → Int), (AQ A68) → (∀ a, ¬ (a = 121 ∨ a = 122 ∨ a = 123 ∨ a = 124 ∨ a = 125 ∨ a = 126) → A68 a = A_1 a) → (0 ≤ w ∧ w ≤ 80) → (rdQ G A A68 p.toNat) → (100 - w).toNat < nf → Re L xs 162 68 [(0, .ref 90), (1, V p), (2, V r_3), (3, V w)] [] (HP ly F G A68 B) Q := by
          intro nf
          induction nf with
          | zero => intros; omega
          | succ nf ih68A3 =>
            intro w A68 hA68 fa68 hw hq hm68
            refine r_iload_n i_162_68 rfl ?_
            refine r_aload_n i_162_69 rfl ?_
            refine r_getF (v := .ref 107) i_162_70 rfl (hly 90 _ rfl) (hF.1 90 25 107 rfl) ?_
            refine r_aload_n i_162_73 rfl ?_
            refine r_getI i_162_74 rfl (hly 90 _ rfl) ?_
            have q_41 := g_90_32 hG
            refine r_iald i_162_77 (hly 107 _ rfl) (by omega) (by omega) (by omega) ?_
            rw [show A68 107 = A 107 from by rw [fa68 107 (by omega), eA_1, up2_a (by omega)]]
            have q_42 := a_107 hA ((G 90 32).toNat)
            refine r_cge (t := 180) i_162_78 (by decide) (by omega) (by omega) (fun c_43 => ?_) (fun c_43 => ?_)
            · skip
              refine r_aload_n i_162_180 rfl ?_
              refine r_getF (v := .ref 122) i_162_181 rfl (hly 90 _ rfl) (hF.1 90 47 122 rfl) ?_
              refine r_iload_n i_162_184 rfl ?_
              refine r_iald i_162_185 (hly 122 _ rfl) (by omega) (by omega) (by omega) ?_
              have q_44 := a_122 hA68 (p.toNat)
              refine r_le0 (t := 190) i_162_186 (by decide) (by omega) (fun c_45 => ?_) (fun c_45 => ?_)
              · skip
                refine r_bipush i_162_190 (by decide) ?_
                refine r_aload_n i_162_192 rfl ?_
                refine r_getI i_162_193 rfl (hly 90 _ rfl) ?_
                refine r_imul i_162_196 ?_
                refine r_istore_n (l' := [(0, .ref 90), (1, V p), (2, V r_3), (3, V (20 * (G 90 32)))]) i_162_197 (by decide +kernel) rfl ?_
                have lp198B : ∀ (nf : Nat) (e : Int) (A198 : Nat → Nat → Int), (AQ A198) → (∀ a, ¬ (a = 121 ∨ a = 122 ∨ a = 123 ∨ a = 124 ∨ a = 125 ∨ a = 126) → A198 a = A68 a) → (20 * G 90 32 ≤ e ∧ e ≤ 20 * G 90 32 + 20) → (rdQ G A A198 p.toNat) → (100 - e).toNat < nf → Re L xs 162 198 [(0, .ref 90), (1, V p), (2, V r_3), (3, V e)] [] (HP ly F G A198 B) Q := by
                  intro nf
                  induction nf with
                  | zero => intros; omega
                  | succ nf ih198B =>
                    intro e A198 hA198 fa198 he hq2 hm198
                    refine r_iload_n i_162_198 rfl ?_
                    refine r_bipush i_162_199 (by decide) ?_
                    refine r_aload_n i_162_201 rfl ?_
                    refine r_getI i_162_202 rfl (hly 90 _ rfl) ?_
                    refine r_imul i_162_205 ?_
                    refine r_aload_n i_162_206 rfl ?_
                    refine r_getF (v := .ref 108) i_162_207 rfl (hly 90 _ rfl) (hF.1 90 26 108 rfl) ?_
                    refine r_aload_n i_162_210 rfl ?_
                    refine r_getI i_162_211 rfl (hly 90 _ rfl) ?_
                    refine r_iald i_162_214 (hly 108 _ rfl) (by omega) (by omega) (by omega) ?_
                    rw [show A198 108 = A 108 from by rw [fa198 108 (by omega), fa68 108 (by omega), eA_1, up2_a (by omega)]]
                    have q_46 := a_108 hA ((G 90 32).toNat)
                    refine r_iadd i_162_215 ?_
                    refine r_cge (t := 231) i_162_216 (by decide) (by omega) (by omega) (fun c_47 => ?_) (fun c_47 => ?_)
                    · skip
                      refine r_aload_n i_162_231 rfl ?_
                      refine r_getF (v := .ref 122) i_162_232 rfl (hly 90 _ rfl) (hF.1 90 47 122 rfl) ?_
                      refine r_iload_n i_162_235 rfl ?_
                      refine r_iald i_162_236 (hly 122 _ rfl) (by omega) (by omega) (by omega) ?_
                      have q_48 := a_122 hA198 (p.toNat)
                      refine r_bipush i_162_237 (by decide) ?_
                      refine r_cge (t := 271) i_162_239 (by decide) (by omega) (by omega) (fun c_49 => ?_) (fun c_49 => ?_)
                      · skip
                        exact r_vret i_162_271 rfl (K A198 hA198 (by intro a hh; rw [fa198 a (by omega), fa68 a (by omega), eA_1, up2_a (by omega)]) (by first | exact rdV_q hq2 (by omega) | exact rdV_q yq (by omega)) (by first | exact yq | exact hq2))
                      · skip
                        have z122 := a_122 hA198 p.toNat
                        refine r_aload_n i_162_242 rfl ?_
                        refine r_iload_n i_162_243 rfl ?_
                        refine r_aload_n i_162_244 rfl ?_
                        refine r_iload_n i_162_245 rfl ?_
                        refine r_aload_n i_162_246 rfl ?_
                        refine r_getF (v := .ref 111) i_162_247 rfl (hly 90 _ rfl) (hF.1 90 29 111 rfl) ?_
                        refine r_aload_n i_162_250 rfl ?_
                        refine r_getI i_162_251 rfl (hly 90 _ rfl) ?_
                        refine r_iald i_162_254 (hly 111 _ rfl) (by omega) (by omega) (by omega) ?_
                        rw [show A198 111 = A 111 from by rw [fa198 111 (by omega), fa68 111 (by omega), eA_1, up2_a (by omega)]]
                        have q_50 := a_111 hA ((G 90 32).toNat)
                        refine r_aload_n i_162_255 rfl ?_
                        refine r_getF (v := .ref 112) i_162_256 rfl (hly 90 _ rfl) (hF.1 90 30 112 rfl) ?_
                        refine r_aload_n i_162_259 rfl ?_
                        refine r_getI i_162_260 rfl (hly 90 _ rfl) ?_
                        refine r_iald i_162_263 (hly 112 _ rfl) (by omega) (by omega) (by omega) ?_
                        rw [show A198 112 = A 112 from by rw [fa198 112 (by omega), fa68 112 (by omega), eA_1, up2_a (by omega)]]
                        have q_51 := a_112 hA ((G 90 32).toNat)
                        refine r_iconst i_162_264 ?_
                        refine r_cV (as := [V ((-1)), V (A 112 ((G 90 32).toNat)), V (A 111 ((G 90 32).toNat)), V p]) i_162_265 rfl (by decide +kernel) (Nat.le_of_ble_eq_true rfl) (Nat.le_of_ble_eq_true rfl) (hly 90 _ rfl) rfl ?_
                        refine c_166 (p := p) (kind := A 111 ((G 90 32).toNat)) (cost := A 112 ((G 90 32).toNat)) (word := (-1)) hly hF hG hA198 (by omega) (by omega) (by omega) (by omega) (by omega) (by rw [show A198 115 = A 115 from by rw [fa198 115 (by omega), fa68 115 (by omega), eA_1, up2_a (by omega)], show A198 116 = A 116 from by rw [fa198 116 (by omega), fa68 116 (by omega), eA_1, up2_a (by omega)]]; omega) (by omega) (by omega) (by omega) (by omega) (fun r_52 A_53 hA_53 fa53 p53_0 p53_1 p53_2 => ?_)
                        show Re L xs 162 268 [(0, .ref 90), (1, V p), (2, V r_3), (3, V e)] [V r_52, V p, .ref 90] (HP ly F G A_53 B) _
                        have y122 : A_53 122 = fun i => if i = p.toNat then A198 122 p.toNat + 1 else A198 122 i := p53_1
                        refine r_cV (as := [V r_52, V p]) i_162_268 rfl (by decide +kernel) (Nat.le_of_ble_eq_true rfl) (Nat.le_of_ble_eq_true rfl) (hly 90 _ rfl) rfl ?_
                        refine c_173 (p := p) (r0 := r_52) hly hF hG hA_53 (by omega) (by omega) (by omega) (by rw [y122]; dsimp only; rw [if_pos rfl]; omega) (by rw [y122]; dsimp only; rw [if_pos rfl]; omega) (fun A_54 hA_54 fa54 p54_0 p54_1 => ?_)
                        show Re L xs 162 271 [(0, .ref 90), (1, V p), (2, V r_3), (3, V e)] [] (HP ly F G A_54 B) _
                        have yq : rdQ G A A_54 p.toNat := rdQ_n (rdQ_a (w := -1) hA198 hq2 (by omega) (by omega) (by omega) y122 p53_2 (by rw [fa53 107 (by omega)])) (by omega) p54_1 (by rw [fa54 125 (by omega)]) (by rw [fa54 107 (by omega)])
                        exact r_vret i_162_271 rfl (K A_54 hA_54 (by intro a hh; rw [fa54 a (by omega), fa53 a (by omega), fa198 a (by omega), fa68 a (by omega), eA_1, up2_a (by omega)]) (by first | exact rdV_q hq2 (by omega) | exact rdV_q yq (by omega)) (by first | exact yq | exact hq2))
                    · skip
                      have hq3 := hq2.1
                      have hbe := bk_e (e := e) hm.1 (by omega) (by omega) (by omega)
                      refine r_aload_n i_162_219 rfl ?_
                      refine r_iload_n i_162_220 rfl ?_
                      refine r_iload_n i_162_221 rfl ?_
                      refine r_cV (as := [V e, V p]) i_162_222 rfl (by decide +kernel) (Nat.le_of_ble_eq_true rfl) (Nat.le_of_ble_eq_true rfl) (hly 90 _ rfl) rfl ?_
                      refine c_172 (p := p) (e := e) hly hF hG hA198 (by omega) (by omega) (by omega) (by rw [show A198 115 = A 115 from by rw [fa198 115 (by omega), fa68 115 (by omega), eA_1, up2_a (by omega)], show A198 116 = A 116 from by rw [fa198 116 (by omega), fa68 116 (by omega), eA_1, up2_a (by omega)]]; omega) (by omega) (by omega) (by rw [show A198 103 = A 103 from by rw [fa198 103 (by omega), fa68 103 (by omega), eA_1, up2_a (by omega)]]; omega) (by rw [show A198 104 = A 104 from by rw [fa198 104 (by omega), fa68 104 (by omega), eA_1, up2_a (by omega)]]; omega) (fun A_55 hA_55 fa55 p55_0 p55_1 p55_2 p55_3 => ?_)
                      show Re L xs 162 225 [(0, .ref 90), (1, V p), (2, V r_3), (3, V e)] [] (HP ly F G A_55 B) _
                      have hq4 : rdQ G A A_55 p.toNat := rdQ_e hA198 hq2 (by omega) (by omega) (by omega) p55_1 (by rw [hpp]; exact p55_2) (by rw [hpp]; exact p55_3) (by rw [fa55 107 (by omega)]) (by rw [show A198 107 = A 107 from by rw [fa198 107 (by omega), fa68 107 (by omega), eA_1, up2_a (by omega)]]; omega)
                      refine r_iinc (l' := [(0, .ref 90), (1, V p), (2, V r_3), (3, V (e + 1))]) i_162_225 rfl (by decide +kernel) rfl ?_
                      refine r_go (t := 198) i_162_228 (by decide) ?_
                      exact ih198B (e + 1) A_55 hA_55 (by intro a hh; rw [fa55 a (by omega), fa198 a (by omega)]) (by omega) (by first | exact hq4 | exact hq) (by omega)
                exact lp198B _ (20 * (G 90 32)) A68 hA68 (by intro a hh; rfl) (by omega) (by first | exact hq4 | exact hq) (Nat.lt_succ_self _)
              · skip
                exact r_vret i_162_189 rfl (K A68 hA68 (by intro a hh; rw [fa68 a (by omega), eA_1, up2_a (by omega)]) (by exact rdV_q hq (by omega)) (by exact hq))
            · skip
              refine r_bipush i_162_81 (by decide) ?_
              refine r_aload_n i_162_83 rfl ?_
              refine r_getI i_162_84 rfl (hly 90 _ rfl) ?_
              refine r_imul i_162_87 ?_
              refine r_iload_n i_162_88 rfl ?_
              refine r_iadd i_162_89 ?_
              refine r_istore (l' := [(0, .ref 90), (1, V p), (2, V r_3), (3, V w), (4, V ((80 * (G 90 32)) + w))]) i_162_90 (by decide +kernel) rfl ?_
              have jn174 : ∀ (A174 : Nat → Nat → Int), (AQ A174) → (∀ a, ¬ (a = 121 ∨ a = 122 ∨ a = 123 ∨ a = 124 ∨ a = 125 ∨ a = 126) → A174 a = A68 a) → (rdQ G A A174 p.toNat) → Re L xs 162 174 [(0, .ref 90), (1, V p), (2, V r_3), (3, V w), (4, V ((80 * (G 90 32)) + w))] [] (HP ly F G A174 B) Q := by
                intro A174 hA174 fa174 hq7
                refine r_iinc (l' := [(0, .ref 90), (1, V p), (2, V r_3), (3, V (w + 1)), (4, V ((80 * (G 90 32)) + w))]) i_162_174 rfl (by decide +kernel) rfl ?_
                refine r_go (t := 68) i_162_177 (by decide) ?_
                exact lp68B _ (w + 1) ((80 * (G 90 32)) + w) A174 hA174 (by intro a hh; rw [fa174 a (by omega), fa68 a (by omega)]) (by omega) (by first | exact h0 | exact hq7) (Nat.lt_succ_self _)
              refine r_aload_n i_162_92 rfl ?_
              refine r_getF (v := .ref 122) i_162_93 rfl (hly 90 _ rfl) (hF.1 90 47 122 rfl) ?_
              refine r_iload_n i_162_96 rfl ?_
              refine r_iald i_162_97 (hly 122 _ rfl) (by omega) (by omega) (by omega) ?_
              have q_56 := a_122 hA68 (p.toNat)
              refine r_bipush i_162_98 (by decide) ?_
              refine r_cge (t := 174) i_162_100 (by decide) (by omega) (by omega) (fun c_57 => ?_) (fun c_57 => ?_)
              · skip
                exact jn174 A68 hA68 (by intro a hh; rfl) (by first | exact hq | exact rdQ_a hzzA hq (by omega) (by omega) (by omega) zzp0 zzp1 (by fail))
              · skip
                refine r_aload_n i_162_103 rfl ?_
                refine r_getF (v := .ref 97) i_162_104 rfl (hly 90 _ rfl) (hF.1 90 15 97 rfl) ?_
                refine r_iload i_162_107 rfl ?_
                refine r_iald i_162_109 (hly 97 _ rfl) (by omega) (by omega) (by omega) ?_
                rw [show A68 97 = A 97 from by rw [fa68 97 (by omega), eA_1, up2_a (by omega)]]
                have q_58 := a_97 hA (((80 * (G 90 32)) + w).toNat)
                refine r_aload_n i_162_110 rfl ?_
                refine r_getF (v := .ref 116) i_162_111 rfl (hly 90 _ rfl) (hF.1 90 36 116 rfl) ?_
                refine r_iload_n i_162_114 rfl ?_
                refine r_iald i_162_115 (hly 116 _ rfl) (by omega) (by omega) (by omega) ?_
                rw [show A68 116 = A 116 from by rw [fa68 116 (by omega), eA_1, up2_a (by omega)]]
                have q_59 := a_116 hA (p.toNat)
                refine r_cne (t := 174) i_162_116 (by decide) (by omega) (by omega) (fun c_60 => ?_) (fun c_60 => ?_)
                · skip
                  exact jn174 A68 hA68 (by intro a hh; rfl) (by first | exact hq | exact rdQ_a hzzA hq (by omega) (by omega) (by omega) zzp0 zzp1 (by fail))
                · skip
                  refine r_aload_n i_162_119 rfl ?_
                  refine r_getF (v := .ref 100) i_162_120 rfl (hly 90 _ rfl) (hF.1 90 18 100 rfl) ?_
                  refine r_iload i_162_123 rfl ?_
                  refine r_iald i_162_125 (hly 100 _ rfl) (by omega) (by omega) (by omega) ?_
                  rw [show A68 100 = A 100 from by rw [fa68 100 (by omega), eA_1, up2_a (by omega)]]
                  have q_61 := a_100 hA (((80 * (G 90 32)) + w).toNat)
                  refine r_aload_n i_162_126 rfl ?_
                  refine r_getI i_162_127 rfl (hly 90 _ rfl) ?_
                  have q_62 := g_90_40 hG
                  refine r_cgt (t := 174) i_162_130 (by decide) (by omega) (by omega) (fun c_63 => ?_) (fun c_63 => ?_)
                  · skip
                    exact jn174 A68 hA68 (by intro a hh; rfl) (by first | exact hq | exact rdQ_a hzzA hq (by omega) (by omega) (by omega) zzp0 zzp1 (by fail))
                  · skip
                    refine r_aload_n i_162_133 rfl ?_
                    refine r_getF (v := .ref 101) i_162_134 rfl (hly 90 _ rfl) (hF.1 90 19 101 rfl) ?_
                    refine r_iload i_162_137 rfl ?_
                    refine r_iald i_162_139 (hly 101 _ rfl) (by omega) (by omega) (by omega) ?_
                    rw [show A68 101 = A 101 from by rw [fa68 101 (by omega), eA_1, up2_a (by omega)]]
                    have q_64 := a_101 hA (((80 * (G 90 32)) + w).toNat)
                    refine r_aload_n i_162_140 rfl ?_
                    refine r_getI i_162_141 rfl (hly 90 _ rfl) ?_
                    refine r_clt (t := 174) i_162_144 (by decide) (by omega) (by omega) (fun c_65 => ?_) (fun c_65 => ?_)
                    · skip
                      exact jn174 A68 hA68 (by intro a hh; rfl) (by first | exact hq | exact rdQ_a hzzA hq (by omega) (by omega) (by omega) zzp0 zzp1 (by fail))
                    · skip
                      refine r_aload_n i_162_147 rfl ?_
                      refine r_aload_n i_162_148 rfl ?_
                      refine r_getF (v := .ref 93) i_162_149 rfl (hly 90 _ rfl) (hF.1 90 11 93 rfl) ?_
                      refine r_iload i_162_152 rfl ?_
                      refine r_iload_n i_162_154 rfl ?_
                      refine r_iconst i_162_155 ?_
                      refine r_aload_n i_162_156 rfl ?_
                      refine r_getF (v := .ref 116) i_162_157 rfl (hly 90 _ rfl) (hF.1 90 36 116 rfl) ?_
                      refine r_iload_n i_162_160 rfl ?_
                      refine r_iald i_162_161 (hly 116 _ rfl) (by omega) (by omega) (by omega) ?_
                      rw [show A68 116 = A 116 from by rw [fa68 116 (by omega), eA_1, up2_a (by omega)]]
                      refine r_cV (as := [V (A 116 (p.toNat)), V 0, V p, V ((80 * (G 90 32)) + w), .ref 93]) i_162_162 rfl (by decide +kernel) (Nat.le_of_ble_eq_true rfl) (Nat.le_of_ble_eq_true rfl) (hly 90 _ rfl) rfl ?_
                      refine c_171 (row := 93) (spot := (80 * (G 90 32)) + w) (p := p) (fr := 0) (n := A 116 (p.toNat)) (cap := 1920) hly hF hG hA68 (by omega) (by omega) (by omega) (by omega) (by exact hly 93 _ rfl) (by exact fun i => a_93 hA68 i) (by omega) (by omega) (by omega) (by rw [show A68 115 = A 115 from by rw [fa68 115 (by omega), eA_1, up2_a (by omega)]]; omega) (fun r_66 p66_0 => ?_)
                      show Re L xs 162 165 [(0, .ref 90), (1, V p), (2, V r_3), (3, V w), (4, V ((80 * (G 90 32)) + w))] [V r_66] (HP ly F G A68 B) _
                      refine r_eq0 (t := 174) i_162_165 (by decide) (by omega) (fun c_67 => ?_) (fun c_67 => ?_)
                      · skip
                        exact jn174 A68 hA68 (by intro a hh; rfl) (by first | exact hq | exact rdQ_a hzzA hq (by omega) (by omega) (by omega) zzp0 zzp1 (by fail))
                      · skip
                        have hbw := bk_w (w := w) hm.1 (by omega) (by omega) (by omega)
                        refine r_aload_n i_162_168 rfl ?_
                        refine r_iload_n i_162_169 rfl ?_
                        refine r_iload_n i_162_170 rfl ?_
                        refine r_cV (as := [V w, V p]) i_162_171 rfl (by decide +kernel) (Nat.le_of_ble_eq_true rfl) (Nat.le_of_ble_eq_true rfl) (hly 90 _ rfl) rfl ?_
                        refine c_164 (p := p) (w := w) hly hF hG hA68 (by omega) (by omega) (by omega) (by rw [show A68 115 = A 115 from by rw [fa68 115 (by omega), eA_1, up2_a (by omega)], show A68 116 = A 116 from by rw [fa68 116 (by omega), eA_1, up2_a (by omega)]]; omega) (by omega) (by omega) (by rw [show A68 98 = A 98 from by rw [fa68 98 (by omega), eA_1, up2_a (by omega)]]; omega) (by rw [show A68 99 = A 99 from by rw [fa68 99 (by omega), eA_1, up2_a (by omega)]]; omega) (fun A_68 hA_68 fa68 p68_0 p68_1 => ?_)
                        show Re L xs 162 174 [(0, .ref 90), (1, V p), (2, V r_3), (3, V w), (4, V ((80 * (G 90 32)) + w))] [] (HP ly F G A_68 B) _
                        exact jn174 A_68 hA_68 (by intro a hh; rw [fa68 a (by omega)]) (by first | exact hq | exact rdQ_a hA68 hq (by omega) (by omega) (by omega) p68_0 p68_1 (by rw [fa68 107 (by omega)]))
        exact lp68A3 _ 0 A_1 hA_1 (by intro a hh; rfl) (by omega) (by first | exact h0 | exact hq7) (Nat.lt_succ_self _)
      · skip
        exact jn46 ()  
  · skip
    have hhw := hm.2.2 r_3.toNat (by omega)
    refine r_aload_n i_162_17 rfl ?_
    refine r_iload_n i_162_18 rfl ?_
    refine r_aload_n i_162_19 rfl ?_
    refine r_getF (v := .ref 132) i_162_20 rfl (hly 90 _ rfl) (hF.1 90 62 132 rfl) ?_
    refine r_iload_n i_162_23 rfl ?_
    refine r_iald i_162_24 (hly 132 _ rfl) (by omega) (by omega) (by omega) ?_
    rw [show A_1 132 = A 132 from by rw [eA_1, up2_a (by omega)]]
    have q_69 := a_132 hA (r_3.toNat)
    have z132 := a_132 hA r_3.toNat
    have hbw := bk_w hm.1 (by omega) z132.1 hhw
    refine r_cV (as := [V (A 132 (r_3.toNat)), V p]) i_162_25 rfl (by decide +kernel) (Nat.le_of_ble_eq_true rfl) (Nat.le_of_ble_eq_true rfl) (hly 90 _ rfl) rfl ?_
    have q_70 := g_90_32 hG
    refine c_164 (p := p) (w := A 132 (r_3.toNat)) hly hF hG hA_1 (by omega) (by omega) (by omega) (by rw [show A_1 115 = A 115 from by rw [eA_1, up2_a (by omega)], show A_1 116 = A 116 from by rw [eA_1, up2_a (by omega)]]; omega) (by omega) (by omega) (by rw [show A_1 98 = A 98 from by rw [eA_1, up2_a (by omega)]]; omega) (by rw [show A_1 99 = A 99 from by rw [eA_1, up2_a (by omega)]]; omega) (fun A_71 hA_71 fa71 p71_0 p71_1 => ?_)
    show Re L xs 162 28 [(0, .ref 90), (1, V p), (2, V r_3)] [] (HP ly F G A_71 B) _
    have yq : rdQ G A A_71 p.toNat := rdQ_a hA_1 h0 hhw (by omega) (by omega) p71_0 p71_1 (by rw [fa71 107 (by omega)])
    exact r_vret i_162_28 rfl (K A_71 hA_71 (by intro a hh; rw [fa71 a (by omega), eA_1, up2_a (by omega)]) (by exact rdV_q yq (by rw [p71_0]; dsimp only; rw [if_pos rfl]; omega)) (by exact yq))
