set_option maxHeartbeats 4000000 in
theorem c_175 {L : Nat} {xs : Nat → Int32} {ly : List LK} {F : Nat → Nat → Value} {G A : Nat → Nat → Int} {B : Nat → Nat → Int64} {Q : Option Value → AH → Prop}  (hly : LyOk ly) (hF : RfOk F) (hG : GO G) (hA : AQ A)  (K : ∀ (G' : Nat → Nat → Int) (A' : Nat → Nat → Int), (GO G') → (AQ A') → (∀ a k, ¬ ((a = 90 ∧ k = 57)) → G' a k = G a k) → (∀ a, ¬ (a = 128 ∨ a = 129) → A' a = A a) → ((dpo G' A').Ok) → Q none (HP ly F G' A' B)) : Re L xs 175 0 [(0, .ref 90)] [] (HP ly F G A B) Q := by
  have z38 := g_90_38 hG
  have z56 := g_90_56 hG
  refine r_iconst i_175_0 ?_
  refine r_istore_n (l' := [(0, .ref 90), (1, V 0)]) i_175_1 (by decide +kernel) rfl ?_
  have lp2B : ∀ (nf : Nat) (k : Int) (A2 : Nat → Nat → Int), (AQ A2) → (∀ a, ¬ (a = 128 ∨ a = 129) → A2 a = A a) → (0 ≤ k ∧ k ≤ 18928) → (∀ i : Nat, (i : Int) < k → A2 128 i = 1000000 ∧ A2 129 i = 1000000) → (18928 - k).toNat < nf → Re L xs 175 2 [(0, .ref 90), (1, V k)] [] (HP ly F G A2 B) Q := by
    intro nf
    induction nf with
    | zero => intros; omega
    | succ nf ih2B =>
      intro k A2 hA2 fa2 hk h2 hm2
      refine r_iload_n i_175_2 rfl ?_
      refine r_sipush i_175_3 (by decide) ?_
      refine r_cge (t := 33) i_175_6 (by decide) (by omega) (by omega) (fun c_1 => ?_) (fun c_1 => ?_)
      · skip
        have hn8 : ∀ i : Nat, i < 18928 → A2 128 i = 1000000 := fun i hi => (h2 i (by omega)).1
        have hn9 : ∀ i : Nat, i < 18928 → A2 129 i = 1000000 := fun i hi => (h2 i (by omega)).2
        refine r_iconst i_175_33 ?_
        refine r_istore_n (l' := [(0, .ref 90), (1, V 0)]) i_175_34 (by decide +kernel) rfl ?_
        have lp35B : ∀ (nf : Nat) (p : Int) (l2 : Int) (A35 : Nat → Nat → Int), (AQ A35) → (∀ a, ¬ (a = 128) → A35 a = A2 a) → (0 ≤ p ∧ p ≤ G 90 38) → ((dpo G A35).aD (fun p' r' => p' < p)) → (20 - p).toNat < nf → Re L xs 175 35 [(0, .ref 90), (1, V p), (2, V l2)] [] (HP ly F G A35 B) Q := by
          intro nf
          induction nf with
          | zero => intros; omega
          | succ nf ih35B =>
            intro p l2 A35 hA35 fa35 hp ha hm35
            refine r_iload_n i_175_35 rfl ?_
            refine r_aload_n i_175_36 rfl ?_
            refine r_getI i_175_37 rfl (hly 90 _ rfl) ?_
            have q_2 := g_90_38 hG
            refine r_cge (t := 90) i_175_40 (by decide) (by omega) (by omega) (fun c_3 => ?_) (fun c_3 => ?_)
            · skip
              have hn9b : ∀ i : Nat, i < 18928 → A35 129 i = 1000000 := fun i hi => by rw [fa35 129 (by omega)]; exact hn9 i hi
              have ha1 : (dpo G A35).aD (fun _ _ => True) := DP.aD_D ha (fun p' r' h0 h1 hs => ⟨fun _ => trivial, fun _ => by have h1' : p' < G 90 38 := h1; omega⟩)
              refine r_aload_n i_175_90 rfl ?_
              refine r_getI i_175_91 rfl (hly 90 _ rfl) ?_
              refine r_iconst i_175_94 ?_
              refine r_isub i_175_95 ?_
              refine r_istore_n (l' := [(0, .ref 90), (1, V ((G 90 38) - 1)), (2, V l2)]) i_175_96 (by decide +kernel) rfl ?_
              have lp97B : ∀ (nf : Nat) (p : Int) (l2 : Int) (A97 : Nat → Nat → Int), (AQ A97) → (∀ a, ¬ (a = 129) → A97 a = A35 a) → (-1 ≤ p ∧ p < G 90 38) → ((dpo G A97).bD (fun p' r' => p < p')) → (p + 1).toNat < nf → Re L xs 175 97 [(0, .ref 90), (1, V p), (2, V l2)] [] (HP ly F G A97 B) Q := by
                intro nf
                induction nf with
                | zero => intros; omega
                | succ nf ih97B =>
                  intro p l2 A97 hA97 fa97 hp hb hm97
                  refine r_iload_n i_175_97 rfl ?_
                  refine r_lt0 (t := 148) i_175_98 (by decide) (by omega) (fun c_4 => ?_) (fun c_4 => ?_)
                  · skip
                    have hb1 : (dpo G A97).bD (fun _ _ => True) := DP.bD_D hb (fun p' r' h0 h1 hs => ⟨fun _ => trivial, fun _ => by omega⟩)
                    refine r_aload_n i_175_148 rfl ?_
                    have jn163 : ∀ (b : Int), (b = if G 90 38 = 0 then 0 else 1000000) → Re L xs 175 163 [(0, .ref 90), (1, V p), (2, V l2)] [V b, .ref 90] (HP ly F G A97 B) Q := by
                      intro b  hbb
                      refine r_putIQ i_175_163 (by decide +kernel) (hly 90 _ rfl) (fun G_5 eG_5 => ?_)
                      have hG_5 : GO G_5 := by rw [eG_5]; exact gu_90_57 hG (by omega) (by omega)
                      refine r_iconst i_175_166 ?_
                      refine r_istore_n (l' := [(0, .ref 90), (1, V 0), (2, V l2)]) i_175_167 (by decide +kernel) rfl ?_
                      have lp168B : ∀ (nf : Nat) (k : Int) (l2 : Int) (G168 : Nat → Nat → Int), (GO G168) → (∀ a k, ¬ ((a = 90 ∧ k = 57)) → G168 a k = G_5 a k) → (0 ≤ k ∧ k ≤ 8) → (G 90 38 = 0 → G168 90 57 = 0) → (0 < G 90 38 → G168 90 57 = mnf (fun k => (dpo G A97).ah (G 90 38 - 1) k (G 90 56)) (k).toNat) → (k = 0 ∨ (0 < G 90 38 ∧ 0 ≤ G 90 56 ∧ G 90 56 < 169)) → (8 - k).toNat < nf → Re L xs 175 168 [(0, .ref 90), (1, V k), (2, V l2)] [] (HP ly F G168 A97 B) Q := by
                        intro nf
                        induction nf with
                        | zero => intros; omega
                        | succ nf ih168B =>
                          intro k l2 G168 hG168 fg168 hk hbz hbm hk2 hm168
                          refine r_iload_n i_175_168 rfl ?_
                          refine r_bipush i_175_169 (by decide) ?_
                          refine r_cge (t := 244) i_175_171 (by decide) (by omega) (by omega) (fun c_6 => ?_) (fun c_6 => ?_)
                          · skip
                            exact r_vret i_175_244 rfl (K G168 A97 hG168 hA97 (by intro a k hh; rw [fg168 a k (by omega), eG_5, up2_n (by omega)]) (by intro a hh; rw [fa97 a (by omega), fa35 a (by omega), fa2 a (by omega)]) (by exact ⟨dpo_rg hA97, dpo_aD (by intro a k hh; rw [fg168 a k (by omega), eG_5, up2_n (by omega)]) (by intro a hh; rw [fa97 a (by omega)]) ha1, dpo_bD (by intro a k hh; rw [fg168 a k (by omega), eG_5, up2_n (by omega)]) (fun a h => rfl) hb1, bs_mk (by intro a k hh; rw [fg168 a k (by omega), eG_5, up2_n (by omega)]) hbz (fun hn t0 t1 => by first | (exfalso; omega) | (have hh := hbm hn; rw [show (k).toNat = 8 from (by omega)] at hh; exact hh)) (fun hn ht => by first | (exfalso; omega) | (have hh := hbm hn; rw [show (k).toNat = 0 from (by omega)] at hh; exact hh))⟩))
                          · skip
                            refine r_aload_n i_175_174 rfl ?_
                            refine r_getI i_175_175 rfl (hly 90 _ rfl) ?_
                            rw [show G168 90 38 = G 90 38 from by rw [fg168 90 38 (by omega), eG_5, up2_n (by omega)]]
                            refine r_le0 (t := 244) i_175_178 (by decide) (by omega) (fun c_7 => ?_) (fun c_7 => ?_)
                            · skip
                              exact r_vret i_175_244 rfl (K G168 A97 hG168 hA97 (by intro a k hh; rw [fg168 a k (by omega), eG_5, up2_n (by omega)]) (by intro a hh; rw [fa97 a (by omega), fa35 a (by omega), fa2 a (by omega)]) (by exact ⟨dpo_rg hA97, dpo_aD (by intro a k hh; rw [fg168 a k (by omega), eG_5, up2_n (by omega)]) (by intro a hh; rw [fa97 a (by omega)]) ha1, dpo_bD (by intro a k hh; rw [fg168 a k (by omega), eG_5, up2_n (by omega)]) (fun a h => rfl) hb1, bs_mk (by intro a k hh; rw [fg168 a k (by omega), eG_5, up2_n (by omega)]) hbz (fun hn t0 t1 => by first | (exfalso; omega) | (have hh := hbm hn; rw [show (k).toNat = 8 from (by omega)] at hh; exact hh)) (fun hn ht => by first | (exfalso; omega) | (have hh := hbm hn; rw [show (k).toNat = 0 from (by omega)] at hh; exact hh))⟩))
                            · skip
                              refine r_aload_n i_175_181 rfl ?_
                              refine r_getI i_175_182 rfl (hly 90 _ rfl) ?_
                              rw [show G168 90 56 = G 90 56 from by rw [fg168 90 56 (by omega), eG_5, up2_n (by omega)]]
                              have q_8 := g_90_56 hG
                              refine r_lt0 (t := 244) i_175_185 (by decide) (by omega) (fun c_9 => ?_) (fun c_9 => ?_)
                              · skip
                                exact r_vret i_175_244 rfl (K G168 A97 hG168 hA97 (by intro a k hh; rw [fg168 a k (by omega), eG_5, up2_n (by omega)]) (by intro a hh; rw [fa97 a (by omega), fa35 a (by omega), fa2 a (by omega)]) (by exact ⟨dpo_rg hA97, dpo_aD (by intro a k hh; rw [fg168 a k (by omega), eG_5, up2_n (by omega)]) (by intro a hh; rw [fa97 a (by omega)]) ha1, dpo_bD (by intro a k hh; rw [fg168 a k (by omega), eG_5, up2_n (by omega)]) (fun a h => rfl) hb1, bs_mk (by intro a k hh; rw [fg168 a k (by omega), eG_5, up2_n (by omega)]) hbz (fun hn t0 t1 => by first | (exfalso; omega) | (have hh := hbm hn; rw [show (k).toNat = 8 from (by omega)] at hh; exact hh)) (fun hn ht => by first | (exfalso; omega) | (have hh := hbm hn; rw [show (k).toNat = 0 from (by omega)] at hh; exact hh))⟩))
                              · skip
                                refine r_aload_n i_175_188 rfl ?_
                                refine r_getI i_175_189 rfl (hly 90 _ rfl) ?_
                                rw [show G168 90 56 = G 90 56 from by rw [fg168 90 56 (by omega), eG_5, up2_n (by omega)]]
                                refine r_sipush i_175_192 (by decide) ?_
                                refine r_cge (t := 244) i_175_195 (by decide) (by omega) (by omega) (fun c_10 => ?_) (fun c_10 => ?_)
                                · skip
                                  exact r_vret i_175_244 rfl (K G168 A97 hG168 hA97 (by intro a k hh; rw [fg168 a k (by omega), eG_5, up2_n (by omega)]) (by intro a hh; rw [fa97 a (by omega), fa35 a (by omega), fa2 a (by omega)]) (by exact ⟨dpo_rg hA97, dpo_aD (by intro a k hh; rw [fg168 a k (by omega), eG_5, up2_n (by omega)]) (by intro a hh; rw [fa97 a (by omega)]) ha1, dpo_bD (by intro a k hh; rw [fg168 a k (by omega), eG_5, up2_n (by omega)]) (fun a h => rfl) hb1, bs_mk (by intro a k hh; rw [fg168 a k (by omega), eG_5, up2_n (by omega)]) hbz (fun hn t0 t1 => by first | (exfalso; omega) | (have hh := hbm hn; rw [show (k).toNat = 8 from (by omega)] at hh; exact hh)) (fun hn ht => by first | (exfalso; omega) | (have hh := hbm hn; rw [show (k).toNat = 0 from (by omega)] at hh; exact hh))⟩))
                                · skip
                                  refine r_aload_n i_175_198 rfl ?_
                                  refine r_getF (v := .ref 128) i_175_199 rfl (hly 90 _ rfl) (hF.1 90 54 128 rfl) ?_
                                  refine r_aload_n i_175_202 rfl ?_
                                  refine r_getI i_175_203 rfl (hly 90 _ rfl) ?_
                                  rw [show G168 90 38 = G 90 38 from by rw [fg168 90 38 (by omega), eG_5, up2_n (by omega)]]
                                  refine r_iconst i_175_206 ?_
                                  refine r_isub i_175_207 ?_
                                  refine r_iload_n i_175_208 rfl ?_
                                  refine r_aload_n i_175_209 rfl ?_
                                  refine r_getI i_175_210 rfl (hly 90 _ rfl) ?_
                                  rw [show G168 90 56 = G 90 56 from by rw [fg168 90 56 (by omega), eG_5, up2_n (by omega)]]
                                  refine r_cS (as := [V (G 90 56), V k, V ((G 90 38) - 1)]) i_175_213 rfl (by decide +kernel) (Nat.le_of_ble_eq_true rfl) (Nat.le_of_ble_eq_true rfl) ?_
                                  refine c_180 (p := (G 90 38) - 1) (kind := k) (marks := G 90 56) hly hF hG168 hA97 (by omega) (by omega) (by omega) (fun r_11 p11_0 => ?_)
                                  show Re L xs 175 216 [(0, .ref 90), (1, V k), (2, V l2)] [V r_11, .ref 128] (HP ly F G168 A97 B) _
                                  refine r_iald i_175_216 (hly 128 _ rfl) (by omega) (by omega) (by omega) ?_
                                  rw [show A97 128 = A35 128 from by rw [fa97 128 (by omega)]]
                                  have q_12 := a_128 hA35 (r_11.toNat)
                                  refine r_istore_n (l' := [(0, .ref 90), (1, V k), (2, V (A35 128 (r_11.toNat)))]) i_175_217 (by decide +kernel) rfl ?_
                                  refine r_aload_n i_175_218 rfl ?_
                                  have jn235 : ∀ (v2 : Int), (v2 = if (A35 128 (r_11.toNat)) < G168 90 57 then (A35 128 (r_11.toNat)) else G168 90 57) → (0 ≤ v2 ∧ v2 ≤ 1000000) → Re L xs 175 235 [(0, .ref 90), (1, V k), (2, V (A35 128 (r_11.toNat)))] [V v2, .ref 90] (HP ly F G168 A97 B) Q := by
                                    intro v2  hv2 hv3
                                    refine r_putIQ i_175_235 (by decide +kernel) (hly 90 _ rfl) (fun G_13 eG_13 => ?_)
                                    have hG_13 : GO G_13 := by rw [eG_13]; exact gu_90_57 hG168 (by omega) (by omega)
                                    refine r_iinc (l' := [(0, .ref 90), (1, V (k + 1)), (2, V (A35 128 (r_11.toNat)))]) i_175_238 rfl (by decide +kernel) rfl ?_
                                    refine r_go (t := 168) i_175_241 (by decide) ?_
                                    exact ih168B (k + 1) (A35 128 (r_11.toNat)) G_13 hG_13 (by intro a k hh; rw [eG_13, up2_n (by omega), fg168 a k (by omega)]) (by omega) (by first | (intro hn; rw [show G_13 90 57 = v2 from by rw [eG_13, up2_s], hbb]; exact if_pos hn) | (intro hn; exfalso; omega)) (by first | (intro hn; rw [show G_13 90 57 = v2 from by rw [eG_13, up2_s], hbb]; exact if_neg (by omega)) | (intro hn; rw [show G_13 90 57 = v2 from by rw [eG_13, up2_s]]; exact mnf_st (by omega) (hbm hn) (by show A97 128 (((G 90 38 - 1) * 8 + k) * 169 + G 90 56).toNat = _; rw [← p11_0, show A97 128 = A35 128 from by rw [fa97 128 (by omega)]]) hv2)) (by omega) (by omega)
                                  refine r_iload_n i_175_219 rfl ?_
                                  refine r_aload_n i_175_220 rfl ?_
                                  refine r_getI i_175_221 rfl (hly 90 _ rfl) ?_
                                  have q_14 := g_90_57 hG168
                                  refine r_cge (t := 231) i_175_224 (by decide) (by omega) (by omega) (fun c_15 => ?_) (fun c_15 => ?_)
                                  · skip
                                    refine r_aload_n i_175_231 rfl ?_
                                    refine r_getI i_175_232 rfl (hly 90 _ rfl) ?_
                                    exact jn235 (G168 90 57)  (by first | rw [if_pos (by omega)] | rw [if_neg (by omega)]) (by omega)
                                  · skip
                                    refine r_iload_n i_175_227 rfl ?_
                                    refine r_go (t := 235) i_175_228 (by decide) ?_
                                    exact jn235 (A35 128 (r_11.toNat))  (by first | rw [if_pos (by omega)] | rw [if_neg (by omega)]) (by omega)
                      exact lp168B _ 0 l2 G_5 hG_5 (by intro a k hh; rfl) (by omega) (by first | (intro hn; rw [show G_5 90 57 = b from by rw [eG_5, up2_s], hbb]; exact if_pos hn) | (intro hn; exfalso; omega)) (by first | (intro hn; rw [show G_5 90 57 = b from by rw [eG_5, up2_s], hbb]; exact if_neg (by omega)) | (intro hn; rw [show G_5 90 57 = b from by rw [eG_5, up2_s]]; exact mnf_st (by omega) (hbm hn) (by show A97 128 (((G 90 38 - 1) * 8 + k) * 169 + G 90 56).toNat = _; rw [← zzp0, show A97 128 = A35 128 from by rw [fa97 128 (by omega)]]) hv2)) (by omega) (Nat.lt_succ_self _)
                    refine r_aload_n i_175_149 rfl ?_
                    refine r_getI i_175_150 rfl (hly 90 _ rfl) ?_
                    refine r_ne0 (t := 160) i_175_153 (by decide) (by omega) (fun c_16 => ?_) (fun c_16 => ?_)
                    · skip
                      refine r_ldcw (v := 1000000) i_175_160 (by decide) ?_
                      exact jn163 1000000  (by first | rw [if_pos (by omega)] | rw [if_neg (by omega)])
                    · skip
                      refine r_iconst i_175_156 ?_
                      refine r_go (t := 163) i_175_157 (by decide) ?_
                      exact jn163 0  (by first | rw [if_pos (by omega)] | rw [if_neg (by omega)])
                  · skip
                    have z122 := a_122 hA p.toNat
                    refine r_bipush i_175_101 (by decide) ?_
                    refine r_iload_n i_175_103 rfl ?_
                    refine r_imul i_175_104 ?_
                    refine r_istore_n (l' := [(0, .ref 90), (1, V p), (2, V (13 * p))]) i_175_105 (by decide +kernel) rfl ?_
                    have lp106B : ∀ (nf : Nat) (r : Int) (A106 : Nat → Nat → Int), (AQ A106) → (∀ a, ¬ (a = 129) → A106 a = A97 a) → (13 * p ≤ r ∧ r ≤ 13 * p + 13) → ((dpo G A106).bD (fun p' r' => p < p' ∨ (p' = p ∧ r' < r))) → (13 * p + 20 - r).toNat < nf → Re L xs 175 106 [(0, .ref 90), (1, V p), (2, V r)] [] (HP ly F G A106 B) Q := by
                      intro nf
                      induction nf with
                      | zero => intros; omega
                      | succ nf ih106B =>
                        intro r A106 hA106 fa106 hr hb2 hm106
                        refine r_iload_n i_175_106 rfl ?_
                        refine r_bipush i_175_107 (by decide) ?_
                        refine r_iload_n i_175_109 rfl ?_
                        refine r_imul i_175_110 ?_
                        refine r_aload_n i_175_111 rfl ?_
                        refine r_getF (v := .ref 122) i_175_112 rfl (hly 90 _ rfl) (hF.1 90 47 122 rfl) ?_
                        refine r_iload_n i_175_115 rfl ?_
                        refine r_iald i_175_116 (hly 122 _ rfl) (by omega) (by omega) (by omega) ?_
                        rw [show A106 122 = A 122 from by rw [fa106 122 (by omega), fa97 122 (by omega), fa35 122 (by omega), fa2 122 (by omega)]]
                        have q_17 := a_122 hA (p.toNat)
                        refine r_iadd i_175_117 ?_
                        refine r_cge (t := 142) i_175_118 (by decide) (by omega) (by omega) (fun c_18 => ?_) (fun c_18 => ?_)
                        · skip
                          refine r_iinc (l' := [(0, .ref 90), (1, V (p + (-1))), (2, V r)]) i_175_142 rfl (by decide +kernel) rfl ?_
                          refine r_go (t := 97) i_175_145 (by decide) ?_
                          exact ih97B (p + (-1)) r A106 hA106 (by intro a hh; rw [fa106 a (by omega), fa97 a (by omega)]) (by omega) (by first | exact bD_nul hn9b (by omega) (fun p r h0 hs hd => by omega) | exact bD_nx hb2 (by rw [show A106 122 = A 122 from by rw [fa106 122 (by omega), fa97 122 (by omega), fa35 122 (by omega), fa2 122 (by omega)]]; omega)) (by omega)
                        · skip
                          have jn136 : ∀ (A136 : Nat → Nat → Int), (AQ A136) → (∀ a, ¬ (a = 129) → A136 a = A106 a) → ((dpo G A136).bD (fun p' r' => p < p' ∨ (p' = p ∧ r' < r + 1))) → Re L xs 175 136 [(0, .ref 90), (1, V p), (2, V r)] [] (HP ly F G A136 B) Q := by
                            intro A136 hA136 fa136 hb3
                            refine r_iinc (l' := [(0, .ref 90), (1, V p), (2, V (r + 1))]) i_175_136 rfl (by decide +kernel) rfl ?_
                            refine r_go (t := 106) i_175_139 (by decide) ?_
                            exact ih106B (r + 1) A136 hA136 (by intro a hh; rw [fa136 a (by omega), fa106 a (by omega)]) (by omega) (by first | exact hb3 | exact bD_fs hb) (by omega)
                          refine r_aload_n i_175_121 rfl ?_
                          refine r_iload_n i_175_122 rfl ?_
                          refine r_iload_n i_175_123 rfl ?_
                          refine r_cV (as := [V r, V p]) i_175_124 rfl (by decide +kernel) (Nat.le_of_ble_eq_true rfl) (Nat.le_of_ble_eq_true rfl) (hly 90 _ rfl) rfl ?_
                          have q_19 := g_90_58 hG
                          have q_20 := g_90_59 hG
                          refine c_176 (p := p) (r0 := r) hly hF hG hA106 (by omega) (by omega) (by omega) (by omega) (fun r_21 p21_0 p21_1 => ?_)
                          show Re L xs 175 127 [(0, .ref 90), (1, V p), (2, V r)] [V r_21] (HP ly F G A106 B) _
                          refine r_eq0 (t := 136) i_175_127 (by decide) (by omega) (fun c_22 => ?_) (fun c_22 => ?_)
                          · skip
                            exact jn136 A106 hA106 (by intro a hh; rfl) (by first | exact bD_ct hzzA hb2 (by omega) (by omega) (by omega) (by rw [show zzA 122 = A 122 from by fail]; omega) (by fail) zzp0 | exact bD_sk hb2 (by omega))
                          · skip
                            refine r_aload_n i_175_130 rfl ?_
                            refine r_iload_n i_175_131 rfl ?_
                            refine r_iload_n i_175_132 rfl ?_
                            refine r_cV (as := [V r, V p]) i_175_133 rfl (by decide +kernel) (Nat.le_of_ble_eq_true rfl) (Nat.le_of_ble_eq_true rfl) (hly 90 _ rfl) rfl ?_
                            refine c_182 (p := p) (r0 := r) hly hF hG hA106 (by omega) (by omega) (by omega) (by omega) (fun A_23 hA_23 fa23 p23_0 => ?_)
                            show Re L xs 175 136 [(0, .ref 90), (1, V p), (2, V r)] [] (HP ly F G A_23 B) _
                            exact jn136 A_23 hA_23 (by intro a hh; rw [fa23 a (by omega)]) (by first | exact bD_ct hA106 hb2 (by omega) (by omega) (by omega) (by rw [show A106 122 = A 122 from by rw [fa106 122 (by omega), fa97 122 (by omega), fa35 122 (by omega), fa2 122 (by omega)]]; omega) (by intro a hh; rw [fa23 a (by omega)]) p23_0 | exact bD_sk hb2 (by omega))
                    exact lp106B _ (13 * p) A97 hA97 (by intro a hh; rfl) (by omega) (by first | exact hb3 | exact bD_fs hb) (Nat.lt_succ_self _)
              exact lp97B _ ((G 90 38) - 1) l2 A35 hA35 (by intro a hh; rfl) (by omega) (by first | exact bD_nul hn9b (by omega) (fun p r h0 hs hd => by omega) | exact bD_nx hb2 (by rw [show A35 122 = A 122 from by rw [fa35 122 (by omega), fa2 122 (by omega)]]; omega)) (Nat.lt_succ_self _)
            · skip
              have z122 := a_122 hA p.toNat
              refine r_bipush i_175_43 (by decide) ?_
              refine r_iload_n i_175_45 rfl ?_
              refine r_imul i_175_46 ?_
              refine r_istore_n (l' := [(0, .ref 90), (1, V p), (2, V (13 * p))]) i_175_47 (by decide +kernel) rfl ?_
              have lp48B : ∀ (nf : Nat) (r : Int) (A48 : Nat → Nat → Int), (AQ A48) → (∀ a, ¬ (a = 128) → A48 a = A35 a) → (13 * p ≤ r ∧ r ≤ 13 * p + 13) → ((dpo G A48).aD (fun p' r' => p' < p ∨ (p' = p ∧ r' < r))) → (13 * p + 20 - r).toNat < nf → Re L xs 175 48 [(0, .ref 90), (1, V p), (2, V r)] [] (HP ly F G A48 B) Q := by
                intro nf
                induction nf with
                | zero => intros; omega
                | succ nf ih48B =>
                  intro r A48 hA48 fa48 hr ha2 hm48
                  refine r_iload_n i_175_48 rfl ?_
                  refine r_bipush i_175_49 (by decide) ?_
                  refine r_iload_n i_175_51 rfl ?_
                  refine r_imul i_175_52 ?_
                  refine r_aload_n i_175_53 rfl ?_
                  refine r_getF (v := .ref 122) i_175_54 rfl (hly 90 _ rfl) (hF.1 90 47 122 rfl) ?_
                  refine r_iload_n i_175_57 rfl ?_
                  refine r_iald i_175_58 (hly 122 _ rfl) (by omega) (by omega) (by omega) ?_
                  rw [show A48 122 = A 122 from by rw [fa48 122 (by omega), fa35 122 (by omega), fa2 122 (by omega)]]
                  have q_24 := a_122 hA (p.toNat)
                  refine r_iadd i_175_59 ?_
                  refine r_cge (t := 84) i_175_60 (by decide) (by omega) (by omega) (fun c_25 => ?_) (fun c_25 => ?_)
                  · skip
                    refine r_iinc (l' := [(0, .ref 90), (1, V (p + 1)), (2, V r)]) i_175_84 rfl (by decide +kernel) rfl ?_
                    refine r_go (t := 35) i_175_87 (by decide) ?_
                    exact ih35B (p + 1) r A48 hA48 (by intro a hh; rw [fa48 a (by omega), fa35 a (by omega)]) (by omega) (by first | exact aD_nul hn8 (by omega) (fun p r h0 hs hd => by omega) | exact aD_nx ha2 (by rw [show A48 122 = A 122 from by rw [fa48 122 (by omega), fa35 122 (by omega), fa2 122 (by omega)]]; omega)) (by omega)
                  · skip
                    have jn78 : ∀ (A78 : Nat → Nat → Int), (AQ A78) → (∀ a, ¬ (a = 128) → A78 a = A48 a) → ((dpo G A78).aD (fun p' r' => p' < p ∨ (p' = p ∧ r' < r + 1))) → Re L xs 175 78 [(0, .ref 90), (1, V p), (2, V r)] [] (HP ly F G A78 B) Q := by
                      intro A78 hA78 fa78 ha3
                      refine r_iinc (l' := [(0, .ref 90), (1, V p), (2, V (r + 1))]) i_175_78 rfl (by decide +kernel) rfl ?_
                      refine r_go (t := 48) i_175_81 (by decide) ?_
                      exact ih48B (r + 1) A78 hA78 (by intro a hh; rw [fa78 a (by omega), fa48 a (by omega)]) (by omega) (by first | exact ha3 | exact aD_fs ha) (by omega)
                    refine r_aload_n i_175_63 rfl ?_
                    refine r_iload_n i_175_64 rfl ?_
                    refine r_iload_n i_175_65 rfl ?_
                    refine r_cV (as := [V r, V p]) i_175_66 rfl (by decide +kernel) (Nat.le_of_ble_eq_true rfl) (Nat.le_of_ble_eq_true rfl) (hly 90 _ rfl) rfl ?_
                    have q_26 := g_90_58 hG
                    have q_27 := g_90_59 hG
                    refine c_176 (p := p) (r0 := r) hly hF hG hA48 (by omega) (by omega) (by omega) (by omega) (fun r_28 p28_0 p28_1 => ?_)
                    show Re L xs 175 69 [(0, .ref 90), (1, V p), (2, V r)] [V r_28] (HP ly F G A48 B) _
                    refine r_eq0 (t := 78) i_175_69 (by decide) (by omega) (fun c_29 => ?_) (fun c_29 => ?_)
                    · skip
                      exact jn78 A48 hA48 (by intro a hh; rfl) (by first | exact aD_ct hzzA ha2 (by omega) (by omega) (by omega) (by rw [show zzA 122 = A 122 from by fail]; omega) (by fail) zzp0 | exact aD_sk ha2 (by omega))
                    · skip
                      refine r_aload_n i_175_72 rfl ?_
                      refine r_iload_n i_175_73 rfl ?_
                      refine r_iload_n i_175_74 rfl ?_
                      refine r_cV (as := [V r, V p]) i_175_75 rfl (by decide +kernel) (Nat.le_of_ble_eq_true rfl) (Nat.le_of_ble_eq_true rfl) (hly 90 _ rfl) rfl ?_
                      refine c_177 (p := p) (r0 := r) hly hF hG hA48 (by omega) (by omega) (by omega) (by omega) (fun A_30 hA_30 fa30 p30_0 => ?_)
                      show Re L xs 175 78 [(0, .ref 90), (1, V p), (2, V r)] [] (HP ly F G A_30 B) _
                      exact jn78 A_30 hA_30 (by intro a hh; rw [fa30 a (by omega)]) (by first | exact aD_ct hA48 ha2 (by omega) (by omega) (by omega) (by rw [show A48 122 = A 122 from by rw [fa48 122 (by omega), fa35 122 (by omega), fa2 122 (by omega)]]; omega) (by intro a hh; rw [fa30 a (by omega)]) p30_0 | exact aD_sk ha2 (by omega))
              exact lp48B _ (13 * p) A35 hA35 (by intro a hh; rfl) (by omega) (by first | exact ha3 | exact aD_fs ha) (Nat.lt_succ_self _)
        have lp35A1 : ∀ (nf : Nat) (p : Int) (A35 : Nat → Nat → Int), (AQ A35) → (∀ a, ¬ (a = 128) → A35 a = A2 a) → (0 ≤ p ∧ p ≤ G 90 38) → ((dpo G A35).aD (fun p' r' => p' < p)) → (20 - p).toNat < nf → Re L xs 175 35 [(0, .ref 90), (1, V p)] [] (HP ly F G A35 B) Q := by
          intro nf
          induction nf with
          | zero => intros; omega
          | succ nf ih35A1 =>
            intro p A35 hA35 fa35 hp ha hm35
            refine r_iload_n i_175_35 rfl ?_
            refine r_aload_n i_175_36 rfl ?_
            refine r_getI i_175_37 rfl (hly 90 _ rfl) ?_
            have q_31 := g_90_38 hG
            refine r_cge (t := 90) i_175_40 (by decide) (by omega) (by omega) (fun c_32 => ?_) (fun c_32 => ?_)
            · skip
              have hn9b : ∀ i : Nat, i < 18928 → A35 129 i = 1000000 := fun i hi => by rw [fa35 129 (by omega)]; exact hn9 i hi
              have ha1 : (dpo G A35).aD (fun _ _ => True) := DP.aD_D ha (fun p' r' h0 h1 hs => ⟨fun _ => trivial, fun _ => by have h1' : p' < G 90 38 := h1; omega⟩)
              refine r_aload_n i_175_90 rfl ?_
              refine r_getI i_175_91 rfl (hly 90 _ rfl) ?_
              refine r_iconst i_175_94 ?_
              refine r_isub i_175_95 ?_
              refine r_istore_n (l' := [(0, .ref 90), (1, V ((G 90 38) - 1))]) i_175_96 (by decide +kernel) rfl ?_
              have lp97B : ∀ (nf : Nat) (p : Int) (l2 : Int) (A97 : Nat → Nat → Int), (AQ A97) → (∀ a, ¬ (a = 129) → A97 a = A35 a) → (-1 ≤ p ∧ p < G 90 38) → ((dpo G A97).bD (fun p' r' => p < p')) → (p + 1).toNat < nf → Re L xs 175 97 [(0, .ref 90), (1, V p), (2, V l2)] [] (HP ly F G A97 B) Q := by
                intro nf
                induction nf with
                | zero => intros; omega
                | succ nf ih97B =>
                  intro p l2 A97 hA97 fa97 hp hb hm97
                  refine r_iload_n i_175_97 rfl ?_
                  refine r_lt0 (t := 148) i_175_98 (by decide) (by omega) (fun c_33 => ?_) (fun c_33 => ?_)
                  · skip
                    have hb1 : (dpo G A97).bD (fun _ _ => True) := DP.bD_D hb (fun p' r' h0 h1 hs => ⟨fun _ => trivial, fun _ => by omega⟩)
                    refine r_aload_n i_175_148 rfl ?_
                    have jn163 : ∀ (b : Int), (b = if G 90 38 = 0 then 0 else 1000000) → Re L xs 175 163 [(0, .ref 90), (1, V p), (2, V l2)] [V b, .ref 90] (HP ly F G A97 B) Q := by
                      intro b  hbb
                      refine r_putIQ i_175_163 (by decide +kernel) (hly 90 _ rfl) (fun G_34 eG_34 => ?_)
                      have hG_34 : GO G_34 := by rw [eG_34]; exact gu_90_57 hG (by omega) (by omega)
                      refine r_iconst i_175_166 ?_
                      refine r_istore_n (l' := [(0, .ref 90), (1, V 0), (2, V l2)]) i_175_167 (by decide +kernel) rfl ?_
                      have lp168B : ∀ (nf : Nat) (k : Int) (l2 : Int) (G168 : Nat → Nat → Int), (GO G168) → (∀ a k, ¬ ((a = 90 ∧ k = 57)) → G168 a k = G_34 a k) → (0 ≤ k ∧ k ≤ 8) → (G 90 38 = 0 → G168 90 57 = 0) → (0 < G 90 38 → G168 90 57 = mnf (fun k => (dpo G A97).ah (G 90 38 - 1) k (G 90 56)) (k).toNat) → (k = 0 ∨ (0 < G 90 38 ∧ 0 ≤ G 90 56 ∧ G 90 56 < 169)) → (8 - k).toNat < nf → Re L xs 175 168 [(0, .ref 90), (1, V k), (2, V l2)] [] (HP ly F G168 A97 B) Q := by
                        intro nf
                        induction nf with
                        | zero => intros; omega
                        | succ nf ih168B =>
                          intro k l2 G168 hG168 fg168 hk hbz hbm hk2 hm168
                          refine r_iload_n i_175_168 rfl ?_
                          refine r_bipush i_175_169 (by decide) ?_
                          refine r_cge (t := 244) i_175_171 (by decide) (by omega) (by omega) (fun c_35 => ?_) (fun c_35 => ?_)
                          · skip
                            exact r_vret i_175_244 rfl (K G168 A97 hG168 hA97 (by intro a k hh; rw [fg168 a k (by omega), eG_34, up2_n (by omega)]) (by intro a hh; rw [fa97 a (by omega), fa35 a (by omega), fa2 a (by omega)]) (by exact ⟨dpo_rg hA97, dpo_aD (by intro a k hh; rw [fg168 a k (by omega), eG_34, up2_n (by omega)]) (by intro a hh; rw [fa97 a (by omega)]) ha1, dpo_bD (by intro a k hh; rw [fg168 a k (by omega), eG_34, up2_n (by omega)]) (fun a h => rfl) hb1, bs_mk (by intro a k hh; rw [fg168 a k (by omega), eG_34, up2_n (by omega)]) hbz (fun hn t0 t1 => by first | (exfalso; omega) | (have hh := hbm hn; rw [show (k).toNat = 8 from (by omega)] at hh; exact hh)) (fun hn ht => by first | (exfalso; omega) | (have hh := hbm hn; rw [show (k).toNat = 0 from (by omega)] at hh; exact hh))⟩))
                          · skip
                            refine r_aload_n i_175_174 rfl ?_
                            refine r_getI i_175_175 rfl (hly 90 _ rfl) ?_
                            rw [show G168 90 38 = G 90 38 from by rw [fg168 90 38 (by omega), eG_34, up2_n (by omega)]]
                            refine r_le0 (t := 244) i_175_178 (by decide) (by omega) (fun c_36 => ?_) (fun c_36 => ?_)
                            · skip
                              exact r_vret i_175_244 rfl (K G168 A97 hG168 hA97 (by intro a k hh; rw [fg168 a k (by omega), eG_34, up2_n (by omega)]) (by intro a hh; rw [fa97 a (by omega), fa35 a (by omega), fa2 a (by omega)]) (by exact ⟨dpo_rg hA97, dpo_aD (by intro a k hh; rw [fg168 a k (by omega), eG_34, up2_n (by omega)]) (by intro a hh; rw [fa97 a (by omega)]) ha1, dpo_bD (by intro a k hh; rw [fg168 a k (by omega), eG_34, up2_n (by omega)]) (fun a h => rfl) hb1, bs_mk (by intro a k hh; rw [fg168 a k (by omega), eG_34, up2_n (by omega)]) hbz (fun hn t0 t1 => by first | (exfalso; omega) | (have hh := hbm hn; rw [show (k).toNat = 8 from (by omega)] at hh; exact hh)) (fun hn ht => by first | (exfalso; omega) | (have hh := hbm hn; rw [show (k).toNat = 0 from (by omega)] at hh; exact hh))⟩))
                            · skip
                              refine r_aload_n i_175_181 rfl ?_
                              refine r_getI i_175_182 rfl (hly 90 _ rfl) ?_
                              rw [show G168 90 56 = G 90 56 from by rw [fg168 90 56 (by omega), eG_34, up2_n (by omega)]]
                              have q_37 := g_90_56 hG
                              refine r_lt0 (t := 244) i_175_185 (by decide) (by omega) (fun c_38 => ?_) (fun c_38 => ?_)
                              · skip
                                exact r_vret i_175_244 rfl (K G168 A97 hG168 hA97 (by intro a k hh; rw [fg168 a k (by omega), eG_34, up2_n (by omega)]) (by intro a hh; rw [fa97 a (by omega), fa35 a (by omega), fa2 a (by omega)]) (by exact ⟨dpo_rg hA97, dpo_aD (by intro a k hh; rw [fg168 a k (by omega), eG_34, up2_n (by omega)]) (by intro a hh; rw [fa97 a (by omega)]) ha1, dpo_bD (by intro a k hh; rw [fg168 a k (by omega), eG_34, up2_n (by omega)]) (fun a h => rfl) hb1, bs_mk (by intro a k hh; rw [fg168 a k (by omega), eG_34, up2_n (by omega)]) hbz (fun hn t0 t1 => by first | (exfalso; omega) | (have hh := hbm hn; rw [show (k).toNat = 8 from (by omega)] at hh; exact hh)) (fun hn ht => by first | (exfalso; omega) | (have hh := hbm hn; rw [show (k).toNat = 0 from (by omega)] at hh; exact hh))⟩))
                              · skip
                                refine r_aload_n i_175_188 rfl ?_
                                refine r_getI i_175_189 rfl (hly 90 _ rfl) ?_
                                rw [show G168 90 56 = G 90 56 from by rw [fg168 90 56 (by omega), eG_34, up2_n (by omega)]]
                                refine r_sipush i_175_192 (by decide) ?_
                                refine r_cge (t := 244) i_175_195 (by decide) (by omega) (by omega) (fun c_39 => ?_) (fun c_39 => ?_)
                                · skip
                                  exact r_vret i_175_244 rfl (K G168 A97 hG168 hA97 (by intro a k hh; rw [fg168 a k (by omega), eG_34, up2_n (by omega)]) (by intro a hh; rw [fa97 a (by omega), fa35 a (by omega), fa2 a (by omega)]) (by exact ⟨dpo_rg hA97, dpo_aD (by intro a k hh; rw [fg168 a k (by omega), eG_34, up2_n (by omega)]) (by intro a hh; rw [fa97 a (by omega)]) ha1, dpo_bD (by intro a k hh; rw [fg168 a k (by omega), eG_34, up2_n (by omega)]) (fun a h => rfl) hb1, bs_mk (by intro a k hh; rw [fg168 a k (by omega), eG_34, up2_n (by omega)]) hbz (fun hn t0 t1 => by first | (exfalso; omega) | (have hh := hbm hn; rw [show (k).toNat = 8 from (by omega)] at hh; exact hh)) (fun hn ht => by first | (exfalso; omega) | (have hh := hbm hn; rw [show (k).toNat = 0 from (by omega)] at hh; exact hh))⟩))
                                · skip
                                  refine r_aload_n i_175_198 rfl ?_
                                  refine r_getF (v := .ref 128) i_175_199 rfl (hly 90 _ rfl) (hF.1 90 54 128 rfl) ?_
                                  refine r_aload_n i_175_202 rfl ?_
                                  refine r_getI i_175_203 rfl (hly 90 _ rfl) ?_
                                  rw [show G168 90 38 = G 90 38 from by rw [fg168 90 38 (by omega), eG_34, up2_n (by omega)]]
                                  refine r_iconst i_175_206 ?_
                                  refine r_isub i_175_207 ?_
                                  refine r_iload_n i_175_208 rfl ?_
                                  refine r_aload_n i_175_209 rfl ?_
                                  refine r_getI i_175_210 rfl (hly 90 _ rfl) ?_
                                  rw [show G168 90 56 = G 90 56 from by rw [fg168 90 56 (by omega), eG_34, up2_n (by omega)]]
                                  refine r_cS (as := [V (G 90 56), V k, V ((G 90 38) - 1)]) i_175_213 rfl (by decide +kernel) (Nat.le_of_ble_eq_true rfl) (Nat.le_of_ble_eq_true rfl) ?_
                                  refine c_180 (p := (G 90 38) - 1) (kind := k) (marks := G 90 56) hly hF hG168 hA97 (by omega) (by omega) (by omega) (fun r_40 p40_0 => ?_)
                                  show Re L xs 175 216 [(0, .ref 90), (1, V k), (2, V l2)] [V r_40, .ref 128] (HP ly F G168 A97 B) _
                                  refine r_iald i_175_216 (hly 128 _ rfl) (by omega) (by omega) (by omega) ?_
                                  rw [show A97 128 = A35 128 from by rw [fa97 128 (by omega)]]
                                  have q_41 := a_128 hA35 (r_40.toNat)
                                  refine r_istore_n (l' := [(0, .ref 90), (1, V k), (2, V (A35 128 (r_40.toNat)))]) i_175_217 (by decide +kernel) rfl ?_
                                  refine r_aload_n i_175_218 rfl ?_
                                  have jn235 : ∀ (v2 : Int), (v2 = if (A35 128 (r_40.toNat)) < G168 90 57 then (A35 128 (r_40.toNat)) else G168 90 57) → (0 ≤ v2 ∧ v2 ≤ 1000000) → Re L xs 175 235 [(0, .ref 90), (1, V k), (2, V (A35 128 (r_40.toNat)))] [V v2, .ref 90] (HP ly F G168 A97 B) Q := by
                                    intro v2  hv2 hv3
                                    refine r_putIQ i_175_235 (by decide +kernel) (hly 90 _ rfl) (fun G_42 eG_42 => ?_)
                                    have hG_42 : GO G_42 := by rw [eG_42]; exact gu_90_57 hG168 (by omega) (by omega)
                                    refine r_iinc (l' := [(0, .ref 90), (1, V (k + 1)), (2, V (A35 128 (r_40.toNat)))]) i_175_238 rfl (by decide +kernel) rfl ?_
                                    refine r_go (t := 168) i_175_241 (by decide) ?_
                                    exact ih168B (k + 1) (A35 128 (r_40.toNat)) G_42 hG_42 (by intro a k hh; rw [eG_42, up2_n (by omega), fg168 a k (by omega)]) (by omega) (by first | (intro hn; rw [show G_42 90 57 = v2 from by rw [eG_42, up2_s], hbb]; exact if_pos hn) | (intro hn; exfalso; omega)) (by first | (intro hn; rw [show G_42 90 57 = v2 from by rw [eG_42, up2_s], hbb]; exact if_neg (by omega)) | (intro hn; rw [show G_42 90 57 = v2 from by rw [eG_42, up2_s]]; exact mnf_st (by omega) (hbm hn) (by show A97 128 (((G 90 38 - 1) * 8 + k) * 169 + G 90 56).toNat = _; rw [← p40_0, show A97 128 = A35 128 from by rw [fa97 128 (by omega)]]) hv2)) (by omega) (by omega)
                                  refine r_iload_n i_175_219 rfl ?_
                                  refine r_aload_n i_175_220 rfl ?_
                                  refine r_getI i_175_221 rfl (hly 90 _ rfl) ?_
                                  have q_43 := g_90_57 hG168
                                  refine r_cge (t := 231) i_175_224 (by decide) (by omega) (by omega) (fun c_44 => ?_) (fun c_44 => ?_)
                                  · skip
                                    refine r_aload_n i_175_231 rfl ?_
                                    refine r_getI i_175_232 rfl (hly 90 _ rfl) ?_
                                    exact jn235 (G168 90 57)  (by first | rw [if_pos (by omega)] | rw [if_neg (by omega)]) (by omega)
                                  · skip
                                    refine r_iload_n i_175_227 rfl ?_
                                    refine r_go (t := 235) i_175_228 (by decide) ?_
                                    exact jn235 (A35 128 (r_40.toNat))  (by first | rw [if_pos (by omega)] | rw [if_neg (by omega)]) (by omega)
                      exact lp168B _ 0 l2 G_34 hG_34 (by intro a k hh; rfl) (by omega) (by first | (intro hn; rw [show G_34 90 57 = b from by rw [eG_34, up2_s], hbb]; exact if_pos hn) | (intro hn; exfalso; omega)) (by first | (intro hn; rw [show G_34 90 57 = b from by rw [eG_34, up2_s], hbb]; exact if_neg (by omega)) | (intro hn; rw [show G_34 90 57 = b from by rw [eG_34, up2_s]]; exact mnf_st (by omega) (hbm hn) (by show A97 128 (((G 90 38 - 1) * 8 + k) * 169 + G 90 56).toNat = _; rw [← zzp0, show A97 128 = A35 128 from by rw [fa97 128 (by omega)]]) hv2)) (by omega) (Nat.lt_succ_self _)
                    refine r_aload_n i_175_149 rfl ?_
                    refine r_getI i_175_150 rfl (hly 90 _ rfl) ?_
                    refine r_ne0 (t := 160) i_175_153 (by decide) (by omega) (fun c_45 => ?_) (fun c_45 => ?_)
                    · skip
                      refine r_ldcw (v := 1000000) i_175_160 (by decide) ?_
                      exact jn163 1000000  (by first | rw [if_pos (by omega)] | rw [if_neg (by omega)])
                    · skip
                      refine r_iconst i_175_156 ?_
                      refine r_go (t := 163) i_175_157 (by decide) ?_
                      exact jn163 0  (by first | rw [if_pos (by omega)] | rw [if_neg (by omega)])
                  · skip
                    have z122 := a_122 hA p.toNat
                    refine r_bipush i_175_101 (by decide) ?_
                    refine r_iload_n i_175_103 rfl ?_
                    refine r_imul i_175_104 ?_
                    refine r_istore_n (l' := [(0, .ref 90), (1, V p), (2, V (13 * p))]) i_175_105 (by decide +kernel) rfl ?_
                    have lp106B : ∀ (nf : Nat) (r : Int) (A106 : Nat → Nat → Int), (AQ A106) → (∀ a, ¬ (a = 129) → A106 a = A97 a) → (13 * p ≤ r ∧ r ≤ 13 * p + 13) → ((dpo G A106).bD (fun p' r' => p < p' ∨ (p' = p ∧ r' < r))) → (13 * p + 20 - r).toNat < nf → Re L xs 175 106 [(0, .ref 90), (1, V p), (2, V r)] [] (HP ly F G A106 B) Q := by
                      intro nf
                      induction nf with
                      | zero => intros; omega
                      | succ nf ih106B =>
                        intro r A106 hA106 fa106 hr hb2 hm106
                        refine r_iload_n i_175_106 rfl ?_
                        refine r_bipush i_175_107 (by decide) ?_
                        refine r_iload_n i_175_109 rfl ?_
                        refine r_imul i_175_110 ?_
                        refine r_aload_n i_175_111 rfl ?_
                        refine r_getF (v := .ref 122) i_175_112 rfl (hly 90 _ rfl) (hF.1 90 47 122 rfl) ?_
                        refine r_iload_n i_175_115 rfl ?_
                        refine r_iald i_175_116 (hly 122 _ rfl) (by omega) (by omega) (by omega) ?_
                        rw [show A106 122 = A 122 from by rw [fa106 122 (by omega), fa97 122 (by omega), fa35 122 (by omega), fa2 122 (by omega)]]
                        have q_46 := a_122 hA (p.toNat)
                        refine r_iadd i_175_117 ?_
                        refine r_cge (t := 142) i_175_118 (by decide) (by omega) (by omega) (fun c_47 => ?_) (fun c_47 => ?_)
                        · skip
                          refine r_iinc (l' := [(0, .ref 90), (1, V (p + (-1))), (2, V r)]) i_175_142 rfl (by decide +kernel) rfl ?_
                          refine r_go (t := 97) i_175_145 (by decide) ?_
                          exact ih97B (p + (-1)) r A106 hA106 (by intro a hh; rw [fa106 a (by omega), fa97 a (by omega)]) (by omega) (by first | exact bD_nul hn9b (by omega) (fun p r h0 hs hd => by omega) | exact bD_nx hb2 (by rw [show A106 122 = A 122 from by rw [fa106 122 (by omega), fa97 122 (by omega), fa35 122 (by omega), fa2 122 (by omega)]]; omega)) (by omega)
                        · skip
                          have jn136 : ∀ (A136 : Nat → Nat → Int), (AQ A136) → (∀ a, ¬ (a = 129) → A136 a = A106 a) → ((dpo G A136).bD (fun p' r' => p < p' ∨ (p' = p ∧ r' < r + 1))) → Re L xs 175 136 [(0, .ref 90), (1, V p), (2, V r)] [] (HP ly F G A136 B) Q := by
                            intro A136 hA136 fa136 hb3
                            refine r_iinc (l' := [(0, .ref 90), (1, V p), (2, V (r + 1))]) i_175_136 rfl (by decide +kernel) rfl ?_
                            refine r_go (t := 106) i_175_139 (by decide) ?_
                            exact ih106B (r + 1) A136 hA136 (by intro a hh; rw [fa136 a (by omega), fa106 a (by omega)]) (by omega) (by first | exact hb3 | exact bD_fs hb) (by omega)
                          refine r_aload_n i_175_121 rfl ?_
                          refine r_iload_n i_175_122 rfl ?_
                          refine r_iload_n i_175_123 rfl ?_
                          refine r_cV (as := [V r, V p]) i_175_124 rfl (by decide +kernel) (Nat.le_of_ble_eq_true rfl) (Nat.le_of_ble_eq_true rfl) (hly 90 _ rfl) rfl ?_
                          have q_48 := g_90_58 hG
                          have q_49 := g_90_59 hG
                          refine c_176 (p := p) (r0 := r) hly hF hG hA106 (by omega) (by omega) (by omega) (by omega) (fun r_50 p50_0 p50_1 => ?_)
                          show Re L xs 175 127 [(0, .ref 90), (1, V p), (2, V r)] [V r_50] (HP ly F G A106 B) _
                          refine r_eq0 (t := 136) i_175_127 (by decide) (by omega) (fun c_51 => ?_) (fun c_51 => ?_)
                          · skip
                            exact jn136 A106 hA106 (by intro a hh; rfl) (by first | exact bD_ct hzzA hb2 (by omega) (by omega) (by omega) (by rw [show zzA 122 = A 122 from by fail]; omega) (by fail) zzp0 | exact bD_sk hb2 (by omega))
                          · skip
                            refine r_aload_n i_175_130 rfl ?_
                            refine r_iload_n i_175_131 rfl ?_
                            refine r_iload_n i_175_132 rfl ?_
                            refine r_cV (as := [V r, V p]) i_175_133 rfl (by decide +kernel) (Nat.le_of_ble_eq_true rfl) (Nat.le_of_ble_eq_true rfl) (hly 90 _ rfl) rfl ?_
                            refine c_182 (p := p) (r0 := r) hly hF hG hA106 (by omega) (by omega) (by omega) (by omega) (fun A_52 hA_52 fa52 p52_0 => ?_)
                            show Re L xs 175 136 [(0, .ref 90), (1, V p), (2, V r)] [] (HP ly F G A_52 B) _
                            exact jn136 A_52 hA_52 (by intro a hh; rw [fa52 a (by omega)]) (by first | exact bD_ct hA106 hb2 (by omega) (by omega) (by omega) (by rw [show A106 122 = A 122 from by rw [fa106 122 (by omega), fa97 122 (by omega), fa35 122 (by omega), fa2 122 (by omega)]]; omega) (by intro a hh; rw [fa52 a (by omega)]) p52_0 | exact bD_sk hb2 (by omega))
                    exact lp106B _ (13 * p) A97 hA97 (by intro a hh; rfl) (by omega) (by first | exact hb3 | exact bD_fs hb) (Nat.lt_succ_self _)
              have lp97A1 : ∀ (nf : Nat) (p : Int) (A97 : Nat → Nat → Int), (AQ A97) → (∀ a, ¬ (a = 129) → A97 a = A35 a) → (-1 ≤ p ∧ p < G 90 38) → ((dpo G A97).bD (fun p' r' => p < p')) → (p + 1).toNat < nf → Re L xs 175 97 [(0, .ref 90), (1, V p)] [] (HP ly F G A97 B) Q := by
                intro nf
                induction nf with
                | zero => intros; omega
                | succ nf ih97A1 =>
                  intro p A97 hA97 fa97 hp hb hm97
                  refine r_iload_n i_175_97 rfl ?_
                  refine r_lt0 (t := 148) i_175_98 (by decide) (by omega) (fun c_53 => ?_) (fun c_53 => ?_)
                  · skip
                    have hb1 : (dpo G A97).bD (fun _ _ => True) := DP.bD_D hb (fun p' r' h0 h1 hs => ⟨fun _ => trivial, fun _ => by omega⟩)
                    refine r_aload_n i_175_148 rfl ?_
                    have jn163 : ∀ (b : Int), (b = if G 90 38 = 0 then 0 else 1000000) → Re L xs 175 163 [(0, .ref 90), (1, V p)] [V b, .ref 90] (HP ly F G A97 B) Q := by
                      intro b  hbb
                      refine r_putIQ i_175_163 (by decide +kernel) (hly 90 _ rfl) (fun G_54 eG_54 => ?_)
                      have hG_54 : GO G_54 := by rw [eG_54]; exact gu_90_57 hG (by omega) (by omega)
                      refine r_iconst i_175_166 ?_
                      refine r_istore_n (l' := [(0, .ref 90), (1, V 0)]) i_175_167 (by decide +kernel) rfl ?_
                      have lp168B : ∀ (nf : Nat) (k : Int) (l2 : Int) (G168 : Nat → Nat → Int), (GO G168) → (∀ a k, ¬ ((a = 90 ∧ k = 57)) → G168 a k = G_54 a k) → (0 ≤ k ∧ k ≤ 8) → (G 90 38 = 0 → G168 90 57 = 0) → (0 < G 90 38 → G168 90 57 = mnf (fun k => (dpo G A97).ah (G 90 38 - 1) k (G 90 56)) (k).toNat) → (k = 0 ∨ (0 < G 90 38 ∧ 0 ≤ G 90 56 ∧ G 90 56 < 169)) → (8 - k).toNat < nf → Re L xs 175 168 [(0, .ref 90), (1, V k), (2, V l2)] [] (HP ly F G168 A97 B) Q := by
                        intro nf
                        induction nf with
                        | zero => intros; omega
                        | succ nf ih168B =>
                          intro k l2 G168 hG168 fg168 hk hbz hbm hk2 hm168
                          refine r_iload_n i_175_168 rfl ?_
                          refine r_bipush i_175_169 (by decide) ?_
                          refine r_cge (t := 244) i_175_171 (by decide) (by omega) (by omega) (fun c_55 => ?_) (fun c_55 => ?_)
                          · skip
                            exact r_vret i_175_244 rfl (K G168 A97 hG168 hA97 (by intro a k hh; rw [fg168 a k (by omega), eG_54, up2_n (by omega)]) (by intro a hh; rw [fa97 a (by omega), fa35 a (by omega), fa2 a (by omega)]) (by exact ⟨dpo_rg hA97, dpo_aD (by intro a k hh; rw [fg168 a k (by omega), eG_54, up2_n (by omega)]) (by intro a hh; rw [fa97 a (by omega)]) ha1, dpo_bD (by intro a k hh; rw [fg168 a k (by omega), eG_54, up2_n (by omega)]) (fun a h => rfl) hb1, bs_mk (by intro a k hh; rw [fg168 a k (by omega), eG_54, up2_n (by omega)]) hbz (fun hn t0 t1 => by first | (exfalso; omega) | (have hh := hbm hn; rw [show (k).toNat = 8 from (by omega)] at hh; exact hh)) (fun hn ht => by first | (exfalso; omega) | (have hh := hbm hn; rw [show (k).toNat = 0 from (by omega)] at hh; exact hh))⟩))
                          · skip
                            refine r_aload_n i_175_174 rfl ?_
                            refine r_getI i_175_175 rfl (hly 90 _ rfl) ?_
                            rw [show G168 90 38 = G 90 38 from by rw [fg168 90 38 (by omega), eG_54, up2_n (by omega)]]
                            refine r_le0 (t := 244) i_175_178 (by decide) (by omega) (fun c_56 => ?_) (fun c_56 => ?_)
                            · skip
                              exact r_vret i_175_244 rfl (K G168 A97 hG168 hA97 (by intro a k hh; rw [fg168 a k (by omega), eG_54, up2_n (by omega)]) (by intro a hh; rw [fa97 a (by omega), fa35 a (by omega), fa2 a (by omega)]) (by exact ⟨dpo_rg hA97, dpo_aD (by intro a k hh; rw [fg168 a k (by omega), eG_54, up2_n (by omega)]) (by intro a hh; rw [fa97 a (by omega)]) ha1, dpo_bD (by intro a k hh; rw [fg168 a k (by omega), eG_54, up2_n (by omega)]) (fun a h => rfl) hb1, bs_mk (by intro a k hh; rw [fg168 a k (by omega), eG_54, up2_n (by omega)]) hbz (fun hn t0 t1 => by first | (exfalso; omega) | (have hh := hbm hn; rw [show (k).toNat = 8 from (by omega)] at hh; exact hh)) (fun hn ht => by first | (exfalso; omega) | (have hh := hbm hn; rw [show (k).toNat = 0 from (by omega)] at hh; exact hh))⟩))
                            · skip
                              refine r_aload_n i_175_181 rfl ?_
                              refine r_getI i_175_182 rfl (hly 90 _ rfl) ?_
                              rw [show G168 90 56 = G 90 56 from by rw [fg168 90 56 (by omega), eG_54, up2_n (by omega)]]
                              have q_57 := g_90_56 hG
                              refine r_lt0 (t := 244) i_175_185 (by decide) (by omega) (fun c_58 => ?_) (fun c_58 => ?_)
                              · skip
                                exact r_vret i_175_244 rfl (K G168 A97 hG168 hA97 (by intro a k hh; rw [fg168 a k (by omega), eG_54, up2_n (by omega)]) (by intro a hh; rw [fa97 a (by omega), fa35 a (by omega), fa2 a (by omega)]) (by exact ⟨dpo_rg hA97, dpo_aD (by intro a k hh; rw [fg168 a k (by omega), eG_54, up2_n (by omega)]) (by intro a hh; rw [fa97 a (by omega)]) ha1, dpo_bD (by intro a k hh; rw [fg168 a k (by omega), eG_54, up2_n (by omega)]) (fun a h => rfl) hb1, bs_mk (by intro a k hh; rw [fg168 a k (by omega), eG_54, up2_n (by omega)]) hbz (fun hn t0 t1 => by first | (exfalso; omega) | (have hh := hbm hn; rw [show (k).toNat = 8 from (by omega)] at hh; exact hh)) (fun hn ht => by first | (exfalso; omega) | (have hh := hbm hn; rw [show (k).toNat = 0 from (by omega)] at hh; exact hh))⟩))
                              · skip
                                refine r_aload_n i_175_188 rfl ?_
                                refine r_getI i_175_189 rfl (hly 90 _ rfl) ?_
                                rw [show G168 90 56 = G 90 56 from by rw [fg168 90 56 (by omega), eG_54, up2_n (by omega)]]
                                refine r_sipush i_175_192 (by decide) ?_
                                refine r_cge (t := 244) i_175_195 (by decide) (by omega) (by omega) (fun c_59 => ?_) (fun c_59 => ?_)
                                · skip
                                  exact r_vret i_175_244 rfl (K G168 A97 hG168 hA97 (by intro a k hh; rw [fg168 a k (by omega), eG_54, up2_n (by omega)]) (by intro a hh; rw [fa97 a (by omega), fa35 a (by omega), fa2 a (by omega)]) (by exact ⟨dpo_rg hA97, dpo_aD (by intro a k hh; rw [fg168 a k (by omega), eG_54, up2_n (by omega)]) (by intro a hh; rw [fa97 a (by omega)]) ha1, dpo_bD (by intro a k hh; rw [fg168 a k (by omega), eG_54, up2_n (by omega)]) (fun a h => rfl) hb1, bs_mk (by intro a k hh; rw [fg168 a k (by omega), eG_54, up2_n (by omega)]) hbz (fun hn t0 t1 => by first | (exfalso; omega) | (have hh := hbm hn; rw [show (k).toNat = 8 from (by omega)] at hh; exact hh)) (fun hn ht => by first | (exfalso; omega) | (have hh := hbm hn; rw [show (k).toNat = 0 from (by omega)] at hh; exact hh))⟩))
                                · skip
                                  refine r_aload_n i_175_198 rfl ?_
                                  refine r_getF (v := .ref 128) i_175_199 rfl (hly 90 _ rfl) (hF.1 90 54 128 rfl) ?_
                                  refine r_aload_n i_175_202 rfl ?_
                                  refine r_getI i_175_203 rfl (hly 90 _ rfl) ?_
                                  rw [show G168 90 38 = G 90 38 from by rw [fg168 90 38 (by omega), eG_54, up2_n (by omega)]]
                                  refine r_iconst i_175_206 ?_
                                  refine r_isub i_175_207 ?_
                                  refine r_iload_n i_175_208 rfl ?_
                                  refine r_aload_n i_175_209 rfl ?_
                                  refine r_getI i_175_210 rfl (hly 90 _ rfl) ?_
                                  rw [show G168 90 56 = G 90 56 from by rw [fg168 90 56 (by omega), eG_54, up2_n (by omega)]]
                                  refine r_cS (as := [V (G 90 56), V k, V ((G 90 38) - 1)]) i_175_213 rfl (by decide +kernel) (Nat.le_of_ble_eq_true rfl) (Nat.le_of_ble_eq_true rfl) ?_
                                  refine c_180 (p := (G 90 38) - 1) (kind := k) (marks := G 90 56) hly hF hG168 hA97 (by omega) (by omega) (by omega) (fun r_60 p60_0 => ?_)
                                  show Re L xs 175 216 [(0, .ref 90), (1, V k), (2, V l2)] [V r_60, .ref 128] (HP ly F G168 A97 B) _
                                  refine r_iald i_175_216 (hly 128 _ rfl) (by omega) (by omega) (by omega) ?_
                                  rw [show A97 128 = A35 128 from by rw [fa97 128 (by omega)]]
                                  have q_61 := a_128 hA35 (r_60.toNat)
                                  refine r_istore_n (l' := [(0, .ref 90), (1, V k), (2, V (A35 128 (r_60.toNat)))]) i_175_217 (by decide +kernel) rfl ?_
                                  refine r_aload_n i_175_218 rfl ?_
                                  have jn235 : ∀ (v2 : Int), (v2 = if (A35 128 (r_60.toNat)) < G168 90 57 then (A35 128 (r_60.toNat)) else G168 90 57) → (0 ≤ v2 ∧ v2 ≤ 1000000) → Re L xs 175 235 [(0, .ref 90), (1, V k), (2, V (A35 128 (r_60.toNat)))] [V v2, .ref 90] (HP ly F G168 A97 B) Q := by
                                    intro v2  hv2 hv3
                                    refine r_putIQ i_175_235 (by decide +kernel) (hly 90 _ rfl) (fun G_62 eG_62 => ?_)
                                    have hG_62 : GO G_62 := by rw [eG_62]; exact gu_90_57 hG168 (by omega) (by omega)
                                    refine r_iinc (l' := [(0, .ref 90), (1, V (k + 1)), (2, V (A35 128 (r_60.toNat)))]) i_175_238 rfl (by decide +kernel) rfl ?_
                                    refine r_go (t := 168) i_175_241 (by decide) ?_
                                    exact ih168B (k + 1) (A35 128 (r_60.toNat)) G_62 hG_62 (by intro a k hh; rw [eG_62, up2_n (by omega), fg168 a k (by omega)]) (by omega) (by first | (intro hn; rw [show G_62 90 57 = v2 from by rw [eG_62, up2_s], hbb]; exact if_pos hn) | (intro hn; exfalso; omega)) (by first | (intro hn; rw [show G_62 90 57 = v2 from by rw [eG_62, up2_s], hbb]; exact if_neg (by omega)) | (intro hn; rw [show G_62 90 57 = v2 from by rw [eG_62, up2_s]]; exact mnf_st (by omega) (hbm hn) (by show A97 128 (((G 90 38 - 1) * 8 + k) * 169 + G 90 56).toNat = _; rw [← p60_0, show A97 128 = A35 128 from by rw [fa97 128 (by omega)]]) hv2)) (by omega) (by omega)
                                  refine r_iload_n i_175_219 rfl ?_
                                  refine r_aload_n i_175_220 rfl ?_
                                  refine r_getI i_175_221 rfl (hly 90 _ rfl) ?_
                                  have q_63 := g_90_57 hG168
                                  refine r_cge (t := 231) i_175_224 (by decide) (by omega) (by omega) (fun c_64 => ?_) (fun c_64 => ?_)
                                  · skip
                                    refine r_aload_n i_175_231 rfl ?_
                                    refine r_getI i_175_232 rfl (hly 90 _ rfl) ?_
                                    exact jn235 (G168 90 57)  (by first | rw [if_pos (by omega)] | rw [if_neg (by omega)]) (by omega)
                                  · skip
                                    refine r_iload_n i_175_227 rfl ?_
                                    refine r_go (t := 235) i_175_228 (by decide) ?_
                                    exact jn235 (A35 128 (r_60.toNat))  (by first | rw [if_pos (by omega)] | rw [if_neg (by omega)]) (by omega)
                      have lp168A1 : ∀ (nf : Nat) (k : Int) (G168 : Nat → Nat → Int), (GO G168) → (∀ a k, ¬ ((a = 90 ∧ k = 57)) → G168 a k = G_54 a k) → (0 ≤ k ∧ k ≤ 8) → (G 90 38 = 0 → G168 90 57 = 0) → (0 < G 90 38 → G168 90 57 = mnf (fun k => (dpo G A97).ah (G 90 38 - 1) k (G 90 56)) (k).toNat) → (k = 0 ∨ (0 < G 90 38 ∧ 0 ≤ G 90 56 ∧ G 90 56 < 169)) → (8 - k).toNat < nf → Re L xs 175 168 [(0, .ref 90), (1, V k)] [] (HP ly F G168 A97 B) Q := by
                        intro nf
                        induction nf with
                        | zero => intros; omega
                        | succ nf ih168A1 =>
                          intro k G168 hG168 fg168 hk hbz hbm hk2 hm168
                          refine r_iload_n i_175_168 rfl ?_
                          refine r_bipush i_175_169 (by decide) ?_
                          refine r_cge (t := 244) i_175_171 (by decide) (by omega) (by omega) (fun c_65 => ?_) (fun c_65 => ?_)
                          · skip
                            exact r_vret i_175_244 rfl (K G168 A97 hG168 hA97 (by intro a k hh; rw [fg168 a k (by omega), eG_54, up2_n (by omega)]) (by intro a hh; rw [fa97 a (by omega), fa35 a (by omega), fa2 a (by omega)]) (by exact ⟨dpo_rg hA97, dpo_aD (by intro a k hh; rw [fg168 a k (by omega), eG_54, up2_n (by omega)]) (by intro a hh; rw [fa97 a (by omega)]) ha1, dpo_bD (by intro a k hh; rw [fg168 a k (by omega), eG_54, up2_n (by omega)]) (fun a h => rfl) hb1, bs_mk (by intro a k hh; rw [fg168 a k (by omega), eG_54, up2_n (by omega)]) hbz (fun hn t0 t1 => by first | (exfalso; omega) | (have hh := hbm hn; rw [show (k).toNat = 8 from (by omega)] at hh; exact hh)) (fun hn ht => by first | (exfalso; omega) | (have hh := hbm hn; rw [show (k).toNat = 0 from (by omega)] at hh; exact hh))⟩))
                          · skip
                            refine r_aload_n i_175_174 rfl ?_
                            refine r_getI i_175_175 rfl (hly 90 _ rfl) ?_
                            rw [show G168 90 38 = G 90 38 from by rw [fg168 90 38 (by omega), eG_54, up2_n (by omega)]]
                            refine r_le0 (t := 244) i_175_178 (by decide) (by omega) (fun c_66 => ?_) (fun c_66 => ?_)
                            · skip
                              exact r_vret i_175_244 rfl (K G168 A97 hG168 hA97 (by intro a k hh; rw [fg168 a k (by omega), eG_54, up2_n (by omega)]) (by intro a hh; rw [fa97 a (by omega), fa35 a (by omega), fa2 a (by omega)]) (by exact ⟨dpo_rg hA97, dpo_aD (by intro a k hh; rw [fg168 a k (by omega), eG_54, up2_n (by omega)]) (by intro a hh; rw [fa97 a (by omega)]) ha1, dpo_bD (by intro a k hh; rw [fg168 a k (by omega), eG_54, up2_n (by omega)]) (fun a h => rfl) hb1, bs_mk (by intro a k hh; rw [fg168 a k (by omega), eG_54, up2_n (by omega)]) hbz (fun hn t0 t1 => by first | (exfalso; omega) | (have hh := hbm hn; rw [show (k).toNat = 8 from (by omega)] at hh; exact hh)) (fun hn ht => by first | (exfalso; omega) | (have hh := hbm hn; rw [show (k).toNat = 0 from (by omega)] at hh; exact hh))⟩))
                            · skip
                              refine r_aload_n i_175_181 rfl ?_
                              refine r_getI i_175_182 rfl (hly 90 _ rfl) ?_
                              rw [show G168 90 56 = G 90 56 from by rw [fg168 90 56 (by omega), eG_54, up2_n (by omega)]]
                              have q_67 := g_90_56 hG
                              refine r_lt0 (t := 244) i_175_185 (by decide) (by omega) (fun c_68 => ?_) (fun c_68 => ?_)
                              · skip
                                exact r_vret i_175_244 rfl (K G168 A97 hG168 hA97 (by intro a k hh; rw [fg168 a k (by omega), eG_54, up2_n (by omega)]) (by intro a hh; rw [fa97 a (by omega), fa35 a (by omega), fa2 a (by omega)]) (by exact ⟨dpo_rg hA97, dpo_aD (by intro a k hh; rw [fg168 a k (by omega), eG_54, up2_n (by omega)]) (by intro a hh; rw [fa97 a (by omega)]) ha1, dpo_bD (by intro a k hh; rw [fg168 a k (by omega), eG_54, up2_n (by omega)]) (fun a h => rfl) hb1, bs_mk (by intro a k hh; rw [fg168 a k (by omega), eG_54, up2_n (by omega)]) hbz (fun hn t0 t1 => by first | (exfalso; omega) | (have hh := hbm hn; rw [show (k).toNat = 8 from (by omega)] at hh; exact hh)) (fun hn ht => by first | (exfalso; omega) | (have hh := hbm hn; rw [show (k).toNat = 0 from (by omega)] at hh; exact hh))⟩))
                              · skip
                                refine r_aload_n i_175_188 rfl ?_
                                refine r_getI i_175_189 rfl (hly 90 _ rfl) ?_
                                rw [show G168 90 56 = G 90 56 from by rw [fg168 90 56 (by omega), eG_54, up2_n (by omega)]]
                                refine r_sipush i_175_192 (by decide) ?_
                                refine r_cge (t := 244) i_175_195 (by decide) (by omega) (by omega) (fun c_69 => ?_) (fun c_69 => ?_)
                                · skip
                                  exact r_vret i_175_244 rfl (K G168 A97 hG168 hA97 (by intro a k hh; rw [fg168 a k (by omega), eG_54, up2_n (by omega)]) (by intro a hh; rw [fa97 a (by omega), fa35 a (by omega), fa2 a (by omega)]) (by exact ⟨dpo_rg hA97, dpo_aD (by intro a k hh; rw [fg168 a k (by omega), eG_54, up2_n (by omega)]) (by intro a hh; rw [fa97 a (by omega)]) ha1, dpo_bD (by intro a k hh; rw [fg168 a k (by omega), eG_54, up2_n (by omega)]) (fun a h => rfl) hb1, bs_mk (by intro a k hh; rw [fg168 a k (by omega), eG_54, up2_n (by omega)]) hbz (fun hn t0 t1 => by first | (exfalso; omega) | (have hh := hbm hn; rw [show (k).toNat = 8 from (by omega)] at hh; exact hh)) (fun hn ht => by first | (exfalso; omega) | (have hh := hbm hn; rw [show (k).toNat = 0 from (by omega)] at hh; exact hh))⟩))
                                · skip
                                  refine r_aload_n i_175_198 rfl ?_
                                  refine r_getF (v := .ref 128) i_175_199 rfl (hly 90 _ rfl) (hF.1 90 54 128 rfl) ?_
                                  refine r_aload_n i_175_202 rfl ?_
                                  refine r_getI i_175_203 rfl (hly 90 _ rfl) ?_
                                  rw [show G168 90 38 = G 90 38 from by rw [fg168 90 38 (by omega), eG_54, up2_n (by omega)]]
                                  refine r_iconst i_175_206 ?_
                                  refine r_isub i_175_207 ?_
                                  refine r_iload_n i_175_208 rfl ?_
                                  refine r_aload_n i_175_209 rfl ?_
                                  refine r_getI i_175_210 rfl (hly 90 _ rfl) ?_
                                  rw [show G168 90 56 = G 90 56 from by rw [fg168 90 56 (by omega), eG_54, up2_n (by omega)]]
                                  refine r_cS (as := [V (G 90 56), V k, V ((G 90 38) - 1)]) i_175_213 rfl (by decide +kernel) (Nat.le_of_ble_eq_true rfl) (Nat.le_of_ble_eq_true rfl) ?_
                                  refine c_180 (p := (G 90 38) - 1) (kind := k) (marks := G 90 56) hly hF hG168 hA97 (by omega) (by omega) (by omega) (fun r_70 p70_0 => ?_)
                                  show Re L xs 175 216 [(0, .ref 90), (1, V k)] [V r_70, .ref 128] (HP ly F G168 A97 B) _
                                  refine r_iald i_175_216 (hly 128 _ rfl) (by omega) (by omega) (by omega) ?_
                                  rw [show A97 128 = A35 128 from by rw [fa97 128 (by omega)]]
                                  have q_71 := a_128 hA35 (r_70.toNat)
                                  refine r_istore_n (l' := [(0, .ref 90), (1, V k), (2, V (A35 128 (r_70.toNat)))]) i_175_217 (by decide +kernel) rfl ?_
                                  refine r_aload_n i_175_218 rfl ?_
                                  have jn235 : ∀ (v2 : Int), (v2 = if (A35 128 (r_70.toNat)) < G168 90 57 then (A35 128 (r_70.toNat)) else G168 90 57) → (0 ≤ v2 ∧ v2 ≤ 1000000) → Re L xs 175 235 [(0, .ref 90), (1, V k), (2, V (A35 128 (r_70.toNat)))] [V v2, .ref 90] (HP ly F G168 A97 B) Q := by
                                    intro v2  hv2 hv3
                                    refine r_putIQ i_175_235 (by decide +kernel) (hly 90 _ rfl) (fun G_72 eG_72 => ?_)
                                    have hG_72 : GO G_72 := by rw [eG_72]; exact gu_90_57 hG168 (by omega) (by omega)
                                    refine r_iinc (l' := [(0, .ref 90), (1, V (k + 1)), (2, V (A35 128 (r_70.toNat)))]) i_175_238 rfl (by decide +kernel) rfl ?_
                                    refine r_go (t := 168) i_175_241 (by decide) ?_
                                    exact lp168B _ (k + 1) (A35 128 (r_70.toNat)) G_72 hG_72 (by intro a k hh; rw [eG_72, up2_n (by omega), fg168 a k (by omega)]) (by omega) (by first | (intro hn; rw [show G_72 90 57 = v2 from by rw [eG_72, up2_s], hbb]; exact if_pos hn) | (intro hn; exfalso; omega)) (by first | (intro hn; rw [show G_72 90 57 = v2 from by rw [eG_72, up2_s], hbb]; exact if_neg (by omega)) | (intro hn; rw [show G_72 90 57 = v2 from by rw [eG_72, up2_s]]; exact mnf_st (by omega) (hbm hn) (by show A97 128 (((G 90 38 - 1) * 8 + k) * 169 + G 90 56).toNat = _; rw [← p70_0, show A97 128 = A35 128 from by rw [fa97 128 (by omega)]]) hv2)) (by omega) (Nat.lt_succ_self _)
                                  refine r_iload_n i_175_219 rfl ?_
                                  refine r_aload_n i_175_220 rfl ?_
                                  refine r_getI i_175_221 rfl (hly 90 _ rfl) ?_
                                  have q_73 := g_90_57 hG168
                                  refine r_cge (t := 231) i_175_224 (by decide) (by omega) (by omega) (fun c_74 => ?_) (fun c_74 => ?_)
                                  · skip
                                    refine r_aload_n i_175_231 rfl ?_
                                    refine r_getI i_175_232 rfl (hly 90 _ rfl) ?_
                                    exact jn235 (G168 90 57)  (by first | rw [if_pos (by omega)] | rw [if_neg (by omega)]) (by omega)
                                  · skip
                                    refine r_iload_n i_175_227 rfl ?_
                                    refine r_go (t := 235) i_175_228 (by decide) ?_
                                    exact jn235 (A35 128 (r_70.toNat))  (by first | rw [if_pos (by omega)] | rw [if_neg (by omega)]) (by omega)
                      exact lp168A1 _ 0 G_54 hG_54 (by intro a k hh; rfl) (by omega) (by first | (intro hn; rw [show G_54 90 57 = b from by rw [eG_54, up2_s], hbb]; exact if_pos hn) | (intro hn; exfalso; omega)) (by first | (intro hn; rw [show G_54 90 57 = b from by rw [eG_54, up2_s], hbb]; exact if_neg (by omega)) | (intro hn; rw [show G_54 90 57 = b from by rw [eG_54, up2_s]]; exact mnf_st (by omega) (hbm hn) (by show A97 128 (((G 90 38 - 1) * 8 + k) * 169 + G 90 56).toNat = _; rw [← zzp0, show A97 128 = A35 128 from by rw [fa97 128 (by omega)]]) hv2)) (by omega) (Nat.lt_succ_self _)
                    refine r_aload_n i_175_149 rfl ?_
                    refine r_getI i_175_150 rfl (hly 90 _ rfl) ?_
                    refine r_ne0 (t := 160) i_175_153 (by decide) (by omega) (fun c_75 => ?_) (fun c_75 => ?_)
                    · skip
                      refine r_ldcw (v := 1000000) i_175_160 (by decide) ?_
                      exact jn163 1000000  (by first | rw [if_pos (by omega)] | rw [if_neg (by omega)])
                    · skip
                      refine r_iconst i_175_156 ?_
                      refine r_go (t := 163) i_175_157 (by decide) ?_
                      exact jn163 0  (by first | rw [if_pos (by omega)] | rw [if_neg (by omega)])
                  · skip
                    have z122 := a_122 hA p.toNat
                    refine r_bipush i_175_101 (by decide) ?_
                    refine r_iload_n i_175_103 rfl ?_
                    refine r_imul i_175_104 ?_
                    refine r_istore_n (l' := [(0, .ref 90), (1, V p), (2, V (13 * p))]) i_175_105 (by decide +kernel) rfl ?_
                    have lp106B : ∀ (nf : Nat) (r : Int) (A106 : Nat → Nat → Int), (AQ A106) → (∀ a, ¬ (a = 129) → A106 a = A97 a) → (13 * p ≤ r ∧ r ≤ 13 * p + 13) → ((dpo G A106).bD (fun p' r' => p < p' ∨ (p' = p ∧ r' < r))) → (13 * p + 20 - r).toNat < nf → Re L xs 175 106 [(0, .ref 90), (1, V p), (2, V r)] [] (HP ly F G A106 B) Q := by
                      intro nf
                      induction nf with
                      | zero => intros; omega
                      | succ nf ih106B =>
                        intro r A106 hA106 fa106 hr hb2 hm106
                        refine r_iload_n i_175_106 rfl ?_
                        refine r_bipush i_175_107 (by decide) ?_
                        refine r_iload_n i_175_109 rfl ?_
                        refine r_imul i_175_110 ?_
                        refine r_aload_n i_175_111 rfl ?_
                        refine r_getF (v := .ref 122) i_175_112 rfl (hly 90 _ rfl) (hF.1 90 47 122 rfl) ?_
                        refine r_iload_n i_175_115 rfl ?_
                        refine r_iald i_175_116 (hly 122 _ rfl) (by omega) (by omega) (by omega) ?_
                        rw [show A106 122 = A 122 from by rw [fa106 122 (by omega), fa97 122 (by omega), fa35 122 (by omega), fa2 122 (by omega)]]
                        have q_76 := a_122 hA (p.toNat)
                        refine r_iadd i_175_117 ?_
                        refine r_cge (t := 142) i_175_118 (by decide) (by omega) (by omega) (fun c_77 => ?_) (fun c_77 => ?_)
                        · skip
                          refine r_iinc (l' := [(0, .ref 90), (1, V (p + (-1))), (2, V r)]) i_175_142 rfl (by decide +kernel) rfl ?_
                          refine r_go (t := 97) i_175_145 (by decide) ?_
                          exact lp97B _ (p + (-1)) r A106 hA106 (by intro a hh; rw [fa106 a (by omega), fa97 a (by omega)]) (by omega) (by first | exact bD_nul hn9b (by omega) (fun p r h0 hs hd => by omega) | exact bD_nx hb2 (by rw [show A106 122 = A 122 from by rw [fa106 122 (by omega), fa97 122 (by omega), fa35 122 (by omega), fa2 122 (by omega)]]; omega)) (Nat.lt_succ_self _)
                        · skip
                          have jn136 : ∀ (A136 : Nat → Nat → Int), (AQ A136) → (∀ a, ¬ (a = 129) → A136 a = A106 a) → ((dpo G A136).bD (fun p' r' => p < p' ∨ (p' = p ∧ r' < r + 1))) → Re L xs 175 136 [(0, .ref 90), (1, V p), (2, V r)] [] (HP ly F G A136 B) Q := by
                            intro A136 hA136 fa136 hb3
                            refine r_iinc (l' := [(0, .ref 90), (1, V p), (2, V (r + 1))]) i_175_136 rfl (by decide +kernel) rfl ?_
                            refine r_go (t := 106) i_175_139 (by decide) ?_
                            exact ih106B (r + 1) A136 hA136 (by intro a hh; rw [fa136 a (by omega), fa106 a (by omega)]) (by omega) (by first | exact hb3 | exact bD_fs hb) (by omega)
                          refine r_aload_n i_175_121 rfl ?_
                          refine r_iload_n i_175_122 rfl ?_
                          refine r_iload_n i_175_123 rfl ?_
                          refine r_cV (as := [V r, V p]) i_175_124 rfl (by decide +kernel) (Nat.le_of_ble_eq_true rfl) (Nat.le_of_ble_eq_true rfl) (hly 90 _ rfl) rfl ?_
                          have q_78 := g_90_58 hG
                          have q_79 := g_90_59 hG
                          refine c_176 (p := p) (r0 := r) hly hF hG hA106 (by omega) (by omega) (by omega) (by omega) (fun r_80 p80_0 p80_1 => ?_)
                          show Re L xs 175 127 [(0, .ref 90), (1, V p), (2, V r)] [V r_80] (HP ly F G A106 B) _
                          refine r_eq0 (t := 136) i_175_127 (by decide) (by omega) (fun c_81 => ?_) (fun c_81 => ?_)
                          · skip
                            exact jn136 A106 hA106 (by intro a hh; rfl) (by first | exact bD_ct hzzA hb2 (by omega) (by omega) (by omega) (by rw [show zzA 122 = A 122 from by fail]; omega) (by fail) zzp0 | exact bD_sk hb2 (by omega))
                          · skip
                            refine r_aload_n i_175_130 rfl ?_
                            refine r_iload_n i_175_131 rfl ?_
                            refine r_iload_n i_175_132 rfl ?_
                            refine r_cV (as := [V r, V p]) i_175_133 rfl (by decide +kernel) (Nat.le_of_ble_eq_true rfl) (Nat.le_of_ble_eq_true rfl) (hly 90 _ rfl) rfl ?_
                            refine c_182 (p := p) (r0 := r) hly hF hG hA106 (by omega) (by omega) (by omega) (by omega) (fun A_82 hA_82 fa82 p82_0 => ?_)
                            show Re L xs 175 136 [(0, .ref 90), (1, V p), (2, V r)] [] (HP ly F G A_82 B) _
                            exact jn136 A_82 hA_82 (by intro a hh; rw [fa82 a (by omega)]) (by first | exact bD_ct hA106 hb2 (by omega) (by omega) (by omega) (by rw [show A106 122 = A 122 from by rw [fa106 122 (by omega), fa97 122 (by omega), fa35 122 (by omega), fa2 122 (by omega)]]; omega) (by intro a hh; rw [fa82 a (by omega)]) p82_0 | exact bD_sk hb2 (by omega))
                    exact lp106B _ (13 * p) A97 hA97 (by intro a hh; rfl) (by omega) (by first | exact hb3 | exact bD_fs hb) (Nat.lt_succ_self _)
              exact lp97A1 _ ((G 90 38) - 1) A35 hA35 (by intro a hh; rfl) (by omega) (by first | exact bD_nul hn9b (by omega) (fun p r h0 hs hd => by omega) | exact bD_nx hb2 (by rw [show A35 122 = A 122 from by rw [fa35 122 (by omega), fa2 122 (by omega)]]; omega)) (Nat.lt_succ_self _)
            · skip
              have z122 := a_122 hA p.toNat
              refine r_bipush i_175_43 (by decide) ?_
              refine r_iload_n i_175_45 rfl ?_
              refine r_imul i_175_46 ?_
              refine r_istore_n (l' := [(0, .ref 90), (1, V p), (2, V (13 * p))]) i_175_47 (by decide +kernel) rfl ?_
              have lp48B : ∀ (nf : Nat) (r : Int) (A48 : Nat → Nat → Int), (AQ A48) → (∀ a, ¬ (a = 128) → A48 a = A35 a) → (13 * p ≤ r ∧ r ≤ 13 * p + 13) → ((dpo G A48).aD (fun p' r' => p' < p ∨ (p' = p ∧ r' < r))) → (13 * p + 20 - r).toNat < nf → Re L xs 175 48 [(0, .ref 90), (1, V p), (2, V r)] [] (HP ly F G A48 B) Q := by
                intro nf
                induction nf with
                | zero => intros; omega
                | succ nf ih48B =>
                  intro r A48 hA48 fa48 hr ha2 hm48
                  refine r_iload_n i_175_48 rfl ?_
                  refine r_bipush i_175_49 (by decide) ?_
                  refine r_iload_n i_175_51 rfl ?_
                  refine r_imul i_175_52 ?_
                  refine r_aload_n i_175_53 rfl ?_
                  refine r_getF (v := .ref 122) i_175_54 rfl (hly 90 _ rfl) (hF.1 90 47 122 rfl) ?_
                  refine r_iload_n i_175_57 rfl ?_
                  refine r_iald i_175_58 (hly 122 _ rfl) (by omega) (by omega) (by omega) ?_
                  rw [show A48 122 = A 122 from by rw [fa48 122 (by omega), fa35 122 (by omega), fa2 122 (by omega)]]
                  have q_83 := a_122 hA (p.toNat)
                  refine r_iadd i_175_59 ?_
                  refine r_cge (t := 84) i_175_60 (by decide) (by omega) (by omega) (fun c_84 => ?_) (fun c_84 => ?_)
                  · skip
                    refine r_iinc (l' := [(0, .ref 90), (1, V (p + 1)), (2, V r)]) i_175_84 rfl (by decide +kernel) rfl ?_
                    refine r_go (t := 35) i_175_87 (by decide) ?_
                    exact lp35B _ (p + 1) r A48 hA48 (by intro a hh; rw [fa48 a (by omega), fa35 a (by omega)]) (by omega) (by first | exact aD_nul hn8 (by omega) (fun p r h0 hs hd => by omega) | exact aD_nx ha2 (by rw [show A48 122 = A 122 from by rw [fa48 122 (by omega), fa35 122 (by omega), fa2 122 (by omega)]]; omega)) (Nat.lt_succ_self _)
                  · skip
                    have jn78 : ∀ (A78 : Nat → Nat → Int), (AQ A78) → (∀ a, ¬ (a = 128) → A78 a = A48 a) → ((dpo G A78).aD (fun p' r' => p' < p ∨ (p' = p ∧ r' < r + 1))) → Re L xs 175 78 [(0, .ref 90), (1, V p), (2, V r)] [] (HP ly F G A78 B) Q := by
                      intro A78 hA78 fa78 ha3
                      refine r_iinc (l' := [(0, .ref 90), (1, V p), (2, V (r + 1))]) i_175_78 rfl (by decide +kernel) rfl ?_
                      refine r_go (t := 48) i_175_81 (by decide) ?_
                      exact ih48B (r + 1) A78 hA78 (by intro a hh; rw [fa78 a (by omega), fa48 a (by omega)]) (by omega) (by first | exact ha3 | exact aD_fs ha) (by omega)
                    refine r_aload_n i_175_63 rfl ?_
                    refine r_iload_n i_175_64 rfl ?_
                    refine r_iload_n i_175_65 rfl ?_
                    refine r_cV (as := [V r, V p]) i_175_66 rfl (by decide +kernel) (Nat.le_of_ble_eq_true rfl) (Nat.le_of_ble_eq_true rfl) (hly 90 _ rfl) rfl ?_
                    have q_85 := g_90_58 hG
                    have q_86 := g_90_59 hG
                    refine c_176 (p := p) (r0 := r) hly hF hG hA48 (by omega) (by omega) (by omega) (by omega) (fun r_87 p87_0 p87_1 => ?_)
                    show Re L xs 175 69 [(0, .ref 90), (1, V p), (2, V r)] [V r_87] (HP ly F G A48 B) _
                    refine r_eq0 (t := 78) i_175_69 (by decide) (by omega) (fun c_88 => ?_) (fun c_88 => ?_)
                    · skip
                      exact jn78 A48 hA48 (by intro a hh; rfl) (by first | exact aD_ct hzzA ha2 (by omega) (by omega) (by omega) (by rw [show zzA 122 = A 122 from by fail]; omega) (by fail) zzp0 | exact aD_sk ha2 (by omega))
                    · skip
                      refine r_aload_n i_175_72 rfl ?_
                      refine r_iload_n i_175_73 rfl ?_
                      refine r_iload_n i_175_74 rfl ?_
                      refine r_cV (as := [V r, V p]) i_175_75 rfl (by decide +kernel) (Nat.le_of_ble_eq_true rfl) (Nat.le_of_ble_eq_true rfl) (hly 90 _ rfl) rfl ?_
                      refine c_177 (p := p) (r0 := r) hly hF hG hA48 (by omega) (by omega) (by omega) (by omega) (fun A_89 hA_89 fa89 p89_0 => ?_)
                      show Re L xs 175 78 [(0, .ref 90), (1, V p), (2, V r)] [] (HP ly F G A_89 B) _
                      exact jn78 A_89 hA_89 (by intro a hh; rw [fa89 a (by omega)]) (by first | exact aD_ct hA48 ha2 (by omega) (by omega) (by omega) (by rw [show A48 122 = A 122 from by rw [fa48 122 (by omega), fa35 122 (by omega), fa2 122 (by omega)]]; omega) (by intro a hh; rw [fa89 a (by omega)]) p89_0 | exact aD_sk ha2 (by omega))
              exact lp48B _ (13 * p) A35 hA35 (by intro a hh; rfl) (by omega) (by first | exact ha3 | exact aD_fs ha) (Nat.lt_succ_self _)
        exact lp35A1 _ 0 A2 hA2 (by intro a hh; rfl) (by omega) (by first | exact aD_nul hn8 (by omega) (fun p r h0 hs hd => by omega) | exact aD_nx ha2 (by rw [show A2 122 = A 122 from by rw [fa2 122 (by omega)]]; omega)) (Nat.lt_succ_self _)
      · skip
        refine r_aload_n i_175_9 rfl ?_
        refine r_getF (v := .ref 128) i_175_10 rfl (hly 90 _ rfl) (hF.1 90 54 128 rfl) ?_
        refine r_iload_n i_175_13 rfl ?_
        refine r_ldcw (v := 1000000) i_175_14 (by decide) ?_
        refine r_iastQ i_175_17 (hly 128 _ rfl) (by omega) (by omega) (by omega) (fun A_90 eA_90 => ?_)
        have hA_90 : AQ A_90 := by rw [eA_90]; exact au_128 hA2 (by omega) (by omega)
        refine r_aload_n i_175_18 rfl ?_
        refine r_getF (v := .ref 129) i_175_19 rfl (hly 90 _ rfl) (hF.1 90 55 129 rfl) ?_
        refine r_iload_n i_175_22 rfl ?_
        refine r_ldcw (v := 1000000) i_175_23 (by decide) ?_
        refine r_iastQ i_175_26 (hly 129 _ rfl) (by omega) (by omega) (by omega) (fun A_91 eA_91 => ?_)
        have hA_91 : AQ A_91 := by rw [eA_91]; exact au_129 hA_90 (by omega) (by omega)
        have x128_1 : A_90 128 = fun i => if i = k.toNat then 1000000 else A2 128 i := by rw [eA_90, up2_f]
        have x128 : A_91 128 = fun i => if i = k.toNat then 1000000 else A2 128 i := by rw [eA_91, up2_a (by omega), x128_1]
        have x129_1 : A_91 129 = fun i => if i = k.toNat then 1000000 else A2 129 i := by rw [eA_91, up2_f, eA_90, up2_a (by omega)]
        have x129 : A_91 129 = fun i => if i = k.toNat then 1000000 else A2 129 i := by rw [x129_1]
        refine r_iinc (l' := [(0, .ref 90), (1, V (k + 1))]) i_175_27 rfl (by decide +kernel) rfl ?_
        refine r_go (t := 2) i_175_30 (by decide) ?_
        exact ih2B (k + 1) A_91 hA_91 (by intro a hh; rw [eA_91, up2_a (by omega), eA_90, up2_a (by omega), fa2 a (by omega)]) (by omega) (by first | (intro i hi; exfalso; omega) | (intro i hi; rw [x128, x129]; dsimp only; exact if e : i = k.toNat then (by rw [if_pos e, if_pos e]; exact ⟨rfl, rfl⟩) else (by rw [if_neg e, if_neg e]; exact h2 i (by omega)))) (by omega)
  exact lp2B _ 0 A hA (by intro a hh; rfl) (by omega) (by first | (intro i hi; exfalso; omega) | (intro i hi; rw [x128, x129]; dsimp only; exact if e : i = k.toNat then (by rw [if_pos e, if_pos e]; exact ⟨rfl, rfl⟩) else (by rw [if_neg e, if_neg e]; exact h2 i (by omega)))) (Nat.lt_succ_self _)
