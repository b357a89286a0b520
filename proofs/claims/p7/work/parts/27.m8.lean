set_option maxHeartbeats 4000000 in
theorem c_163 {L : Nat} {xs : Nat → Int32} {ly : List LK} {F : Nat → Nat → Value} {G A : Nat → Nat → Int} {B : Nat → Nat → Int64} {Q : Option Value → AH → Prop} {p : Int} (hly : LyOk ly) (hF : RfOk F) (hG : GO G) (hA : AQ A) (in_p : inR p) (K : ∀ (r : Int), (-1 ≤ r ∧ r < G 90 66) → Q (some (V r)) (HP ly F G A B)) : Re L xs 163 0 [(0, .ref 90), (1, V p)] [] (HP ly F G A B) Q := by
  have z66 := g_90_66 hG
  refine r_aload_n i_163_0 rfl ?_
  refine r_getI i_163_1 rfl (hly 90 _ rfl) ?_
  have q_1 := g_90_66 hG
  refine r_iconst i_163_4 ?_
  refine r_isub i_163_5 ?_
  refine r_istore_n (l' := [(0, .ref 90), (1, V p), (2, V ((G 90 66) - 1))]) i_163_6 (by decide +kernel) rfl ?_
  have lp7B : ∀ (nf : Nat) (h : Int), (-1 ≤ h ∧ h < G 90 66) → (h + 1).toNat < nf → Re L xs 163 7 [(0, .ref 90), (1, V p), (2, V h)] [] (HP ly F G A B) Q := by
    intro nf
    induction nf with
    | zero => intros; omega
    | succ nf ih7B =>
      intro h  hh hm7
      refine r_iload_n i_163_7 rfl ?_
      refine r_lt0 (t := 51) i_163_8 (by decide) (by omega) (fun c_2 => ?_) (fun c_2 => ?_)
      · skip
        refine r_iconst i_163_51 ?_
        exact r_iret i_163_52 rfl rfl (K ((-1)) (by omega))
      · skip
        refine r_aload_n i_163_11 rfl ?_
        refine r_getF (v := .ref 135) i_163_12 rfl (hly 90 _ rfl) (hF.1 90 65 135 rfl) ?_
        refine r_iload_n i_163_15 rfl ?_
        refine r_zald i_163_16 (hly 135 _ rfl) (by omega) (by omega) (by omega) ?_
        have q_3 := a_135 hA (h.toNat)
        refine r_ne0 (t := 45) i_163_17 (by decide) (by omega) (fun c_4 => ?_) (fun c_4 => ?_)
        · skip
          refine r_iinc (l' := [(0, .ref 90), (1, V p), (2, V (h + (-1)))]) i_163_45 rfl (by decide +kernel) rfl ?_
          refine r_go (t := 7) i_163_48 (by decide) ?_
          exact ih7B (h + (-1))  (by omega) (by omega)
        · skip
          refine r_aload_n i_163_20 rfl ?_
          refine r_getF (v := .ref 134) i_163_21 rfl (hly 90 _ rfl) (hF.1 90 64 134 rfl) ?_
          refine r_iload_n i_163_24 rfl ?_
          refine r_iald i_163_25 (hly 134 _ rfl) (by omega) (by omega) (by omega) ?_
          have q_5 := a_134 hA (h.toNat)
          refine r_aload_n i_163_26 rfl ?_
          refine r_getI i_163_27 rfl (hly 90 _ rfl) ?_
          have q_6 := g_90_41 hG
          refine r_cne (t := 45) i_163_30 (by decide) (by omega) (by omega) (fun c_7 => ?_) (fun c_7 => ?_)
          · skip
            refine r_iinc (l' := [(0, .ref 90), (1, V p), (2, V (h + (-1)))]) i_163_45 rfl (by decide +kernel) rfl ?_
            refine r_go (t := 7) i_163_48 (by decide) ?_
            exact ih7B (h + (-1))  (by omega) (by omega)
          · skip
            refine r_aload_n i_163_33 rfl ?_
            refine r_getF (v := .ref 133) i_163_34 rfl (hly 90 _ rfl) (hF.1 90 63 133 rfl) ?_
            refine r_iload_n i_163_37 rfl ?_
            refine r_iald i_163_38 (hly 133 _ rfl) (by omega) (by omega) (by omega) ?_
            have q_8 := a_133 hA (h.toNat)
            refine r_iload_n i_163_39 rfl ?_
            refine r_cne (t := 45) i_163_40 (by decide) (by omega) (by omega) (fun c_9 => ?_) (fun c_9 => ?_)
            · skip
              refine r_iinc (l' := [(0, .ref 90), (1, V p), (2, V (h + (-1)))]) i_163_45 rfl (by decide +kernel) rfl ?_
              refine r_go (t := 7) i_163_48 (by decide) ?_
              exact ih7B (h + (-1))  (by omega) (by omega)
            · skip
              refine r_iload_n i_163_43 rfl ?_
              exact r_iret i_163_44 rfl rfl (K h (by omega))
  exact lp7B _ ((G 90 66) - 1)  (by omega) (Nat.lt_succ_self _)
set_option maxHeartbeats 4000000 in
theorem c_165 {L : Nat} {xs : Nat → Int32} {ly : List LK} {F : Nat → Nat → Value} {G A : Nat → Nat → Int} {B : Nat → Nat → Int64} {Q : Option Value → AH → Prop} {w : Int} (hly : LyOk ly) (hF : RfOk F) (hG : GO G) (hA : AQ A) (in_w : inR w) (hw : 0 ≤ w ∧ w < 80) (hc : A 99 (80 * G 90 32 + w).toNat ≤ 99) (K : ∀ (r : Int), (0 ≤ r ∧ r ≤ 99) → Q (some (V r)) (HP ly F G A B)) : Re L xs 165 0 [(0, .ref 90), (1, V w)] [] (HP ly F G A B) Q := by
  have z32 := g_90_32 hG
  refine r_aload_n i_165_0 rfl ?_
  refine r_getF (v := .ref 99) i_165_1 rfl (hly 90 _ rfl) (hF.1 90 17 99 rfl) ?_
  refine r_bipush i_165_4 (by decide) ?_
  refine r_aload_n i_165_6 rfl ?_
  refine r_getI i_165_7 rfl (hly 90 _ rfl) ?_
  have q_1 := g_90_32 hG
  refine r_imul i_165_10 ?_
  refine r_iload_n i_165_11 rfl ?_
  refine r_iadd i_165_12 ?_
  refine r_iald i_165_13 (hly 99 _ rfl) (by omega) (by omega) (by omega) ?_
  have q_2 := a_99 hA (((80 * (G 90 32)) + w).toNat)
  refine r_aload_n i_165_14 rfl ?_
  refine r_getF (v := .ref 127) i_165_15 rfl (hly 90 _ rfl) (hF.1 90 52 127 rfl) ?_
  refine r_iload_n i_165_18 rfl ?_
  refine r_iald i_165_19 (hly 127 _ rfl) (by omega) (by omega) (by omega) ?_
  have q_3 := a_127 hA (w.toNat)
  refine r_isub i_165_20 ?_
  refine r_istore_n (l' := [(0, .ref 90), (1, V w), (2, V ((A 99 (((80 * (G 90 32)) + w).toNat)) - (A 127 (w.toNat))))]) i_165_21 (by decide +kernel) rfl ?_
  refine r_iload_n i_165_22 rfl ?_
  refine r_ge0 (t := 30) i_165_23 (by decide) (by omega) (fun c_4 => ?_) (fun c_4 => ?_)
  · skip
    refine r_iload_n i_165_30 rfl ?_
    exact r_iret i_165_31 rfl rfl (K ((A 99 (((80 * (G 90 32)) + w).toNat)) - (A 127 (w.toNat))) (by omega))
  · skip
    refine r_iconst i_165_26 ?_
    refine r_go (t := 31) i_165_27 (by decide) ?_
    exact r_iret i_165_31 rfl rfl (K 0 (by omega))
set_option maxHeartbeats 4000000 in
theorem c_166 {L : Nat} {xs : Nat → Int32} {ly : List LK} {F : Nat → Nat → Value} {G A : Nat → Nat → Int} {B : Nat → Nat → Int64} {Q : Option Value → AH → Prop} {p : Int} {kind : Int} {cost : Int} {word : Int} (hly : LyOk ly) (hF : RfOk F) (hG : GO G) (hA : AQ A) (in_p : inR p) (in_kind : inR kind) (in_cost : inR cost) (in_word : inR word) (hp : 0 ≤ p ∧ p ≤ 13) (hl : A 115 p.toNat + A 116 p.toNat ≤ 200) (hr : A 122 p.toNat ≤ 12) (hk : 0 ≤ kind ∧ kind ≤ 7) (hc : 0 ≤ cost ∧ cost ≤ 99) (hw : -1 ≤ word ∧ word ≤ 79) (K : ∀ (r : Int) (A' : Nat → Nat → Int), (AQ A') → (∀ a, ¬ (a = 121 ∨ a = 122 ∨ a = 123 ∨ a = 124 ∨ a = 125) → A' a = A a) → (r = 13 * p + A 122 p.toNat) → (A' 122 = fun i => if i = p.toNat then A 122 p.toNat + 1 else A 122 i) → (A' 125 = fun i => if i = (13 * p + A 122 p.toNat).toNat then word else A 125 i) → Q (some (V r)) (HP ly F G A' B)) : Re L xs 166 0 [(0, .ref 90), (1, V p), (2, V kind), (3, V cost), (4, V word)] [] (HP ly F G A B) Q := by
  have z122 := a_122 hA p.toNat
  have z116 := a_116 hA p.toNat
  refine r_bipush i_166_0 (by decide) ?_
  refine r_iload_n i_166_2 rfl ?_
  refine r_imul i_166_3 ?_
  refine r_aload_n i_166_4 rfl ?_
  refine r_getF (v := .ref 122) i_166_5 rfl (hly 90 _ rfl) (hF.1 90 47 122 rfl) ?_
  refine r_iload_n i_166_8 rfl ?_
  refine r_iald i_166_9 (hly 122 _ rfl) (by omega) (by omega) (by omega) ?_
  have q_1 := a_122 hA (p.toNat)
  refine r_iadd i_166_10 ?_
  refine r_istore (l' := [(0, .ref 90), (1, V p), (2, V kind), (3, V cost), (4, V word), (5, V ((13 * p) + (A 122 (p.toNat))))]) i_166_11 (by decide +kernel) rfl ?_
  refine r_iconst i_166_13 ?_
  refine r_istore (l' := [(0, .ref 90), (1, V p), (2, V kind), (3, V cost), (4, V word), (5, V ((13 * p) + (A 122 (p.toNat)))), (6, V 0)]) i_166_14 (by decide +kernel) rfl ?_
  have lp16B : ∀ (nf : Nat) (k : Int) (A16 : Nat → Nat → Int), (AQ A16) → (∀ a, ¬ (a = 121) → A16 a = A a) → (0 ≤ k ∧ k ≤ 12) → (13 - k).toNat < nf → Re L xs 166 16 [(0, .ref 90), (1, V p), (2, V kind), (3, V cost), (4, V word), (5, V ((13 * p) + (A 122 (p.toNat)))), (6, V k)] [] (HP ly F G A16 B) Q := by
    intro nf
    induction nf with
    | zero => intros; omega
    | succ nf ih16B =>
      intro k A16 hA16 fa16 hk6 hm16
      refine r_iload i_166_16 rfl ?_
      refine r_aload_n i_166_18 rfl ?_
      refine r_getF (v := .ref 116) i_166_19 rfl (hly 90 _ rfl) (hF.1 90 36 116 rfl) ?_
      refine r_iload_n i_166_22 rfl ?_
      refine r_iald i_166_23 (hly 116 _ rfl) (by omega) (by omega) (by omega) ?_
      rw [show A16 116 = A 116 from by rw [fa16 116 (by omega)]]
      have q_2 := a_116 hA (p.toNat)
      refine r_cge (t := 60) i_166_24 (by decide) (by omega) (by omega) (fun c_3 => ?_) (fun c_3 => ?_)
      · skip
        refine r_aload_n i_166_60 rfl ?_
        refine r_getF (v := .ref 123) i_166_61 rfl (hly 90 _ rfl) (hF.1 90 48 123 rfl) ?_
        refine r_iload i_166_64 rfl ?_
        refine r_iload_n i_166_66 rfl ?_
        refine r_iastQ i_166_67 (hly 123 _ rfl) (by omega) (by omega) (by omega) (fun A_4 eA_4 => ?_)
        have hA_4 : AQ A_4 := by rw [eA_4]; exact au_123 hA16 (by omega) (by omega)
        refine r_aload_n i_166_68 rfl ?_
        refine r_getF (v := .ref 124) i_166_69 rfl (hly 90 _ rfl) (hF.1 90 49 124 rfl) ?_
        refine r_iload i_166_72 rfl ?_
        refine r_iload_n i_166_74 rfl ?_
        refine r_iastQ i_166_75 (hly 124 _ rfl) (by omega) (by omega) (by omega) (fun A_5 eA_5 => ?_)
        have hA_5 : AQ A_5 := by rw [eA_5]; exact au_124 hA_4 (by omega) (by omega)
        refine r_aload_n i_166_76 rfl ?_
        refine r_getF (v := .ref 125) i_166_77 rfl (hly 90 _ rfl) (hF.1 90 50 125 rfl) ?_
        refine r_iload i_166_80 rfl ?_
        refine r_iload i_166_82 rfl ?_
        refine r_iastQ i_166_84 (hly 125 _ rfl) (by omega) (by omega) (by omega) (fun A_6 eA_6 => ?_)
        have hA_6 : AQ A_6 := by rw [eA_6]; exact au_125 hA_5 (by omega) (by omega)
        refine r_aload_n i_166_85 rfl ?_
        refine r_getF (v := .ref 122) i_166_86 rfl (hly 90 _ rfl) (hF.1 90 47 122 rfl) ?_
        refine r_iload_n i_166_89 rfl ?_
        refine re_nx i_166_90 rfl ?_
        refine r_iald i_166_91 (hly 122 _ rfl) (by omega) (by omega) (by omega) ?_
        rw [show A_6 122 = A 122 from by rw [eA_6, up2_a (by omega), eA_5, up2_a (by omega), eA_4, up2_a (by omega), fa16 122 (by omega)]]
        refine r_iconst i_166_92 ?_
        refine r_iadd i_166_93 ?_
        refine r_iastQ i_166_94 (hly 122 _ rfl) (by omega) (by omega) (by omega) (fun A_7 eA_7 => ?_)
        have hA_7 : AQ A_7 := by rw [eA_7]; exact au_122 hA_6 (by omega) (by omega)
        have x122_1 : A_7 122 = fun i => if i = p.toNat then (A 122 (p.toNat)) + 1 else A 122 i := by rw [eA_7, up2_f, eA_6, up2_a (by omega), eA_5, up2_a (by omega), eA_4, up2_a (by omega), fa16 122 (by omega)]
        have x122 : A_7 122 = fun i => if i = p.toNat then (A 122 (p.toNat)) + 1 else A 122 i := by rw [x122_1]
        have x125_1 : A_6 125 = fun i => if i = ((13 * p) + (A 122 (p.toNat))).toNat then word else A 125 i := by rw [eA_6, up2_f, eA_5, up2_a (by omega), eA_4, up2_a (by omega), fa16 125 (by omega)]
        have x125 : A_7 125 = fun i => if i = ((13 * p) + (A 122 (p.toNat))).toNat then word else A 125 i := by rw [eA_7, up2_a (by omega), x125_1]
        refine r_iload i_166_95 rfl ?_
        exact r_iret i_166_97 rfl rfl (K ((13 * p) + (A 122 (p.toNat))) A_7 hA_7 (by intro a hh; rw [eA_7, up2_a (by omega), eA_6, up2_a (by omega), eA_5, up2_a (by omega), eA_4, up2_a (by omega), fa16 a (by omega)]) (by omega) (by exact x122) (by exact x125))
      · skip
        refine r_aload_n i_166_27 rfl ?_
        refine r_getF (v := .ref 121) i_166_28 rfl (hly 90 _ rfl) (hF.1 90 46 121 rfl) ?_
        refine r_bipush i_166_31 (by decide) ?_
        refine r_iload i_166_33 rfl ?_
        refine r_imul i_166_35 ?_
        refine r_iload i_166_36 rfl ?_
        refine r_iadd i_166_38 ?_
        refine r_aload_n i_166_39 rfl ?_
        refine r_getF (v := .ref 114) i_166_40 rfl (hly 90 _ rfl) (hF.1 90 34 114 rfl) ?_
        refine r_aload_n i_166_43 rfl ?_
        refine r_getF (v := .ref 115) i_166_44 rfl (hly 90 _ rfl) (hF.1 90 35 115 rfl) ?_
        refine r_iload_n i_166_47 rfl ?_
        refine r_iald i_166_48 (hly 115 _ rfl) (by omega) (by omega) (by omega) ?_
        rw [show A16 115 = A 115 from by rw [fa16 115 (by omega)]]
        have q_8 := a_115 hA (p.toNat)
        refine r_iload i_166_49 rfl ?_
        refine r_iadd i_166_51 ?_
        refine r_bald i_166_52 (hly 114 _ rfl) (by omega) (by omega) (by omega) ?_
        rw [show A16 114 = A 114 from by rw [fa16 114 (by omega)]]
        have q_9 := a_114 hA (((A 115 (p.toNat)) + k).toNat)
        refine r_bastQ i_166_53 (hly 121 _ rfl) (by omega) (by omega) (by omega) (by omega) (fun A_10 eA_10 => ?_)
        have hA_10 : AQ A_10 := by rw [eA_10]; exact au_121 hA16 (by omega) (by omega)
        refine r_iinc (l' := [(0, .ref 90), (1, V p), (2, V kind), (3, V cost), (4, V word), (5, V ((13 * p) + (A 122 (p.toNat)))), (6, V (k + 1))]) i_166_54 rfl (by decide +kernel) rfl ?_
        refine r_go (t := 16) i_166_57 (by decide) ?_
        exact ih16B (k + 1) A_10 hA_10 (by intro a hh; rw [eA_10, up2_a (by omega), fa16 a (by omega)]) (by omega) (by omega)
  exact lp16B _ 0 A hA (by intro a hh; rfl) (by omega) (Nat.lt_succ_self _)
set_option maxHeartbeats 4000000 in
theorem c_167 {L : Nat} {xs : Nat → Int32} {ly : List LK} {F : Nat → Nat → Value} {G A : Nat → Nat → Int} {B : Nat → Nat → Int64} {Q : Option Value → AH → Prop} {r0 : Int} {n : Int} (hly : LyOk ly) (hF : RfOk F) (hG : GO G) (hA : AQ A) (in_r0 : inR r0) (in_n : inR n) (hr : 0 ≤ r0 ∧ r0 < 182) (hn : 0 ≤ n ∧ n ≤ 12) (K : ∀ (A' : Nat → Nat → Int), (AQ A') → (∀ a, ¬ (a = 126) → A' a = A a) → Q none (HP ly F G A' B)) : Re L xs 167 0 [(0, .ref 90), (1, V r0), (2, V n)] [] (HP ly F G A B) Q := by
  refine r_aload_n i_167_0 rfl ?_
  refine r_getF (v := .ref 126) i_167_1 rfl (hly 90 _ rfl) (hF.1 90 51 126 rfl) ?_
  refine r_iload_n i_167_4 rfl ?_
  refine r_iconst i_167_5 ?_
  refine r_iastQ i_167_6 (hly 126 _ rfl) (by omega) (by omega) (by omega) (fun A_1 eA_1 => ?_)
  have hA_1 : AQ A_1 := by rw [eA_1]; exact au_126 hA (by omega) (by omega)
  refine r_iconst i_167_7 ?_
  refine r_istore_n (l' := [(0, .ref 90), (1, V r0), (2, V n), (3, V 0)]) i_167_8 (by decide +kernel) rfl ?_
  have lp9B : ∀ (nf : Nat) (k : Int) (c4 : Int) (A9 : Nat → Nat → Int), (AQ A9) → (∀ a, ¬ (a = 126) → A9 a = A_1 a) → (0 ≤ k ∧ k ≤ n) → (A9 126 r0.toNat ≤ k) → (n - k).toNat < nf → Re L xs 167 9 [(0, .ref 90), (1, V r0), (2, V n), (3, V k), (4, V c4)] [] (HP ly F G A9 B) Q := by
    intro nf
    induction nf with
    | zero => intros; omega
    | succ nf ih9B =>
      intro k c4 A9 hA9 fa9 hk hm hm9
      refine r_iload_n i_167_9 rfl ?_
      refine r_iload_n i_167_10 rfl ?_
      refine r_cge (t := 66) i_167_11 (by decide) (by omega) (by omega) (fun c_2 => ?_) (fun c_2 => ?_)
      · skip
        exact r_vret i_167_66 rfl (K A9 hA9 (by intro a hh; rw [fa9 a (by omega), eA_1, up2_a (by omega)]))
      · skip
        refine r_aload_n i_167_14 rfl ?_
        refine r_getF (v := .ref 121) i_167_15 rfl (hly 90 _ rfl) (hF.1 90 46 121 rfl) ?_
        refine r_bipush i_167_18 (by decide) ?_
        refine r_iload_n i_167_20 rfl ?_
        refine r_imul i_167_21 ?_
        refine r_iload_n i_167_22 rfl ?_
        refine r_iadd i_167_23 ?_
        refine r_bald i_167_24 (hly 121 _ rfl) (by omega) (by omega) (by omega) ?_
        rw [show A9 121 = A 121 from by rw [fa9 121 (by omega), eA_1, up2_a (by omega)]]
        have q_3 := a_121 hA (((12 * r0) + k).toNat)
        refine r_istore (l' := [(0, .ref 90), (1, V r0), (2, V n), (3, V k), (4, V (A 121 (((12 * r0) + k).toNat)))]) i_167_25 (by decide +kernel) rfl ?_
        refine r_aload_n i_167_27 rfl ?_
        refine r_getF (v := .ref 126) i_167_28 rfl (hly 90 _ rfl) (hF.1 90 51 126 rfl) ?_
        refine r_iload_n i_167_31 rfl ?_
        refine re_nx i_167_32 rfl ?_
        refine r_iald i_167_33 (hly 126 _ rfl) (by omega) (by omega) (by omega) ?_
        have q_4 := a_126 hA9 (r0.toNat)
        have jn58 : ∀ (b : Int), (0 ≤ b ∧ b ≤ 1) → Re L xs 167 58 [(0, .ref 90), (1, V r0), (2, V n), (3, V k), (4, V (A 121 (((12 * r0) + k).toNat)))] [V b, V (A9 126 (r0.toNat)), V r0, .ref 126] (HP ly F G A9 B) Q := by
          intro b  hb
          refine r_iadd i_167_58 ?_
          refine r_iastQ i_167_59 (hly 126 _ rfl) (by omega) (by omega) (by omega) (fun A_5 eA_5 => ?_)
          have hA_5 : AQ A_5 := by rw [eA_5]; exact au_126 hA9 (by omega) (by omega)
          refine r_iinc (l' := [(0, .ref 90), (1, V r0), (2, V n), (3, V (k + 1)), (4, V (A 121 (((12 * r0) + k).toNat)))]) i_167_60 rfl (by decide +kernel) rfl ?_
          refine r_go (t := 9) i_167_63 (by decide) ?_
          exact ih9B (k + 1) (A 121 (((12 * r0) + k).toNat)) A_5 hA_5 (by intro a hh; rw [eA_5, up2_a (by omega), fa9 a (by omega)]) (by omega) (by rw [eA_5, up2_s]; omega) (by omega)
        refine r_iload i_167_34 rfl ?_
        refine r_cS (as := [V (A 121 (((12 * r0) + k).toNat))]) i_167_36 rfl (by decide +kernel) (Nat.le_of_ble_eq_true rfl) (Nat.le_of_ble_eq_true rfl) ?_
        refine c_138 (c := A 121 (((12 * r0) + k).toNat)) hly hF hG hA9 (by omega) (fun r_6 p6_0 p6_1 => ?_)
        show Re L xs 167 39 [(0, .ref 90), (1, V r0), (2, V n), (3, V k), (4, V (A 121 (((12 * r0) + k).toNat)))] [V r_6, V (A9 126 (r0.toNat)), V r0, .ref 126] (HP ly F G A9 B) _
        refine r_eq0 (t := 57) i_167_39 (by decide) (by omega) (fun c_7 => ?_) (fun c_7 => ?_)
        · skip
          refine r_iconst i_167_57 ?_
          exact jn58 0  (by omega)
        · skip
          refine r_iload i_167_42 rfl ?_
          refine r_cS (as := [V (A 121 (((12 * r0) + k).toNat))]) i_167_44 rfl (by decide +kernel) (Nat.le_of_ble_eq_true rfl) (Nat.le_of_ble_eq_true rfl) ?_
          refine c_150 (c := A 121 (((12 * r0) + k).toNat)) hly hF hG hA9 (by omega) (by omega) (fun r_8 p8_0 => ?_)
          show Re L xs 167 47 [(0, .ref 90), (1, V r0), (2, V n), (3, V k), (4, V (A 121 (((12 * r0) + k).toNat)))] [V r_8, V (A9 126 (r0.toNat)), V r0, .ref 126] (HP ly F G A9 B) _
          refine r_cS (as := [V r_8]) i_167_47 rfl (by decide +kernel) (Nat.le_of_ble_eq_true rfl) (Nat.le_of_ble_eq_true rfl) ?_
          refine c_168 (c := r_8) hly hF hG hA9 (by omega) (fun r_9 p9_0 => ?_)
          show Re L xs 167 50 [(0, .ref 90), (1, V r0), (2, V n), (3, V k), (4, V (A 121 (((12 * r0) + k).toNat)))] [V r_9, V (A9 126 (r0.toNat)), V r0, .ref 126] (HP ly F G A9 B) _
          refine r_eq0 (t := 57) i_167_50 (by decide) (by omega) (fun c_10 => ?_) (fun c_10 => ?_)
          · skip
            refine r_iconst i_167_57 ?_
            exact jn58 0  (by omega)
          · skip
            refine r_iconst i_167_53 ?_
            refine r_go (t := 58) i_167_54 (by decide) ?_
            exact jn58 1  (by omega)
  have lp9A3 : ∀ (nf : Nat) (k : Int) (A9 : Nat → Nat → Int), (AQ A9) → (∀ a, ¬ (a = 126) → A9 a = A_1 a) → (0 ≤ k ∧ k ≤ n) → (A9 126 r0.toNat ≤ k) → (n - k).toNat < nf → Re L xs 167 9 [(0, .ref 90), (1, V r0), (2, V n), (3, V k)] [] (HP ly F G A9 B) Q := by
    intro nf
    induction nf with
    | zero => intros; omega
    | succ nf ih9A3 =>
      intro k A9 hA9 fa9 hk hm hm9
      refine r_iload_n i_167_9 rfl ?_
      refine r_iload_n i_167_10 rfl ?_
      refine r_cge (t := 66) i_167_11 (by decide) (by omega) (by omega) (fun c_11 => ?_) (fun c_11 => ?_)
      · skip
        exact r_vret i_167_66 rfl (K A9 hA9 (by intro a hh; rw [fa9 a (by omega), eA_1, up2_a (by omega)]))
      · skip
        refine r_aload_n i_167_14 rfl ?_
        refine r_getF (v := .ref 121) i_167_15 rfl (hly 90 _ rfl) (hF.1 90 46 121 rfl) ?_
        refine r_bipush i_167_18 (by decide) ?_
        refine r_iload_n i_167_20 rfl ?_
        refine r_imul i_167_21 ?_
        refine r_iload_n i_167_22 rfl ?_
        refine r_iadd i_167_23 ?_
        refine r_bald i_167_24 (hly 121 _ rfl) (by omega) (by omega) (by omega) ?_
        rw [show A9 121 = A 121 from by rw [fa9 121 (by omega), eA_1, up2_a (by omega)]]
        have q_12 := a_121 hA (((12 * r0) + k).toNat)
        refine r_istore (l' := [(0, .ref 90), (1, V r0), (2, V n), (3, V k), (4, V (A 121 (((12 * r0) + k).toNat)))]) i_167_25 (by decide +kernel) rfl ?_
        refine r_aload_n i_167_27 rfl ?_
        refine r_getF (v := .ref 126) i_167_28 rfl (hly 90 _ rfl) (hF.1 90 51 126 rfl) ?_
        refine r_iload_n i_167_31 rfl ?_
        refine re_nx i_167_32 rfl ?_
        refine r_iald i_167_33 (hly 126 _ rfl) (by omega) (by omega) (by omega) ?_
        have q_13 := a_126 hA9 (r0.toNat)
        have jn58 : ∀ (b : Int), (0 ≤ b ∧ b ≤ 1) → Re L xs 167 58 [(0, .ref 90), (1, V r0), (2, V n), (3, V k), (4, V (A 121 (((12 * r0) + k).toNat)))] [V b, V (A9 126 (r0.toNat)), V r0, .ref 126] (HP ly F G A9 B) Q := by
          intro b  hb
          refine r_iadd i_167_58 ?_
          refine r_iastQ i_167_59 (hly 126 _ rfl) (by omega) (by omega) (by omega) (fun A_14 eA_14 => ?_)
          have hA_14 : AQ A_14 := by rw [eA_14]; exact au_126 hA9 (by omega) (by omega)
          refine r_iinc (l' := [(0, .ref 90), (1, V r0), (2, V n), (3, V (k + 1)), (4, V (A 121 (((12 * r0) + k).toNat)))]) i_167_60 rfl (by decide +kernel) rfl ?_
          refine r_go (t := 9) i_167_63 (by decide) ?_
          exact lp9B _ (k + 1) (A 121 (((12 * r0) + k).toNat)) A_14 hA_14 (by intro a hh; rw [eA_14, up2_a (by omega), fa9 a (by omega)]) (by omega) (by rw [eA_14, up2_s]; omega) (Nat.lt_succ_self _)
        refine r_iload i_167_34 rfl ?_
        refine r_cS (as := [V (A 121 (((12 * r0) + k).toNat))]) i_167_36 rfl (by decide +kernel) (Nat.le_of_ble_eq_true rfl) (Nat.le_of_ble_eq_true rfl) ?_
        refine c_138 (c := A 121 (((12 * r0) + k).toNat)) hly hF hG hA9 (by omega) (fun r_15 p15_0 p15_1 => ?_)
        show Re L xs 167 39 [(0, .ref 90), (1, V r0), (2, V n), (3, V k), (4, V (A 121 (((12 * r0) + k).toNat)))] [V r_15, V (A9 126 (r0.toNat)), V r0, .ref 126] (HP ly F G A9 B) _
        refine r_eq0 (t := 57) i_167_39 (by decide) (by omega) (fun c_16 => ?_) (fun c_16 => ?_)
        · skip
          refine r_iconst i_167_57 ?_
          exact jn58 0  (by omega)
        · skip
          refine r_iload i_167_42 rfl ?_
          refine r_cS (as := [V (A 121 (((12 * r0) + k).toNat))]) i_167_44 rfl (by decide +kernel) (Nat.le_of_ble_eq_true rfl) (Nat.le_of_ble_eq_true rfl) ?_
          refine c_150 (c := A 121 (((12 * r0) + k).toNat)) hly hF hG hA9 (by omega) (by omega) (fun r_17 p17_0 => ?_)
          show Re L xs 167 47 [(0, .ref 90), (1, V r0), (2, V n), (3, V k), (4, V (A 121 (((12 * r0) + k).toNat)))] [V r_17, V (A9 126 (r0.toNat)), V r0, .ref 126] (HP ly F G A9 B) _
          refine r_cS (as := [V r_17]) i_167_47 rfl (by decide +kernel) (Nat.le_of_ble_eq_true rfl) (Nat.le_of_ble_eq_true rfl) ?_
          refine c_168 (c := r_17) hly hF hG hA9 (by omega) (fun r_18 p18_0 => ?_)
          show Re L xs 167 50 [(0, .ref 90), (1, V r0), (2, V n), (3, V k), (4, V (A 121 (((12 * r0) + k).toNat)))] [V r_18, V (A9 126 (r0.toNat)), V r0, .ref 126] (HP ly F G A9 B) _
          refine r_eq0 (t := 57) i_167_50 (by decide) (by omega) (fun c_19 => ?_) (fun c_19 => ?_)
          · skip
            refine r_iconst i_167_57 ?_
            exact jn58 0  (by omega)
          · skip
            refine r_iconst i_167_53 ?_
            refine r_go (t := 58) i_167_54 (by decide) ?_
            exact jn58 1  (by omega)
  exact lp9A3 _ 0 A_1 hA_1 (by intro a hh; rfl) (by omega) (by rw [eA_1, up2_s]; omega) (Nat.lt_succ_self _)
set_option maxHeartbeats 4000000 in
theorem c_170 {L : Nat} {xs : Nat → Int32} {ly : List LK} {F : Nat → Nat → Value} {G A : Nat → Nat → Int} {B : Nat → Nat → Int64} {Q : Option Value → AH → Prop} {p : Int} {k : Int} (hly : LyOk ly) (hF : RfOk F) (hG : GO G) (hA : AQ A) (in_p : inR p) (in_k : inR k) (hp : 0 ≤ p ∧ p ≤ 13) (hk : 0 ≤ k ∧ A 115 p.toNat + k < 200) (K : ∀ (r : Int), (0 ≤ r ∧ r ≤ 255) → Q (some (V r)) (HP ly F G A B)) : Re L xs 170 0 [(0, .ref 90), (1, V p), (2, V k)] [] (HP ly F G A B) Q := by
  refine r_aload_n i_170_0 rfl ?_
  refine r_getF (v := .ref 114) i_170_1 rfl (hly 90 _ rfl) (hF.1 90 34 114 rfl) ?_
  refine r_aload_n i_170_4 rfl ?_
  refine r_getF (v := .ref 115) i_170_5 rfl (hly 90 _ rfl) (hF.1 90 35 115 rfl) ?_
  refine r_iload_n i_170_8 rfl ?_
  refine r_iald i_170_9 (hly 115 _ rfl) (by omega) (by omega) (by omega) ?_
  have q_1 := a_115 hA (p.toNat)
  refine r_iload_n i_170_10 rfl ?_
  refine r_iadd i_170_11 ?_
  refine r_bald i_170_12 (hly 114 _ rfl) (by omega) (by omega) (by omega) ?_
  have q_2 := a_114 hA (((A 115 (p.toNat)) + k).toNat)
  refine r_sipush i_170_13 (by decide) ?_
  refine r_bin (z := (A 114 (((A 115 (p.toNat)) + k).toNat)) % 256) i_170_16 rfl (and255 _) ?_
  exact r_iret i_170_17 rfl rfl (K ((A 114 (((A 115 (p.toNat)) + k).toNat)) % 256) (by omega))
set_option maxHeartbeats 4000000 in
theorem c_171 {L : Nat} {xs : Nat → Int32} {ly : List LK} {F : Nat → Nat → Value} {G A : Nat → Nat → Int} {B : Nat → Nat → Int64} {Q : Option Value → AH → Prop} {row : Nat} {spot : Int} {p : Int} {fr : Int} {n : Int} {cap : Nat} (hly : LyOk ly) (hF : RfOk F) (hG : GO G) (hA : AQ A) (in_spot : inR spot) (in_p : inR p) (in_fr : inR fr) (in_n : inR n) (hlr : ly[row]? = some (.inr (.byte, cap))) (hra : ∀ i, -128 ≤ A row i ∧ A row i ≤ 127) (hc : cap ≤ 5000) (hs : 0 ≤ spot ∧ 12 * spot + n ≤ cap) (hp : 0 ≤ p ∧ p ≤ 13) (hn : 0 ≤ n ∧ 0 ≤ fr ∧ A 115 p.toNat + fr + n ≤ 200) (K : ∀ (r : Int), (0 ≤ r ∧ r ≤ 1) → Q (some (V r)) (HP ly F G A B)) : Re L xs 171 0 [(0, .ref 90), (1, .ref row), (2, V spot), (3, V p), (4, V fr), (5, V n)] [] (HP ly F G A B) Q := by
  have z115 := a_115 hA p.toNat
  refine r_iconst i_171_0 ?_
  refine r_istore (l' := [(0, .ref 90), (1, .ref row), (2, V spot), (3, V p), (4, V fr), (5, V n), (6, V 0)]) i_171_1 (by decide +kernel) rfl ?_
  have lp3B : ∀ (nf : Nat) (k : Int) (l7 : Int) (l8 : Int), (0 ≤ k ∧ k ≤ n) → (n - k).toNat < nf → Re L xs 171 3 [(0, .ref 90), (1, .ref row), (2, V spot), (3, V p), (4, V fr), (5, V n), (6, V k), (7, V l7), (8, V l8)] [] (HP ly F G A B) Q := by
    intro nf
    induction nf with
    | zero => intros; omega
    | succ nf ih3B =>
      intro k l7 l8  hk hm3
      refine r_iload i_171_3 rfl ?_
      refine r_iload i_171_5 rfl ?_
      refine r_cge (t := 70) i_171_7 (by decide) (by omega) (by omega) (fun c_1 => ?_) (fun c_1 => ?_)
      · skip
        refine r_iconst i_171_70 ?_
        exact r_iret i_171_71 rfl (nar_Z (by omega)) (K 1 (by omega))
      · skip
        refine r_aload_n i_171_10 rfl ?_
        refine r_iload_n i_171_11 rfl ?_
        refine r_iload i_171_12 rfl ?_
        refine r_iload i_171_14 rfl ?_
        refine r_iadd i_171_16 ?_
        refine r_cV (as := [V (fr + k), V p]) i_171_17 rfl (by decide +kernel) (Nat.le_of_ble_eq_true rfl) (Nat.le_of_ble_eq_true rfl) (hly 90 _ rfl) rfl ?_
        refine c_170 (p := p) (k := fr + k) hly hF hG hA (by omega) (by omega) (by omega) (by omega) (fun r_2 p2_0 => ?_)
        show Re L xs 171 20 [(0, .ref 90), (1, .ref row), (2, V spot), (3, V p), (4, V fr), (5, V n), (6, V k), (7, V l7), (8, V l8)] [V r_2] (HP ly F G A B) _
        refine r_istore (l' := [(0, .ref 90), (1, .ref row), (2, V spot), (3, V p), (4, V fr), (5, V n), (6, V k), (7, V r_2), (8, V l8)]) i_171_20 (by decide +kernel) rfl ?_
        refine r_aload_n i_171_22 rfl ?_
        refine r_bipush i_171_23 (by decide) ?_
        refine r_iload_n i_171_25 rfl ?_
        refine r_imul i_171_26 ?_
        refine r_iload i_171_27 rfl ?_
        refine r_iadd i_171_29 ?_
        refine r_bald i_171_30 (hlr) (by omega) (by omega) (by omega) ?_
        have q_3 := hra (((12 * spot) + k).toNat)
        refine r_istore (l' := [(0, .ref 90), (1, .ref row), (2, V spot), (3, V p), (4, V fr), (5, V n), (6, V k), (7, V r_2), (8, V (A row (((12 * spot) + k).toNat)))]) i_171_31 (by decide +kernel) rfl ?_
        refine r_iload i_171_33 rfl ?_
        refine r_cS (as := [V r_2]) i_171_35 rfl (by decide +kernel) (Nat.le_of_ble_eq_true rfl) (Nat.le_of_ble_eq_true rfl) ?_
        refine c_150 (c := r_2) hly hF hG hA (by omega) (by omega) (fun r_4 p4_0 => ?_)
        show Re L xs 171 38 [(0, .ref 90), (1, .ref row), (2, V spot), (3, V p), (4, V fr), (5, V n), (6, V k), (7, V r_2), (8, V (A row (((12 * spot) + k).toNat)))] [V r_4] (HP ly F G A B) _
        refine r_iload i_171_38 rfl ?_
        refine r_cS (as := [V (A row (((12 * spot) + k).toNat))]) i_171_40 rfl (by decide +kernel) (Nat.le_of_ble_eq_true rfl) (Nat.le_of_ble_eq_true rfl) ?_
        refine c_150 (c := A row (((12 * spot) + k).toNat)) hly hF hG hA (by omega) (by omega) (fun r_5 p5_0 => ?_)
        show Re L xs 171 43 [(0, .ref 90), (1, .ref row), (2, V spot), (3, V p), (4, V fr), (5, V n), (6, V k), (7, V r_2), (8, V (A row (((12 * spot) + k).toNat)))] [V r_5, V r_4] (HP ly F G A B) _
        refine r_cne (t := 62) i_171_43 (by decide) (by omega) (by omega) (fun c_6 => ?_) (fun c_6 => ?_)
        · skip
          refine r_iconst i_171_62 ?_
          exact r_iret i_171_63 rfl (nar_Z (by omega)) (K 0 (by omega))
        · skip
          refine r_iload i_171_46 rfl ?_
          refine r_cS (as := [V r_2]) i_171_48 rfl (by decide +kernel) (Nat.le_of_ble_eq_true rfl) (Nat.le_of_ble_eq_true rfl) ?_
          refine c_138 (c := r_2) hly hF hG hA (by omega) (fun r_7 p7_0 p7_1 => ?_)
          show Re L xs 171 51 [(0, .ref 90), (1, .ref row), (2, V spot), (3, V p), (4, V fr), (5, V n), (6, V k), (7, V r_2), (8, V (A row (((12 * spot) + k).toNat)))] [V r_7] (HP ly F G A B) _
          refine r_eq0 (t := 64) i_171_51 (by decide) (by omega) (fun c_8 => ?_) (fun c_8 => ?_)
          · skip
            refine r_iinc (l' := [(0, .ref 90), (1, .ref row), (2, V spot), (3, V p), (4, V fr), (5, V n), (6, V (k + 1)), (7, V r_2), (8, V (A row (((12 * spot) + k).toNat)))]) i_171_64 rfl (by decide +kernel) rfl ?_
            refine r_go (t := 3) i_171_67 (by decide) ?_
            exact ih3B (k + 1) r_2 (A row (((12 * spot) + k).toNat))  (by omega) (by omega)
          · skip
            refine r_iload i_171_54 rfl ?_
            refine r_cS (as := [V (A row (((12 * spot) + k).toNat))]) i_171_56 rfl (by decide +kernel) (Nat.le_of_ble_eq_true rfl) (Nat.le_of_ble_eq_true rfl) ?_
            refine c_138 (c := A row (((12 * spot) + k).toNat)) hly hF hG hA (by omega) (fun r_9 p9_0 p9_1 => ?_)
            show Re L xs 171 59 [(0, .ref 90), (1, .ref row), (2, V spot), (3, V p), (4, V fr), (5, V n), (6, V k), (7, V r_2), (8, V (A row (((12 * spot) + k).toNat)))] [V r_9] (HP ly F G A B) _
            refine r_ne0 (t := 64) i_171_59 (by decide) (by omega) (fun c_10 => ?_) (fun c_10 => ?_)
            · skip
              refine r_iinc (l' := [(0, .ref 90), (1, .ref row), (2, V spot), (3, V p), (4, V fr), (5, V n), (6, V (k + 1)), (7, V r_2), (8, V (A row (((12 * spot) + k).toNat)))]) i_171_64 rfl (by decide +kernel) rfl ?_
              refine r_go (t := 3) i_171_67 (by decide) ?_
              exact ih3B (k + 1) r_2 (A row (((12 * spot) + k).toNat))  (by omega) (by omega)
            · skip
              refine r_iconst i_171_62 ?_
              exact r_iret i_171_63 rfl (nar_Z (by omega)) (K 0 (by omega))
  have lp3A6 : ∀ (nf : Nat) (k : Int), (0 ≤ k ∧ k ≤ n) → (n - k).toNat < nf → Re L xs 171 3 [(0, .ref 90), (1, .ref row), (2, V spot), (3, V p), (4, V fr), (5, V n), (6, V k)] [] (HP ly F G A B) Q := by
    intro nf
    induction nf with
    | zero => intros; omega
    | succ nf ih3A6 =>
      intro k  hk hm3
      refine r_iload i_171_3 rfl ?_
      refine r_iload i_171_5 rfl ?_
      refine r_cge (t := 70) i_171_7 (by decide) (by omega) (by omega) (fun c_11 => ?_) (fun c_11 => ?_)
      · skip
        refine r_iconst i_171_70 ?_
        exact r_iret i_171_71 rfl (nar_Z (by omega)) (K 1 (by omega))
      · skip
        refine r_aload_n i_171_10 rfl ?_
        refine r_iload_n i_171_11 rfl ?_
        refine r_iload i_171_12 rfl ?_
        refine r_iload i_171_14 rfl ?_
        refine r_iadd i_171_16 ?_
        refine r_cV (as := [V (fr + k), V p]) i_171_17 rfl (by decide +kernel) (Nat.le_of_ble_eq_true rfl) (Nat.le_of_ble_eq_true rfl) (hly 90 _ rfl) rfl ?_
        refine c_170 (p := p) (k := fr + k) hly hF hG hA (by omega) (by omega) (by omega) (by omega) (fun r_12 p12_0 => ?_)
        show Re L xs 171 20 [(0, .ref 90), (1, .ref row), (2, V spot), (3, V p), (4, V fr), (5, V n), (6, V k)] [V r_12] (HP ly F G A B) _
        refine r_istore (l' := [(0, .ref 90), (1, .ref row), (2, V spot), (3, V p), (4, V fr), (5, V n), (6, V k), (7, V r_12)]) i_171_20 (by decide +kernel) rfl ?_
        refine r_aload_n i_171_22 rfl ?_
        refine r_bipush i_171_23 (by decide) ?_
        refine r_iload_n i_171_25 rfl ?_
        refine r_imul i_171_26 ?_
        refine r_iload i_171_27 rfl ?_
        refine r_iadd i_171_29 ?_
        refine r_bald i_171_30 (hlr) (by omega) (by omega) (by omega) ?_
        have q_13 := hra (((12 * spot) + k).toNat)
        refine r_istore (l' := [(0, .ref 90), (1, .ref row), (2, V spot), (3, V p), (4, V fr), (5, V n), (6, V k), (7, V r_12), (8, V (A row (((12 * spot) + k).toNat)))]) i_171_31 (by decide +kernel) rfl ?_
        refine r_iload i_171_33 rfl ?_
        refine r_cS (as := [V r_12]) i_171_35 rfl (by decide +kernel) (Nat.le_of_ble_eq_true rfl) (Nat.le_of_ble_eq_true rfl) ?_
        refine c_150 (c := r_12) hly hF hG hA (by omega) (by omega) (fun r_14 p14_0 => ?_)
        show Re L xs 171 38 [(0, .ref 90), (1, .ref row), (2, V spot), (3, V p), (4, V fr), (5, V n), (6, V k), (7, V r_12), (8, V (A row (((12 * spot) + k).toNat)))] [V r_14] (HP ly F G A B) _
        refine r_iload i_171_38 rfl ?_
        refine r_cS (as := [V (A row (((12 * spot) + k).toNat))]) i_171_40 rfl (by decide +kernel) (Nat.le_of_ble_eq_true rfl) (Nat.le_of_ble_eq_true rfl) ?_
        refine c_150 (c := A row (((12 * spot) + k).toNat)) hly hF hG hA (by omega) (by omega) (fun r_15 p15_0 => ?_)
        show Re L xs 171 43 [(0, .ref 90), (1, .ref row), (2, V spot), (3, V p), (4, V fr), (5, V n), (6, V k), (7, V r_12), (8, V (A row (((12 * spot) + k).toNat)))] [V r_15, V r_14] (HP ly F G A B) _
        refine r_cne (t := 62) i_171_43 (by decide) (by omega) (by omega) (fun c_16 => ?_) (fun c_16 => ?_)
        · skip
          refine r_iconst i_171_62 ?_
          exact r_iret i_171_63 rfl (nar_Z (by omega)) (K 0 (by omega))
        · skip
          refine r_iload i_171_46 rfl ?_
          refine r_cS (as := [V r_12]) i_171_48 rfl (by decide +kernel) (Nat.le_of_ble_eq_true rfl) (Nat.le_of_ble_eq_true rfl) ?_
          refine c_138 (c := r_12) hly hF hG hA (by omega) (fun r_17 p17_0 p17_1 => ?_)
          show Re L xs 171 51 [(0, .ref 90), (1, .ref row), (2, V spot), (3, V p), (4, V fr), (5, V n), (6, V k), (7, V r_12), (8, V (A row (((12 * spot) + k).toNat)))] [V r_17] (HP ly F G A B) _
          refine r_eq0 (t := 64) i_171_51 (by decide) (by omega) (fun c_18 => ?_) (fun c_18 => ?_)
          · skip
            refine r_iinc (l' := [(0, .ref 90), (1, .ref row), (2, V spot), (3, V p), (4, V fr), (5, V n), (6, V (k + 1)), (7, V r_12), (8, V (A row (((12 * spot) + k).toNat)))]) i_171_64 rfl (by decide +kernel) rfl ?_
            refine r_go (t := 3) i_171_67 (by decide) ?_
            exact lp3B _ (k + 1) r_12 (A row (((12 * spot) + k).toNat))  (by omega) (Nat.lt_succ_self _)
          · skip
            refine r_iload i_171_54 rfl ?_
            refine r_cS (as := [V (A row (((12 * spot) + k).toNat))]) i_171_56 rfl (by decide +kernel) (Nat.le_of_ble_eq_true rfl) (Nat.le_of_ble_eq_true rfl) ?_
            refine c_138 (c := A row (((12 * spot) + k).toNat)) hly hF hG hA (by omega) (fun r_19 p19_0 p19_1 => ?_)
            show Re L xs 171 59 [(0, .ref 90), (1, .ref row), (2, V spot), (3, V p), (4, V fr), (5, V n), (6, V k), (7, V r_12), (8, V (A row (((12 * spot) + k).toNat)))] [V r_19] (HP ly F G A B) _
            refine r_ne0 (t := 64) i_171_59 (by decide) (by omega) (fun c_20 => ?_) (fun c_20 => ?_)
            · skip
              refine r_iinc (l' := [(0, .ref 90), (1, .ref row), (2, V spot), (3, V p), (4, V fr), (5, V n), (6, V (k + 1)), (7, V r_12), (8, V (A row (((12 * spot) + k).toNat)))]) i_171_64 rfl (by decide +kernel) rfl ?_
              refine r_go (t := 3) i_171_67 (by decide) ?_
              exact lp3B _ (k + 1) r_12 (A row (((12 * spot) + k).toNat))  (by omega) (Nat.lt_succ_self _)
            · skip
              refine r_iconst i_171_62 ?_
              exact r_iret i_171_63 rfl (nar_Z (by omega)) (K 0 (by omega))
  exact lp3A6 _ 0  (by omega) (Nat.lt_succ_self _)
set_option maxHeartbeats 4000000 in
theorem c_169 {L : Nat} {xs : Nat → Int32} {ly : List LK} {F : Nat → Nat → Value} {G A : Nat → Nat → Int} {B : Nat → Nat → Int64} {Q : Option Value → AH → Prop} {p : Int} (hly : LyOk ly) (hF : RfOk F) (hG : GO G) (hA : AQ A) (in_p : inR p) (hp : 0 ≤ p ∧ p ≤ 13) (hl : A 115 p.toNat + A 116 p.toNat ≤ 200) (K : ∀ (r : Int), (0 ≤ r ∧ r ≤ 1) → Q (some (V r)) (HP ly F G A B)) : Re L xs 169 0 [(0, .ref 90), (1, V p)] [] (HP ly F G A B) Q := by
  have z32 := g_90_32 hG
  have z109 := a_109 hA (G 90 32).toNat
  refine r_bipush i_169_0 (by decide) ?_
  refine r_aload_n i_169_2 rfl ?_
  refine r_getI i_169_3 rfl (hly 90 _ rfl) ?_
  have q_1 := g_90_32 hG
  refine r_imul i_169_6 ?_
  refine r_istore_n (l' := [(0, .ref 90), (1, V p), (2, V (20 * (G 90 32)))]) i_169_7 (by decide +kernel) rfl ?_
  have lp8B : ∀ (nf : Nat) (n : Int) (l3 : Int) (l4 : Int), (20 * G 90 32 ≤ n ∧ n ≤ 20 * G 90 32 + 20) → (100 - n).toNat < nf → Re L xs 169 8 [(0, .ref 90), (1, V p), (2, V n), (3, V l3), (4, V l4)] [] (HP ly F G A B) Q := by
    intro nf
    induction nf with
    | zero => intros; omega
    | succ nf ih8B =>
      intro n l3 l4  hn hm8
      refine r_iload_n i_169_8 rfl ?_
      refine r_bipush i_169_9 (by decide) ?_
      refine r_aload_n i_169_11 rfl ?_
      refine r_getI i_169_12 rfl (hly 90 _ rfl) ?_
      refine r_imul i_169_15 ?_
      refine r_aload_n i_169_16 rfl ?_
      refine r_getF (v := .ref 109) i_169_17 rfl (hly 90 _ rfl) (hF.1 90 27 109 rfl) ?_
      refine r_aload_n i_169_20 rfl ?_
      refine r_getI i_169_21 rfl (hly 90 _ rfl) ?_
      refine r_iald i_169_24 (hly 109 _ rfl) (by omega) (by omega) (by omega) ?_
      have q_2 := a_109 hA ((G 90 32).toNat)
      refine r_iadd i_169_25 ?_
      refine r_cge (t := 120) i_169_26 (by decide) (by omega) (by omega) (fun c_3 => ?_) (fun c_3 => ?_)
      · skip
        refine r_iconst i_169_120 ?_
        exact r_iret i_169_121 rfl (nar_Z (by omega)) (K 0 (by omega))
      · skip
        have jn49 : ∀ (b : Int), (0 ≤ b ∧ b ≤ 1) → (b = 1 → A 105 n.toNat = A 116 p.toNat) → Re L xs 169 49 [(0, .ref 90), (1, V p), (2, V n), (3, V l3), (4, V l4)] [V b] (HP ly F G A B) Q := by
          intro b  hb hbe
          refine r_istore_n (l' := [(0, .ref 90), (1, V p), (2, V n), (3, V b), (4, V l4)]) i_169_49 (by decide +kernel) rfl ?_
          refine r_iconst i_169_50 ?_
          refine r_istore (l' := [(0, .ref 90), (1, V p), (2, V n), (3, V b), (4, V 0)]) i_169_51 (by decide +kernel) rfl ?_
          have lp53B : ∀ (nf : Nat) (is : Int) (k : Int), (0 ≤ is ∧ is ≤ 1) → (is = 1 → A 105 n.toNat = A 116 p.toNat) → (0 ≤ k ∧ k ≤ 12) → (20 - k).toNat < nf → Re L xs 169 53 [(0, .ref 90), (1, V p), (2, V n), (3, V is), (4, V k)] [] (HP ly F G A B) Q := by
            intro nf
            induction nf with
            | zero => intros; omega
            | succ nf ih53B =>
              intro is k  hi hie hk hm53
              refine r_iload i_169_53 rfl ?_
              refine r_aload_n i_169_55 rfl ?_
              refine r_getF (v := .ref 105) i_169_56 rfl (hly 90 _ rfl) (hF.1 90 23 105 rfl) ?_
              refine r_iload_n i_169_59 rfl ?_
              refine r_iald i_169_60 (hly 105 _ rfl) (by omega) (by omega) (by omega) ?_
              have q_4 := a_105 hA (n.toNat)
              refine r_cge (t := 108) i_169_61 (by decide) (by omega) (by omega) (fun c_5 => ?_) (fun c_5 => ?_)
              · skip
                refine r_iload_n i_169_108 rfl ?_
                refine r_eq0 (t := 114) i_169_109 (by decide) (by omega) (fun c_6 => ?_) (fun c_6 => ?_)
                · skip
                  refine r_iinc (l' := [(0, .ref 90), (1, V p), (2, V (n + 1)), (3, V is), (4, V k)]) i_169_114 rfl (by decide +kernel) rfl ?_
                  refine r_go (t := 8) i_169_117 (by decide) ?_
                  exact ih8B (n + 1) is k  (by omega) (by omega)
                · skip
                  refine r_iconst i_169_112 ?_
                  exact r_iret i_169_113 rfl (nar_Z (by omega)) (K 1 (by omega))
              · skip
                refine r_iload_n i_169_64 rfl ?_
                refine r_eq0 (t := 108) i_169_65 (by decide) (by omega) (fun c_7 => ?_) (fun c_7 => ?_)
                · skip
                  refine r_iload_n i_169_108 rfl ?_
                  refine r_eq0 (t := 114) i_169_109 (by decide) (by omega) (fun c_8 => ?_) (fun c_8 => ?_)
                  · skip
                    refine r_iinc (l' := [(0, .ref 90), (1, V p), (2, V (n + 1)), (3, V is), (4, V k)]) i_169_114 rfl (by decide +kernel) rfl ?_
                    refine r_go (t := 8) i_169_117 (by decide) ?_
                    exact ih8B (n + 1) is k  (by omega) (by omega)
                  · skip
                    refine r_iconst i_169_112 ?_
                    exact r_iret i_169_113 rfl (nar_Z (by omega)) (K 1 (by omega))
                · skip
                  have jn101 : ∀ (b2 : Int), (0 ≤ b2 ∧ b2 ≤ 1) → Re L xs 169 101 [(0, .ref 90), (1, V p), (2, V n), (3, V is), (4, V k)] [V b2] (HP ly F G A B) Q := by
                    intro b2  hb2
                    refine r_istore_n (l' := [(0, .ref 90), (1, V p), (2, V n), (3, V b2), (4, V k)]) i_169_101 (by decide +kernel) rfl ?_
                    refine r_iinc (l' := [(0, .ref 90), (1, V p), (2, V n), (3, V b2), (4, V (k + 1))]) i_169_102 rfl (by decide +kernel) rfl ?_
                    refine r_go (t := 53) i_169_105 (by decide) ?_
                    exact ih53B b2 (k + 1)  (by omega) (by omega) (by omega) (by omega)
                  refine r_aload_n i_169_68 rfl ?_
                  refine r_iload_n i_169_69 rfl ?_
                  refine r_iload i_169_70 rfl ?_
                  refine r_cV (as := [V k, V p]) i_169_72 rfl (by decide +kernel) (Nat.le_of_ble_eq_true rfl) (Nat.le_of_ble_eq_true rfl) (hly 90 _ rfl) rfl ?_
                  refine c_170 (p := p) (k := k) hly hF hG hA (by omega) (by omega) (by omega) (by omega) (fun r_9 p9_0 => ?_)
                  show Re L xs 169 75 [(0, .ref 90), (1, V p), (2, V n), (3, V is), (4, V k)] [V r_9] (HP ly F G A B) _
                  refine r_cS (as := [V r_9]) i_169_75 rfl (by decide +kernel) (Nat.le_of_ble_eq_true rfl) (Nat.le_of_ble_eq_true rfl) ?_
                  refine c_150 (c := r_9) hly hF hG hA (by omega) (by omega) (fun r_10 p10_0 => ?_)
                  show Re L xs 169 78 [(0, .ref 90), (1, V p), (2, V n), (3, V is), (4, V k)] [V r_10] (HP ly F G A B) _
                  refine r_aload_n i_169_78 rfl ?_
                  refine r_getF (v := .ref 96) i_169_79 rfl (hly 90 _ rfl) (hF.1 90 14 96 rfl) ?_
                  refine r_bipush i_169_82 (by decide) ?_
                  refine r_iload_n i_169_84 rfl ?_
                  refine r_imul i_169_85 ?_
                  refine r_iload i_169_86 rfl ?_
                  refine r_iadd i_169_88 ?_
                  refine r_bald i_169_89 (hly 96 _ rfl) (by omega) (by omega) (by omega) ?_
                  have q_11 := a_96 hA (((12 * n) + k).toNat)
                  refine r_cS (as := [V (A 96 (((12 * n) + k).toNat))]) i_169_90 rfl (by decide +kernel) (Nat.le_of_ble_eq_true rfl) (Nat.le_of_ble_eq_true rfl) ?_
                  refine c_150 (c := A 96 (((12 * n) + k).toNat)) hly hF hG hA (by omega) (by omega) (fun r_12 p12_0 => ?_)
                  show Re L xs 169 93 [(0, .ref 90), (1, V p), (2, V n), (3, V is), (4, V k)] [V r_12, V r_10] (HP ly F G A B) _
                  refine r_cne (t := 100) i_169_93 (by decide) (by omega) (by omega) (fun c_13 => ?_) (fun c_13 => ?_)
                  · skip
                    refine r_iconst i_169_100 ?_
                    exact jn101 0  (by omega)
                  · skip
                    refine r_iconst i_169_96 ?_
                    refine r_go (t := 101) i_169_97 (by decide) ?_
                    exact jn101 1  (by omega)
          exact lp53B _ b 0  (by omega) (by omega) (by omega) (Nat.lt_succ_self _)
        refine r_aload_n i_169_29 rfl ?_
        refine r_getF (v := .ref 105) i_169_30 rfl (hly 90 _ rfl) (hF.1 90 23 105 rfl) ?_
        refine r_iload_n i_169_33 rfl ?_
        refine r_iald i_169_34 (hly 105 _ rfl) (by omega) (by omega) (by omega) ?_
        have q_14 := a_105 hA (n.toNat)
        refine r_aload_n i_169_35 rfl ?_
        refine r_getF (v := .ref 116) i_169_36 rfl (hly 90 _ rfl) (hF.1 90 36 116 rfl) ?_
        refine r_iload_n i_169_39 rfl ?_
        refine r_iald i_169_40 (hly 116 _ rfl) (by omega) (by omega) (by omega) ?_
        have q_15 := a_116 hA (p.toNat)
        refine r_cne (t := 48) i_169_41 (by decide) (by omega) (by omega) (fun c_16 => ?_) (fun c_16 => ?_)
        · skip
          refine r_iconst i_169_48 ?_
          exact jn49 0  (by omega) (by omega)
        · skip
          refine r_iconst i_169_44 ?_
          refine r_go (t := 49) i_169_45 (by decide) ?_
          exact jn49 1  (by omega) (by omega)
  have lp8A2 : ∀ (nf : Nat) (n : Int), (20 * G 90 32 ≤ n ∧ n ≤ 20 * G 90 32 + 20) → (100 - n).toNat < nf → Re L xs 169 8 [(0, .ref 90), (1, V p), (2, V n)] [] (HP ly F G A B) Q := by
    intro nf
    induction nf with
    | zero => intros; omega
    | succ nf ih8A2 =>
      intro n  hn hm8
      refine r_iload_n i_169_8 rfl ?_
      refine r_bipush i_169_9 (by decide) ?_
      refine r_aload_n i_169_11 rfl ?_
      refine r_getI i_169_12 rfl (hly 90 _ rfl) ?_
      refine r_imul i_169_15 ?_
      refine r_aload_n i_169_16 rfl ?_
      refine r_getF (v := .ref 109) i_169_17 rfl (hly 90 _ rfl) (hF.1 90 27 109 rfl) ?_
      refine r_aload_n i_169_20 rfl ?_
      refine r_getI i_169_21 rfl (hly 90 _ rfl) ?_
      refine r_iald i_169_24 (hly 109 _ rfl) (by omega) (by omega) (by omega) ?_
      have q_17 := a_109 hA ((G 90 32).toNat)
      refine r_iadd i_169_25 ?_
      refine r_cge (t := 120) i_169_26 (by decide) (by omega) (by omega) (fun c_18 => ?_) (fun c_18 => ?_)
      · skip
        refine r_iconst i_169_120 ?_
        exact r_iret i_169_121 rfl (nar_Z (by omega)) (K 0 (by omega))
      · skip
        have jn49 : ∀ (b : Int), (0 ≤ b ∧ b ≤ 1) → (b = 1 → A 105 n.toNat = A 116 p.toNat) → Re L xs 169 49 [(0, .ref 90), (1, V p), (2, V n)] [V b] (HP ly F G A B) Q := by
          intro b  hb hbe
          refine r_istore_n (l' := [(0, .ref 90), (1, V p), (2, V n), (3, V b)]) i_169_49 (by decide +kernel) rfl ?_
          refine r_iconst i_169_50 ?_
          refine r_istore (l' := [(0, .ref 90), (1, V p), (2, V n), (3, V b), (4, V 0)]) i_169_51 (by decide +kernel) rfl ?_
          have lp53B : ∀ (nf : Nat) (is : Int) (k : Int), (0 ≤ is ∧ is ≤ 1) → (is = 1 → A 105 n.toNat = A 116 p.toNat) → (0 ≤ k ∧ k ≤ 12) → (20 - k).toNat < nf → Re L xs 169 53 [(0, .ref 90), (1, V p), (2, V n), (3, V is), (4, V k)] [] (HP ly F G A B) Q := by
            intro nf
            induction nf with
            | zero => intros; omega
            | succ nf ih53B =>
              intro is k  hi hie hk hm53
              refine r_iload i_169_53 rfl ?_
              refine r_aload_n i_169_55 rfl ?_
              refine r_getF (v := .ref 105) i_169_56 rfl (hly 90 _ rfl) (hF.1 90 23 105 rfl) ?_
              refine r_iload_n i_169_59 rfl ?_
              refine r_iald i_169_60 (hly 105 _ rfl) (by omega) (by omega) (by omega) ?_
              have q_19 := a_105 hA (n.toNat)
              refine r_cge (t := 108) i_169_61 (by decide) (by omega) (by omega) (fun c_20 => ?_) (fun c_20 => ?_)
              · skip
                refine r_iload_n i_169_108 rfl ?_
                refine r_eq0 (t := 114) i_169_109 (by decide) (by omega) (fun c_21 => ?_) (fun c_21 => ?_)
                · skip
                  refine r_iinc (l' := [(0, .ref 90), (1, V p), (2, V (n + 1)), (3, V is), (4, V k)]) i_169_114 rfl (by decide +kernel) rfl ?_
                  refine r_go (t := 8) i_169_117 (by decide) ?_
                  exact lp8B _ (n + 1) is k  (by omega) (Nat.lt_succ_self _)
                · skip
                  refine r_iconst i_169_112 ?_
                  exact r_iret i_169_113 rfl (nar_Z (by omega)) (K 1 (by omega))
              · skip
                refine r_iload_n i_169_64 rfl ?_
                refine r_eq0 (t := 108) i_169_65 (by decide) (by omega) (fun c_22 => ?_) (fun c_22 => ?_)
                · skip
                  refine r_iload_n i_169_108 rfl ?_
                  refine r_eq0 (t := 114) i_169_109 (by decide) (by omega) (fun c_23 => ?_) (fun c_23 => ?_)
                  · skip
                    refine r_iinc (l' := [(0, .ref 90), (1, V p), (2, V (n + 1)), (3, V is), (4, V k)]) i_169_114 rfl (by decide +kernel) rfl ?_
                    refine r_go (t := 8) i_169_117 (by decide) ?_
                    exact lp8B _ (n + 1) is k  (by omega) (Nat.lt_succ_self _)
                  · skip
                    refine r_iconst i_169_112 ?_
                    exact r_iret i_169_113 rfl (nar_Z (by omega)) (K 1 (by omega))
                · skip
                  have jn101 : ∀ (b2 : Int), (0 ≤ b2 ∧ b2 ≤ 1) → Re L xs 169 101 [(0, .ref 90), (1, V p), (2, V n), (3, V is), (4, V k)] [V b2] (HP ly F G A B) Q := by
                    intro b2  hb2
                    refine r_istore_n (l' := [(0, .ref 90), (1, V p), (2, V n), (3, V b2), (4, V k)]) i_169_101 (by decide +kernel) rfl ?_
                    refine r_iinc (l' := [(0, .ref 90), (1, V p), (2, V n), (3, V b2), (4, V (k + 1))]) i_169_102 rfl (by decide +kernel) rfl ?_
                    refine r_go (t := 53) i_169_105 (by decide) ?_
                    exact ih53B b2 (k + 1)  (by omega) (by omega) (by omega) (by omega)
                  refine r_aload_n i_169_68 rfl ?_
                  refine r_iload_n i_169_69 rfl ?_
                  refine r_iload i_169_70 rfl ?_
                  refine r_cV (as := [V k, V p]) i_169_72 rfl (by decide +kernel) (Nat.le_of_ble_eq_true rfl) (Nat.le_of_ble_eq_true rfl) (hly 90 _ rfl) rfl ?_
                  refine c_170 (p := p) (k := k) hly hF hG hA (by omega) (by omega) (by omega) (by omega) (fun r_24 p24_0 => ?_)
                  show Re L xs 169 75 [(0, .ref 90), (1, V p), (2, V n), (3, V is), (4, V k)] [V r_24] (HP ly F G A B) _
                  refine r_cS (as := [V r_24]) i_169_75 rfl (by decide +kernel) (Nat.le_of_ble_eq_true rfl) (Nat.le_of_ble_eq_true rfl) ?_
                  refine c_150 (c := r_24) hly hF hG hA (by omega) (by omega) (fun r_25 p25_0 => ?_)
                  show Re L xs 169 78 [(0, .ref 90), (1, V p), (2, V n), (3, V is), (4, V k)] [V r_25] (HP ly F G A B) _
                  refine r_aload_n i_169_78 rfl ?_
                  refine r_getF (v := .ref 96) i_169_79 rfl (hly 90 _ rfl) (hF.1 90 14 96 rfl) ?_
                  refine r_bipush i_169_82 (by decide) ?_
                  refine r_iload_n i_169_84 rfl ?_
                  refine r_imul i_169_85 ?_
                  refine r_iload i_169_86 rfl ?_
                  refine r_iadd i_169_88 ?_
                  refine r_bald i_169_89 (hly 96 _ rfl) (by omega) (by omega) (by omega) ?_
                  have q_26 := a_96 hA (((12 * n) + k).toNat)
                  refine r_cS (as := [V (A 96 (((12 * n) + k).toNat))]) i_169_90 rfl (by decide +kernel) (Nat.le_of_ble_eq_true rfl) (Nat.le_of_ble_eq_true rfl) ?_
                  refine c_150 (c := A 96 (((12 * n) + k).toNat)) hly hF hG hA (by omega) (by omega) (fun r_27 p27_0 => ?_)
                  show Re L xs 169 93 [(0, .ref 90), (1, V p), (2, V n), (3, V is), (4, V k)] [V r_27, V r_25] (HP ly F G A B) _
                  refine r_cne (t := 100) i_169_93 (by decide) (by omega) (by omega) (fun c_28 => ?_) (fun c_28 => ?_)
                  · skip
                    refine r_iconst i_169_100 ?_
                    exact jn101 0  (by omega)
                  · skip
                    refine r_iconst i_169_96 ?_
                    refine r_go (t := 101) i_169_97 (by decide) ?_
                    exact jn101 1  (by omega)
          exact lp53B _ b 0  (by omega) (by omega) (by omega) (Nat.lt_succ_self _)
        refine r_aload_n i_169_29 rfl ?_
        refine r_getF (v := .ref 105) i_169_30 rfl (hly 90 _ rfl) (hF.1 90 23 105 rfl) ?_
        refine r_iload_n i_169_33 rfl ?_
        refine r_iald i_169_34 (hly 105 _ rfl) (by omega) (by omega) (by omega) ?_
        have q_29 := a_105 hA (n.toNat)
        refine r_aload_n i_169_35 rfl ?_
        refine r_getF (v := .ref 116) i_169_36 rfl (hly 90 _ rfl) (hF.1 90 36 116 rfl) ?_
        refine r_iload_n i_169_39 rfl ?_
        refine r_iald i_169_40 (hly 116 _ rfl) (by omega) (by omega) (by omega) ?_
        have q_30 := a_116 hA (p.toNat)
        refine r_cne (t := 48) i_169_41 (by decide) (by omega) (by omega) (fun c_31 => ?_) (fun c_31 => ?_)
        · skip
          refine r_iconst i_169_48 ?_
          exact jn49 0  (by omega) (by omega)
        · skip
          refine r_iconst i_169_44 ?_
          refine r_go (t := 49) i_169_45 (by decide) ?_
          exact jn49 1  (by omega) (by omega)
  exact lp8A2 _ (20 * (G 90 32))  (by omega) (Nat.lt_succ_self _)
set_option maxHeartbeats 4000000 in
theorem c_173 {L : Nat} {xs : Nat → Int32} {ly : List LK} {F : Nat → Nat → Value} {G A : Nat → Nat → Int} {B : Nat → Nat → Int64} {Q : Option Value → AH → Prop} {p : Int} {r0 : Int} (hly : LyOk ly) (hF : RfOk F) (hG : GO G) (hA : AQ A) (in_p : inR p) (in_r0 : inR r0) (hp : 0 ≤ p ∧ p ≤ 13) (hr : r0 = 13 * p + A 122 p.toNat - 1) (hm : 1 ≤ A 122 p.toNat) (K : ∀ (A' : Nat → Nat → Int), (AQ A') → (∀ a, ¬ (a = 122 ∨ a = 126) → A' a = A a) → (1 ≤ A' 122 p.toNat ∧ A' 122 p.toNat ≤ A 122 p.toNat ∧ A 122 p.toNat - 1 ≤ A' 122 p.toNat) → (∀ i, ¬ i = p.toNat → A' 122 i = A 122 i) → Q none (HP ly F G A' B)) : Re L xs 173 0 [(0, .ref 90), (1, V p), (2, V r0)] [] (HP ly F G A B) Q := by
  have z122 := a_122 hA p.toNat
  refine r_aload_n i_173_0 rfl ?_
  refine r_iload_n i_173_1 rfl ?_
  refine r_aload_n i_173_2 rfl ?_
  refine r_getF (v := .ref 116) i_173_3 rfl (hly 90 _ rfl) (hF.1 90 36 116 rfl) ?_
  refine r_iload_n i_173_6 rfl ?_
  refine r_iald i_173_7 (hly 116 _ rfl) (by omega) (by omega) (by omega) ?_
  have q_1 := a_116 hA (p.toNat)
  refine r_cV (as := [V (A 116 (p.toNat)), V r0]) i_173_8 rfl (by decide +kernel) (Nat.le_of_ble_eq_true rfl) (Nat.le_of_ble_eq_true rfl) (hly 90 _ rfl) rfl ?_
  refine c_167 (r0 := r0) (n := A 116 (p.toNat)) hly hF hG hA (by omega) (by omega) (by omega) (by omega) (fun A_2 hA_2 fa2 => ?_)
  show Re L xs 173 11 [(0, .ref 90), (1, V p), (2, V r0)] [] (HP ly F G A_2 B) _
  refine r_bipush i_173_11 (by decide) ?_
  refine r_iload_n i_173_13 rfl ?_
  refine r_imul i_173_14 ?_
  refine r_istore_n (l' := [(0, .ref 90), (1, V p), (2, V r0), (3, V (13 * p))]) i_173_15 (by decide +kernel) rfl ?_
  have lp16B : ∀ (nf : Nat) (q : Int), (13 * p ≤ q ∧ q ≤ r0) → (r0 - q).toNat < nf → Re L xs 173 16 [(0, .ref 90), (1, V p), (2, V r0), (3, V q)] [] (HP ly F G A_2 B) Q := by
    intro nf
    induction nf with
    | zero => intros; omega
    | succ nf ih16B =>
      intro q  hq hm16
      refine r_iload_n i_173_16 rfl ?_
      refine r_iload_n i_173_17 rfl ?_
      refine r_cge (t := 64) i_173_18 (by decide) (by omega) (by omega) (fun c_3 => ?_) (fun c_3 => ?_)
      · skip
        have x122 : A_2 122 = A 122 := by rw [fa2 122 (by omega)]
        exact r_vret i_173_64 rfl (K A_2 hA_2 (by intro a hh; rw [fa2 a (by omega)]) (by rw [x122]; first | (rw [if_pos rfl]; omega) | omega | (dsimp only; rw [if_pos rfl]; omega)) (by intro i hi; first | (rw [x122]; done) | (rw [x122]; exact if_neg hi)))
      · skip
        refine r_aload_n i_173_21 rfl ?_
        refine r_getF (v := .ref 121) i_173_22 rfl (hly 90 _ rfl) (hF.1 90 46 121 rfl) ?_
        refine r_iload_n i_173_25 rfl ?_
        refine r_aload_n i_173_26 rfl ?_
        refine r_getF (v := .ref 121) i_173_27 rfl (hly 90 _ rfl) (hF.1 90 46 121 rfl) ?_
        refine r_iload_n i_173_30 rfl ?_
        refine r_aload_n i_173_31 rfl ?_
        refine r_getF (v := .ref 116) i_173_32 rfl (hly 90 _ rfl) (hF.1 90 36 116 rfl) ?_
        refine r_iload_n i_173_35 rfl ?_
        refine r_iald i_173_36 (hly 116 _ rfl) (by omega) (by omega) (by omega) ?_
        rw [show A_2 116 = A 116 from by rw [fa2 116 (by omega)]]
        refine r_iconst i_173_37 ?_
        refine r_cS (as := [V 0, V (A 116 (p.toNat)), V r0, .ref 121, V q, .ref 121]) i_173_38 rfl (by decide +kernel) (Nat.le_of_ble_eq_true rfl) (Nat.le_of_ble_eq_true rfl) ?_
        refine c_149 (ra := 121) (p := q) (rc := 121) (q := r0) (n := A 116 (p.toNat)) (bare := 0) (capa := 2184) (capc := 2184) hly hF hG hA_2 (by omega) (by omega) (by omega) (by omega) (by exact hly 121 _ rfl) (by exact hly 121 _ rfl) (by exact fun i => a_121 hA_2 i) (by exact fun i => a_121 hA_2 i) (by omega) (by omega) (by omega) (by omega) (fun r_4 p4_0 => ?_)
        show Re L xs 173 41 [(0, .ref 90), (1, V p), (2, V r0), (3, V q)] [V r_4] (HP ly F G A_2 B) _
        refine r_ne0 (t := 47) i_173_41 (by decide) (by omega) (fun c_5 => ?_) (fun c_5 => ?_)
        · skip
          refine r_aload_n i_173_47 rfl ?_
          refine r_getF (v := .ref 122) i_173_48 rfl (hly 90 _ rfl) (hF.1 90 47 122 rfl) ?_
          refine r_iload_n i_173_51 rfl ?_
          refine re_nx i_173_52 rfl ?_
          refine r_iald i_173_53 (hly 122 _ rfl) (by omega) (by omega) (by omega) ?_
          rw [show A_2 122 = A 122 from by rw [fa2 122 (by omega)]]
          have q_6 := a_122 hA (p.toNat)
          refine r_iconst i_173_54 ?_
          refine r_isub i_173_55 ?_
          refine r_iastQ i_173_56 (hly 122 _ rfl) (by omega) (by omega) (by omega) (fun A_7 eA_7 => ?_)
          have hA_7 : AQ A_7 := by rw [eA_7]; exact au_122 hA_2 (by omega) (by omega)
          have x122_1 : A_7 122 = fun i => if i = p.toNat then (A 122 (p.toNat)) - 1 else A 122 i := by rw [eA_7, up2_f, fa2 122 (by omega)]
          have x122 : A_7 122 = fun i => if i = p.toNat then (A 122 (p.toNat)) - 1 else A 122 i := by rw [x122_1]
          exact r_vret i_173_57 rfl (K A_7 hA_7 (by intro a hh; rw [eA_7, up2_a (by omega), fa2 a (by omega)]) (by rw [x122]; first | (rw [if_pos rfl]; omega) | omega | (dsimp only; rw [if_pos rfl]; omega)) (by intro i hi; first | (rw [x122]; done) | (rw [x122]; exact if_neg hi)))
        · skip
          refine r_go (t := 58) i_173_44 (by decide) ?_
          refine r_iinc (l' := [(0, .ref 90), (1, V p), (2, V r0), (3, V (q + 1))]) i_173_58 rfl (by decide +kernel) rfl ?_
          refine r_go (t := 16) i_173_61 (by decide) ?_
          exact ih16B (q + 1)  (by omega) (by omega)
  exact lp16B _ (13 * p)  (by omega) (Nat.lt_succ_self _)
