set_option maxHeartbeats 4000000 in
theorem c_164 {L : Nat} {xs : Nat → Int32} {ly : List LK} {F : Nat → Nat → Value} {G A : Nat → Nat → Int} {B : Nat → Nat → Int64} {Q : Option Value → AH → Prop} {p : Int} {w : Int} (hly : LyOk ly) (hF : RfOk F) (hG : GO G) (hA : AQ A) (in_p : inR p) (in_w : inR w) (hp : 0 ≤ p ∧ p ≤ 13) (hl : A 115 p.toNat + A 116 p.toNat ≤ 200) (hr : A 122 p.toNat ≤ 12) (hw : 0 ≤ w ∧ w < 80) (hk : A 98 (80 * G 90 32 + w).toNat ≤ 7) (hc : A 99 (80 * G 90 32 + w).toNat ≤ 99) (K : ∀ (A' : Nat → Nat → Int), (AQ A') → (∀ a, ¬ (a = 121 ∨ a = 122 ∨ a = 123 ∨ a = 124 ∨ a = 125 ∨ a = 126) → A' a = A a) → (A' 122 = fun i => if i = p.toNat then A 122 p.toNat + 1 else A 122 i) → (A' 125 = fun i => if i = (13 * p + A 122 p.toNat).toNat then w else A 125 i) → Q none (HP ly F G A' B)) : Re L xs 164 0 [(0, .ref 90), (1, V p), (2, V w)] [] (HP ly F G A B) Q := by
  have z32 := g_90_32 hG
  have z116 := a_116 hA p.toNat
  have z122 := a_122 hA p.toNat
  refine r_aload_n i_164_0 rfl ?_
  refine r_iload_n i_164_1 rfl ?_
  refine r_aload_n i_164_2 rfl ?_
  refine r_getF (v := .ref 98) i_164_3 rfl (hly 90 _ rfl) (hF.1 90 16 98 rfl) ?_
  refine r_bipush i_164_6 (by decide) ?_
  refine r_aload_n i_164_8 rfl ?_
  refine r_getI i_164_9 rfl (hly 90 _ rfl) ?_
  have q_1 := g_90_32 hG
  refine r_imul i_164_12 ?_
  refine r_iload_n i_164_13 rfl ?_
  refine r_iadd i_164_14 ?_
  refine r_iald i_164_15 (hly 98 _ rfl) (by omega) (by omega) (by omega) ?_
  have q_2 := a_98 hA (((80 * (G 90 32)) + w).toNat)
  refine r_aload_n i_164_16 rfl ?_
  refine r_iload_n i_164_17 rfl ?_
  refine r_cV (as := [V w]) i_164_18 rfl (by decide +kernel) (Nat.le_of_ble_eq_true rfl) (Nat.le_of_ble_eq_true rfl) (hly 90 _ rfl) rfl ?_
  refine c_165 (w := w) hly hF hG hA (by omega) (by omega) (by omega) (fun r_3 p3_0 => ?_)
  show Re L xs 164 21 [(0, .ref 90), (1, V p), (2, V w)] [V r_3, V (A 98 (((80 * (G 90 32)) + w).toNat)), V p, .ref 90] (HP ly F G A B) _
  refine r_iload_n i_164_21 rfl ?_
  refine r_cV (as := [V w, V r_3, V (A 98 (((80 * (G 90 32)) + w).toNat)), V p]) i_164_22 rfl (by decide +kernel) (Nat.le_of_ble_eq_true rfl) (Nat.le_of_ble_eq_true rfl) (hly 90 _ rfl) rfl ?_
  refine c_166 (p := p) (kind := A 98 (((80 * (G 90 32)) + w).toNat)) (cost := r_3) (word := w) hly hF hG hA (by omega) (by omega) (by omega) (by omega) (by omega) (by omega) (by omega) (by omega) (by omega) (by omega) (fun r_4 A_5 hA_5 fa5 p5_0 p5_1 p5_2 => ?_)
  show Re L xs 164 25 [(0, .ref 90), (1, V p), (2, V w)] [V r_4] (HP ly F G A_5 B) _
  refine r_istore_n (l' := [(0, .ref 90), (1, V p), (2, V w), (3, V r_4)]) i_164_25 (by decide +kernel) rfl ?_
  refine r_iconst i_164_26 ?_
  refine r_istore (l' := [(0, .ref 90), (1, V p), (2, V w), (3, V r_4), (4, V 0)]) i_164_27 (by decide +kernel) rfl ?_
  have lp29B : ∀ (nf : Nat) (k : Int) (A29 : Nat → Nat → Int), (AQ A29) → (∀ a, ¬ (a = 121) → A29 a = A_5 a) → (0 ≤ k ∧ k ≤ 12) → (13 - k).toNat < nf → Re L xs 164 29 [(0, .ref 90), (1, V p), (2, V w), (3, V r_4), (4, V k)] [] (HP ly F G A29 B) Q := by
    intro nf
    induction nf with
    | zero => intros; omega
    | succ nf ih29B =>
      intro k A29 hA29 fa29 hk6 hm29
      refine r_iload i_164_29 rfl ?_
      refine r_aload_n i_164_31 rfl ?_
      refine r_getF (v := .ref 116) i_164_32 rfl (hly 90 _ rfl) (hF.1 90 36 116 rfl) ?_
      refine r_iload_n i_164_35 rfl ?_
      refine r_iald i_164_36 (hly 116 _ rfl) (by omega) (by omega) (by omega) ?_
      rw [show A29 116 = A 116 from by rw [fa29 116 (by omega), fa5 116 (by omega)]]
      have q_6 := a_116 hA (p.toNat)
      refine r_cge (t := 78) i_164_37 (by decide) (by omega) (by omega) (fun c_7 => ?_) (fun c_7 => ?_)
      · skip
        refine r_aload_n i_164_78 rfl ?_
        refine r_iload_n i_164_79 rfl ?_
        refine r_aload_n i_164_80 rfl ?_
        refine r_getF (v := .ref 116) i_164_81 rfl (hly 90 _ rfl) (hF.1 90 36 116 rfl) ?_
        refine r_iload_n i_164_84 rfl ?_
        refine r_iald i_164_85 (hly 116 _ rfl) (by omega) (by omega) (by omega) ?_
        rw [show A29 116 = A 116 from by rw [fa29 116 (by omega), fa5 116 (by omega)]]
        refine r_cV (as := [V (A 116 (p.toNat)), V r_4]) i_164_86 rfl (by decide +kernel) (Nat.le_of_ble_eq_true rfl) (Nat.le_of_ble_eq_true rfl) (hly 90 _ rfl) rfl ?_
        refine c_167 (r0 := r_4) (n := A 116 (p.toNat)) hly hF hG hA29 (by omega) (by omega) (by omega) (by omega) (fun A_8 hA_8 fa8 => ?_)
        show Re L xs 164 89 [(0, .ref 90), (1, V p), (2, V w), (3, V r_4), (4, V k)] [] (HP ly F G A_8 B) _
        exact r_vret i_164_89 rfl (K A_8 hA_8 (by intro a hh; rw [fa8 a (by omega), fa29 a (by omega), fa5 a (by omega)]) (by rw [show A_8 122 = A_5 122 from by rw [fa8 122 (by omega), fa29 122 (by omega)]]; exact p5_1) (by rw [show A_8 125 = A_5 125 from by rw [fa8 125 (by omega), fa29 125 (by omega)]]; exact p5_2))
      · skip
        refine r_aload_n i_164_40 rfl ?_
        refine r_getF (v := .ref 121) i_164_41 rfl (hly 90 _ rfl) (hF.1 90 46 121 rfl) ?_
        refine r_bipush i_164_44 (by decide) ?_
        refine r_iload_n i_164_46 rfl ?_
        refine r_imul i_164_47 ?_
        refine r_iload i_164_48 rfl ?_
        refine r_iadd i_164_50 ?_
        refine r_aload_n i_164_51 rfl ?_
        refine r_getF (v := .ref 93) i_164_52 rfl (hly 90 _ rfl) (hF.1 90 11 93 rfl) ?_
        refine r_bipush i_164_55 (by decide) ?_
        refine r_bipush i_164_57 (by decide) ?_
        refine r_aload_n i_164_59 rfl ?_
        refine r_getI i_164_60 rfl (hly 90 _ rfl) ?_
        refine r_imul i_164_63 ?_
        refine r_iload_n i_164_64 rfl ?_
        refine r_iadd i_164_65 ?_
        refine r_imul i_164_66 ?_
        refine r_iload i_164_67 rfl ?_
        refine r_iadd i_164_69 ?_
        refine r_bald i_164_70 (hly 93 _ rfl) (by omega) (by omega) (by omega) ?_
        rw [show A29 93 = A 93 from by rw [fa29 93 (by omega), fa5 93 (by omega)]]
        have q_9 := a_93 hA (((12 * ((80 * (G 90 32)) + w)) + k).toNat)
        refine r_bastQ i_164_71 (hly 121 _ rfl) (by omega) (by omega) (by omega) (by omega) (fun A_10 eA_10 => ?_)
        have hA_10 : AQ A_10 := by rw [eA_10]; exact au_121 hA29 (by omega) (by omega)
        refine r_iinc (l' := [(0, .ref 90), (1, V p), (2, V w), (3, V r_4), (4, V (k + 1))]) i_164_72 rfl (by decide +kernel) rfl ?_
        refine r_go (t := 29) i_164_75 (by decide) ?_
        exact ih29B (k + 1) A_10 hA_10 (by intro a hh; rw [eA_10, up2_a (by omega), fa29 a (by omega)]) (by omega) (by omega)
  exact lp29B _ 0 A_5 hA_5 (by intro a hh; rfl) (by omega) (Nat.lt_succ_self _)
set_option maxHeartbeats 4000000 in
theorem c_172 {L : Nat} {xs : Nat → Int32} {ly : List LK} {F : Nat → Nat → Value} {G A : Nat → Nat → Int} {B : Nat → Nat → Int64} {Q : Option Value → AH → Prop} {p : Int} {e : Int} (hly : LyOk ly) (hF : RfOk F) (hG : GO G) (hA : AQ A) (in_p : inR p) (in_e : inR e) (hp : 0 ≤ p ∧ p ≤ 13) (hl : A 115 p.toNat + A 116 p.toNat ≤ 200) (hr : A 122 p.toNat ≤ 12) (he : 0 ≤ e ∧ e < 40) (hk : A 103 e.toNat ≤ 7) (hc : A 104 e.toNat ≤ 99) (K : ∀ (A' : Nat → Nat → Int), (AQ A') → (∀ a, ¬ (a = 121 ∨ a = 122 ∨ a = 123 ∨ a = 124 ∨ a = 125 ∨ a = 126) → A' a = A a) → (A 122 p.toNat ≤ A' 122 p.toNat ∧ A' 122 p.toNat ≤ A 122 p.toNat + 1 ∧ A' 122 p.toNat ≤ 12) → (∀ i, ¬ i = p.toNat → A' 122 i = A 122 i) → (∀ i : Nat, ¬ i = (13 * p + A 122 p.toNat).toNat → A' 125 i = A 125 i) → (A' 125 (13 * p + A 122 p.toNat).toNat = -1 ∨ A' 122 p.toNat ≤ A 122 p.toNat) → Q none (HP ly F G A' B)) : Re L xs 172 0 [(0, .ref 90), (1, V p), (2, V e)] [] (HP ly F G A B) Q := by
  have z116 := a_116 hA p.toNat
  have z122 := a_122 hA p.toNat
  have z102 := a_102 hA e.toNat
  refine r_aload_n i_172_0 rfl ?_
  refine r_getF (v := .ref 116) i_172_1 rfl (hly 90 _ rfl) (hF.1 90 36 116 rfl) ?_
  refine r_iload_n i_172_4 rfl ?_
  refine r_iald i_172_5 (hly 116 _ rfl) (by omega) (by omega) (by omega) ?_
  have q_1 := a_116 hA (p.toNat)
  refine r_aload_n i_172_6 rfl ?_
  refine r_getF (v := .ref 102) i_172_7 rfl (hly 90 _ rfl) (hF.1 90 20 102 rfl) ?_
  refine r_iload_n i_172_10 rfl ?_
  refine r_iald i_172_11 (hly 102 _ rfl) (by omega) (by omega) (by omega) ?_
  have q_2 := a_102 hA (e.toNat)
  refine r_isub i_172_12 ?_
  refine r_istore_n (l' := [(0, .ref 90), (1, V p), (2, V e), (3, V ((A 116 (p.toNat)) - (A 102 (e.toNat))))]) i_172_13 (by decide +kernel) rfl ?_
  refine r_aload_n i_172_14 rfl ?_
  refine r_getF (v := .ref 122) i_172_15 rfl (hly 90 _ rfl) (hF.1 90 47 122 rfl) ?_
  refine r_iload_n i_172_18 rfl ?_
  refine r_iald i_172_19 (hly 122 _ rfl) (by omega) (by omega) (by omega) ?_
  have q_3 := a_122 hA (p.toNat)
  refine r_bipush i_172_20 (by decide) ?_
  refine r_ceq (t := 49) i_172_22 (by decide) (by omega) (by omega) (fun c_4 => ?_) (fun c_4 => ?_)
  · skip
    exact r_vret i_172_49 rfl (K A hA (by intro a hh; rfl) (by omega) (by intro i _; rfl) (by intro i _; rfl) (by right; omega))
  · skip
    refine r_iload_n i_172_25 rfl ?_
    refine r_lt0 (t := 49) i_172_26 (by decide) (by omega) (fun c_5 => ?_) (fun c_5 => ?_)
    · skip
      exact r_vret i_172_49 rfl (K A hA (by intro a hh; rfl) (by omega) (by intro i _; rfl) (by intro i _; rfl) (by right; omega))
    · skip
      refine r_aload_n i_172_29 rfl ?_
      refine r_aload_n i_172_30 rfl ?_
      refine r_getF (v := .ref 95) i_172_31 rfl (hly 90 _ rfl) (hF.1 90 13 95 rfl) ?_
      refine r_iload_n i_172_34 rfl ?_
      refine r_iload_n i_172_35 rfl ?_
      refine r_iload_n i_172_36 rfl ?_
      refine r_aload_n i_172_37 rfl ?_
      refine r_getF (v := .ref 102) i_172_38 rfl (hly 90 _ rfl) (hF.1 90 20 102 rfl) ?_
      refine r_iload_n i_172_41 rfl ?_
      refine r_iald i_172_42 (hly 102 _ rfl) (by omega) (by omega) (by omega) ?_
      refine r_cV (as := [V (A 102 (e.toNat)), V ((A 116 (p.toNat)) - (A 102 (e.toNat))), V p, V e, .ref 95]) i_172_43 rfl (by decide +kernel) (Nat.le_of_ble_eq_true rfl) (Nat.le_of_ble_eq_true rfl) (hly 90 _ rfl) rfl ?_
      refine c_171 (row := 95) (spot := e) (p := p) (fr := (A 116 (p.toNat)) - (A 102 (e.toNat))) (n := A 102 (e.toNat)) (cap := 480) hly hF hG hA (by omega) (by omega) (by omega) (by omega) (by exact hly 95 _ rfl) (by exact fun i => a_95 hA i) (by omega) (by omega) (by omega) (by omega) (fun r_6 p6_0 => ?_)
      show Re L xs 172 46 [(0, .ref 90), (1, V p), (2, V e), (3, V ((A 116 (p.toNat)) - (A 102 (e.toNat))))] [V r_6] (HP ly F G A B) _
      refine r_ne0 (t := 50) i_172_46 (by decide) (by omega) (fun c_7 => ?_) (fun c_7 => ?_)
      · skip
        refine r_aload_n i_172_50 rfl ?_
        refine r_iload_n i_172_51 rfl ?_
        refine r_aload_n i_172_52 rfl ?_
        refine r_getF (v := .ref 103) i_172_53 rfl (hly 90 _ rfl) (hF.1 90 21 103 rfl) ?_
        refine r_iload_n i_172_56 rfl ?_
        refine r_iald i_172_57 (hly 103 _ rfl) (by omega) (by omega) (by omega) ?_
        have q_8 := a_103 hA (e.toNat)
        refine r_aload_n i_172_58 rfl ?_
        refine r_getF (v := .ref 104) i_172_59 rfl (hly 90 _ rfl) (hF.1 90 22 104 rfl) ?_
        refine r_iload_n i_172_62 rfl ?_
        refine r_iald i_172_63 (hly 104 _ rfl) (by omega) (by omega) (by omega) ?_
        have q_9 := a_104 hA (e.toNat)
        refine r_iconst i_172_64 ?_
        refine r_cV (as := [V ((-1)), V (A 104 (e.toNat)), V (A 103 (e.toNat)), V p]) i_172_65 rfl (by decide +kernel) (Nat.le_of_ble_eq_true rfl) (Nat.le_of_ble_eq_true rfl) (hly 90 _ rfl) rfl ?_
        refine c_166 (p := p) (kind := A 103 (e.toNat)) (cost := A 104 (e.toNat)) (word := (-1)) hly hF hG hA (by omega) (by omega) (by omega) (by omega) (by omega) (by omega) (by omega) (by omega) (by omega) (by omega) (fun r_10 A_11 hA_11 fa11 p11_0 p11_1 p11_2 => ?_)
        show Re L xs 172 68 [(0, .ref 90), (1, V p), (2, V e), (3, V ((A 116 (p.toNat)) - (A 102 (e.toNat))))] [V r_10] (HP ly F G A_11 B) _
        refine r_istore (l' := [(0, .ref 90), (1, V p), (2, V e), (3, V ((A 116 (p.toNat)) - (A 102 (e.toNat)))), (4, V r_10)]) i_172_68 (by decide +kernel) rfl ?_
        refine r_iconst i_172_70 ?_
        refine r_istore (l' := [(0, .ref 90), (1, V p), (2, V e), (3, V ((A 116 (p.toNat)) - (A 102 (e.toNat)))), (4, V r_10), (5, V 0)]) i_172_71 (by decide +kernel) rfl ?_
        have lp73B : ∀ (nf : Nat) (k : Int) (A73 : Nat → Nat → Int), (AQ A73) → (∀ a, ¬ (a = 121) → A73 a = A_11 a) → (0 ≤ k ∧ k ≤ 12) → (13 - k).toNat < nf → Re L xs 172 73 [(0, .ref 90), (1, V p), (2, V e), (3, V ((A 116 (p.toNat)) - (A 102 (e.toNat)))), (4, V r_10), (5, V k)] [] (HP ly F G A73 B) Q := by
          intro nf
          induction nf with
          | zero => intros; omega
          | succ nf ih73B =>
            intro k A73 hA73 fa73 hk6 hm73
            refine r_iload i_172_73 rfl ?_
            refine r_aload_n i_172_75 rfl ?_
            refine r_getF (v := .ref 102) i_172_76 rfl (hly 90 _ rfl) (hF.1 90 20 102 rfl) ?_
            refine r_iload_n i_172_79 rfl ?_
            refine r_iald i_172_80 (hly 102 _ rfl) (by omega) (by omega) (by omega) ?_
            rw [show A73 102 = A 102 from by rw [fa73 102 (by omega), fa11 102 (by omega)]]
            refine r_cge (t := 117) i_172_81 (by decide) (by omega) (by omega) (fun c_12 => ?_) (fun c_12 => ?_)
            · skip
              have y122 : A73 122 = fun i => if i = p.toNat then A 122 p.toNat + 1 else A 122 i := by rw [show A73 122 = A_11 122 from by rw [fa73 122 (by omega)]]; exact p11_1
              refine r_aload_n i_172_117 rfl ?_
              refine r_iload_n i_172_118 rfl ?_
              refine r_iload i_172_119 rfl ?_
              refine r_cV (as := [V r_10, V p]) i_172_121 rfl (by decide +kernel) (Nat.le_of_ble_eq_true rfl) (Nat.le_of_ble_eq_true rfl) (hly 90 _ rfl) rfl ?_
              refine c_173 (p := p) (r0 := r_10) hly hF hG hA73 (by omega) (by omega) (by omega) (by rw [y122]; dsimp only; rw [if_pos rfl]; omega) (by rw [y122]; dsimp only; rw [if_pos rfl]; omega) (fun A_13 hA_13 fa13 p13_0 p13_1 => ?_)
              show Re L xs 172 124 [(0, .ref 90), (1, V p), (2, V e), (3, V ((A 116 (p.toNat)) - (A 102 (e.toNat)))), (4, V r_10), (5, V k)] [] (HP ly F G A_13 B) _
              exact r_vret i_172_124 rfl (K A_13 hA_13 (by intro a hh; rw [fa13 a (by omega), fa73 a (by omega), fa11 a (by omega)]) (by rw [y122] at p13_0; dsimp only at p13_0; rw [if_pos rfl] at p13_0; omega) (by intro i hi; rw [p13_1 i hi, y122]; exact if_neg hi) (by intro i hi; rw [show A_13 125 = A_11 125 from by rw [fa13 125 (by omega), fa73 125 (by omega)], p11_2]; exact if_neg hi) (by left; rw [show A_13 125 = A_11 125 from by rw [fa13 125 (by omega), fa73 125 (by omega)], p11_2]; exact if_pos rfl))
            · skip
              refine r_aload_n i_172_84 rfl ?_
              refine r_getF (v := .ref 121) i_172_85 rfl (hly 90 _ rfl) (hF.1 90 46 121 rfl) ?_
              refine r_bipush i_172_88 (by decide) ?_
              refine r_iload i_172_90 rfl ?_
              refine r_imul i_172_92 ?_
              refine r_iload_n i_172_93 rfl ?_
              refine r_iadd i_172_94 ?_
              refine r_iload i_172_95 rfl ?_
              refine r_iadd i_172_97 ?_
              refine r_aload_n i_172_98 rfl ?_
              refine r_getF (v := .ref 95) i_172_99 rfl (hly 90 _ rfl) (hF.1 90 13 95 rfl) ?_
              refine r_bipush i_172_102 (by decide) ?_
              refine r_iload_n i_172_104 rfl ?_
              refine r_imul i_172_105 ?_
              refine r_iload i_172_106 rfl ?_
              refine r_iadd i_172_108 ?_
              refine r_bald i_172_109 (hly 95 _ rfl) (by omega) (by omega) (by omega) ?_
              rw [show A73 95 = A 95 from by rw [fa73 95 (by omega), fa11 95 (by omega)]]
              have q_14 := a_95 hA (((12 * e) + k).toNat)
              refine r_bastQ i_172_110 (hly 121 _ rfl) (by omega) (by omega) (by omega) (by omega) (fun A_15 eA_15 => ?_)
              have hA_15 : AQ A_15 := by rw [eA_15]; exact au_121 hA73 (by omega) (by omega)
              refine r_iinc (l' := [(0, .ref 90), (1, V p), (2, V e), (3, V ((A 116 (p.toNat)) - (A 102 (e.toNat)))), (4, V r_10), (5, V (k + 1))]) i_172_111 rfl (by decide +kernel) rfl ?_
              refine r_go (t := 73) i_172_114 (by decide) ?_
              exact ih73B (k + 1) A_15 hA_15 (by intro a hh; rw [eA_15, up2_a (by omega), fa73 a (by omega)]) (by omega) (by omega)
        exact lp73B _ 0 A_11 hA_11 (by intro a hh; rfl) (by omega) (Nat.lt_succ_self _)
      · skip
        exact r_vret i_172_49 rfl (K A hA (by intro a hh; rfl) (by omega) (by intro i _; rfl) (by intro i _; rfl) (by right; omega))
set_option maxHeartbeats 4000000 in
theorem c_174 {L : Nat} {xs : Nat → Int32} {ly : List LK} {F : Nat → Nat → Value} {G A : Nat → Nat → Int} {B : Nat → Nat → Int64} {Q : Option Value → AH → Prop}  (hly : LyOk ly) (hF : RfOk F) (hG : GO G) (hA : AQ A) (hl : lnV G A) (K : ∀ (r : Int), (0 ≤ r ∧ r ≤ 168) → Q (some (V r)) (HP ly F G A B)) : Re L xs 174 0 [(0, .ref 90)] [] (HP ly F G A B) Q := by
  have z38 := g_90_38 hG
  refine r_iconst i_174_0 ?_
  refine r_istore_n (l' := [(0, .ref 90), (1, V 0)]) i_174_1 (by decide +kernel) rfl ?_
  refine r_iconst i_174_2 ?_
  refine r_istore_n (l' := [(0, .ref 90), (1, V 0), (2, V 0)]) i_174_3 (by decide +kernel) rfl ?_
  have lp4B : ∀ (nf : Nat) (n : Int) (p : Int) (l3 : Int), (0 ≤ p ∧ p ≤ G 90 38) → (0 ≤ n ∧ n ≤ 12 * p) → (G 90 38 - p).toNat < nf → Re L xs 174 4 [(0, .ref 90), (1, V n), (2, V p), (3, V l3)] [] (HP ly F G A B) Q := by
    intro nf
    induction nf with
    | zero => intros; omega
    | succ nf ih4B =>
      intro n p l3  hp hn hm4
      refine r_iload_n i_174_4 rfl ?_
      refine r_aload_n i_174_5 rfl ?_
      refine r_getI i_174_6 rfl (hly 90 _ rfl) ?_
      have q_1 := g_90_38 hG
      refine r_cge (t := 59) i_174_9 (by decide) (by omega) (by omega) (fun c_2 => ?_) (fun c_2 => ?_)
      · skip
        refine r_iload_n i_174_59 rfl ?_
        exact r_iret i_174_60 rfl rfl (K n (by omega))
      · skip
        have hlp := hl p.toNat (by omega)
        have z116 := a_116 hA p.toNat
        refine r_iconst i_174_12 ?_
        refine r_istore_n (l' := [(0, .ref 90), (1, V n), (2, V p), (3, V 0)]) i_174_13 (by decide +kernel) rfl ?_
        have lp14B : ∀ (nf : Nat) (n : Int) (k : Int), (0 ≤ k ∧ k ≤ A 116 p.toNat) → (0 ≤ n ∧ n ≤ 12 * p + k) → (20 - k).toNat < nf → Re L xs 174 14 [(0, .ref 90), (1, V n), (2, V p), (3, V k)] [] (HP ly F G A B) Q := by
          intro nf
          induction nf with
          | zero => intros; omega
          | succ nf ih14B =>
            intro n k  hk hn2 hm14
            refine r_iload_n i_174_14 rfl ?_
            refine r_aload_n i_174_15 rfl ?_
            refine r_getF (v := .ref 116) i_174_16 rfl (hly 90 _ rfl) (hF.1 90 36 116 rfl) ?_
            refine r_iload_n i_174_19 rfl ?_
            refine r_iald i_174_20 (hly 116 _ rfl) (by omega) (by omega) (by omega) ?_
            have q_3 := a_116 hA (p.toNat)
            refine r_cge (t := 53) i_174_21 (by decide) (by omega) (by omega) (fun c_4 => ?_) (fun c_4 => ?_)
            · skip
              refine r_iinc (l' := [(0, .ref 90), (1, V n), (2, V (p + 1)), (3, V k)]) i_174_53 rfl (by decide +kernel) rfl ?_
              refine r_go (t := 4) i_174_56 (by decide) ?_
              exact ih4B n (p + 1) k  (by omega) (by omega) (by omega)
            · skip
              refine r_iload_n i_174_24 rfl ?_
              have jn45 : ∀ (b : Int), (0 ≤ b ∧ b ≤ 1) → Re L xs 174 45 [(0, .ref 90), (1, V n), (2, V p), (3, V k)] [V b, V n] (HP ly F G A B) Q := by
                intro b  hb
                refine r_iadd i_174_45 ?_
                refine r_istore_n (l' := [(0, .ref 90), (1, V (n + b)), (2, V p), (3, V k)]) i_174_46 (by decide +kernel) rfl ?_
                refine r_iinc (l' := [(0, .ref 90), (1, V (n + b)), (2, V p), (3, V (k + 1))]) i_174_47 rfl (by decide +kernel) rfl ?_
                refine r_go (t := 14) i_174_50 (by decide) ?_
                exact ih14B (n + b) (k + 1)  (by omega) (by omega) (by omega)
              refine r_aload_n i_174_25 rfl ?_
              refine r_iload_n i_174_26 rfl ?_
              refine r_iload_n i_174_27 rfl ?_
              refine r_cV (as := [V k, V p]) i_174_28 rfl (by decide +kernel) (Nat.le_of_ble_eq_true rfl) (Nat.le_of_ble_eq_true rfl) (hly 90 _ rfl) rfl ?_
              refine c_170 (p := p) (k := k) hly hF hG hA (by omega) (by omega) (by omega) (by omega) (fun r_5 p5_0 => ?_)
              show Re L xs 174 31 [(0, .ref 90), (1, V n), (2, V p), (3, V k)] [V r_5, V n] (HP ly F G A B) _
              refine r_cS (as := [V r_5]) i_174_31 rfl (by decide +kernel) (Nat.le_of_ble_eq_true rfl) (Nat.le_of_ble_eq_true rfl) ?_
              refine c_150 (c := r_5) hly hF hG hA (by omega) (by omega) (fun r_6 p6_0 => ?_)
              show Re L xs 174 34 [(0, .ref 90), (1, V n), (2, V p), (3, V k)] [V r_6, V n] (HP ly F G A B) _
              refine r_cS (as := [V r_6]) i_174_34 rfl (by decide +kernel) (Nat.le_of_ble_eq_true rfl) (Nat.le_of_ble_eq_true rfl) ?_
              refine c_168 (c := r_6) hly hF hG hA (by omega) (fun r_7 p7_0 => ?_)
              show Re L xs 174 37 [(0, .ref 90), (1, V n), (2, V p), (3, V k)] [V r_7, V n] (HP ly F G A B) _
              refine r_eq0 (t := 44) i_174_37 (by decide) (by omega) (fun c_8 => ?_) (fun c_8 => ?_)
              · skip
                refine r_iconst i_174_44 ?_
                exact jn45 0  (by omega)
              · skip
                refine r_iconst i_174_40 ?_
                refine r_go (t := 45) i_174_41 (by decide) ?_
                exact jn45 1  (by omega)
        exact lp14B _ n 0  (by omega) (by omega) (Nat.lt_succ_self _)
  have lp4A12 : ∀ (nf : Nat) (n : Int) (p : Int), (0 ≤ p ∧ p ≤ G 90 38) → (0 ≤ n ∧ n ≤ 12 * p) → (G 90 38 - p).toNat < nf → Re L xs 174 4 [(0, .ref 90), (1, V n), (2, V p)] [] (HP ly F G A B) Q := by
    intro nf
    induction nf with
    | zero => intros; omega
    | succ nf ih4A12 =>
      intro n p  hp hn hm4
      refine r_iload_n i_174_4 rfl ?_
      refine r_aload_n i_174_5 rfl ?_
      refine r_getI i_174_6 rfl (hly 90 _ rfl) ?_
      have q_9 := g_90_38 hG
      refine r_cge (t := 59) i_174_9 (by decide) (by omega) (by omega) (fun c_10 => ?_) (fun c_10 => ?_)
      · skip
        refine r_iload_n i_174_59 rfl ?_
        exact r_iret i_174_60 rfl rfl (K n (by omega))
      · skip
        have hlp := hl p.toNat (by omega)
        have z116 := a_116 hA p.toNat
        refine r_iconst i_174_12 ?_
        refine r_istore_n (l' := [(0, .ref 90), (1, V n), (2, V p), (3, V 0)]) i_174_13 (by decide +kernel) rfl ?_
        have lp14B : ∀ (nf : Nat) (n : Int) (k : Int), (0 ≤ k ∧ k ≤ A 116 p.toNat) → (0 ≤ n ∧ n ≤ 12 * p + k) → (20 - k).toNat < nf → Re L xs 174 14 [(0, .ref 90), (1, V n), (2, V p), (3, V k)] [] (HP ly F G A B) Q := by
          intro nf
          induction nf with
          | zero => intros; omega
          | succ nf ih14B =>
            intro n k  hk hn2 hm14
            refine r_iload_n i_174_14 rfl ?_
            refine r_aload_n i_174_15 rfl ?_
            refine r_getF (v := .ref 116) i_174_16 rfl (hly 90 _ rfl) (hF.1 90 36 116 rfl) ?_
            refine r_iload_n i_174_19 rfl ?_
            refine r_iald i_174_20 (hly 116 _ rfl) (by omega) (by omega) (by omega) ?_
            have q_11 := a_116 hA (p.toNat)
            refine r_cge (t := 53) i_174_21 (by decide) (by omega) (by omega) (fun c_12 => ?_) (fun c_12 => ?_)
            · skip
              refine r_iinc (l' := [(0, .ref 90), (1, V n), (2, V (p + 1)), (3, V k)]) i_174_53 rfl (by decide +kernel) rfl ?_
              refine r_go (t := 4) i_174_56 (by decide) ?_
              exact lp4B _ n (p + 1) k  (by omega) (by omega) (Nat.lt_succ_self _)
            · skip
              refine r_iload_n i_174_24 rfl ?_
              have jn45 : ∀ (b : Int), (0 ≤ b ∧ b ≤ 1) → Re L xs 174 45 [(0, .ref 90), (1, V n), (2, V p), (3, V k)] [V b, V n] (HP ly F G A B) Q := by
                intro b  hb
                refine r_iadd i_174_45 ?_
                refine r_istore_n (l' := [(0, .ref 90), (1, V (n + b)), (2, V p), (3, V k)]) i_174_46 (by decide +kernel) rfl ?_
                refine r_iinc (l' := [(0, .ref 90), (1, V (n + b)), (2, V p), (3, V (k + 1))]) i_174_47 rfl (by decide +kernel) rfl ?_
                refine r_go (t := 14) i_174_50 (by decide) ?_
                exact ih14B (n + b) (k + 1)  (by omega) (by omega) (by omega)
              refine r_aload_n i_174_25 rfl ?_
              refine r_iload_n i_174_26 rfl ?_
              refine r_iload_n i_174_27 rfl ?_
              refine r_cV (as := [V k, V p]) i_174_28 rfl (by decide +kernel) (Nat.le_of_ble_eq_true rfl) (Nat.le_of_ble_eq_true rfl) (hly 90 _ rfl) rfl ?_
              refine c_170 (p := p) (k := k) hly hF hG hA (by omega) (by omega) (by omega) (by omega) (fun r_13 p13_0 => ?_)
              show Re L xs 174 31 [(0, .ref 90), (1, V n), (2, V p), (3, V k)] [V r_13, V n] (HP ly F G A B) _
              refine r_cS (as := [V r_13]) i_174_31 rfl (by decide +kernel) (Nat.le_of_ble_eq_true rfl) (Nat.le_of_ble_eq_true rfl) ?_
              refine c_150 (c := r_13) hly hF hG hA (by omega) (by omega) (fun r_14 p14_0 => ?_)
              show Re L xs 174 34 [(0, .ref 90), (1, V n), (2, V p), (3, V k)] [V r_14, V n] (HP ly F G A B) _
              refine r_cS (as := [V r_14]) i_174_34 rfl (by decide +kernel) (Nat.le_of_ble_eq_true rfl) (Nat.le_of_ble_eq_true rfl) ?_
              refine c_168 (c := r_14) hly hF hG hA (by omega) (fun r_15 p15_0 => ?_)
              show Re L xs 174 37 [(0, .ref 90), (1, V n), (2, V p), (3, V k)] [V r_15, V n] (HP ly F G A B) _
              refine r_eq0 (t := 44) i_174_37 (by decide) (by omega) (fun c_16 => ?_) (fun c_16 => ?_)
              · skip
                refine r_iconst i_174_44 ?_
                exact jn45 0  (by omega)
              · skip
                refine r_iconst i_174_40 ?_
                refine r_go (t := 45) i_174_41 (by decide) ?_
                exact jn45 1  (by omega)
        exact lp14B _ n 0  (by omega) (by omega) (Nat.lt_succ_self _)
  exact lp4A12 _ 0 0  (by omega) (by omega) (Nat.lt_succ_self _)
set_option maxHeartbeats 4000000 in
theorem c_181 {L : Nat} {xs : Nat → Int32} {ly : List LK} {F : Nat → Nat → Value} {G A : Nat → Nat → Int} {B : Nat → Nat → Int64} {Q : Option Value → AH → Prop} {a : Int} {c : Int} (hly : LyOk ly) (hF : RfOk F) (hG : GO G) (hA : AQ A) (in_a : inR a) (in_c : inR c) (ha : 0 ≤ a ∧ a ≤ 7) (hc : 0 ≤ c ∧ c ≤ 7) (K : ∀ (r : Int), (r = prV A (G 90 32) a c) → (0 ≤ r ∧ r ≤ 1000000) → Q (some (V r)) (HP ly F G A B)) : Re L xs 181 0 [(0, .ref 90), (1, V a), (2, V c)] [] (HP ly F G A B) Q := by
  have z32 := g_90_32 hG
  refine r_aload_n i_181_0 rfl ?_
  refine r_getF (v := .ref 106) i_181_1 rfl (hly 90 _ rfl) (hF.1 90 24 106 rfl) ?_
  refine r_bipush i_181_4 (by decide) ?_
  refine r_aload_n i_181_6 rfl ?_
  refine r_getI i_181_7 rfl (hly 90 _ rfl) ?_
  have q_1 := g_90_32 hG
  refine r_imul i_181_10 ?_
  refine r_bipush i_181_11 (by decide) ?_
  refine r_iload_n i_181_13 rfl ?_
  refine r_imul i_181_14 ?_
  refine r_iadd i_181_15 ?_
  refine r_iload_n i_181_16 rfl ?_
  refine r_iadd i_181_17 ?_
  refine r_iald i_181_18 (hly 106 _ rfl) (by omega) (by omega) (by omega) ?_
  have q_2 := a_106 hA ((((64 * (G 90 32)) + (8 * a)) + c).toNat)
  refine r_istore_n (l' := [(0, .ref 90), (1, V a), (2, V c), (3, V (A 106 ((((64 * (G 90 32)) + (8 * a)) + c).toNat)))]) i_181_19 (by decide +kernel) rfl ?_
  refine r_iload_n i_181_20 rfl ?_
  refine r_bipush i_181_21 (by decide) ?_
  refine r_cne (t := 30) i_181_23 (by decide) (by omega) (by omega) (fun c_3 => ?_) (fun c_3 => ?_)
  · skip
    refine r_iload_n i_181_30 rfl ?_
    refine r_iconst i_181_31 ?_
    refine r_cne (t := 41) i_181_32 (by decide) (by omega) (by omega) (fun c_4 => ?_) (fun c_4 => ?_)
    · skip
      refine r_iload_n i_181_41 rfl ?_
      exact r_iret i_181_42 rfl rfl (K (A 106 ((((64 * (G 90 32)) + (8 * a)) + c).toNat)) (by unfold prV prW; rw [if_pos (by omega)]; (repeat' split) <;> omega) (by omega))
    · skip
      refine r_ldcw (v := 1000000) i_181_35 (by decide) ?_
      refine r_go (t := 42) i_181_38 (by decide) ?_
      exact r_iret i_181_42 rfl rfl (K 1000000 (by unfold prV prW; rw [if_pos (by omega)]; (repeat' split) <;> omega) (by omega))
  · skip
    refine r_iconst i_181_26 ?_
    refine r_go (t := 42) i_181_27 (by decide) ?_
    exact r_iret i_181_42 rfl rfl (K 0 (by unfold prV prW; rw [if_pos (by omega)]; (repeat' split) <;> omega) (by omega))
set_option maxHeartbeats 4000000 in
theorem c_179 {L : Nat} {xs : Nat → Int32} {ly : List LK} {F : Nat → Nat → Value} {G A : Nat → Nat → Int} {B : Nat → Nat → Int64} {Q : Option Value → AH → Prop} {r0 : Int} (hly : LyOk ly) (hF : RfOk F) (hG : GO G) (hA : AQ A) (in_r0 : inR r0) (hr : 0 ≤ r0 ∧ r0 < 182) (K : ∀ (r : Int), (r = (dpo G A).M r0) → (0 ≤ r ∧ r ≤ 12) → Q (some (V r)) (HP ly F G A B)) : Re L xs 179 0 [(0, .ref 90), (1, V r0)] [] (HP ly F G A B) Q := by
  refine r_aload_n i_179_0 rfl ?_
  refine r_getI i_179_1 rfl (hly 90 _ rfl) ?_
  have q_1 := g_90_45 hG
  refine r_iconst i_179_4 ?_
  refine r_cne (t := 12) i_179_5 (by decide) (by omega) (by omega) (fun c_2 => ?_) (fun c_2 => ?_)
  · skip
    refine r_aload_n i_179_12 rfl ?_
    refine r_getF (v := .ref 126) i_179_13 rfl (hly 90 _ rfl) (hF.1 90 51 126 rfl) ?_
    refine r_iload_n i_179_16 rfl ?_
    refine r_iald i_179_17 (hly 126 _ rfl) (by omega) (by omega) (by omega) ?_
    have q_3 := a_126 hA (r0.toNat)
    exact r_iret i_179_18 rfl rfl (K (A 126 (r0.toNat)) (by show _ = (if G 90 45 = -1 then 0 else A 126 r0.toNat); split <;> omega) (by omega))
  · skip
    refine r_iconst i_179_8 ?_
    refine r_go (t := 18) i_179_9 (by decide) ?_
    exact r_iret i_179_18 rfl rfl (K 0 (by show _ = (if G 90 45 = -1 then 0 else A 126 r0.toNat); split <;> omega) (by omega))
set_option maxHeartbeats 4000000 in
theorem c_176 {L : Nat} {xs : Nat → Int32} {ly : List LK} {F : Nat → Nat → Value} {G A : Nat → Nat → Int} {B : Nat → Nat → Int64} {Q : Option Value → AH → Prop} {p : Int} {r0 : Int} (hly : LyOk ly) (hF : RfOk F) (hG : GO G) (hA : AQ A) (in_p : inR p) (in_r0 : inR r0) (hp : 0 ≤ p ∧ p ≤ 13) (hr : 0 ≤ r0 ∧ r0 < 182) (K : ∀ (r : Int), (0 ≤ r ∧ r ≤ 1) → (r = 1 ↔ (¬ p = G 90 58 ∨ r0 = 13 * p + G 90 59)) → Q (some (V r)) (HP ly F G A B)) : Re L xs 176 0 [(0, .ref 90), (1, V p), (2, V r0)] [] (HP ly F G A B) Q := by
  refine r_iload_n i_176_0 rfl ?_
  refine r_aload_n i_176_1 rfl ?_
  refine r_getI i_176_2 rfl (hly 90 _ rfl) ?_
  have q_1 := g_90_58 hG
  refine r_cne (t := 21) i_176_5 (by decide) (by omega) (by omega) (fun c_2 => ?_) (fun c_2 => ?_)
  · skip
    refine r_iconst i_176_21 ?_
    refine r_go (t := 26) i_176_22 (by decide) ?_
    exact r_iret i_176_26 rfl (nar_Z (by omega)) (K 1 (by omega) (by omega))
  · skip
    refine r_iload_n i_176_8 rfl ?_
    refine r_bipush i_176_9 (by decide) ?_
    refine r_iload_n i_176_11 rfl ?_
    refine r_imul i_176_12 ?_
    refine r_aload_n i_176_13 rfl ?_
    refine r_getI i_176_14 rfl (hly 90 _ rfl) ?_
    have q_3 := g_90_59 hG
    refine r_iadd i_176_17 ?_
    refine r_cne (t := 25) i_176_18 (by decide) (by omega) (by omega) (fun c_4 => ?_) (fun c_4 => ?_)
    · skip
      refine r_iconst i_176_25 ?_
      exact r_iret i_176_26 rfl (nar_Z (by omega)) (K 0 (by omega) (by omega))
    · skip
      refine r_iconst i_176_21 ?_
      refine r_go (t := 26) i_176_22 (by decide) ?_
      exact r_iret i_176_26 rfl (nar_Z (by omega)) (K 1 (by omega) (by omega))
