set_option maxHeartbeats 4000000 in
theorem c_90 {L : Nat} {xs : Nat → Int32} {ly : List LK} {F : Nat → Nat → Value} {G A : Nat → Nat → Int} {B : Nat → Nat → Int64} {Q : Option Value → AH → Prop} {word : Int} {kind : Int} (hly : LyOk ly) (hF : RfOk F) (hG : GO G) (hA : AQ A) (in_word : inR word) (in_kind : inR kind) (hw : 0 ≤ word ∧ word ≤ 13) (K : ∀ (r : Int), (r = (word * 8 + kind) * 85 - A 49 word.toNat) → Q (some (V r)) (HP ly F G A B)) : Re L xs 90 0 [(0, .ref 48), (1, V word), (2, V kind)] [] (HP ly F G A B) Q := by
  refine r_iload_n i_90_0 rfl ?_
  refine r_bipush i_90_1 (by decide) ?_
  refine r_imul i_90_3 ?_
  refine r_iload_n i_90_4 rfl ?_
  refine r_iadd i_90_5 ?_
  refine r_bipush i_90_6 (by decide) ?_
  refine r_imul i_90_8 ?_
  refine r_aload_n i_90_9 rfl ?_
  refine r_getF (v := .ref 49) i_90_10 rfl (hly 48 _ rfl) (hF.1 48 1 49 rfl) ?_
  refine r_iload_n i_90_13 rfl ?_
  refine r_iald i_90_14 (hly 49 _ rfl) (by omega) (by omega) (by omega) ?_
  have q_1 := a_49 hA (word.toNat)
  refine r_isub i_90_15 ?_
  exact r_iret i_90_16 rfl rfl (K ((((word * 8) + kind) * 85) - (A 49 (word.toNat))) (by omega))
set_option maxHeartbeats 4000000 in
theorem c_91 {L : Nat} {xs : Nat → Int32} {ly : List LK} {F : Nat → Nat → Value} {G A : Nat → Nat → Int} {B : Nat → Nat → Int64} {Q : Option Value → AH → Prop} {word : Int} (hly : LyOk ly) (hF : RfOk F) (hG : GO G) (hA : AQ A) (in_word : inR word) (hw : 0 ≤ word ∧ word ≤ 13) (hfx : G 48 10 = -1 ∨ 0 ≤ G 48 11) (K : ∀ (r : Int), (12 * word ≤ r ∧ r ≤ 12 * word + 11) → (¬ word = G 48 10 → r = 12 * word) → Q (some (V r)) (HP ly F G A B)) : Re L xs 91 0 [(0, .ref 48), (1, V word)] [] (HP ly F G A B) Q := by
  refine r_iload_n i_91_0 rfl ?_
  refine r_bipush i_91_1 (by decide) ?_
  refine r_imul i_91_3 ?_
  refine r_iload_n i_91_4 rfl ?_
  refine r_aload_n i_91_5 rfl ?_
  refine r_getI i_91_6 rfl (hly 48 _ rfl) ?_
  have q_1 := g_48_10 hG
  refine r_cne (t := 19) i_91_9 (by decide) (by omega) (by omega) (fun u_2 => ?_) (fun u_2 => ?_)
  · skip
    refine r_iconst i_91_19 ?_
    refine r_iadd i_91_20 ?_
    exact r_iret i_91_21 rfl rfl (K ((word * 12) + 0) (by omega) (by omega))
  · skip
    refine r_aload_n i_91_12 rfl ?_
    refine r_getI i_91_13 rfl (hly 48 _ rfl) ?_
    have q_3 := g_48_11 hG
    refine r_go (t := 20) i_91_16 (by decide) ?_
    refine r_iadd i_91_20 ?_
    exact r_iret i_91_21 rfl rfl (K ((word * 12) + (G 48 11)) (by omega) (by omega))
set_option maxHeartbeats 4000000 in
theorem c_92 {L : Nat} {xs : Nat → Int32} {ly : List LK} {F : Nat → Nat → Value} {G A : Nat → Nat → Int} {B : Nat → Nat → Int64} {Q : Option Value → AH → Prop} {word : Int} (hly : LyOk ly) (hF : RfOk F) (hG : GO G) (hA : AQ A) (in_word : inR word) (hw : 0 ≤ word ∧ word ≤ 13) (hfx : G 48 10 = -1 ∨ 0 ≤ G 48 11) (K : ∀ (r : Int), (12 * word - 1 ≤ r ∧ r ≤ 12 * word + 11) → (¬ word = G 48 10 → r = 12 * word + A 32 word.toNat - 1) → Q (some (V r)) (HP ly F G A B)) : Re L xs 92 0 [(0, .ref 48), (1, V word)] [] (HP ly F G A B) Q := by
  refine r_iload_n i_92_0 rfl ?_
  refine r_bipush i_92_1 (by decide) ?_
  refine r_imul i_92_3 ?_
  refine r_iload_n i_92_4 rfl ?_
  refine r_aload_n i_92_5 rfl ?_
  refine r_getI i_92_6 rfl (hly 48 _ rfl) ?_
  have q_1 := g_48_10 hG
  refine r_cne (t := 19) i_92_9 (by decide) (by omega) (by omega) (fun u_2 => ?_) (fun u_2 => ?_)
  · skip
    refine r_aload_n i_92_19 rfl ?_
    refine r_getF (v := .ref 31) i_92_20 rfl (hly 48 _ rfl) (hF.1 48 0 31 rfl) ?_
    refine r_getF (v := .ref 32) i_92_23 rfl (hly 31 _ rfl) (hF.1 31 0 32 rfl) ?_
    refine r_iload_n i_92_26 rfl ?_
    refine r_iald i_92_27 (hly 32 _ rfl) (by omega) (by omega) (by omega) ?_
    have q_3 := a_32 hA (word.toNat)
    refine r_iconst i_92_28 ?_
    refine r_isub i_92_29 ?_
    refine r_iadd i_92_30 ?_
    exact r_iret i_92_31 rfl rfl (K ((word * 12) + ((A 32 (word.toNat)) - 1)) (by omega) (by omega))
  · skip
    refine r_aload_n i_92_12 rfl ?_
    refine r_getI i_92_13 rfl (hly 48 _ rfl) ?_
    have q_4 := g_48_11 hG
    refine r_go (t := 30) i_92_16 (by decide) ?_
    refine r_iadd i_92_30 ?_
    exact r_iret i_92_31 rfl rfl (K ((word * 12) + (G 48 11)) (by omega) (by omega))
set_option maxHeartbeats 4000000 in
theorem c_98 {L : Nat} {xs : Nat → Int32} {ly : List LK} {F : Nat → Nat → Value} {G A : Nat → Nat → Int} {B : Nat → Nat → Int64} {Q : Option Value → AH → Prop} {word : Int} {kind : Int} {marks : Int} (hly : LyOk ly) (hF : RfOk F) (hG : GO G) (hA : AQ A) (in_word : inR word) (in_kind : inR kind) (in_marks : inR marks) (hw : 0 ≤ word ∧ word < G 31 8) (hkd : 0 ≤ kind ∧ kind ≤ 7) (hsp : spV G A) (hmk : -1000 ≤ marks ∧ marks ≤ 1000) (K : ∀ (r : Int), (0 ≤ r ∧ r ≤ 3000000) → (r = 1000000 ∨ (A 49 word.toNat ≤ marks ∧ marks ≤ A 50 word.toNat ∧ r = A 54 (680 * word + 85 * kind + (marks - A 49 word.toNat)).toNat)) → Q (some (V r)) (HP ly F G A B)) : Re L xs 98 0 [(0, .ref 48), (1, V word), (2, V kind), (3, V marks)] [] (HP ly F G A B) Q := by
  have z8 := g_31_8 hG
  have hs := hsp word.toNat (by omega)
  have z49 := a_49 hA word.toNat
  refine r_iload_n i_98_0 rfl ?_
  refine r_aload_n i_98_1 rfl ?_
  refine r_getF (v := .ref 49) i_98_2 rfl (hly 48 _ rfl) (hF.1 48 1 49 rfl) ?_
  refine r_iload_n i_98_5 rfl ?_
  refine r_iald i_98_6 (hly 49 _ rfl) (by omega) (by omega) (by omega) ?_
  have q_1 := a_49 hA (word.toNat)
  refine r_clt (t := 20) i_98_7 (by decide) (by omega) (by omega) (fun u_2 => ?_) (fun u_2 => ?_)
  · skip
    refine r_ldc (v := 1000000) i_98_20 (by decide) ?_
    exact r_iret i_98_22 rfl rfl (K 1000000 (by omega) (by exact .inl rfl))
  · skip
    refine r_iload_n i_98_10 rfl ?_
    refine r_aload_n i_98_11 rfl ?_
    refine r_getF (v := .ref 50) i_98_12 rfl (hly 48 _ rfl) (hF.1 48 2 50 rfl) ?_
    refine r_iload_n i_98_15 rfl ?_
    refine r_iald i_98_16 (hly 50 _ rfl) (by omega) (by omega) (by omega) ?_
    have q_3 := a_50 hA (word.toNat)
    refine r_cle (t := 23) i_98_17 (by decide) (by omega) (by omega) (fun u_4 => ?_) (fun u_4 => ?_)
    · skip
      refine r_aload_n i_98_23 rfl ?_
      refine r_getF (v := .ref 54) i_98_24 rfl (hly 48 _ rfl) (hF.1 48 6 54 rfl) ?_
      refine r_aload_n i_98_27 rfl ?_
      refine r_iload_n i_98_28 rfl ?_
      refine r_iload_n i_98_29 rfl ?_
      refine r_cV (as := [V kind, V word]) i_98_30 rfl (by decide +kernel) (Nat.le_of_ble_eq_true rfl) (Nat.le_of_ble_eq_true rfl) (hly 48 _ rfl) rfl ?_
      refine c_90 (word := word) (kind := kind) hly hF hG hA (by omega) (by omega) (by omega) (fun r_5 p5_0 => ?_)
      show Re L xs 98 33 [(0, .ref 48), (1, V word), (2, V kind), (3, V marks)] [V r_5, .ref 54] (HP ly F G A B) _
      refine r_iload_n i_98_33 rfl ?_
      refine r_iadd i_98_34 ?_
      refine r_iald i_98_35 (hly 54 _ rfl) (by omega) (by omega) (by omega) ?_
      have q_6 := a_54 hA ((r_5 + marks).toNat)
      exact r_iret i_98_36 rfl rfl (K (A 54 ((r_5 + marks).toNat)) (by omega) (by exact .inr ⟨by omega, by omega, by rw [show 680 * word + 85 * kind + (marks - A 49 word.toNat) = r_5 + marks from by omega]⟩))
    · skip
      refine r_ldc (v := 1000000) i_98_20 (by decide) ?_
      exact r_iret i_98_22 rfl rfl (K 1000000 (by omega) (by exact .inl rfl))
set_option maxHeartbeats 4000000 in
theorem c_89 {L : Nat} {xs : Nat → Int32} {ly : List LK} {F : Nat → Nat → Value} {G A : Nat → Nat → Int} {B : Nat → Nat → Int64} {Q : Option Value → AH → Prop} {word : Int} {kind : Int} {q : Nat} (hly : LyOk ly) (hF : RfOk F) (hG : GO G) (hA : AQ A) (in_word : inR word) (in_kind : inR kind) (hw : 0 ≤ word ∧ word < G 31 8) (hkd : 0 ≤ kind ∧ kind ≤ 7) (hsp : spV G A) (hrs : RS A) (hfx : G 48 10 = -1 ∨ 0 ≤ G 48 11) (hq : q = 20 ∨ q = 78 ∨ q = 52) (hfq : F 48 4 = .ref q) (hpc : PC A q) (K : ∀ (A' : Nat → Nat → Int), (AQ A') → (∀ a, ¬ (a = 54) → A' a = A a) → (RS A') → Q none (HP ly F G A' B)) : Re L xs 89 0 [(0, .ref 48), (1, V word), (2, V kind)] [] (HP ly F G A B) Q := by
  have z8 := g_31_8 hG
  have hs := hsp word.toNat (by omega)
  have z49 := a_49 hA word.toNat
  have z50 := a_50 hA word.toNat
  refine r_aload_n i_89_0 rfl ?_
  refine r_iload_n i_89_1 rfl ?_
  refine r_iload_n i_89_2 rfl ?_
  refine r_cV (as := [V kind, V word]) i_89_3 rfl (by decide +kernel) (Nat.le_of_ble_eq_true rfl) (Nat.le_of_ble_eq_true rfl) (hly 48 _ rfl) rfl ?_
  refine c_90 (word := word) (kind := kind) hly hF hG hA (by omega) (by omega) (by omega) (fun r_1 p1_0 => ?_)
  show Re L xs 89 6 [(0, .ref 48), (1, V word), (2, V kind)] [V r_1] (HP ly F G A B) _
  refine r_istore_n (l' := [(0, .ref 48), (1, V word), (2, V kind), (3, V r_1)]) i_89_6 (by decide +kernel) rfl ?_
  have jn25 : ∀ (il : Int), (il = 0 ∨ il = 1) → (il = 0 → word < G 31 8 - 1) → Re L xs 89 25 [(0, .ref 48), (1, V word), (2, V kind), (3, V r_1)] [V il] (HP ly F G A B) Q := by
    intro il  hil hil2
    refine r_istore (l' := [(0, .ref 48), (1, V word), (2, V kind), (3, V r_1), (4, V il)]) i_89_25 (by decide +kernel) rfl ?_
    refine r_aload_n i_89_27 rfl ?_
    refine r_getF (v := .ref 54) i_89_28 rfl (hly 48 _ rfl) (hF.1 48 6 54 rfl) ?_
    refine r_iload_n i_89_31 rfl ?_
    refine r_aload_n i_89_32 rfl ?_
    refine r_getF (v := .ref 49) i_89_33 rfl (hly 48 _ rfl) (hF.1 48 1 49 rfl) ?_
    refine r_iload_n i_89_36 rfl ?_
    refine r_iald i_89_37 (hly 49 _ rfl) (by omega) (by omega) (by omega) ?_
    have q_2 := a_49 hA (word.toNat)
    refine r_iadd i_89_38 ?_
    refine r_iload_n i_89_39 rfl ?_
    refine r_aload_n i_89_40 rfl ?_
    refine r_getF (v := .ref 50) i_89_41 rfl (hly 48 _ rfl) (hF.1 48 2 50 rfl) ?_
    refine r_iload_n i_89_44 rfl ?_
    refine r_iald i_89_45 (hly 50 _ rfl) (by omega) (by omega) (by omega) ?_
    have q_3 := a_50 hA (word.toNat)
    refine r_iadd i_89_46 ?_
    refine r_iconst i_89_47 ?_
    refine r_iadd i_89_48 ?_
    have jn60 : ∀ (v : Int), (v = 0 ∨ v = 1000000) → Re L xs 89 60 [(0, .ref 48), (1, V word), (2, V kind), (3, V r_1), (4, V il)] [V v, V ((r_1 + (A 50 (word.toNat))) + 1), V (r_1 + (A 49 (word.toNat))), .ref 54] (HP ly F G A B) Q := by
      intro v  hv
      refine r_cS (as := [V v, V ((r_1 + (A 50 (word.toNat))) + 1), V (r_1 + (A 49 (word.toNat))), .ref 54]) i_89_60 rfl (by decide +kernel) (Nat.le_of_ble_eq_true rfl) (Nat.le_of_ble_eq_true rfl) ?_
      refine c_85 (ra := 54) (fr := r_1 + (A 49 (word.toNat))) (to := (r_1 + (A 50 (word.toNat))) + 1) (v := v) (rn := 9520) hly hF hG hA (by omega) (by omega) (by omega) (by exact hly 54 _ rfl) (by omega) (by exact fun A1 i h => au_54 h (by omega) (by omega)) (by omega) (fun A_4 hA_4 fa4 p4_0 => ?_)
      show Re L xs 89 63 [(0, .ref 48), (1, V word), (2, V kind), (3, V r_1), (4, V il)] [] (HP ly F G A_4 B) _
      have hrs1 : RS A_4 := RS_fill hrs p4_0 hv
      refine r_iload i_89_63 rfl ?_
      refine r_eq0 (t := 69) i_89_65 (by decide) (by omega) (fun u_5 => ?_) (fun u_5 => ?_)
      · skip
        refine r_iload_n i_89_69 rfl ?_
        refine r_iconst i_89_70 ?_
        refine r_iadd i_89_71 ?_
        refine r_istore (l' := [(0, .ref 48), (1, V word), (2, V kind), (3, V r_1), (4, V il), (5, V (word + 1))]) i_89_72 (by decide +kernel) rfl ?_
        have hsn := hsp (word + 1).toNat (by omega)
        have z49n := a_49 hA (word + 1).toNat
        have z50n := a_50 hA (word + 1).toNat
        refine r_aload_n i_89_74 rfl ?_
        refine r_iload i_89_75 rfl ?_
        refine r_cV (as := [V (word + 1)]) i_89_77 rfl (by decide +kernel) (Nat.le_of_ble_eq_true rfl) (Nat.le_of_ble_eq_true rfl) (hly 48 _ rfl) rfl ?_
        have q_6 := g_48_10 hG
        have q_7 := g_48_11 hG
        refine c_91 (word := word + 1) hly hF hG hA_4 (by omega) (by omega) (by omega) (fun r_8 p8_0 p8_1 => ?_)
        show Re L xs 89 80 [(0, .ref 48), (1, V word), (2, V kind), (3, V r_1), (4, V il), (5, V (word + 1))] [V r_8] (HP ly F G A_4 B) _
        refine r_istore (l' := [(0, .ref 48), (1, V word), (2, V kind), (3, V r_1), (4, V il), (5, V (word + 1)), (6, V r_8)]) i_89_80 (by decide +kernel) rfl ?_
        have lp82B : ∀ (nf : Nat) (s : Int) (l7 : Int) (l8 : Int) (l9 : Int) (l10 : Int) (l11 : Int) (A82 : Nat → Nat → Int), (AQ A82) → (∀ a, ¬ (a = 54) → A82 a = A_4 a) → (12 * (word + 1) ≤ s ∧ s ≤ 12 * (word + 1) + 12) → (RS A82) → (12 * (word + 1) + 12 - s).toNat < nf → Re L xs 89 82 [(0, .ref 48), (1, V word), (2, V kind), (3, V r_1), (4, V il), (5, V (word + 1)), (6, V s), (7, V l7), (8, V l8), (9, V l9), (10, V l10), (11, V l11)] [] (HP ly F G A82 B) Q := by
          intro nf
          induction nf with
          | zero => intros; omega
          | succ nf ih82B =>
            intro s l7 l8 l9 l10 l11 A82 hA82 fa82 hsl hrs2 hm82
            refine r_iload i_89_82 rfl ?_
            refine r_aload_n i_89_84 rfl ?_
            refine r_iload i_89_85 rfl ?_
            refine r_cV (as := [V (word + 1)]) i_89_87 rfl (by decide +kernel) (Nat.le_of_ble_eq_true rfl) (Nat.le_of_ble_eq_true rfl) (hly 48 _ rfl) rfl ?_
            refine c_92 (word := word + 1) hly hF hG hA82 (by omega) (by omega) (by omega) (fun r_9 p9_0 p9_1 => ?_)
            show Re L xs 89 90 [(0, .ref 48), (1, V word), (2, V kind), (3, V r_1), (4, V il), (5, V (word + 1)), (6, V s), (7, V l7), (8, V l8), (9, V l9), (10, V l10), (11, V l11)] [V r_9, V s] (HP ly F G A82 B) _
            rw [show A82 32 = A 32 from by rw [fa82 32 (by omega), fa4 32 (by omega)]] at p9_1
            refine r_cgt (t := 251) i_89_90 (by decide) (by omega) (by omega) (fun u_10 => ?_) (fun u_10 => ?_)
            · skip
              exact r_vret i_89_251 rfl (K A82 hA82 (by intro a hh; rw [fa82 a (fun h => hh h), fa4 a (fun h => hh h)]) (by exact hrs2))
            · skip
              refine r_aload_n i_89_93 rfl ?_
              refine r_getF (v := .ref 51) i_89_94 rfl (hly 48 _ rfl) (hF.1 48 3 51 rfl) ?_
              refine r_iload i_89_97 rfl ?_
              refine r_iald i_89_99 (hly 51 _ rfl) (by omega) (by omega) (by omega) ?_
              rw [show A82 51 = A 51 from by rw [fa82 51 (by omega), fa4 51 (by omega)]]
              have q_11 := a_51 hA (s.toNat)
              refine r_istore (l' := [(0, .ref 48), (1, V word), (2, V kind), (3, V r_1), (4, V il), (5, V (word + 1)), (6, V s), (7, V (A 51 (s.toNat))), (8, V l8), (9, V l9), (10, V l10), (11, V l11)]) i_89_100 (by decide +kernel) rfl ?_
              refine r_aload_n i_89_102 rfl ?_
              refine r_iload i_89_103 rfl ?_
              refine r_aload_n i_89_105 rfl ?_
              refine r_getF (v := .ref 31) i_89_106 rfl (hly 48 _ rfl) (hF.1 48 0 31 rfl) ?_
              refine r_getF (v := .ref 37) i_89_109 rfl (hly 31 _ rfl) (hF.1 31 3 37 rfl) ?_
              refine r_iload i_89_112 rfl ?_
              refine r_iald i_89_114 (hly 37 _ rfl) (by omega) (by omega) (by omega) ?_
              rw [show A82 37 = A 37 from by rw [fa82 37 (by omega), fa4 37 (by omega)]]
              have q_12 := a_37 hA (s.toNat)
              refine r_cV (as := [V (A 37 (s.toNat)), V (word + 1)]) i_89_115 rfl (by decide +kernel) (Nat.le_of_ble_eq_true rfl) (Nat.le_of_ble_eq_true rfl) (hly 48 _ rfl) rfl ?_
              refine c_90 (word := word + 1) (kind := A 37 (s.toNat)) hly hF hG hA82 (by omega) (by omega) (by omega) (fun r_13 p13_0 => ?_)
              show Re L xs 89 118 [(0, .ref 48), (1, V word), (2, V kind), (3, V r_1), (4, V il), (5, V (word + 1)), (6, V s), (7, V (A 51 (s.toNat))), (8, V l8), (9, V l9), (10, V l10), (11, V l11)] [V r_13] (HP ly F G A82 B) _
              rw [show A82 49 = A 49 from by rw [fa82 49 (by omega), fa4 49 (by omega)]] at p13_0
              refine r_iload i_89_118 rfl ?_
              refine r_iadd i_89_120 ?_
              refine r_istore (l' := [(0, .ref 48), (1, V word), (2, V kind), (3, V r_1), (4, V il), (5, V (word + 1)), (6, V s), (7, V (A 51 (s.toNat))), (8, V (r_13 + (A 51 (s.toNat)))), (9, V l9), (10, V l10), (11, V l11)]) i_89_121 (by decide +kernel) rfl ?_
              refine r_aload_n i_89_123 rfl ?_
              refine r_getF (v := .ref q) i_89_124 rfl (hly 48 _ rfl) hfq ?_
              refine r_iload_n i_89_127 rfl ?_
              refine r_bipush i_89_128 (by decide) ?_
              refine r_imul i_89_130 ?_
              refine r_aload_n i_89_131 rfl ?_
              refine r_getF (v := .ref 31) i_89_132 rfl (hly 48 _ rfl) (hF.1 48 0 31 rfl) ?_
              refine r_getF (v := .ref 37) i_89_135 rfl (hly 31 _ rfl) (hF.1 31 3 37 rfl) ?_
              refine r_iload i_89_138 rfl ?_
              refine r_iald i_89_140 (hly 37 _ rfl) (by omega) (by omega) (by omega) ?_
              rw [show A82 37 = A 37 from by rw [fa82 37 (by omega), fa4 37 (by omega)]]
              refine r_iadd i_89_141 ?_
              refine r_iald i_89_142 (Lq_0 hly hq) (by omega) (by omega) (by omega) ?_
              rw [show A82 q = A q from by rw [fa82 q (by omega), fa4 q (by omega)]]
              have q_14 := Aq_0 hA hq (((kind * 8) + (A 37 (s.toNat))).toNat)
              refine r_aload_n i_89_143 rfl ?_
              refine r_getF (v := .ref 31) i_89_144 rfl (hly 48 _ rfl) (hF.1 48 0 31 rfl) ?_
              refine r_getF (v := .ref 38) i_89_147 rfl (hly 31 _ rfl) (hF.1 31 4 38 rfl) ?_
              refine r_iload i_89_150 rfl ?_
              refine r_iald i_89_152 (hly 38 _ rfl) (by omega) (by omega) (by omega) ?_
              rw [show A82 38 = A 38 from by rw [fa82 38 (by omega), fa4 38 (by omega)]]
              have q_15 := a_38 hA (s.toNat)
              refine r_iadd i_89_153 ?_
              refine r_istore (l' := [(0, .ref 48), (1, V word), (2, V kind), (3, V r_1), (4, V il), (5, V (word + 1)), (6, V s), (7, V (A 51 (s.toNat))), (8, V (r_13 + (A 51 (s.toNat)))), (9, V ((A q (((kind * 8) + (A 37 (s.toNat))).toNat)) + (A 38 (s.toNat)))), (10, V l10), (11, V l11)]) i_89_154 (by decide +kernel) rfl ?_
              have hpcv := hpc (kind * 8 + A 37 s.toNat).toNat (by omega)
              refine r_aload_n i_89_156 rfl ?_
              refine r_getF (v := .ref 50) i_89_157 rfl (hly 48 _ rfl) (hF.1 48 2 50 rfl) ?_
              refine r_iload_n i_89_160 rfl ?_
              refine r_iald i_89_161 (hly 50 _ rfl) (by omega) (by omega) (by omega) ?_
              rw [show A82 50 = A 50 from by rw [fa82 50 (by omega), fa4 50 (by omega)]]
              refine r_aload_n i_89_162 rfl ?_
              refine r_getF (v := .ref 50) i_89_163 rfl (hly 48 _ rfl) (hF.1 48 2 50 rfl) ?_
              refine r_iload i_89_166 rfl ?_
              refine r_iald i_89_168 (hly 50 _ rfl) (by omega) (by omega) (by omega) ?_
              rw [show A82 50 = A 50 from by rw [fa82 50 (by omega), fa4 50 (by omega)]]
              have q_16 := a_50 hA ((word + 1).toNat)
              refine r_iload i_89_169 rfl ?_
              refine r_isub i_89_171 ?_
              refine r_min (r := (0, 0, 0)) i_89_172 (by decide +kernel) (Nat.le_of_ble_eq_true rfl) (by omega) (by omega) (fun m_17 em_17 => ?_)
              refine r_istore (l' := [(0, .ref 48), (1, V word), (2, V kind), (3, V r_1), (4, V il), (5, V (word + 1)), (6, V s), (7, V (A 51 (s.toNat))), (8, V (r_13 + (A 51 (s.toNat)))), (9, V ((A q (((kind * 8) + (A 37 (s.toNat))).toNat)) + (A 38 (s.toNat)))), (10, V m_17), (11, V l11)]) i_89_175 (by decide +kernel) rfl ?_
              refine r_aload_n i_89_177 rfl ?_
              refine r_getF (v := .ref 49) i_89_178 rfl (hly 48 _ rfl) (hF.1 48 1 49 rfl) ?_
              refine r_iload_n i_89_181 rfl ?_
              refine r_iald i_89_182 (hly 49 _ rfl) (by omega) (by omega) (by omega) ?_
              rw [show A82 49 = A 49 from by rw [fa82 49 (by omega), fa4 49 (by omega)]]
              refine r_aload_n i_89_183 rfl ?_
              refine r_getF (v := .ref 49) i_89_184 rfl (hly 48 _ rfl) (hF.1 48 1 49 rfl) ?_
              refine r_iload i_89_187 rfl ?_
              refine r_iald i_89_189 (hly 49 _ rfl) (by omega) (by omega) (by omega) ?_
              rw [show A82 49 = A 49 from by rw [fa82 49 (by omega), fa4 49 (by omega)]]
              have q_18 := a_49 hA ((word + 1).toNat)
              refine r_iload i_89_190 rfl ?_
              refine r_isub i_89_192 ?_
              refine r_max (r := (0, 0, 0)) i_89_193 (by decide +kernel) (Nat.le_of_ble_eq_true rfl) (by omega) (by omega) (fun m_19 em_19 => ?_)
              refine r_istore (l' := [(0, .ref 48), (1, V word), (2, V kind), (3, V r_1), (4, V il), (5, V (word + 1)), (6, V s), (7, V (A 51 (s.toNat))), (8, V (r_13 + (A 51 (s.toNat)))), (9, V ((A q (((kind * 8) + (A 37 (s.toNat))).toNat)) + (A 38 (s.toNat)))), (10, V m_17), (11, V m_19)]) i_89_196 (by decide +kernel) rfl ?_
              have lp198B : ∀ (nf : Nat) (mk : Int) (A198 : Nat → Nat → Int), (AQ A198) → (∀ a, ¬ (a = 54) → A198 a = A82 a) → (A 49 word.toNat ≤ mk ∧ A 49 (word + 1).toNat - (A 51 (s.toNat)) ≤ mk ∧ mk ≤ 1000) → (RS A198) → (1000 - mk).toNat < nf → Re L xs 89 198 [(0, .ref 48), (1, V word), (2, V kind), (3, V r_1), (4, V il), (5, V (word + 1)), (6, V s), (7, V (A 51 (s.toNat))), (8, V (r_13 + (A 51 (s.toNat)))), (9, V ((A q (((kind * 8) + (A 37 (s.toNat))).toNat)) + (A 38 (s.toNat)))), (10, V m_17), (11, V mk)] [] (HP ly F G A198 B) Q := by
                intro nf
                induction nf with
                | zero => intros; omega
                | succ nf ih198B =>
                  intro mk A198 hA198 fa198 hmk hrs3 hm198
                  refine r_iload i_89_198 rfl ?_
                  refine r_iload i_89_200 rfl ?_
                  refine r_cgt (t := 245) i_89_202 (by decide) (by omega) (by omega) (fun u_20 => ?_) (fun u_20 => ?_)
                  · skip
                    refine r_iinc (l' := [(0, .ref 48), (1, V word), (2, V kind), (3, V r_1), (4, V il), (5, V (word + 1)), (6, V (s + 1)), (7, V (A 51 (s.toNat))), (8, V (r_13 + (A 51 (s.toNat)))), (9, V ((A q (((kind * 8) + (A 37 (s.toNat))).toNat)) + (A 38 (s.toNat)))), (10, V m_17), (11, V mk)]) i_89_245 rfl (by decide +kernel) rfl ?_
                    refine r_go (t := 82) i_89_248 (by decide) ?_
                    exact ih82B (s + 1) (A 51 (s.toNat)) (r_13 + (A 51 (s.toNat))) ((A q (((kind * 8) + (A 37 (s.toNat))).toNat)) + (A 38 (s.toNat))) m_17 mk A198 hA198 (by intro a hh; rw [fa198 a (fun h => hh h), fa82 a (fun h => hh h)]) (by omega) (by first | exact hrs1 | exact hrs3) (by omega)
                  · skip
                    refine r_aload_n i_89_205 rfl ?_
                    refine r_getF (v := .ref 54) i_89_206 rfl (hly 48 _ rfl) (hF.1 48 6 54 rfl) ?_
                    refine r_iload_n i_89_209 rfl ?_
                    refine r_iload i_89_210 rfl ?_
                    refine r_iadd i_89_212 ?_
                    refine r_aload_n i_89_213 rfl ?_
                    refine r_getF (v := .ref 54) i_89_214 rfl (hly 48 _ rfl) (hF.1 48 6 54 rfl) ?_
                    refine r_iload_n i_89_217 rfl ?_
                    refine r_iload i_89_218 rfl ?_
                    refine r_iadd i_89_220 ?_
                    refine r_iald i_89_221 (hly 54 _ rfl) (by omega) (by omega) (by omega) ?_
                    have q_21 := a_54 hA198 ((r_1 + mk).toNat)
                    refine r_iload i_89_222 rfl ?_
                    refine r_aload_n i_89_224 rfl ?_
                    refine r_getF (v := .ref 54) i_89_225 rfl (hly 48 _ rfl) (hF.1 48 6 54 rfl) ?_
                    refine r_iload i_89_228 rfl ?_
                    refine r_iload i_89_230 rfl ?_
                    refine r_iadd i_89_232 ?_
                    refine r_iald i_89_233 (hly 54 _ rfl) (by omega) (by omega) (by omega) ?_
                    have q_22 := a_54 hA198 (((r_13 + (A 51 (s.toNat))) + mk).toNat)
                    have h1 := hrs3 (r_1 + mk).toNat (by omega)
                    have h2 := hrs3 ((r_13 + (A 51 (s.toNat))) + mk).toNat (by omega)
                    rw [show (((r_1 + mk).toNat / 680 : Nat) : Int) = word from by omega] at h1
                    rw [show ((((r_13 + (A 51 (s.toNat))) + mk).toNat / 680 : Nat) : Int) = word + 1 from by omega] at h2
                    refine r_iadd i_89_234 ?_
                    refine r_min (r := (0, 0, 0)) i_89_235 (by decide +kernel) (Nat.le_of_ble_eq_true rfl) (by omega) (by omega) (fun m_23 em_23 => ?_)
                    refine r_iastQ i_89_238 (hly 54 _ rfl) (by omega) (by omega) (by omega) (fun A_24 eA_24 => ?_)
                    have hA_24 : AQ A_24 := by rw [eA_24]; exact au_54 hA198 (by omega) (by omega)
                    have x54_1 : A_24 54 = fun i => if i = (r_1 + mk).toNat then m_23 else A198 54 i := by rw [eA_24, up2_f]
                    have x54 : A_24 54 = fun i => if i = (r_1 + mk).toNat then m_23 else A198 54 i := by rw [x54_1]
                    have hrs4 : RS A_24 := RS_up hrs3 x54 (by rw [show (((r_1 + mk).toNat / 680 : Nat) : Int) = word from by omega]; exact RS_v h1 h2 (by omega) (by omega) (by omega) em_23)
                    refine r_iinc (l' := [(0, .ref 48), (1, V word), (2, V kind), (3, V r_1), (4, V il), (5, V (word + 1)), (6, V s), (7, V (A 51 (s.toNat))), (8, V (r_13 + (A 51 (s.toNat)))), (9, V ((A q (((kind * 8) + (A 37 (s.toNat))).toNat)) + (A 38 (s.toNat)))), (10, V m_17), (11, V (mk + 1))]) i_89_239 rfl (by decide +kernel) rfl ?_
                    refine r_go (t := 198) i_89_242 (by decide) ?_
                    exact ih198B (mk + 1) A_24 hA_24 (by intro a hh; rw [eA_24, up2_a (fun h => hh h), fa198 a (fun h => hh h)]) (by omega) (by first | exact hrs2 | exact hrs4) (by omega)
              exact lp198B _ m_19 A82 hA82 (by intro a hh; rfl) (by omega) (by first | exact hrs2 | exact hrs4) (Nat.lt_succ_self _)
        have lp82A6 : ∀ (nf : Nat) (s : Int) (A82 : Nat → Nat → Int), (AQ A82) → (∀ a, ¬ (a = 54) → A82 a = A_4 a) → (12 * (word + 1) ≤ s ∧ s ≤ 12 * (word + 1) + 12) → (RS A82) → (12 * (word + 1) + 12 - s).toNat < nf → Re L xs 89 82 [(0, .ref 48), (1, V word), (2, V kind), (3, V r_1), (4, V il), (5, V (word + 1)), (6, V s)] [] (HP ly F G A82 B) Q := by
          intro nf
          induction nf with
          | zero => intros; omega
          | succ nf ih82A6 =>
            intro s A82 hA82 fa82 hsl hrs2 hm82
            refine r_iload i_89_82 rfl ?_
            refine r_aload_n i_89_84 rfl ?_
            refine r_iload i_89_85 rfl ?_
            refine r_cV (as := [V (word + 1)]) i_89_87 rfl (by decide +kernel) (Nat.le_of_ble_eq_true rfl) (Nat.le_of_ble_eq_true rfl) (hly 48 _ rfl) rfl ?_
            refine c_92 (word := word + 1) hly hF hG hA82 (by omega) (by omega) (by omega) (fun r_25 p25_0 p25_1 => ?_)
            show Re L xs 89 90 [(0, .ref 48), (1, V word), (2, V kind), (3, V r_1), (4, V il), (5, V (word + 1)), (6, V s)] [V r_25, V s] (HP ly F G A82 B) _
            rw [show A82 32 = A 32 from by rw [fa82 32 (by omega), fa4 32 (by omega)]] at p25_1
            refine r_cgt (t := 251) i_89_90 (by decide) (by omega) (by omega) (fun u_26 => ?_) (fun u_26 => ?_)
            · skip
              exact r_vret i_89_251 rfl (K A82 hA82 (by intro a hh; rw [fa82 a (fun h => hh h), fa4 a (fun h => hh h)]) (by exact hrs2))
            · skip
              refine r_aload_n i_89_93 rfl ?_
              refine r_getF (v := .ref 51) i_89_94 rfl (hly 48 _ rfl) (hF.1 48 3 51 rfl) ?_
              refine r_iload i_89_97 rfl ?_
              refine r_iald i_89_99 (hly 51 _ rfl) (by omega) (by omega) (by omega) ?_
              rw [show A82 51 = A 51 from by rw [fa82 51 (by omega), fa4 51 (by omega)]]
              have q_27 := a_51 hA (s.toNat)
              refine r_istore (l' := [(0, .ref 48), (1, V word), (2, V kind), (3, V r_1), (4, V il), (5, V (word + 1)), (6, V s), (7, V (A 51 (s.toNat)))]) i_89_100 (by decide +kernel) rfl ?_
              refine r_aload_n i_89_102 rfl ?_
              refine r_iload i_89_103 rfl ?_
              refine r_aload_n i_89_105 rfl ?_
              refine r_getF (v := .ref 31) i_89_106 rfl (hly 48 _ rfl) (hF.1 48 0 31 rfl) ?_
              refine r_getF (v := .ref 37) i_89_109 rfl (hly 31 _ rfl) (hF.1 31 3 37 rfl) ?_
              refine r_iload i_89_112 rfl ?_
              refine r_iald i_89_114 (hly 37 _ rfl) (by omega) (by omega) (by omega) ?_
              rw [show A82 37 = A 37 from by rw [fa82 37 (by omega), fa4 37 (by omega)]]
              have q_28 := a_37 hA (s.toNat)
              refine r_cV (as := [V (A 37 (s.toNat)), V (word + 1)]) i_89_115 rfl (by decide +kernel) (Nat.le_of_ble_eq_true rfl) (Nat.le_of_ble_eq_true rfl) (hly 48 _ rfl) rfl ?_
              refine c_90 (word := word + 1) (kind := A 37 (s.toNat)) hly hF hG hA82 (by omega) (by omega) (by omega) (fun r_29 p29_0 => ?_)
              show Re L xs 89 118 [(0, .ref 48), (1, V word), (2, V kind), (3, V r_1), (4, V il), (5, V (word + 1)), (6, V s), (7, V (A 51 (s.toNat)))] [V r_29] (HP ly F G A82 B) _
              rw [show A82 49 = A 49 from by rw [fa82 49 (by omega), fa4 49 (by omega)]] at p29_0
              refine r_iload i_89_118 rfl ?_
              refine r_iadd i_89_120 ?_
              refine r_istore (l' := [(0, .ref 48), (1, V word), (2, V kind), (3, V r_1), (4, V il), (5, V (word + 1)), (6, V s), (7, V (A 51 (s.toNat))), (8, V (r_29 + (A 51 (s.toNat))))]) i_89_121 (by decide +kernel) rfl ?_
              refine r_aload_n i_89_123 rfl ?_
              refine r_getF (v := .ref q) i_89_124 rfl (hly 48 _ rfl) hfq ?_
              refine r_iload_n i_89_127 rfl ?_
              refine r_bipush i_89_128 (by decide) ?_
              refine r_imul i_89_130 ?_
              refine r_aload_n i_89_131 rfl ?_
              refine r_getF (v := .ref 31) i_89_132 rfl (hly 48 _ rfl) (hF.1 48 0 31 rfl) ?_
              refine r_getF (v := .ref 37) i_89_135 rfl (hly 31 _ rfl) (hF.1 31 3 37 rfl) ?_
              refine r_iload i_89_138 rfl ?_
              refine r_iald i_89_140 (hly 37 _ rfl) (by omega) (by omega) (by omega) ?_
              rw [show A82 37 = A 37 from by rw [fa82 37 (by omega), fa4 37 (by omega)]]
              refine r_iadd i_89_141 ?_
              refine r_iald i_89_142 (Lq_0 hly hq) (by omega) (by omega) (by omega) ?_
              rw [show A82 q = A q from by rw [fa82 q (by omega), fa4 q (by omega)]]
              have q_30 := Aq_0 hA hq (((kind * 8) + (A 37 (s.toNat))).toNat)
              refine r_aload_n i_89_143 rfl ?_
              refine r_getF (v := .ref 31) i_89_144 rfl (hly 48 _ rfl) (hF.1 48 0 31 rfl) ?_
              refine r_getF (v := .ref 38) i_89_147 rfl (hly 31 _ rfl) (hF.1 31 4 38 rfl) ?_
              refine r_iload i_89_150 rfl ?_
              refine r_iald i_89_152 (hly 38 _ rfl) (by omega) (by omega) (by omega) ?_
              rw [show A82 38 = A 38 from by rw [fa82 38 (by omega), fa4 38 (by omega)]]
              have q_31 := a_38 hA (s.toNat)
              refine r_iadd i_89_153 ?_
              refine r_istore (l' := [(0, .ref 48), (1, V word), (2, V kind), (3, V r_1), (4, V il), (5, V (word + 1)), (6, V s), (7, V (A 51 (s.toNat))), (8, V (r_29 + (A 51 (s.toNat)))), (9, V ((A q (((kind * 8) + (A 37 (s.toNat))).toNat)) + (A 38 (s.toNat))))]) i_89_154 (by decide +kernel) rfl ?_
              have hpcv := hpc (kind * 8 + A 37 s.toNat).toNat (by omega)
              refine r_aload_n i_89_156 rfl ?_
              refine r_getF (v := .ref 50) i_89_157 rfl (hly 48 _ rfl) (hF.1 48 2 50 rfl) ?_
              refine r_iload_n i_89_160 rfl ?_
              refine r_iald i_89_161 (hly 50 _ rfl) (by omega) (by omega) (by omega) ?_
              rw [show A82 50 = A 50 from by rw [fa82 50 (by omega), fa4 50 (by omega)]]
              refine r_aload_n i_89_162 rfl ?_
              refine r_getF (v := .ref 50) i_89_163 rfl (hly 48 _ rfl) (hF.1 48 2 50 rfl) ?_
              refine r_iload i_89_166 rfl ?_
              refine r_iald i_89_168 (hly 50 _ rfl) (by omega) (by omega) (by omega) ?_
              rw [show A82 50 = A 50 from by rw [fa82 50 (by omega), fa4 50 (by omega)]]
              have q_32 := a_50 hA ((word + 1).toNat)
              refine r_iload i_89_169 rfl ?_
              refine r_isub i_89_171 ?_
              refine r_min (r := (0, 0, 0)) i_89_172 (by decide +kernel) (Nat.le_of_ble_eq_true rfl) (by omega) (by omega) (fun m_33 em_33 => ?_)
              refine r_istore (l' := [(0, .ref 48), (1, V word), (2, V kind), (3, V r_1), (4, V il), (5, V (word + 1)), (6, V s), (7, V (A 51 (s.toNat))), (8, V (r_29 + (A 51 (s.toNat)))), (9, V ((A q (((kind * 8) + (A 37 (s.toNat))).toNat)) + (A 38 (s.toNat)))), (10, V m_33)]) i_89_175 (by decide +kernel) rfl ?_
              refine r_aload_n i_89_177 rfl ?_
              refine r_getF (v := .ref 49) i_89_178 rfl (hly 48 _ rfl) (hF.1 48 1 49 rfl) ?_
              refine r_iload_n i_89_181 rfl ?_
              refine r_iald i_89_182 (hly 49 _ rfl) (by omega) (by omega) (by omega) ?_
              rw [show A82 49 = A 49 from by rw [fa82 49 (by omega), fa4 49 (by omega)]]
              refine r_aload_n i_89_183 rfl ?_
              refine r_getF (v := .ref 49) i_89_184 rfl (hly 48 _ rfl) (hF.1 48 1 49 rfl) ?_
              refine r_iload i_89_187 rfl ?_
              refine r_iald i_89_189 (hly 49 _ rfl) (by omega) (by omega) (by omega) ?_
              rw [show A82 49 = A 49 from by rw [fa82 49 (by omega), fa4 49 (by omega)]]
              have q_34 := a_49 hA ((word + 1).toNat)
              refine r_iload i_89_190 rfl ?_
              refine r_isub i_89_192 ?_
              refine r_max (r := (0, 0, 0)) i_89_193 (by decide +kernel) (Nat.le_of_ble_eq_true rfl) (by omega) (by omega) (fun m_35 em_35 => ?_)
              refine r_istore (l' := [(0, .ref 48), (1, V word), (2, V kind), (3, V r_1), (4, V il), (5, V (word + 1)), (6, V s), (7, V (A 51 (s.toNat))), (8, V (r_29 + (A 51 (s.toNat)))), (9, V ((A q (((kind * 8) + (A 37 (s.toNat))).toNat)) + (A 38 (s.toNat)))), (10, V m_33), (11, V m_35)]) i_89_196 (by decide +kernel) rfl ?_
              have lp198B : ∀ (nf : Nat) (mk : Int) (A198 : Nat → Nat → Int), (AQ A198) → (∀ a, ¬ (a = 54) → A198 a = A82 a) → (A 49 word.toNat ≤ mk ∧ A 49 (word + 1).toNat - (A 51 (s.toNat)) ≤ mk ∧ mk ≤ 1000) → (RS A198) → (1000 - mk).toNat < nf → Re L xs 89 198 [(0, .ref 48), (1, V word), (2, V kind), (3, V r_1), (4, V il), (5, V (word + 1)), (6, V s), (7, V (A 51 (s.toNat))), (8, V (r_29 + (A 51 (s.toNat)))), (9, V ((A q (((kind * 8) + (A 37 (s.toNat))).toNat)) + (A 38 (s.toNat)))), (10, V m_33), (11, V mk)] [] (HP ly F G A198 B) Q := by
                intro nf
                induction nf with
                | zero => intros; omega
                | succ nf ih198B =>
                  intro mk A198 hA198 fa198 hmk hrs3 hm198
                  refine r_iload i_89_198 rfl ?_
                  refine r_iload i_89_200 rfl ?_
                  refine r_cgt (t := 245) i_89_202 (by decide) (by omega) (by omega) (fun u_36 => ?_) (fun u_36 => ?_)
                  · skip
                    refine r_iinc (l' := [(0, .ref 48), (1, V word), (2, V kind), (3, V r_1), (4, V il), (5, V (word + 1)), (6, V (s + 1)), (7, V (A 51 (s.toNat))), (8, V (r_29 + (A 51 (s.toNat)))), (9, V ((A q (((kind * 8) + (A 37 (s.toNat))).toNat)) + (A 38 (s.toNat)))), (10, V m_33), (11, V mk)]) i_89_245 rfl (by decide +kernel) rfl ?_
                    refine r_go (t := 82) i_89_248 (by decide) ?_
                    exact lp82B _ (s + 1) (A 51 (s.toNat)) (r_29 + (A 51 (s.toNat))) ((A q (((kind * 8) + (A 37 (s.toNat))).toNat)) + (A 38 (s.toNat))) m_33 mk A198 hA198 (by intro a hh; rw [fa198 a (fun h => hh h), fa82 a (fun h => hh h)]) (by omega) (by first | exact hrs1 | exact hrs3) (Nat.lt_succ_self _)
                  · skip
                    refine r_aload_n i_89_205 rfl ?_
                    refine r_getF (v := .ref 54) i_89_206 rfl (hly 48 _ rfl) (hF.1 48 6 54 rfl) ?_
                    refine r_iload_n i_89_209 rfl ?_
                    refine r_iload i_89_210 rfl ?_
                    refine r_iadd i_89_212 ?_
                    refine r_aload_n i_89_213 rfl ?_
                    refine r_getF (v := .ref 54) i_89_214 rfl (hly 48 _ rfl) (hF.1 48 6 54 rfl) ?_
                    refine r_iload_n i_89_217 rfl ?_
                    refine r_iload i_89_218 rfl ?_
                    refine r_iadd i_89_220 ?_
                    refine r_iald i_89_221 (hly 54 _ rfl) (by omega) (by omega) (by omega) ?_
                    have q_37 := a_54 hA198 ((r_1 + mk).toNat)
                    refine r_iload i_89_222 rfl ?_
                    refine r_aload_n i_89_224 rfl ?_
                    refine r_getF (v := .ref 54) i_89_225 rfl (hly 48 _ rfl) (hF.1 48 6 54 rfl) ?_
                    refine r_iload i_89_228 rfl ?_
                    refine r_iload i_89_230 rfl ?_
                    refine r_iadd i_89_232 ?_
                    refine r_iald i_89_233 (hly 54 _ rfl) (by omega) (by omega) (by omega) ?_
                    have q_38 := a_54 hA198 (((r_29 + (A 51 (s.toNat))) + mk).toNat)
                    have h1 := hrs3 (r_1 + mk).toNat (by omega)
                    have h2 := hrs3 ((r_29 + (A 51 (s.toNat))) + mk).toNat (by omega)
                    rw [show (((r_1 + mk).toNat / 680 : Nat) : Int) = word from by omega] at h1
                    rw [show ((((r_29 + (A 51 (s.toNat))) + mk).toNat / 680 : Nat) : Int) = word + 1 from by omega] at h2
                    refine r_iadd i_89_234 ?_
                    refine r_min (r := (0, 0, 0)) i_89_235 (by decide +kernel) (Nat.le_of_ble_eq_true rfl) (by omega) (by omega) (fun m_39 em_39 => ?_)
                    refine r_iastQ i_89_238 (hly 54 _ rfl) (by omega) (by omega) (by omega) (fun A_40 eA_40 => ?_)
                    have hA_40 : AQ A_40 := by rw [eA_40]; exact au_54 hA198 (by omega) (by omega)
                    have x54_1 : A_40 54 = fun i => if i = (r_1 + mk).toNat then m_39 else A198 54 i := by rw [eA_40, up2_f]
                    have x54 : A_40 54 = fun i => if i = (r_1 + mk).toNat then m_39 else A198 54 i := by rw [x54_1]
                    have hrs4 : RS A_40 := RS_up hrs3 x54 (by rw [show (((r_1 + mk).toNat / 680 : Nat) : Int) = word from by omega]; exact RS_v h1 h2 (by omega) (by omega) (by omega) em_39)
                    refine r_iinc (l' := [(0, .ref 48), (1, V word), (2, V kind), (3, V r_1), (4, V il), (5, V (word + 1)), (6, V s), (7, V (A 51 (s.toNat))), (8, V (r_29 + (A 51 (s.toNat)))), (9, V ((A q (((kind * 8) + (A 37 (s.toNat))).toNat)) + (A 38 (s.toNat)))), (10, V m_33), (11, V (mk + 1))]) i_89_239 rfl (by decide +kernel) rfl ?_
                    refine r_go (t := 198) i_89_242 (by decide) ?_
                    exact ih198B (mk + 1) A_40 hA_40 (by intro a hh; rw [eA_40, up2_a (fun h => hh h), fa198 a (fun h => hh h)]) (by omega) (by first | exact hrs2 | exact hrs4) (by omega)
              exact lp198B _ m_35 A82 hA82 (by intro a hh; rfl) (by omega) (by first | exact hrs2 | exact hrs4) (Nat.lt_succ_self _)
        exact lp82A6 _ r_8 A_4 hA_4 (by intro a hh; rfl) (by omega) (by first | exact hrs1 | exact hrs3) (Nat.lt_succ_self _)
      · skip
        exact r_vret i_89_68 rfl (K A_4 hA_4 (by intro a hh; rw [fa4 a (fun h => hh h)]) (by exact hrs1))
    refine r_iload i_89_49 rfl ?_
    refine r_eq0 (t := 58) i_89_51 (by decide) (by omega) (fun u_41 => ?_) (fun u_41 => ?_)
    · skip
      refine r_ldc (v := 1000000) i_89_58 (by decide) ?_
      exact jn60 1000000  (by omega)
    · skip
      refine r_iconst i_89_54 ?_
      refine r_go (t := 60) i_89_55 (by decide) ?_
      exact jn60 0  (by omega)
  refine r_iload_n i_89_7 rfl ?_
  refine r_aload_n i_89_8 rfl ?_
  refine r_getF (v := .ref 31) i_89_9 rfl (hly 48 _ rfl) (hF.1 48 0 31 rfl) ?_
  refine r_getI i_89_12 rfl (hly 31 _ rfl) ?_
  have q_42 := g_31_8 hG
  refine r_iconst i_89_15 ?_
  refine r_isub i_89_16 ?_
  refine r_cne (t := 24) i_89_17 (by decide) (by omega) (by omega) (fun u_43 => ?_) (fun u_43 => ?_)
  · skip
    refine r_iconst i_89_24 ?_
    exact jn25 0  (by omega) (by omega)
  · skip
    refine r_iconst i_89_20 ?_
    refine r_go (t := 25) i_89_21 (by decide) ?_
    exact jn25 1  (by omega) (by omega)
set_option maxHeartbeats 4000000 in
theorem c_87 {L : Nat} {xs : Nat → Int32} {ly : List LK} {F : Nat → Nat → Value} {G A : Nat → Nat → Int} {B : Nat → Nat → Int64} {Q : Option Value → AH → Prop} {q : Nat} (hly : LyOk ly) (hF : RfOk F) (hG : GO G) (hA : AQ A) (hsp : spV G A) (hrs : RS A) (hfx : G 48 10 = -1 ∨ 0 ≤ G 48 11) (hq : q = 20 ∨ q = 78 ∨ q = 52) (hfq : F 48 4 = .ref q) (hpc : PC A q) (K : ∀ (A' : Nat → Nat → Int), (AQ A') → (∀ a, ¬ (a = 54) → A' a = A a) → (RS A') → Q none (HP ly F G A' B)) : Re L xs 87 0 [(0, .ref 48)] [] (HP ly F G A B) Q := by
  have z8 := g_31_8 hG
  refine r_aload_n i_87_0 rfl ?_
  refine r_getF (v := .ref 31) i_87_1 rfl (hly 48 _ rfl) (hF.1 48 0 31 rfl) ?_
  refine r_getI i_87_4 rfl (hly 31 _ rfl) ?_
  have q_1 := g_31_8 hG
  refine r_iconst i_87_7 ?_
  refine r_isub i_87_8 ?_
  refine r_istore_n (l' := [(0, .ref 48), (1, V ((G 31 8) - 1))]) i_87_9 (by decide +kernel) rfl ?_
  have lp10B : ∀ (nf : Nat) (w : Int) (l2 : Int) (A10 : Nat → Nat → Int), (AQ A10) → (∀ a, ¬ (a = 54) → A10 a = A a) → (-1 ≤ w ∧ w < G 31 8) → (RS A10) → (w + 1).toNat < nf → Re L xs 87 10 [(0, .ref 48), (1, V w), (2, V l2)] [] (HP ly F G A10 B) Q := by
    intro nf
    induction nf with
    | zero => intros; omega
    | succ nf ih10B =>
      intro w l2 A10 hA10 fa10 hw hr1 hm10
      refine r_iload_n i_87_10 rfl ?_
      refine r_lt0 (t := 49) i_87_11 (by decide) (by omega) (fun u_2 => ?_) (fun u_2 => ?_)
      · skip
        exact r_vret i_87_49 rfl (K A10 hA10 (by intro a hh; rw [fa10 a (fun h => hh h)]) (by exact hr1))
      · skip
        refine r_iconst i_87_14 ?_
        refine r_istore_n (l' := [(0, .ref 48), (1, V w), (2, V 0)]) i_87_15 (by decide +kernel) rfl ?_
        have lp16B : ∀ (nf : Nat) (kd : Int) (A16 : Nat → Nat → Int), (AQ A16) → (∀ a, ¬ (a = 54) → A16 a = A10 a) → (0 ≤ kd ∧ kd ≤ 8) → (RS A16) → (8 - kd).toNat < nf → Re L xs 87 16 [(0, .ref 48), (1, V w), (2, V kd)] [] (HP ly F G A16 B) Q := by
          intro nf
          induction nf with
          | zero => intros; omega
          | succ nf ih16B =>
            intro kd A16 hA16 fa16 hkk hr2 hm16
            refine r_iload_n i_87_16 rfl ?_
            refine r_bipush i_87_17 (by decide) ?_
            refine r_cge (t := 43) i_87_19 (by decide) (by omega) (by omega) (fun u_3 => ?_) (fun u_3 => ?_)
            · skip
              refine r_iinc (l' := [(0, .ref 48), (1, V (w + (-1))), (2, V kd)]) i_87_43 rfl (by decide +kernel) rfl ?_
              refine r_go (t := 10) i_87_46 (by decide) ?_
              exact ih10B (w + (-1)) kd A16 hA16 (by intro a hh; rw [fa16 a (fun h => hh h), fa10 a (fun h => hh h)]) (by omega) (by first | exact hrs | exact hr2) (by omega)
            · skip
              refine r_aload_n i_87_22 rfl ?_
              refine r_iload_n i_87_23 rfl ?_
              refine r_iload_n i_87_24 rfl ?_
              refine r_cV (as := [V kd, V w]) i_87_25 rfl (by decide +kernel) (Nat.le_of_ble_eq_true rfl) (Nat.le_of_ble_eq_true rfl) (hly 48 _ rfl) rfl ?_
              refine c_88 (word := w) (kind := kd) hly hF hG hA16 (by omega) (by omega) (by omega) (fun r_4 p4_0 p4_1 => ?_)
              show Re L xs 87 28 [(0, .ref 48), (1, V w), (2, V kd)] [V r_4] (HP ly F G A16 B) _
              refine r_eq0 (t := 37) i_87_28 (by decide) (by omega) (fun u_5 => ?_) (fun u_5 => ?_)
              · skip
                refine r_iinc (l' := [(0, .ref 48), (1, V w), (2, V (kd + 1))]) i_87_37 rfl (by decide +kernel) rfl ?_
                refine r_go (t := 16) i_87_40 (by decide) ?_
                exact ih16B (kd + 1) A16 hA16 (by intro a hh; rw [fa16 a (fun h => hh h)]) (by omega) (by first | exact zzp0 | exact hr2 | exact hr1) (by omega)
              · skip
                refine r_aload_n i_87_31 rfl ?_
                refine r_iload_n i_87_32 rfl ?_
                refine r_iload_n i_87_33 rfl ?_
                refine r_cV (as := [V kd, V w]) i_87_34 rfl (by decide +kernel) (Nat.le_of_ble_eq_true rfl) (Nat.le_of_ble_eq_true rfl) (hly 48 _ rfl) rfl ?_
                have q_6 := g_48_10 hG
                have q_7 := g_48_11 hG
                refine c_89 (word := w) (kind := kd) (q := q) hly hF hG hA16 (by omega) (by omega) (by omega) (by omega) (by exact spV_c (by rfl) (by rw [fa16 49 (by omega), fa10 49 (by omega)]) (by rw [fa16 50 (by omega), fa10 50 (by omega)]) hsp) (by exact hr2) (by omega) (by exact hq) (by exact hfq) (by exact PC_c (by rw [fa16 q (by omega), fa10 q (by omega)]) hpc) (fun A_8 hA_8 fa8 p8_0 => ?_)
                show Re L xs 87 37 [(0, .ref 48), (1, V w), (2, V kd)] [] (HP ly F G A_8 B) _
                refine r_iinc (l' := [(0, .ref 48), (1, V w), (2, V (kd + 1))]) i_87_37 rfl (by decide +kernel) rfl ?_
                refine r_go (t := 16) i_87_40 (by decide) ?_
                exact ih16B (kd + 1) A_8 hA_8 (by intro a hh; rw [fa8 a (fun h => hh h), fa16 a (fun h => hh h)]) (by omega) (by first | exact p8_0 | exact hr2 | exact hr1) (by omega)
        exact lp16B _ 0 A10 hA10 (by intro a hh; rfl) (by omega) (by first | exact zzp0 | exact hr2 | exact hr1) (Nat.lt_succ_self _)
  have lp10A1 : ∀ (nf : Nat) (w : Int) (A10 : Nat → Nat → Int), (AQ A10) → (∀ a, ¬ (a = 54) → A10 a = A a) → (-1 ≤ w ∧ w < G 31 8) → (RS A10) → (w + 1).toNat < nf → Re L xs 87 10 [(0, .ref 48), (1, V w)] [] (HP ly F G A10 B) Q := by
    intro nf
    induction nf with
    | zero => intros; omega
    | succ nf ih10A1 =>
      intro w A10 hA10 fa10 hw hr1 hm10
      refine r_iload_n i_87_10 rfl ?_
      refine r_lt0 (t := 49) i_87_11 (by decide) (by omega) (fun u_9 => ?_) (fun u_9 => ?_)
      · skip
        exact r_vret i_87_49 rfl (K A10 hA10 (by intro a hh; rw [fa10 a (fun h => hh h)]) (by exact hr1))
      · skip
        refine r_iconst i_87_14 ?_
        refine r_istore_n (l' := [(0, .ref 48), (1, V w), (2, V 0)]) i_87_15 (by decide +kernel) rfl ?_
        have lp16B : ∀ (nf : Nat) (kd : Int) (A16 : Nat → Nat → Int), (AQ A16) → (∀ a, ¬ (a = 54) → A16 a = A10 a) → (0 ≤ kd ∧ kd ≤ 8) → (RS A16) → (8 - kd).toNat < nf → Re L xs 87 16 [(0, .ref 48), (1, V w), (2, V kd)] [] (HP ly F G A16 B) Q := by
          intro nf
          induction nf with
          | zero => intros; omega
          | succ nf ih16B =>
            intro kd A16 hA16 fa16 hkk hr2 hm16
            refine r_iload_n i_87_16 rfl ?_
            refine r_bipush i_87_17 (by decide) ?_
            refine r_cge (t := 43) i_87_19 (by decide) (by omega) (by omega) (fun u_10 => ?_) (fun u_10 => ?_)
            · skip
              refine r_iinc (l' := [(0, .ref 48), (1, V (w + (-1))), (2, V kd)]) i_87_43 rfl (by decide +kernel) rfl ?_
              refine r_go (t := 10) i_87_46 (by decide) ?_
              exact lp10B _ (w + (-1)) kd A16 hA16 (by intro a hh; rw [fa16 a (fun h => hh h), fa10 a (fun h => hh h)]) (by omega) (by first | exact hrs | exact hr2) (Nat.lt_succ_self _)
            · skip
              refine r_aload_n i_87_22 rfl ?_
              refine r_iload_n i_87_23 rfl ?_
              refine r_iload_n i_87_24 rfl ?_
              refine r_cV (as := [V kd, V w]) i_87_25 rfl (by decide +kernel) (Nat.le_of_ble_eq_true rfl) (Nat.le_of_ble_eq_true rfl) (hly 48 _ rfl) rfl ?_
              refine c_88 (word := w) (kind := kd) hly hF hG hA16 (by omega) (by omega) (by omega) (fun r_11 p11_0 p11_1 => ?_)
              show Re L xs 87 28 [(0, .ref 48), (1, V w), (2, V kd)] [V r_11] (HP ly F G A16 B) _
              refine r_eq0 (t := 37) i_87_28 (by decide) (by omega) (fun u_12 => ?_) (fun u_12 => ?_)
              · skip
                refine r_iinc (l' := [(0, .ref 48), (1, V w), (2, V (kd + 1))]) i_87_37 rfl (by decide +kernel) rfl ?_
                refine r_go (t := 16) i_87_40 (by decide) ?_
                exact ih16B (kd + 1) A16 hA16 (by intro a hh; rw [fa16 a (fun h => hh h)]) (by omega) (by first | exact zzp0 | exact hr2 | exact hr1) (by omega)
              · skip
                refine r_aload_n i_87_31 rfl ?_
                refine r_iload_n i_87_32 rfl ?_
                refine r_iload_n i_87_33 rfl ?_
                refine r_cV (as := [V kd, V w]) i_87_34 rfl (by decide +kernel) (Nat.le_of_ble_eq_true rfl) (Nat.le_of_ble_eq_true rfl) (hly 48 _ rfl) rfl ?_
                have q_13 := g_48_10 hG
                have q_14 := g_48_11 hG
                refine c_89 (word := w) (kind := kd) (q := q) hly hF hG hA16 (by omega) (by omega) (by omega) (by omega) (by exact spV_c (by rfl) (by rw [fa16 49 (by omega), fa10 49 (by omega)]) (by rw [fa16 50 (by omega), fa10 50 (by omega)]) hsp) (by exact hr2) (by omega) (by exact hq) (by exact hfq) (by exact PC_c (by rw [fa16 q (by omega), fa10 q (by omega)]) hpc) (fun A_15 hA_15 fa15 p15_0 => ?_)
                show Re L xs 87 37 [(0, .ref 48), (1, V w), (2, V kd)] [] (HP ly F G A_15 B) _
                refine r_iinc (l' := [(0, .ref 48), (1, V w), (2, V (kd + 1))]) i_87_37 rfl (by decide +kernel) rfl ?_
                refine r_go (t := 16) i_87_40 (by decide) ?_
                exact ih16B (kd + 1) A_15 hA_15 (by intro a hh; rw [fa15 a (fun h => hh h), fa16 a (fun h => hh h)]) (by omega) (by first | exact p15_0 | exact hr2 | exact hr1) (by omega)
        exact lp16B _ 0 A10 hA10 (by intro a hh; rfl) (by omega) (by first | exact zzp0 | exact hr2 | exact hr1) (Nat.lt_succ_self _)
  exact lp10A1 _ ((G 31 8) - 1) A hA (by intro a hh; rfl) (by omega) (by first | exact hrs | exact hr2) (Nat.lt_succ_self _)
set_option maxHeartbeats 4000000 in
theorem c_95 {L : Nat} {xs : Nat → Int32} {ly : List LK} {F : Nat → Nat → Value} {G A : Nat → Nat → Int} {B : Nat → Nat → Int64} {Q : Option Value → AH → Prop} {before : Int} {kind : Int} {width : Int} {q : Nat} (hly : LyOk ly) (hF : RfOk F) (hG : GO G) (hA : AQ A) (in_before : inR before) (in_kind : inR kind) (in_width : inR width) (hkd : 0 ≤ kind ∧ kind ≤ 7) (hbf : 0 ≤ before ∧ before ≤ 7) (hwd : 0 ≤ width ∧ width ≤ 85) (hq : q = 20 ∨ q = 78 ∨ q = 52) (hfq : F 48 4 = .ref q) (hpc : PC A q) (K : ∀ (A' : Nat → Nat → Int), (AQ A') → (∀ a, ¬ (a = 56) → A' a = A a) → Q none (HP ly F G A' B)) : Re L xs 95 0 [(0, .ref 48), (1, V before), (2, V kind), (3, V width)] [] (HP ly F G A B) Q := by
  refine r_aload_n i_95_0 rfl ?_
  refine r_getF (v := .ref q) i_95_1 rfl (hly 48 _ rfl) hfq ?_
  refine r_iload_n i_95_4 rfl ?_
  refine r_bipush i_95_5 (by decide) ?_
  refine r_imul i_95_7 ?_
  refine r_iload_n i_95_8 rfl ?_
  refine r_iadd i_95_9 ?_
  refine r_iald i_95_10 (Lq_0 hly hq) (by omega) (by omega) (by omega) ?_
  have q_1 := Aq_0 hA hq (((before * 8) + kind).toNat)
  refine r_istore (l' := [(0, .ref 48), (1, V before), (2, V kind), (3, V width), (4, V (A q (((before * 8) + kind).toNat)))]) i_95_11 (by decide +kernel) rfl ?_
  refine r_iconst i_95_13 ?_
  refine r_istore (l' := [(0, .ref 48), (1, V before), (2, V kind), (3, V width), (4, V (A q (((before * 8) + kind).toNat))), (5, V 0)]) i_95_14 (by decide +kernel) rfl ?_
  have lp16B : ∀ (nf : Nat) (k : Int) (A16 : Nat → Nat → Int), (AQ A16) → (∀ a, ¬ (a = 56) → A16 a = A a) → (0 ≤ k ∧ k ≤ 85) → (85 - k).toNat < nf → Re L xs 95 16 [(0, .ref 48), (1, V before), (2, V kind), (3, V width), (4, V (A q (((before * 8) + kind).toNat))), (5, V k)] [] (HP ly F G A16 B) Q := by
    intro nf
    induction nf with
    | zero => intros; omega
    | succ nf ih16B =>
      intro k A16 hA16 fa16 hk hm16
      refine r_iload i_95_16 rfl ?_
      refine r_iload_n i_95_18 rfl ?_
      refine r_cge (t := 70) i_95_19 (by decide) (by omega) (by omega) (fun u_2 => ?_) (fun u_2 => ?_)
      · skip
        exact r_vret i_95_70 rfl (K A16 hA16 (by intro a hh; rw [fa16 a (fun h => hh h)]))
      · skip
        refine r_aload_n i_95_22 rfl ?_
        refine r_getF (v := .ref 56) i_95_23 rfl (hly 48 _ rfl) (hF.1 48 8 56 rfl) ?_
        refine r_iload_n i_95_26 rfl ?_
        refine r_bipush i_95_27 (by decide) ?_
        refine r_imul i_95_29 ?_
        refine r_iload i_95_30 rfl ?_
        refine r_iadd i_95_32 ?_
        refine r_aload_n i_95_33 rfl ?_
        refine r_getF (v := .ref 56) i_95_34 rfl (hly 48 _ rfl) (hF.1 48 8 56 rfl) ?_
        refine r_iload_n i_95_37 rfl ?_
        refine r_bipush i_95_38 (by decide) ?_
        refine r_imul i_95_40 ?_
        refine r_iload i_95_41 rfl ?_
        refine r_iadd i_95_43 ?_
        refine r_iald i_95_44 (hly 56 _ rfl) (by omega) (by omega) (by omega) ?_
        have q_3 := a_56 hA16 (((kind * 85) + k).toNat)
        refine r_aload_n i_95_45 rfl ?_
        refine r_getF (v := .ref 55) i_95_46 rfl (hly 48 _ rfl) (hF.1 48 7 55 rfl) ?_
        refine r_iload_n i_95_49 rfl ?_
        refine r_bipush i_95_50 (by decide) ?_
        refine r_imul i_95_52 ?_
        refine r_iload i_95_53 rfl ?_
        refine r_iadd i_95_55 ?_
        refine r_iald i_95_56 (hly 55 _ rfl) (by omega) (by omega) (by omega) ?_
        rw [show A16 55 = A 55 from by rw [fa16 55 (by omega)]]
        have q_4 := a_55 hA (((before * 85) + k).toNat)
        refine r_iload i_95_57 rfl ?_
        refine r_iadd i_95_59 ?_
        refine r_min (r := (0, 0, 0)) i_95_60 (by decide +kernel) (Nat.le_of_ble_eq_true rfl) (by omega) (by omega) (fun m_5 em_5 => ?_)
        refine r_iastQ i_95_63 (hly 56 _ rfl) (by omega) (by omega) (by omega) (fun A_6 eA_6 => ?_)
        have hA_6 : AQ A_6 := by rw [eA_6]; exact au_56 hA16 (by omega) (by omega)
        refine r_iinc (l' := [(0, .ref 48), (1, V before), (2, V kind), (3, V width), (4, V (A q (((before * 8) + kind).toNat))), (5, V (k + 1))]) i_95_64 rfl (by decide +kernel) rfl ?_
        refine r_go (t := 16) i_95_67 (by decide) ?_
        exact ih16B (k + 1) A_6 hA_6 (by intro a hh; rw [eA_6, up2_a (fun h => hh h), fa16 a (fun h => hh h)]) (by omega) (by omega)
  exact lp16B _ 0 A hA (by intro a hh; rfl) (by omega) (Nat.lt_succ_self _)
set_option maxHeartbeats 4000000 in
theorem c_94 {L : Nat} {xs : Nat → Int32} {ly : List LK} {F : Nat → Nat → Value} {G A : Nat → Nat → Int} {B : Nat → Nat → Int64} {Q : Option Value → AH → Prop} {word : Int} {q : Nat} (hly : LyOk ly) (hF : RfOk F) (hG : GO G) (hA : AQ A) (in_word : inR word) (hw : 0 ≤ word ∧ word < G 31 8) (hsp : spV G A) (hq : q = 20 ∨ q = 78 ∨ q = 52) (hfq : F 48 4 = .ref q) (hpc : PC A q) (K : ∀ (A' : Nat → Nat → Int), (AQ A') → (∀ a, ¬ (a = 56) → A' a = A a) → (word = 0 → ∀ j : Nat, (j : Int) < 8 → hkB (A 53 0) j → A' 56 (85 * j) = 0) → Q none (HP ly F G A' B)) : Re L xs 94 0 [(0, .ref 48), (1, V word)] [] (HP ly F G A B) Q := by
  have z8 := g_31_8 hG
  refine r_iconst i_94_0 ?_
  refine r_istore_n (l' := [(0, .ref 48), (1, V word), (2, V 0)]) i_94_1 (by decide +kernel) rfl ?_
  have lp2B : ∀ (nf : Nat) (kd : Int) (l3 : Int) (l4 : Int) (A2 : Nat → Nat → Int), (AQ A2) → (∀ a, ¬ (a = 56) → A2 a = A a) → (0 ≤ kd ∧ kd ≤ 8) → (word = 0 → ∀ j : Nat, (j : Int) < kd → hkB (A 53 0) j → A2 56 (85 * j) = 0) → (8 - kd).toNat < nf → Re L xs 94 2 [(0, .ref 48), (1, V word), (2, V kd), (3, V l3), (4, V l4)] [] (HP ly F G A2 B) Q := by
    intro nf
    induction nf with
    | zero => intros; omega
    | succ nf ih2B =>
      intro kd l3 l4 A2 hA2 fa2 hkk he hm2
      refine r_iload_n i_94_2 rfl ?_
      refine r_bipush i_94_3 (by decide) ?_
      refine r_cge (t := 118) i_94_5 (by decide) (by omega) (by omega) (fun u_1 => ?_) (fun u_1 => ?_)
      · skip
        exact r_vret i_94_118 rfl (K A2 hA2 (by intro a hh; rw [fa2 a (fun h => hh h)]) (by intro h0 j hj; exact he h0 j (by omega)))
      · skip
        refine r_aload_n i_94_8 rfl ?_
        refine r_iload_n i_94_9 rfl ?_
        refine r_iload_n i_94_10 rfl ?_
        refine r_cV (as := [V kd, V word]) i_94_11 rfl (by decide +kernel) (Nat.le_of_ble_eq_true rfl) (Nat.le_of_ble_eq_true rfl) (hly 48 _ rfl) rfl ?_
        refine c_88 (word := word) (kind := kd) hly hF hG hA2 (by omega) (by omega) (by omega) (fun r_2 p2_0 p2_1 => ?_)
        show Re L xs 94 14 [(0, .ref 48), (1, V word), (2, V kd), (3, V l3), (4, V l4)] [V r_2] (HP ly F G A2 B) _
        refine r_ne0 (t := 20) i_94_14 (by decide) (by omega) (fun u_3 => ?_) (fun u_3 => ?_)
        · skip
          refine r_iload_n i_94_20 rfl ?_
          refine r_ne0 (t := 37) i_94_21 (by decide) (by omega) (fun u_4 => ?_) (fun u_4 => ?_)
          · skip
            have hsb := hsp (word - 1).toNat (by omega)
            have z49 := a_49 hA (word - 1).toNat
            have z50 := a_50 hA (word - 1).toNat
            refine r_aload_n i_94_37 rfl ?_
            refine r_getF (v := .ref 50) i_94_38 rfl (hly 48 _ rfl) (hF.1 48 2 50 rfl) ?_
            refine r_iload_n i_94_41 rfl ?_
            refine r_iconst i_94_42 ?_
            refine r_isub i_94_43 ?_
            refine r_iald i_94_44 (hly 50 _ rfl) (by omega) (by omega) (by omega) ?_
            rw [show A2 50 = A 50 from by rw [fa2 50 (by omega)]]
            have q_5 := a_50 hA ((word - 1).toNat)
            refine r_aload_n i_94_45 rfl ?_
            refine r_getF (v := .ref 49) i_94_46 rfl (hly 48 _ rfl) (hF.1 48 1 49 rfl) ?_
            refine r_iload_n i_94_49 rfl ?_
            refine r_iconst i_94_50 ?_
            refine r_isub i_94_51 ?_
            refine r_iald i_94_52 (hly 49 _ rfl) (by omega) (by omega) (by omega) ?_
            rw [show A2 49 = A 49 from by rw [fa2 49 (by omega)]]
            have q_6 := a_49 hA ((word - 1).toNat)
            refine r_isub i_94_53 ?_
            refine r_iconst i_94_54 ?_
            refine r_iadd i_94_55 ?_
            refine r_istore_n (l' := [(0, .ref 48), (1, V word), (2, V kd), (3, V (((A 50 ((word - 1).toNat)) - (A 49 ((word - 1).toNat))) + 1)), (4, V l4)]) i_94_56 (by decide +kernel) rfl ?_
            refine r_aload_n i_94_57 rfl ?_
            refine r_getF (v := .ref 56) i_94_58 rfl (hly 48 _ rfl) (hF.1 48 8 56 rfl) ?_
            refine r_iload_n i_94_61 rfl ?_
            refine r_bipush i_94_62 (by decide) ?_
            refine r_imul i_94_64 ?_
            refine r_iload_n i_94_65 rfl ?_
            refine r_bipush i_94_66 (by decide) ?_
            refine r_imul i_94_68 ?_
            refine r_iload_n i_94_69 rfl ?_
            refine r_iadd i_94_70 ?_
            refine r_ldc (v := 1000000) i_94_71 (by decide) ?_
            refine r_cS (as := [V 1000000, V ((kd * 85) + (((A 50 ((word - 1).toNat)) - (A 49 ((word - 1).toNat))) + 1)), V (kd * 85), .ref 56]) i_94_73 rfl (by decide +kernel) (Nat.le_of_ble_eq_true rfl) (Nat.le_of_ble_eq_true rfl) ?_
            refine c_85 (ra := 56) (fr := kd * 85) (to := (kd * 85) + (((A 50 ((word - 1).toNat)) - (A 49 ((word - 1).toNat))) + 1)) (v := 1000000) (rn := 680) hly hF hG hA2 (by omega) (by omega) (by omega) (by exact hly 56 _ rfl) (by omega) (by exact fun A1 i h => au_56 h (by omega) (by omega)) (by omega) (fun A_7 hA_7 fa7 p7_0 => ?_)
            show Re L xs 94 76 [(0, .ref 48), (1, V word), (2, V kd), (3, V (((A 50 ((word - 1).toNat)) - (A 49 ((word - 1).toNat))) + 1)), (4, V l4)] [] (HP ly F G A_7 B) _
            refine r_iconst i_94_76 ?_
            refine r_istore (l' := [(0, .ref 48), (1, V word), (2, V kd), (3, V (((A 50 ((word - 1).toNat)) - (A 49 ((word - 1).toNat))) + 1)), (4, V 0)]) i_94_77 (by decide +kernel) rfl ?_
            have lp79B : ∀ (nf : Nat) (b : Int) (A79 : Nat → Nat → Int), (AQ A79) → (∀ a, ¬ (a = 56) → A79 a = A_7 a) → (0 ≤ b ∧ b ≤ 8) → (8 - b).toNat < nf → Re L xs 94 79 [(0, .ref 48), (1, V word), (2, V kd), (3, V (((A 50 ((word - 1).toNat)) - (A 49 ((word - 1).toNat))) + 1)), (4, V b)] [] (HP ly F G A79 B) Q := by
              intro nf
              induction nf with
              | zero => intros; omega
              | succ nf ih79B =>
                intro b A79 hA79 fa79 hb hm79
                refine r_iload i_94_79 rfl ?_
                refine r_bipush i_94_81 (by decide) ?_
                refine r_cge (t := 112) i_94_83 (by decide) (by omega) (by omega) (fun u_8 => ?_) (fun u_8 => ?_)
                · skip
                  refine r_iinc (l' := [(0, .ref 48), (1, V word), (2, V (kd + 1)), (3, V (((A 50 ((word - 1).toNat)) - (A 49 ((word - 1).toNat))) + 1)), (4, V b)]) i_94_112 rfl (by decide +kernel) rfl ?_
                  refine r_go (t := 2) i_94_115 (by decide) ?_
                  exact ih2B (kd + 1) (((A 50 ((word - 1).toNat)) - (A 49 ((word - 1).toNat))) + 1) b A79 hA79 (by intro a hh; rw [fa79 a (fun h => hh h), fa7 a (fun h => hh h), fa2 a (fun h => hh h)]) (by omega) (by first | (intro h0; exfalso; omega) | (intro h0 j hj; exfalso; omega) | (intro h0; exact en_s (A1 := A2) (he h0) (by omega) (fun hb => by exfalso; have hh := p2_1; rw [show word.toNat = 0 from by omega, show A2 53 = A 53 from by rw [fa79 53 (by omega), fa7 53 (by omega), fa2 53 (by omega)]] at hh; have := hh.mpr hb; omega) (fun j hj => rfl)) | (intro h0; exact en_s (A1 := A2) (he h0) (by omega) (fun hb => by rw [eA79, show (85 * kd).toNat = (kd * 85).toNat from by omega, up2_s]) (fun j hj => by rw [eA79]; exact up2_n (by omega)))) (by omega)
                · skip
                  refine r_aload_n i_94_86 rfl ?_
                  refine r_iload_n i_94_87 rfl ?_
                  refine r_iconst i_94_88 ?_
                  refine r_isub i_94_89 ?_
                  refine r_iload i_94_90 rfl ?_
                  refine r_cV (as := [V b, V (word - 1)]) i_94_92 rfl (by decide +kernel) (Nat.le_of_ble_eq_true rfl) (Nat.le_of_ble_eq_true rfl) (hly 48 _ rfl) rfl ?_
                  refine c_88 (word := word - 1) (kind := b) hly hF hG hA79 (by omega) (by omega) (by omega) (fun r_9 p9_0 p9_1 => ?_)
                  show Re L xs 94 95 [(0, .ref 48), (1, V word), (2, V kd), (3, V (((A 50 ((word - 1).toNat)) - (A 49 ((word - 1).toNat))) + 1)), (4, V b)] [V r_9] (HP ly F G A79 B) _
                  refine r_eq0 (t := 106) i_94_95 (by decide) (by omega) (fun u_10 => ?_) (fun u_10 => ?_)
                  · skip
                    refine r_iinc (l' := [(0, .ref 48), (1, V word), (2, V kd), (3, V (((A 50 ((word - 1).toNat)) - (A 49 ((word - 1).toNat))) + 1)), (4, V (b + 1))]) i_94_106 rfl (by decide +kernel) rfl ?_
                    refine r_go (t := 79) i_94_109 (by decide) ?_
                    exact ih79B (b + 1) A79 hA79 (by intro a hh; rw [fa79 a (fun h => hh h)]) (by omega) (by omega)
                  · skip
                    refine r_aload_n i_94_98 rfl ?_
                    refine r_iload i_94_99 rfl ?_
                    refine r_iload_n i_94_101 rfl ?_
                    refine r_iload_n i_94_102 rfl ?_
                    refine r_cV (as := [V (((A 50 ((word - 1).toNat)) - (A 49 ((word - 1).toNat))) + 1), V kd, V b]) i_94_103 rfl (by decide +kernel) (Nat.le_of_ble_eq_true rfl) (Nat.le_of_ble_eq_true rfl) (hly 48 _ rfl) rfl ?_
                    refine c_95 (before := b) (kind := kd) (width := ((A 50 ((word - 1).toNat)) - (A 49 ((word - 1).toNat))) + 1) (q := q) hly hF hG hA79 (by omega) (by omega) (by omega) (by omega) (by omega) (by omega) (by exact hq) (by exact hfq) (by exact PC_c (by rw [fa79 q (by omega), fa7 q (by omega), fa2 q (by omega)]) hpc) (fun A_11 hA_11 fa11 => ?_)
                    show Re L xs 94 106 [(0, .ref 48), (1, V word), (2, V kd), (3, V (((A 50 ((word - 1).toNat)) - (A 49 ((word - 1).toNat))) + 1)), (4, V b)] [] (HP ly F G A_11 B) _
                    refine r_iinc (l' := [(0, .ref 48), (1, V word), (2, V kd), (3, V (((A 50 ((word - 1).toNat)) - (A 49 ((word - 1).toNat))) + 1)), (4, V (b + 1))]) i_94_106 rfl (by decide +kernel) rfl ?_
                    refine r_go (t := 79) i_94_109 (by decide) ?_
                    exact ih79B (b + 1) A_11 hA_11 (by intro a hh; rw [fa11 a (fun h => hh h), fa79 a (fun h => hh h)]) (by omega) (by omega)
            exact lp79B _ 0 A_7 hA_7 (by intro a hh; rfl) (by omega) (Nat.lt_succ_self _)
          · skip
            refine r_aload_n i_94_24 rfl ?_
            refine r_getF (v := .ref 56) i_94_25 rfl (hly 48 _ rfl) (hF.1 48 8 56 rfl) ?_
            refine r_iload_n i_94_28 rfl ?_
            refine r_bipush i_94_29 (by decide) ?_
            refine r_imul i_94_31 ?_
            refine r_iconst i_94_32 ?_
            refine r_iastQ i_94_33 (hly 56 _ rfl) (by omega) (by omega) (by omega) (fun A_12 eA_12 => ?_)
            have hA_12 : AQ A_12 := by rw [eA_12]; exact au_56 hA2 (by omega) (by omega)
            refine r_go (t := 112) i_94_34 (by decide) ?_
            refine r_iinc (l' := [(0, .ref 48), (1, V word), (2, V (kd + 1)), (3, V l3), (4, V l4)]) i_94_112 rfl (by decide +kernel) rfl ?_
            refine r_go (t := 2) i_94_115 (by decide) ?_
            exact ih2B (kd + 1) l3 l4 A_12 hA_12 (by intro a hh; rw [eA_12, up2_a (fun h => hh h), fa2 a (fun h => hh h)]) (by omega) (by first | (intro h0; exfalso; omega) | (intro h0 j hj; exfalso; omega) | (intro h0; exact en_s (A1 := A2) (he h0) (by omega) (fun hb => by exfalso; have hh := p2_1; rw [show word.toNat = 0 from by omega, show A2 53 = A 53 from by rw [eA_12, up2_a (by omega), fa2 53 (by omega)]] at hh; have := hh.mpr hb; omega) (fun j hj => rfl)) | (intro h0; exact en_s (A1 := A2) (he h0) (by omega) (fun hb => by rw [eA_12, show (85 * kd).toNat = (kd * 85).toNat from by omega, up2_s]) (fun j hj => by rw [eA_12]; exact up2_n (by omega)))) (by omega)
        · skip
          refine r_go (t := 112) i_94_17 (by decide) ?_
          refine r_iinc (l' := [(0, .ref 48), (1, V word), (2, V (kd + 1)), (3, V l3), (4, V l4)]) i_94_112 rfl (by decide +kernel) rfl ?_
          refine r_go (t := 2) i_94_115 (by decide) ?_
          exact ih2B (kd + 1) l3 l4 A2 hA2 (by intro a hh; rw [fa2 a (fun h => hh h)]) (by omega) (by first | (intro h0; exfalso; omega) | (intro h0 j hj; exfalso; omega) | (intro h0; exact en_s (A1 := A2) (he h0) (by omega) (fun hb => by exfalso; have hh := p2_1; rw [show word.toNat = 0 from by omega, show A2 53 = A 53 from by rw [fa2 53 (by omega)]] at hh; have := hh.mpr hb; omega) (fun j hj => rfl)) | (intro h0; exact en_s (A1 := A2) (he h0) (by omega) (fun hb => by rw [eA2, show (85 * kd).toNat = (kd * 85).toNat from by omega, up2_s]) (fun j hj => by rw [eA2]; exact up2_n (by omega)))) (by omega)
  have lp2A2 : ∀ (nf : Nat) (kd : Int) (A2 : Nat → Nat → Int), (AQ A2) → (∀ a, ¬ (a = 56) → A2 a = A a) → (0 ≤ kd ∧ kd ≤ 8) → (word = 0 → ∀ j : Nat, (j : Int) < kd → hkB (A 53 0) j → A2 56 (85 * j) = 0) → (8 - kd).toNat < nf → Re L xs 94 2 [(0, .ref 48), (1, V word), (2, V kd)] [] (HP ly F G A2 B) Q := by
    intro nf
    induction nf with
    | zero => intros; omega
    | succ nf ih2A2 =>
      intro kd A2 hA2 fa2 hkk he hm2
      refine r_iload_n i_94_2 rfl ?_
      refine r_bipush i_94_3 (by decide) ?_
      refine r_cge (t := 118) i_94_5 (by decide) (by omega) (by omega) (fun u_13 => ?_) (fun u_13 => ?_)
      · skip
        exact r_vret i_94_118 rfl (K A2 hA2 (by intro a hh; rw [fa2 a (fun h => hh h)]) (by intro h0 j hj; exact he h0 j (by omega)))
      · skip
        refine r_aload_n i_94_8 rfl ?_
        refine r_iload_n i_94_9 rfl ?_
        refine r_iload_n i_94_10 rfl ?_
        refine r_cV (as := [V kd, V word]) i_94_11 rfl (by decide +kernel) (Nat.le_of_ble_eq_true rfl) (Nat.le_of_ble_eq_true rfl) (hly 48 _ rfl) rfl ?_
        refine c_88 (word := word) (kind := kd) hly hF hG hA2 (by omega) (by omega) (by omega) (fun r_14 p14_0 p14_1 => ?_)
        show Re L xs 94 14 [(0, .ref 48), (1, V word), (2, V kd)] [V r_14] (HP ly F G A2 B) _
        refine r_ne0 (t := 20) i_94_14 (by decide) (by omega) (fun u_15 => ?_) (fun u_15 => ?_)
        · skip
          refine r_iload_n i_94_20 rfl ?_
          refine r_ne0 (t := 37) i_94_21 (by decide) (by omega) (fun u_16 => ?_) (fun u_16 => ?_)
          · skip
            have hsb := hsp (word - 1).toNat (by omega)
            have z49 := a_49 hA (word - 1).toNat
            have z50 := a_50 hA (word - 1).toNat
            refine r_aload_n i_94_37 rfl ?_
            refine r_getF (v := .ref 50) i_94_38 rfl (hly 48 _ rfl) (hF.1 48 2 50 rfl) ?_
            refine r_iload_n i_94_41 rfl ?_
            refine r_iconst i_94_42 ?_
            refine r_isub i_94_43 ?_
            refine r_iald i_94_44 (hly 50 _ rfl) (by omega) (by omega) (by omega) ?_
            rw [show A2 50 = A 50 from by rw [fa2 50 (by omega)]]
            have q_17 := a_50 hA ((word - 1).toNat)
            refine r_aload_n i_94_45 rfl ?_
            refine r_getF (v := .ref 49) i_94_46 rfl (hly 48 _ rfl) (hF.1 48 1 49 rfl) ?_
            refine r_iload_n i_94_49 rfl ?_
            refine r_iconst i_94_50 ?_
            refine r_isub i_94_51 ?_
            refine r_iald i_94_52 (hly 49 _ rfl) (by omega) (by omega) (by omega) ?_
            rw [show A2 49 = A 49 from by rw [fa2 49 (by omega)]]
            have q_18 := a_49 hA ((word - 1).toNat)
            refine r_isub i_94_53 ?_
            refine r_iconst i_94_54 ?_
            refine r_iadd i_94_55 ?_
            refine r_istore_n (l' := [(0, .ref 48), (1, V word), (2, V kd), (3, V (((A 50 ((word - 1).toNat)) - (A 49 ((word - 1).toNat))) + 1))]) i_94_56 (by decide +kernel) rfl ?_
            refine r_aload_n i_94_57 rfl ?_
            refine r_getF (v := .ref 56) i_94_58 rfl (hly 48 _ rfl) (hF.1 48 8 56 rfl) ?_
            refine r_iload_n i_94_61 rfl ?_
            refine r_bipush i_94_62 (by decide) ?_
            refine r_imul i_94_64 ?_
            refine r_iload_n i_94_65 rfl ?_
            refine r_bipush i_94_66 (by decide) ?_
            refine r_imul i_94_68 ?_
            refine r_iload_n i_94_69 rfl ?_
            refine r_iadd i_94_70 ?_
            refine r_ldc (v := 1000000) i_94_71 (by decide) ?_
            refine r_cS (as := [V 1000000, V ((kd * 85) + (((A 50 ((word - 1).toNat)) - (A 49 ((word - 1).toNat))) + 1)), V (kd * 85), .ref 56]) i_94_73 rfl (by decide +kernel) (Nat.le_of_ble_eq_true rfl) (Nat.le_of_ble_eq_true rfl) ?_
            refine c_85 (ra := 56) (fr := kd * 85) (to := (kd * 85) + (((A 50 ((word - 1).toNat)) - (A 49 ((word - 1).toNat))) + 1)) (v := 1000000) (rn := 680) hly hF hG hA2 (by omega) (by omega) (by omega) (by exact hly 56 _ rfl) (by omega) (by exact fun A1 i h => au_56 h (by omega) (by omega)) (by omega) (fun A_19 hA_19 fa19 p19_0 => ?_)
            show Re L xs 94 76 [(0, .ref 48), (1, V word), (2, V kd), (3, V (((A 50 ((word - 1).toNat)) - (A 49 ((word - 1).toNat))) + 1))] [] (HP ly F G A_19 B) _
            refine r_iconst i_94_76 ?_
            refine r_istore (l' := [(0, .ref 48), (1, V word), (2, V kd), (3, V (((A 50 ((word - 1).toNat)) - (A 49 ((word - 1).toNat))) + 1)), (4, V 0)]) i_94_77 (by decide +kernel) rfl ?_
            have lp79B : ∀ (nf : Nat) (b : Int) (A79 : Nat → Nat → Int), (AQ A79) → (∀ a, ¬ (a = 56) → A79 a = A_19 a) → (0 ≤ b ∧ b ≤ 8) → (8 - b).toNat < nf → Re L xs 94 79 [(0, .ref 48), (1, V word), (2, V kd), (3, V (((A 50 ((word - 1).toNat)) - (A 49 ((word - 1).toNat))) + 1)), (4, V b)] [] (HP ly F G A79 B) Q := by
              intro nf
              induction nf with
              | zero => intros; omega
              | succ nf ih79B =>
                intro b A79 hA79 fa79 hb hm79
                refine r_iload i_94_79 rfl ?_
                refine r_bipush i_94_81 (by decide) ?_
                refine r_cge (t := 112) i_94_83 (by decide) (by omega) (by omega) (fun u_20 => ?_) (fun u_20 => ?_)
                · skip
                  refine r_iinc (l' := [(0, .ref 48), (1, V word), (2, V (kd + 1)), (3, V (((A 50 ((word - 1).toNat)) - (A 49 ((word - 1).toNat))) + 1)), (4, V b)]) i_94_112 rfl (by decide +kernel) rfl ?_
                  refine r_go (t := 2) i_94_115 (by decide) ?_
                  exact lp2B _ (kd + 1) (((A 50 ((word - 1).toNat)) - (A 49 ((word - 1).toNat))) + 1) b A79 hA79 (by intro a hh; rw [fa79 a (fun h => hh h), fa19 a (fun h => hh h), fa2 a (fun h => hh h)]) (by omega) (by first | (intro h0; exfalso; omega) | (intro h0 j hj; exfalso; omega) | (intro h0; exact en_s (A1 := A2) (he h0) (by omega) (fun hb => by exfalso; have hh := p14_1; rw [show word.toNat = 0 from by omega, show A2 53 = A 53 from by rw [fa79 53 (by omega), fa19 53 (by omega), fa2 53 (by omega)]] at hh; have := hh.mpr hb; omega) (fun j hj => rfl)) | (intro h0; exact en_s (A1 := A2) (he h0) (by omega) (fun hb => by rw [eA79, show (85 * kd).toNat = (kd * 85).toNat from by omega, up2_s]) (fun j hj => by rw [eA79]; exact up2_n (by omega)))) (Nat.lt_succ_self _)
                · skip
                  refine r_aload_n i_94_86 rfl ?_
                  refine r_iload_n i_94_87 rfl ?_
                  refine r_iconst i_94_88 ?_
                  refine r_isub i_94_89 ?_
                  refine r_iload i_94_90 rfl ?_
                  refine r_cV (as := [V b, V (word - 1)]) i_94_92 rfl (by decide +kernel) (Nat.le_of_ble_eq_true rfl) (Nat.le_of_ble_eq_true rfl) (hly 48 _ rfl) rfl ?_
                  refine c_88 (word := word - 1) (kind := b) hly hF hG hA79 (by omega) (by omega) (by omega) (fun r_21 p21_0 p21_1 => ?_)
                  show Re L xs 94 95 [(0, .ref 48), (1, V word), (2, V kd), (3, V (((A 50 ((word - 1).toNat)) - (A 49 ((word - 1).toNat))) + 1)), (4, V b)] [V r_21] (HP ly F G A79 B) _
                  refine r_eq0 (t := 106) i_94_95 (by decide) (by omega) (fun u_22 => ?_) (fun u_22 => ?_)
                  · skip
                    refine r_iinc (l' := [(0, .ref 48), (1, V word), (2, V kd), (3, V (((A 50 ((word - 1).toNat)) - (A 49 ((word - 1).toNat))) + 1)), (4, V (b + 1))]) i_94_106 rfl (by decide +kernel) rfl ?_
                    refine r_go (t := 79) i_94_109 (by decide) ?_
                    exact ih79B (b + 1) A79 hA79 (by intro a hh; rw [fa79 a (fun h => hh h)]) (by omega) (by omega)
                  · skip
                    refine r_aload_n i_94_98 rfl ?_
                    refine r_iload i_94_99 rfl ?_
                    refine r_iload_n i_94_101 rfl ?_
                    refine r_iload_n i_94_102 rfl ?_
                    refine r_cV (as := [V (((A 50 ((word - 1).toNat)) - (A 49 ((word - 1).toNat))) + 1), V kd, V b]) i_94_103 rfl (by decide +kernel) (Nat.le_of_ble_eq_true rfl) (Nat.le_of_ble_eq_true rfl) (hly 48 _ rfl) rfl ?_
                    refine c_95 (before := b) (kind := kd) (width := ((A 50 ((word - 1).toNat)) - (A 49 ((word - 1).toNat))) + 1) (q := q) hly hF hG hA79 (by omega) (by omega) (by omega) (by omega) (by omega) (by omega) (by exact hq) (by exact hfq) (by exact PC_c (by rw [fa79 q (by omega), fa19 q (by omega), fa2 q (by omega)]) hpc) (fun A_23 hA_23 fa23 => ?_)
                    show Re L xs 94 106 [(0, .ref 48), (1, V word), (2, V kd), (3, V (((A 50 ((word - 1).toNat)) - (A 49 ((word - 1).toNat))) + 1)), (4, V b)] [] (HP ly F G A_23 B) _
                    refine r_iinc (l' := [(0, .ref 48), (1, V word), (2, V kd), (3, V (((A 50 ((word - 1).toNat)) - (A 49 ((word - 1).toNat))) + 1)), (4, V (b + 1))]) i_94_106 rfl (by decide +kernel) rfl ?_
                    refine r_go (t := 79) i_94_109 (by decide) ?_
                    exact ih79B (b + 1) A_23 hA_23 (by intro a hh; rw [fa23 a (fun h => hh h), fa79 a (fun h => hh h)]) (by omega) (by omega)
            exact lp79B _ 0 A_19 hA_19 (by intro a hh; rfl) (by omega) (Nat.lt_succ_self _)
          · skip
            refine r_aload_n i_94_24 rfl ?_
            refine r_getF (v := .ref 56) i_94_25 rfl (hly 48 _ rfl) (hF.1 48 8 56 rfl) ?_
            refine r_iload_n i_94_28 rfl ?_
            refine r_bipush i_94_29 (by decide) ?_
            refine r_imul i_94_31 ?_
            refine r_iconst i_94_32 ?_
            refine r_iastQ i_94_33 (hly 56 _ rfl) (by omega) (by omega) (by omega) (fun A_24 eA_24 => ?_)
            have hA_24 : AQ A_24 := by rw [eA_24]; exact au_56 hA2 (by omega) (by omega)
            refine r_go (t := 112) i_94_34 (by decide) ?_
            refine r_iinc (l' := [(0, .ref 48), (1, V word), (2, V (kd + 1))]) i_94_112 rfl (by decide +kernel) rfl ?_
            refine r_go (t := 2) i_94_115 (by decide) ?_
            exact ih2A2 (kd + 1) A_24 hA_24 (by intro a hh; rw [eA_24, up2_a (fun h => hh h), fa2 a (fun h => hh h)]) (by omega) (by first | (intro h0; exfalso; omega) | (intro h0 j hj; exfalso; omega) | (intro h0; exact en_s (A1 := A2) (he h0) (by omega) (fun hb => by exfalso; have hh := p14_1; rw [show word.toNat = 0 from by omega, show A2 53 = A 53 from by rw [eA_24, up2_a (by omega), fa2 53 (by omega)]] at hh; have := hh.mpr hb; omega) (fun j hj => rfl)) | (intro h0; exact en_s (A1 := A2) (he h0) (by omega) (fun hb => by rw [eA_24, show (85 * kd).toNat = (kd * 85).toNat from by omega, up2_s]) (fun j hj => by rw [eA_24]; exact up2_n (by omega)))) (by omega)
        · skip
          refine r_go (t := 112) i_94_17 (by decide) ?_
          refine r_iinc (l' := [(0, .ref 48), (1, V word), (2, V (kd + 1))]) i_94_112 rfl (by decide +kernel) rfl ?_
          refine r_go (t := 2) i_94_115 (by decide) ?_
          exact ih2A2 (kd + 1) A2 hA2 (by intro a hh; rw [fa2 a (fun h => hh h)]) (by omega) (by first | (intro h0; exfalso; omega) | (intro h0 j hj; exfalso; omega) | (intro h0; exact en_s (A1 := A2) (he h0) (by omega) (fun hb => by exfalso; have hh := p14_1; rw [show word.toNat = 0 from by omega, show A2 53 = A 53 from by rw [fa2 53 (by omega)]] at hh; have := hh.mpr hb; omega) (fun j hj => rfl)) | (intro h0; exact en_s (A1 := A2) (he h0) (by omega) (fun hb => by rw [eA2, show (85 * kd).toNat = (kd * 85).toNat from by omega, up2_s]) (fun j hj => by rw [eA2]; exact up2_n (by omega)))) (by omega)
  exact lp2A2 _ 0 A hA (by intro a hh; rfl) (by omega) (by first | (intro h0; exfalso; omega) | (intro h0 j hj; exfalso; omega) | (intro h0; exact en_s (A1 := A2) (he h0) (by omega) (fun hb => by exfalso; have hh := zzp1; rw [show word.toNat = 0 from by omega, show A2 53 = A 53 from by rfl] at hh; have := hh.mpr hb; omega) (fun j hj => rfl)) | (intro h0; exact en_s (A1 := A2) (he h0) (by omega) (fun hb => by rw [eA, show (85 * kd).toNat = (kd * 85).toNat from by omega, up2_s]) (fun j hj => by rw [eA]; exact up2_n (by omega)))) (Nat.lt_succ_self _)
