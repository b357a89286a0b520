set_option maxHeartbeats 4000000 in
theorem c_98x {L : Nat} {xs : Nat → Int32} {ly : List LK} {F : Nat → Nat → Value} {G A : Nat → Nat → Int} {B : Nat → Nat → Int64} {Q : Option Value → AH → Prop} {word : Int} {kind : Int} {marks : Int} (hly : LyOk ly) (hF : RfOk F) (hG : GO G) (hA : AQ A) (in_word : inR word) (in_kind : inR kind) (in_marks : inR marks) (hw : 0 ≤ word ∧ word < G 31 8) (hkd : 0 ≤ kind ∧ kind ≤ 7) (hsp : spV G A) (hmk : -1000 ≤ marks ∧ marks ≤ 1000) (K : ∀ (r : Int), (0 ≤ r ∧ r ≤ 3000000) → (((marks < A 49 word.toNat ∨ A 50 word.toNat < marks) ∧ r = 1000000) ∨ (A 49 word.toNat ≤ marks ∧ marks ≤ A 50 word.toNat ∧ r = A 54 (680 * word + 85 * kind + (marks - A 49 word.toNat)).toNat)) → Q (some (V r)) (HP ly F G A B)) : Re L xs 98 0 [(0, .ref 48), (1, V word), (2, V kind), (3, V marks)] [] (HP ly F G A B) Q := by
  have z8 := g_31_8 hG
  have hs := hsp word.toNat (by omega)
  have z49 := a_49 hA word.toNat
  refine r_iload_n i_98_0 rfl ?_
  refine r_aload_n i_98_1 rfl ?_
  refine r_getF (v := .ref 49) i_98_2 rfl (hly 48 _ rfl) (hF.1 48 1 49 rfl) ?_
  refine r_iload_n i_98_5 rfl ?_
  refine r_iald i_98_6 (hly 49 _ rfl) (by omega) (by omega) (by omega) ?_
  have q_1 := a_49 hA (word.toNat)
  refine r_clt (t := 20) i_98_7 (by decide) (by omega) (by omega) (fun u_2 => ?_) (fun u_2 => ?_)
  · skip
    refine r_ldc (v := 1000000) i_98_20 (by decide) ?_
    exact r_iret i_98_22 rfl rfl (K 1000000 (by omega) (by exact .inl ⟨by omega, rfl⟩))
  · skip
    refine r_iload_n i_98_10 rfl ?_
    refine r_aload_n i_98_11 rfl ?_
    refine r_getF (v := .ref 50) i_98_12 rfl (hly 48 _ rfl) (hF.1 48 2 50 rfl) ?_
    refine r_iload_n i_98_15 rfl ?_
    refine r_iald i_98_16 (hly 50 _ rfl) (by omega) (by omega) (by omega) ?_
    have q_3 := a_50 hA (word.toNat)
    refine r_cle (t := 23) i_98_17 (by decide) (by omega) (by omega) (fun u_4 => ?_) (fun u_4 => ?_)
    · skip
      refine r_aload_n i_98_23 rfl ?_
      refine r_getF (v := .ref 54) i_98_24 rfl (hly 48 _ rfl) (hF.1 48 6 54 rfl) ?_
      refine r_aload_n i_98_27 rfl ?_
      refine r_iload_n i_98_28 rfl ?_
      refine r_iload_n i_98_29 rfl ?_
      refine r_cV (as := [V kind, V word]) i_98_30 rfl (by decide +kernel) (Nat.le_of_ble_eq_true rfl) (Nat.le_of_ble_eq_true rfl) (hly 48 _ rfl) rfl ?_
      refine c_90 (word := word) (kind := kind) hly hF hG hA (by omega) (by omega) (by omega) (fun r_5 p5_0 => ?_)
      show Re L xs 98 33 [(0, .ref 48), (1, V word), (2, V kind), (3, V marks)] [V r_5, .ref 54] (HP ly F G A B) _
      refine r_iload_n i_98_33 rfl ?_
      refine r_iadd i_98_34 ?_
      refine r_iald i_98_35 (hly 54 _ rfl) (by omega) (by omega) (by omega) ?_
      have q_6 := a_54 hA ((r_5 + marks).toNat)
      exact r_iret i_98_36 rfl rfl (K (A 54 ((r_5 + marks).toNat)) (by omega) (by exact .inr ⟨by omega, by omega, by rw [show 680 * word + 85 * kind + (marks - A 49 word.toNat) = r_5 + marks from by omega]⟩))
    · skip
      refine r_ldc (v := 1000000) i_98_20 (by decide) ?_
      exact r_iret i_98_22 rfl rfl (K 1000000 (by omega) (by exact .inl ⟨by omega, rfl⟩))
set_option maxHeartbeats 4000000 in
theorem c_113 {L : Nat} {xs : Nat → Int32} {ly : List LK} {F : Nat → Nat → Value} {G A : Nat → Nat → Int} {B : Nat → Nat → Int64} {Q : Option Value → AH → Prop} {word : Int} {kind : Int} {marks : Int} {row : Int} {least : Int} {la lb q : Nat} (hly : LyOk ly) (hF : RfOk F) (hG : GO G) (hA : AQ A) (in_word : inR word) (in_kind : inR kind) (in_marks : inR marks) (in_row : inR row) (in_least : inR least) (hw : 1 ≤ word ∧ word < G 31 8) (hkd : 0 ≤ kind ∧ kind ≤ 7) (hmk : A 49 (word - 1).toNat ≤ marks ∧ marks ≤ A 50 (word - 1).toNat) (hrw : row = (kind * 85 + marks - A 49 (word - 1).toNat) * 101) (hle : 0 ≤ least ∧ least ≤ 100) (hkn : A 54 (680 * (word - 1) + 85 * kind + (marks - A 49 (word - 1).toNat)).toNat < 1000000) (hsp : spV G A) (hrs : RS A) (hq : q = 20 ∨ q = 78 ∨ q = 52) (hfq : F 48 4 = .ref q) (hpc : PC A q) (hla : ly[la]? = some (.inr (.long, 68680))) (hlb : ly[lb]? = some (.inr (.long, 68680))) (hab : ¬ la = lb) (hf3 : F 57 3 = .ref la) (hf4 : F 57 4 = .ref lb) (hh : hnV A B lb word) (K : ∀ (B' : Nat → Nat → Int64), (∀ a, ¬ a = lb → B' a = B a) → (hnV A B' lb word) → Q none (HP ly F G A B')) : Re L xs 113 0 [(0, .ref 57), (1, V word), (2, V kind), (3, V marks), (4, V row), (5, V least)] [] (HP ly F G A B) Q := by
  have z8 := g_31_8 hG
  have hs := hsp word.toNat (by omega)
  have hsb := hsp (word - 1).toNat (by omega)
  have z49 := a_49 hA word.toNat
  have z49b := a_49 hA (word - 1).toNat
  have z50b := a_50 hA (word - 1).toNat
  have hk54 := hrs (680 * (word - 1) + 85 * kind + (marks - A 49 (word - 1).toNat)).toNat (by omega)
  refine r_aload_n i_113_0 rfl ?_
  refine r_getF (v := .ref 48) i_113_1 rfl (hly 57 _ rfl) (hF.1 57 0 48 rfl) ?_
  refine r_iload_n i_113_4 rfl ?_
  refine r_iconst i_113_5 ?_
  refine r_isub i_113_6 ?_
  refine r_iload_n i_113_7 rfl ?_
  refine r_iload_n i_113_8 rfl ?_
  refine r_cV (as := [V marks, V kind, V (word - 1)]) i_113_9 rfl (by decide +kernel) (Nat.le_of_ble_eq_true rfl) (Nat.le_of_ble_eq_true rfl) (hly 48 _ rfl) rfl ?_
  have q_1 := g_31_8 hG
  refine c_98x (word := word - 1) (kind := kind) (marks := marks) hly hF hG hA (by omega) (by omega) (by omega) (by omega) (by omega) (by exact spV_c (by rfl) (by rfl) (by rfl) hsp) (by omega) (fun r_2 p2_0 p2_1 => ?_)
  show Re L xs 113 12 [(0, .ref 57), (1, V word), (2, V kind), (3, V marks), (4, V row), (5, V least)] [V r_2] (HP ly F G A B) _
  refine r_istore (l' := [(0, .ref 57), (1, V word), (2, V kind), (3, V marks), (4, V row), (5, V least), (6, V r_2)]) i_113_12 (by decide +kernel) rfl ?_
  have hknw : r_2 ≤ 2574 := by rcases p2_1 with ⟨hx, hx0⟩ | ⟨hx1, hx2, hx3⟩; exfalso; omega; rw [← hx3] at hk54 hkn; omega
  refine r_iload_n i_113_14 rfl ?_
  refine r_bipush i_113_15 (by decide) ?_
  refine r_imul i_113_17 ?_
  refine r_istore (l' := [(0, .ref 57), (1, V word), (2, V kind), (3, V marks), (4, V row), (5, V least), (6, V r_2), (7, V (word * 12))]) i_113_18 (by decide +kernel) rfl ?_
  refine r_iload i_113_20 rfl ?_
  refine r_istore (l' := [(0, .ref 57), (1, V word), (2, V kind), (3, V marks), (4, V row), (5, V least), (6, V r_2), (7, V (word * 12)), (8, V (word * 12))]) i_113_22 (by decide +kernel) rfl ?_
  have lp24B : ∀ (nf : Nat) (s : Int) (l9 : Int) (l10 : Int) (l11 : Int) (l12 : Int) (l13 : Int) (l14 : Int) (B24 : Nat → Nat → Int64), (12 * word ≤ s ∧ s ≤ 12 * word + 12) → (∀ a, ¬ a = lb → B24 a = B a) → (hnV A B24 lb word) → (12 * word + 12 - s).toNat < nf → Re L xs 113 24 [(0, .ref 57), (1, V word), (2, V kind), (3, V marks), (4, V row), (5, V least), (6, V r_2), (7, V (word * 12)), (8, V s), (9, V l9), (10, V l10), (11, V l11), (12, V l12), (13, V l13), (14, V l14)] [] (HP ly F G A B24) Q := by
    intro nf
    induction nf with
    | zero => intros; omega
    | succ nf ih24B =>
      intro s l9 l10 l11 l12 l13 l14 B24  hs8 hfr hv1 hm24
      refine r_iload i_113_24 rfl ?_
      refine r_iload i_113_26 rfl ?_
      refine r_aload_n i_113_28 rfl ?_
      refine r_getF (v := .ref 31) i_113_29 rfl (hly 57 _ rfl) (hF.1 57 1 31 rfl) ?_
      refine r_getF (v := .ref 32) i_113_32 rfl (hly 31 _ rfl) (hF.1 31 0 32 rfl) ?_
      refine r_iload_n i_113_35 rfl ?_
      refine r_iald i_113_36 (hly 32 _ rfl) (by omega) (by omega) (by omega) ?_
      have q_3 := a_32 hA (word.toNat)
      refine r_iadd i_113_37 ?_
      refine r_cge (t := 196) i_113_38 (by decide) (by omega) (by omega) (fun u_4 => ?_) (fun u_4 => ?_)
      · skip
        exact r_vret i_113_196 rfl (K B24 (by exact hfr) (by exact hv1))
      · skip
        refine r_aload_n i_113_41 rfl ?_
        refine r_getF (v := .ref 31) i_113_42 rfl (hly 57 _ rfl) (hF.1 57 1 31 rfl) ?_
        refine r_getF (v := .ref 37) i_113_45 rfl (hly 31 _ rfl) (hF.1 31 3 37 rfl) ?_
        refine r_iload i_113_48 rfl ?_
        refine r_iald i_113_50 (hly 37 _ rfl) (by omega) (by omega) (by omega) ?_
        have q_5 := a_37 hA (s.toNat)
        refine r_istore (l' := [(0, .ref 57), (1, V word), (2, V kind), (3, V marks), (4, V row), (5, V least), (6, V r_2), (7, V (word * 12)), (8, V s), (9, V (A 37 (s.toNat))), (10, V l10), (11, V l11), (12, V l12), (13, V l13), (14, V l14)]) i_113_51 (by decide +kernel) rfl ?_
        refine r_iload_n i_113_53 rfl ?_
        refine r_aload_n i_113_54 rfl ?_
        refine r_getF (v := .ref 48) i_113_55 rfl (hly 57 _ rfl) (hF.1 57 0 48 rfl) ?_
        refine r_getF (v := .ref 51) i_113_58 rfl (hly 48 _ rfl) (hF.1 48 3 51 rfl) ?_
        refine r_iload i_113_61 rfl ?_
        refine r_iald i_113_63 (hly 51 _ rfl) (by omega) (by omega) (by omega) ?_
        have q_6 := a_51 hA (s.toNat)
        refine r_iadd i_113_64 ?_
        refine r_istore (l' := [(0, .ref 57), (1, V word), (2, V kind), (3, V marks), (4, V row), (5, V least), (6, V r_2), (7, V (word * 12)), (8, V s), (9, V (A 37 (s.toNat))), (10, V (marks + (A 51 (s.toNat)))), (11, V l11), (12, V l12), (13, V l13), (14, V l14)]) i_113_65 (by decide +kernel) rfl ?_
        refine r_aload_n i_113_67 rfl ?_
        refine r_getF (v := .ref 48) i_113_68 rfl (hly 57 _ rfl) (hF.1 57 0 48 rfl) ?_
        refine r_getF (v := .ref q) i_113_71 rfl (hly 48 _ rfl) hfq ?_
        refine r_iload_n i_113_74 rfl ?_
        refine r_bipush i_113_75 (by decide) ?_
        refine r_imul i_113_77 ?_
        refine r_iload i_113_78 rfl ?_
        refine r_iadd i_113_80 ?_
        refine r_iald i_113_81 (Lq_0 hly hq) (by omega) (by omega) (by omega) ?_
        have q_7 := Aq_0 hA hq (((kind * 8) + (A 37 (s.toNat))).toNat)
        refine r_aload_n i_113_82 rfl ?_
        refine r_getF (v := .ref 31) i_113_83 rfl (hly 57 _ rfl) (hF.1 57 1 31 rfl) ?_
        refine r_getF (v := .ref 38) i_113_86 rfl (hly 31 _ rfl) (hF.1 31 4 38 rfl) ?_
        refine r_iload i_113_89 rfl ?_
        refine r_iald i_113_91 (hly 38 _ rfl) (by omega) (by omega) (by omega) ?_
        have q_8 := a_38 hA (s.toNat)
        refine r_iadd i_113_92 ?_
        refine r_istore (l' := [(0, .ref 57), (1, V word), (2, V kind), (3, V marks), (4, V row), (5, V least), (6, V r_2), (7, V (word * 12)), (8, V s), (9, V (A 37 (s.toNat))), (10, V (marks + (A 51 (s.toNat)))), (11, V ((A q (((kind * 8) + (A 37 (s.toNat))).toNat)) + (A 38 (s.toNat)))), (12, V l12), (13, V l13), (14, V l14)]) i_113_93 (by decide +kernel) rfl ?_
        refine r_iload i_113_95 rfl ?_
        refine r_aload_n i_113_97 rfl ?_
        refine r_getF (v := .ref 48) i_113_98 rfl (hly 57 _ rfl) (hF.1 57 0 48 rfl) ?_
        refine r_iload_n i_113_101 rfl ?_
        refine r_iload i_113_102 rfl ?_
        refine r_iload i_113_104 rfl ?_
        refine r_cV (as := [V (marks + (A 51 (s.toNat))), V (A 37 (s.toNat)), V word]) i_113_106 rfl (by decide +kernel) (Nat.le_of_ble_eq_true rfl) (Nat.le_of_ble_eq_true rfl) (hly 48 _ rfl) rfl ?_
        refine c_98 (word := word) (kind := A 37 (s.toNat)) (marks := marks + (A 51 (s.toNat))) hly hF hG hA (by omega) (by omega) (by omega) (by omega) (by omega) (by exact spV_c (by rfl) (by rfl) (by rfl) hsp) (by omega) (fun r_9 p9_0 p9_1 => ?_)
        show Re L xs 113 109 [(0, .ref 57), (1, V word), (2, V kind), (3, V marks), (4, V row), (5, V least), (6, V r_2), (7, V (word * 12)), (8, V s), (9, V (A 37 (s.toNat))), (10, V (marks + (A 51 (s.toNat)))), (11, V ((A q (((kind * 8) + (A 37 (s.toNat))).toNat)) + (A 38 (s.toNat)))), (12, V l12), (13, V l13), (14, V l14)] [V r_9, V ((A q (((kind * 8) + (A 37 (s.toNat))).toNat)) + (A 38 (s.toNat)))] (HP ly F G A B24) _
        refine r_iadd i_113_109 ?_
        refine r_iload i_113_110 rfl ?_
        refine r_isub i_113_112 ?_
        refine r_istore (l' := [(0, .ref 57), (1, V word), (2, V kind), (3, V marks), (4, V row), (5, V least), (6, V r_2), (7, V (word * 12)), (8, V s), (9, V (A 37 (s.toNat))), (10, V (marks + (A 51 (s.toNat)))), (11, V ((A q (((kind * 8) + (A 37 (s.toNat))).toNat)) + (A 38 (s.toNat)))), (12, V ((((A q (((kind * 8) + (A 37 (s.toNat))).toNat)) + (A 38 (s.toNat))) + r_9) - r_2)), (13, V l13), (14, V l14)]) i_113_113 (by decide +kernel) rfl ?_
        refine r_iload i_113_115 rfl ?_
        refine r_lt0 (t := 190) i_113_117 (by decide) (by omega) (fun u_10 => ?_) (fun u_10 => ?_)
        · skip
          refine r_iinc (l' := [(0, .ref 57), (1, V word), (2, V kind), (3, V marks), (4, V row), (5, V least), (6, V r_2), (7, V (word * 12)), (8, V (s + 1)), (9, V (A 37 (s.toNat))), (10, V (marks + (A 51 (s.toNat)))), (11, V ((A q (((kind * 8) + (A 37 (s.toNat))).toNat)) + (A 38 (s.toNat)))), (12, V ((((A q (((kind * 8) + (A 37 (s.toNat))).toNat)) + (A 38 (s.toNat))) + r_9) - r_2)), (13, V l13), (14, V l14)]) i_113_190 rfl (by decide +kernel) rfl ?_
          refine r_go (t := 24) i_113_193 (by decide) ?_
          exact ih24B (s + 1) (A 37 (s.toNat)) (marks + (A 51 (s.toNat))) ((A q (((kind * 8) + (A 37 (s.toNat))).toNat)) + (A 38 (s.toNat))) ((((A q (((kind * 8) + (A 37 (s.toNat))).toNat)) + (A 38 (s.toNat))) + r_9) - r_2) l13 l14 B24  (by omega) (by first | (intro a ha; rfl) | exact hfr | exact hfr2) (by first | exact hh | exact hv1 | exact hv2) (by omega)
        · skip
          refine r_iload i_113_120 rfl ?_
          refine r_iload i_113_122 rfl ?_
          refine r_iadd i_113_124 ?_
          refine r_bipush i_113_125 (by decide) ?_
          refine r_clt (t := 133) i_113_127 (by decide) (by omega) (by omega) (fun u_11 => ?_) (fun u_11 => ?_)
          · skip
            refine r_aload_n i_113_133 rfl ?_
            refine r_iload_n i_113_134 rfl ?_
            refine r_iload i_113_135 rfl ?_
            refine r_iload i_113_137 rfl ?_
            refine r_cV (as := [V (marks + (A 51 (s.toNat))), V (A 37 (s.toNat)), V word]) i_113_139 rfl (by decide +kernel) (Nat.le_of_ble_eq_true rfl) (Nat.le_of_ble_eq_true rfl) (hly 57 _ rfl) rfl ?_
            refine c_108 (word := word) (kind := A 37 (s.toNat)) (marks := marks + (A 51 (s.toNat))) hly hF hG hA (by omega) (by omega) (by omega) (by omega) (fun r_12 p12_0 => ?_)
            show Re L xs 113 142 [(0, .ref 57), (1, V word), (2, V kind), (3, V marks), (4, V row), (5, V least), (6, V r_2), (7, V (word * 12)), (8, V s), (9, V (A 37 (s.toNat))), (10, V (marks + (A 51 (s.toNat)))), (11, V ((A q (((kind * 8) + (A 37 (s.toNat))).toNat)) + (A 38 (s.toNat)))), (12, V ((((A q (((kind * 8) + (A 37 (s.toNat))).toNat)) + (A 38 (s.toNat))) + r_9) - r_2)), (13, V l13), (14, V l14)] [V r_12] (HP ly F G A B24) _
            refine r_iload i_113_142 rfl ?_
            refine r_iadd i_113_144 ?_
            refine r_istore (l' := [(0, .ref 57), (1, V word), (2, V kind), (3, V marks), (4, V row), (5, V least), (6, V r_2), (7, V (word * 12)), (8, V s), (9, V (A 37 (s.toNat))), (10, V (marks + (A 51 (s.toNat)))), (11, V ((A q (((kind * 8) + (A 37 (s.toNat))).toNat)) + (A 38 (s.toNat)))), (12, V ((((A q (((kind * 8) + (A 37 (s.toNat))).toNat)) + (A 38 (s.toNat))) + r_9) - r_2)), (13, V (r_12 + ((((A q (((kind * 8) + (A 37 (s.toNat))).toNat)) + (A 38 (s.toNat))) + r_9) - r_2))), (14, V l14)]) i_113_145 (by decide +kernel) rfl ?_
            have hrg : A 49 word.toNat ≤ (marks + (A 51 (s.toNat))) ∧ (marks + (A 51 (s.toNat))) ≤ A 50 word.toNat ∧ r_9 = A 54 (680 * word + 85 * (A 37 (s.toNat)) + ((marks + (A 51 (s.toNat))) - A 49 word.toNat)).toNat := by rcases p9_1 with hx | hx; exfalso; omega; exact hx
            have hrg1 := hrg.1
            have hrg2 := hrg.2.1
            refine r_iload i_113_147 rfl ?_
            refine r_istore (l' := [(0, .ref 57), (1, V word), (2, V kind), (3, V marks), (4, V row), (5, V least), (6, V r_2), (7, V (word * 12)), (8, V s), (9, V (A 37 (s.toNat))), (10, V (marks + (A 51 (s.toNat)))), (11, V ((A q (((kind * 8) + (A 37 (s.toNat))).toNat)) + (A 38 (s.toNat)))), (12, V ((((A q (((kind * 8) + (A 37 (s.toNat))).toNat)) + (A 38 (s.toNat))) + r_9) - r_2)), (13, V (r_12 + ((((A q (((kind * 8) + (A 37 (s.toNat))).toNat)) + (A 38 (s.toNat))) + r_9) - r_2))), (14, V least)]) i_113_149 (by decide +kernel) rfl ?_
            have lp151B : ∀ (nf : Nat) (o : Int) (B151 : Nat → Nat → Int64), (least ≤ o ∧ o ≤ 101) → (∀ a, ¬ a = lb → B151 a = B a) → (hnV A B151 lb word) → (101 - o).toNat < nf → Re L xs 113 151 [(0, .ref 57), (1, V word), (2, V kind), (3, V marks), (4, V row), (5, V least), (6, V r_2), (7, V (word * 12)), (8, V s), (9, V (A 37 (s.toNat))), (10, V (marks + (A 51 (s.toNat)))), (11, V ((A q (((kind * 8) + (A 37 (s.toNat))).toNat)) + (A 38 (s.toNat)))), (12, V ((((A q (((kind * 8) + (A 37 (s.toNat))).toNat)) + (A 38 (s.toNat))) + r_9) - r_2)), (13, V (r_12 + ((((A q (((kind * 8) + (A 37 (s.toNat))).toNat)) + (A 38 (s.toNat))) + r_9) - r_2))), (14, V o)] [] (HP ly F G A B151) Q := by
              intro nf
              induction nf with
              | zero => intros; omega
              | succ nf ih151B =>
                intro o B151  ho hfr2 hv2 hm151
                refine r_iload i_113_151 rfl ?_
                refine r_iload i_113_153 rfl ?_
                refine r_iadd i_113_155 ?_
                refine r_bipush i_113_156 (by decide) ?_
                refine r_cge (t := 190) i_113_158 (by decide) (by omega) (by omega) (fun u_13 => ?_) (fun u_13 => ?_)
                · skip
                  refine r_iinc (l' := [(0, .ref 57), (1, V word), (2, V kind), (3, V marks), (4, V row), (5, V least), (6, V r_2), (7, V (word * 12)), (8, V (s + 1)), (9, V (A 37 (s.toNat))), (10, V (marks + (A 51 (s.toNat)))), (11, V ((A q (((kind * 8) + (A 37 (s.toNat))).toNat)) + (A 38 (s.toNat)))), (12, V ((((A q (((kind * 8) + (A 37 (s.toNat))).toNat)) + (A 38 (s.toNat))) + r_9) - r_2)), (13, V (r_12 + ((((A q (((kind * 8) + (A 37 (s.toNat))).toNat)) + (A 38 (s.toNat))) + r_9) - r_2))), (14, V o)]) i_113_190 rfl (by decide +kernel) rfl ?_
                  refine r_go (t := 24) i_113_193 (by decide) ?_
                  exact ih24B (s + 1) (A 37 (s.toNat)) (marks + (A 51 (s.toNat))) ((A q (((kind * 8) + (A 37 (s.toNat))).toNat)) + (A 38 (s.toNat))) ((((A q (((kind * 8) + (A 37 (s.toNat))).toNat)) + (A 38 (s.toNat))) + r_9) - r_2) (r_12 + ((((A q (((kind * 8) + (A 37 (s.toNat))).toNat)) + (A 38 (s.toNat))) + r_9) - r_2)) o B151  (by omega) (by first | (intro a ha; rfl) | exact hfr | exact hfr2) (by first | exact hh | exact hv1 | exact hv2) (by omega)
                · skip
                  refine r_aload_n i_113_161 rfl ?_
                  refine r_getF (v := .ref lb) i_113_162 rfl (hly 57 _ rfl) hf4 ?_
                  refine r_iload i_113_165 rfl ?_
                  refine r_iload i_113_167 rfl ?_
                  refine r_iadd i_113_169 ?_
                  refine re_nx i_113_170 rfl ?_
                  refine r_lald i_113_171 (hlb) (by omega) (by omega) (by omega) ?_
                  refine r_aload_n i_113_172 rfl ?_
                  refine r_getF (v := .ref la) i_113_173 rfl (hly 57 _ rfl) hf3 ?_
                  refine r_iload i_113_176 rfl ?_
                  refine r_iload i_113_178 rfl ?_
                  refine r_iadd i_113_180 ?_
                  refine r_lald i_113_181 (hla) (by omega) (by omega) (by omega) ?_
                  refine re_nx i_113_182 rfl ?_
                  refine r_lastQ i_113_183 (hlb) (by omega) (by omega) (by omega) (fun B_14 eB_14 => ?_)
                  refine r_iinc (l' := [(0, .ref 57), (1, V word), (2, V kind), (3, V marks), (4, V row), (5, V least), (6, V r_2), (7, V (word * 12)), (8, V s), (9, V (A 37 (s.toNat))), (10, V (marks + (A 51 (s.toNat)))), (11, V ((A q (((kind * 8) + (A 37 (s.toNat))).toNat)) + (A 38 (s.toNat)))), (12, V ((((A q (((kind * 8) + (A 37 (s.toNat))).toNat)) + (A 38 (s.toNat))) + r_9) - r_2)), (13, V (r_12 + ((((A q (((kind * 8) + (A 37 (s.toNat))).toNat)) + (A 38 (s.toNat))) + r_9) - r_2))), (14, V (o + 1))]) i_113_184 rfl (by decide +kernel) rfl ?_
                  refine r_go (t := 151) i_113_187 (by decide) ?_
                  exact ih151B (o + 1) B_14  (by omega) (by first | exact hfr | (intro a ha; rw [eB_14, up2_a ha]; exact hfr2 a ha)) (by first | exact hv1 | exact hnV_u (kind0 := (A 37 (s.toNat))) (m0 := (marks + (A 51 (s.toNat))) - A 49 word.toNat) (lo0 := ((((A q (((kind * 8) + (A 37 (s.toNat))).toNat)) + (A 38 (s.toNat))) + r_9) - r_2) + o) hv2 eB_14 (by omega) (by omega) (by omega) (by omega) hs.2 hrg.2.2.symm (by omega)) (by omega)
            exact lp151B _ least B24  (by omega) (by first | exact hfr | (intro a ha; rw [eB24, up2_a ha]; exact hfr2 a ha)) (by first | exact hv1 | exact hnV_u (kind0 := (A 37 (s.toNat))) (m0 := (marks + (A 51 (s.toNat))) - A 49 word.toNat) (lo0 := ((((A q (((kind * 8) + (A 37 (s.toNat))).toNat)) + (A 38 (s.toNat))) + r_9) - r_2) + o) hv2 eB24 (by omega) (by omega) (by omega) (by omega) hs.2 hrg.2.2.symm (by omega)) (Nat.lt_succ_self _)
          · skip
            refine r_go (t := 190) i_113_130 (by decide) ?_
            refine r_iinc (l' := [(0, .ref 57), (1, V word), (2, V kind), (3, V marks), (4, V row), (5, V least), (6, V r_2), (7, V (word * 12)), (8, V (s + 1)), (9, V (A 37 (s.toNat))), (10, V (marks + (A 51 (s.toNat)))), (11, V ((A q (((kind * 8) + (A 37 (s.toNat))).toNat)) + (A 38 (s.toNat)))), (12, V ((((A q (((kind * 8) + (A 37 (s.toNat))).toNat)) + (A 38 (s.toNat))) + r_9) - r_2)), (13, V l13), (14, V l14)]) i_113_190 rfl (by decide +kernel) rfl ?_
            refine r_go (t := 24) i_113_193 (by decide) ?_
            exact ih24B (s + 1) (A 37 (s.toNat)) (marks + (A 51 (s.toNat))) ((A q (((kind * 8) + (A 37 (s.toNat))).toNat)) + (A 38 (s.toNat))) ((((A q (((kind * 8) + (A 37 (s.toNat))).toNat)) + (A 38 (s.toNat))) + r_9) - r_2) l13 l14 B24  (by omega) (by first | (intro a ha; rfl) | exact hfr | exact hfr2) (by first | exact hh | exact hv1 | exact hv2) (by omega)
  have lp24A89101112 : ∀ (nf : Nat) (s : Int) (l9 : Int) (l10 : Int) (l11 : Int) (l12 : Int) (B24 : Nat → Nat → Int64), (12 * word ≤ s ∧ s ≤ 12 * word + 12) → (∀ a, ¬ a = lb → B24 a = B a) → (hnV A B24 lb word) → (12 * word + 12 - s).toNat < nf → Re L xs 113 24 [(0, .ref 57), (1, V word), (2, V kind), (3, V marks), (4, V row), (5, V least), (6, V r_2), (7, V (word * 12)), (8, V s), (9, V l9), (10, V l10), (11, V l11), (12, V l12)] [] (HP ly F G A B24) Q := by
    intro nf
    induction nf with
    | zero => intros; omega
    | succ nf ih24A89101112 =>
      intro s l9 l10 l11 l12 B24  hs8 hfr hv1 hm24
      refine r_iload i_113_24 rfl ?_
      refine r_iload i_113_26 rfl ?_
      refine r_aload_n i_113_28 rfl ?_
      refine r_getF (v := .ref 31) i_113_29 rfl (hly 57 _ rfl) (hF.1 57 1 31 rfl) ?_
      refine r_getF (v := .ref 32) i_113_32 rfl (hly 31 _ rfl) (hF.1 31 0 32 rfl) ?_
      refine r_iload_n i_113_35 rfl ?_
      refine r_iald i_113_36 (hly 32 _ rfl) (by omega) (by omega) (by omega) ?_
      have q_15 := a_32 hA (word.toNat)
      refine r_iadd i_113_37 ?_
      refine r_cge (t := 196) i_113_38 (by decide) (by omega) (by omega) (fun u_16 => ?_) (fun u_16 => ?_)
      · skip
        exact r_vret i_113_196 rfl (K B24 (by exact hfr) (by exact hv1))
      · skip
        refine r_aload_n i_113_41 rfl ?_
        refine r_getF (v := .ref 31) i_113_42 rfl (hly 57 _ rfl) (hF.1 57 1 31 rfl) ?_
        refine r_getF (v := .ref 37) i_113_45 rfl (hly 31 _ rfl) (hF.1 31 3 37 rfl) ?_
        refine r_iload i_113_48 rfl ?_
        refine r_iald i_113_50 (hly 37 _ rfl) (by omega) (by omega) (by omega) ?_
        have q_17 := a_37 hA (s.toNat)
        refine r_istore (l' := [(0, .ref 57), (1, V word), (2, V kind), (3, V marks), (4, V row), (5, V least), (6, V r_2), (7, V (word * 12)), (8, V s), (9, V (A 37 (s.toNat))), (10, V l10), (11, V l11), (12, V l12)]) i_113_51 (by decide +kernel) rfl ?_
        refine r_iload_n i_113_53 rfl ?_
        refine r_aload_n i_113_54 rfl ?_
        refine r_getF (v := .ref 48) i_113_55 rfl (hly 57 _ rfl) (hF.1 57 0 48 rfl) ?_
        refine r_getF (v := .ref 51) i_113_58 rfl (hly 48 _ rfl) (hF.1 48 3 51 rfl) ?_
        refine r_iload i_113_61 rfl ?_
        refine r_iald i_113_63 (hly 51 _ rfl) (by omega) (by omega) (by omega) ?_
        have q_18 := a_51 hA (s.toNat)
        refine r_iadd i_113_64 ?_
        refine r_istore (l' := [(0, .ref 57), (1, V word), (2, V kind), (3, V marks), (4, V row), (5, V least), (6, V r_2), (7, V (word * 12)), (8, V s), (9, V (A 37 (s.toNat))), (10, V (marks + (A 51 (s.toNat)))), (11, V l11), (12, V l12)]) i_113_65 (by decide +kernel) rfl ?_
        refine r_aload_n i_113_67 rfl ?_
        refine r_getF (v := .ref 48) i_113_68 rfl (hly 57 _ rfl) (hF.1 57 0 48 rfl) ?_
        refine r_getF (v := .ref q) i_113_71 rfl (hly 48 _ rfl) hfq ?_
        refine r_iload_n i_113_74 rfl ?_
        refine r_bipush i_113_75 (by decide) ?_
        refine r_imul i_113_77 ?_
        refine r_iload i_113_78 rfl ?_
        refine r_iadd i_113_80 ?_
        refine r_iald i_113_81 (Lq_0 hly hq) (by omega) (by omega) (by omega) ?_
        have q_19 := Aq_0 hA hq (((kind * 8) + (A 37 (s.toNat))).toNat)
        refine r_aload_n i_113_82 rfl ?_
        refine r_getF (v := .ref 31) i_113_83 rfl (hly 57 _ rfl) (hF.1 57 1 31 rfl) ?_
        refine r_getF (v := .ref 38) i_113_86 rfl (hly 31 _ rfl) (hF.1 31 4 38 rfl) ?_
        refine r_iload i_113_89 rfl ?_
        refine r_iald i_113_91 (hly 38 _ rfl) (by omega) (by omega) (by omega) ?_
        have q_20 := a_38 hA (s.toNat)
        refine r_iadd i_113_92 ?_
        refine r_istore (l' := [(0, .ref 57), (1, V word), (2, V kind), (3, V marks), (4, V row), (5, V least), (6, V r_2), (7, V (word * 12)), (8, V s), (9, V (A 37 (s.toNat))), (10, V (marks + (A 51 (s.toNat)))), (11, V ((A q (((kind * 8) + (A 37 (s.toNat))).toNat)) + (A 38 (s.toNat)))), (12, V l12)]) i_113_93 (by decide +kernel) rfl ?_
        refine r_iload i_113_95 rfl ?_
        refine r_aload_n i_113_97 rfl ?_
        refine r_getF (v := .ref 48) i_113_98 rfl (hly 57 _ rfl) (hF.1 57 0 48 rfl) ?_
        refine r_iload_n i_113_101 rfl ?_
        refine r_iload i_113_102 rfl ?_
        refine r_iload i_113_104 rfl ?_
        refine r_cV (as := [V (marks + (A 51 (s.toNat))), V (A 37 (s.toNat)), V word]) i_113_106 rfl (by decide +kernel) (Nat.le_of_ble_eq_true rfl) (Nat.le_of_ble_eq_true rfl) (hly 48 _ rfl) rfl ?_
        refine c_98 (word := word) (kind := A 37 (s.toNat)) (marks := marks + (A 51 (s.toNat))) hly hF hG hA (by omega) (by omega) (by omega) (by omega) (by omega) (by exact spV_c (by rfl) (by rfl) (by rfl) hsp) (by omega) (fun r_21 p21_0 p21_1 => ?_)
        show Re L xs 113 109 [(0, .ref 57), (1, V word), (2, V kind), (3, V marks), (4, V row), (5, V least), (6, V r_2), (7, V (word * 12)), (8, V s), (9, V (A 37 (s.toNat))), (10, V (marks + (A 51 (s.toNat)))), (11, V ((A q (((kind * 8) + (A 37 (s.toNat))).toNat)) + (A 38 (s.toNat)))), (12, V l12)] [V r_21, V ((A q (((kind * 8) + (A 37 (s.toNat))).toNat)) + (A 38 (s.toNat)))] (HP ly F G A B24) _
        refine r_iadd i_113_109 ?_
        refine r_iload i_113_110 rfl ?_
        refine r_isub i_113_112 ?_
        refine r_istore (l' := [(0, .ref 57), (1, V word), (2, V kind), (3, V marks), (4, V row), (5, V least), (6, V r_2), (7, V (word * 12)), (8, V s), (9, V (A 37 (s.toNat))), (10, V (marks + (A 51 (s.toNat)))), (11, V ((A q (((kind * 8) + (A 37 (s.toNat))).toNat)) + (A 38 (s.toNat)))), (12, V ((((A q (((kind * 8) + (A 37 (s.toNat))).toNat)) + (A 38 (s.toNat))) + r_21) - r_2))]) i_113_113 (by decide +kernel) rfl ?_
        refine r_iload i_113_115 rfl ?_
        refine r_lt0 (t := 190) i_113_117 (by decide) (by omega) (fun u_22 => ?_) (fun u_22 => ?_)
        · skip
          refine r_iinc (l' := [(0, .ref 57), (1, V word), (2, V kind), (3, V marks), (4, V row), (5, V least), (6, V r_2), (7, V (word * 12)), (8, V (s + 1)), (9, V (A 37 (s.toNat))), (10, V (marks + (A 51 (s.toNat)))), (11, V ((A q (((kind * 8) + (A 37 (s.toNat))).toNat)) + (A 38 (s.toNat)))), (12, V ((((A q (((kind * 8) + (A 37 (s.toNat))).toNat)) + (A 38 (s.toNat))) + r_21) - r_2))]) i_113_190 rfl (by decide +kernel) rfl ?_
          refine r_go (t := 24) i_113_193 (by decide) ?_
          exact ih24A89101112 (s + 1) (A 37 (s.toNat)) (marks + (A 51 (s.toNat))) ((A q (((kind * 8) + (A 37 (s.toNat))).toNat)) + (A 38 (s.toNat))) ((((A q (((kind * 8) + (A 37 (s.toNat))).toNat)) + (A 38 (s.toNat))) + r_21) - r_2) B24  (by omega) (by first | (intro a ha; rfl) | exact hfr | exact hfr2) (by first | exact hh | exact hv1 | exact hv2) (by omega)
        · skip
          refine r_iload i_113_120 rfl ?_
          refine r_iload i_113_122 rfl ?_
          refine r_iadd i_113_124 ?_
          refine r_bipush i_113_125 (by decide) ?_
          refine r_clt (t := 133) i_113_127 (by decide) (by omega) (by omega) (fun u_23 => ?_) (fun u_23 => ?_)
          · skip
            refine r_aload_n i_113_133 rfl ?_
            refine r_iload_n i_113_134 rfl ?_
            refine r_iload i_113_135 rfl ?_
            refine r_iload i_113_137 rfl ?_
            refine r_cV (as := [V (marks + (A 51 (s.toNat))), V (A 37 (s.toNat)), V word]) i_113_139 rfl (by decide +kernel) (Nat.le_of_ble_eq_true rfl) (Nat.le_of_ble_eq_true rfl) (hly 57 _ rfl) rfl ?_
            refine c_108 (word := word) (kind := A 37 (s.toNat)) (marks := marks + (A 51 (s.toNat))) hly hF hG hA (by omega) (by omega) (by omega) (by omega) (fun r_24 p24_0 => ?_)
            show Re L xs 113 142 [(0, .ref 57), (1, V word), (2, V kind), (3, V marks), (4, V row), (5, V least), (6, V r_2), (7, V (word * 12)), (8, V s), (9, V (A 37 (s.toNat))), (10, V (marks + (A 51 (s.toNat)))), (11, V ((A q (((kind * 8) + (A 37 (s.toNat))).toNat)) + (A 38 (s.toNat)))), (12, V ((((A q (((kind * 8) + (A 37 (s.toNat))).toNat)) + (A 38 (s.toNat))) + r_21) - r_2))] [V r_24] (HP ly F G A B24) _
            refine r_iload i_113_142 rfl ?_
            refine r_iadd i_113_144 ?_
            refine r_istore (l' := [(0, .ref 57), (1, V word), (2, V kind), (3, V marks), (4, V row), (5, V least), (6, V r_2), (7, V (word * 12)), (8, V s), (9, V (A 37 (s.toNat))), (10, V (marks + (A 51 (s.toNat)))), (11, V ((A q (((kind * 8) + (A 37 (s.toNat))).toNat)) + (A 38 (s.toNat)))), (12, V ((((A q (((kind * 8) + (A 37 (s.toNat))).toNat)) + (A 38 (s.toNat))) + r_21) - r_2)), (13, V (r_24 + ((((A q (((kind * 8) + (A 37 (s.toNat))).toNat)) + (A 38 (s.toNat))) + r_21) - r_2)))]) i_113_145 (by decide +kernel) rfl ?_
            have hrg : A 49 word.toNat ≤ (marks + (A 51 (s.toNat))) ∧ (marks + (A 51 (s.toNat))) ≤ A 50 word.toNat ∧ r_21 = A 54 (680 * word + 85 * (A 37 (s.toNat)) + ((marks + (A 51 (s.toNat))) - A 49 word.toNat)).toNat := by rcases p21_1 with hx | hx; exfalso; omega; exact hx
            have hrg1 := hrg.1
            have hrg2 := hrg.2.1
            refine r_iload i_113_147 rfl ?_
            refine r_istore (l' := [(0, .ref 57), (1, V word), (2, V kind), (3, V marks), (4, V row), (5, V least), (6, V r_2), (7, V (word * 12)), (8, V s), (9, V (A 37 (s.toNat))), (10, V (marks + (A 51 (s.toNat)))), (11, V ((A q (((kind * 8) + (A 37 (s.toNat))).toNat)) + (A 38 (s.toNat)))), (12, V ((((A q (((kind * 8) + (A 37 (s.toNat))).toNat)) + (A 38 (s.toNat))) + r_21) - r_2)), (13, V (r_24 + ((((A q (((kind * 8) + (A 37 (s.toNat))).toNat)) + (A 38 (s.toNat))) + r_21) - r_2))), (14, V least)]) i_113_149 (by decide +kernel) rfl ?_
            have lp151B : ∀ (nf : Nat) (o : Int) (B151 : Nat → Nat → Int64), (least ≤ o ∧ o ≤ 101) → (∀ a, ¬ a = lb → B151 a = B a) → (hnV A B151 lb word) → (101 - o).toNat < nf → Re L xs 113 151 [(0, .ref 57), (1, V word), (2, V kind), (3, V marks), (4, V row), (5, V least), (6, V r_2), (7, V (word * 12)), (8, V s), (9, V (A 37 (s.toNat))), (10, V (marks + (A 51 (s.toNat)))), (11, V ((A q (((kind * 8) + (A 37 (s.toNat))).toNat)) + (A 38 (s.toNat)))), (12, V ((((A q (((kind * 8) + (A 37 (s.toNat))).toNat)) + (A 38 (s.toNat))) + r_21) - r_2)), (13, V (r_24 + ((((A q (((kind * 8) + (A 37 (s.toNat))).toNat)) + (A 38 (s.toNat))) + r_21) - r_2))), (14, V o)] [] (HP ly F G A B151) Q := by
              intro nf
              induction nf with
              | zero => intros; omega
              | succ nf ih151B =>
                intro o B151  ho hfr2 hv2 hm151
                refine r_iload i_113_151 rfl ?_
                refine r_iload i_113_153 rfl ?_
                refine r_iadd i_113_155 ?_
                refine r_bipush i_113_156 (by decide) ?_
                refine r_cge (t := 190) i_113_158 (by decide) (by omega) (by omega) (fun u_25 => ?_) (fun u_25 => ?_)
                · skip
                  refine r_iinc (l' := [(0, .ref 57), (1, V word), (2, V kind), (3, V marks), (4, V row), (5, V least), (6, V r_2), (7, V (word * 12)), (8, V (s + 1)), (9, V (A 37 (s.toNat))), (10, V (marks + (A 51 (s.toNat)))), (11, V ((A q (((kind * 8) + (A 37 (s.toNat))).toNat)) + (A 38 (s.toNat)))), (12, V ((((A q (((kind * 8) + (A 37 (s.toNat))).toNat)) + (A 38 (s.toNat))) + r_21) - r_2)), (13, V (r_24 + ((((A q (((kind * 8) + (A 37 (s.toNat))).toNat)) + (A 38 (s.toNat))) + r_21) - r_2))), (14, V o)]) i_113_190 rfl (by decide +kernel) rfl ?_
                  refine r_go (t := 24) i_113_193 (by decide) ?_
                  exact lp24B _ (s + 1) (A 37 (s.toNat)) (marks + (A 51 (s.toNat))) ((A q (((kind * 8) + (A 37 (s.toNat))).toNat)) + (A 38 (s.toNat))) ((((A q (((kind * 8) + (A 37 (s.toNat))).toNat)) + (A 38 (s.toNat))) + r_21) - r_2) (r_24 + ((((A q (((kind * 8) + (A 37 (s.toNat))).toNat)) + (A 38 (s.toNat))) + r_21) - r_2)) o B151  (by omega) (by first | (intro a ha; rfl) | exact hfr | exact hfr2) (by first | exact hh | exact hv1 | exact hv2) (Nat.lt_succ_self _)
                · skip
                  refine r_aload_n i_113_161 rfl ?_
                  refine r_getF (v := .ref lb) i_113_162 rfl (hly 57 _ rfl) hf4 ?_
                  refine r_iload i_113_165 rfl ?_
                  refine r_iload i_113_167 rfl ?_
                  refine r_iadd i_113_169 ?_
                  refine re_nx i_113_170 rfl ?_
                  refine r_lald i_113_171 (hlb) (by omega) (by omega) (by omega) ?_
                  refine r_aload_n i_113_172 rfl ?_
                  refine r_getF (v := .ref la) i_113_173 rfl (hly 57 _ rfl) hf3 ?_
                  refine r_iload i_113_176 rfl ?_
                  refine r_iload i_113_178 rfl ?_
                  refine r_iadd i_113_180 ?_
                  refine r_lald i_113_181 (hla) (by omega) (by omega) (by omega) ?_
                  refine re_nx i_113_182 rfl ?_
                  refine r_lastQ i_113_183 (hlb) (by omega) (by omega) (by omega) (fun B_26 eB_26 => ?_)
                  refine r_iinc (l' := [(0, .ref 57), (1, V word), (2, V kind), (3, V marks), (4, V row), (5, V least), (6, V r_2), (7, V (word * 12)), (8, V s), (9, V (A 37 (s.toNat))), (10, V (marks + (A 51 (s.toNat)))), (11, V ((A q (((kind * 8) + (A 37 (s.toNat))).toNat)) + (A 38 (s.toNat)))), (12, V ((((A q (((kind * 8) + (A 37 (s.toNat))).toNat)) + (A 38 (s.toNat))) + r_21) - r_2)), (13, V (r_24 + ((((A q (((kind * 8) + (A 37 (s.toNat))).toNat)) + (A 38 (s.toNat))) + r_21) - r_2))), (14, V (o + 1))]) i_113_184 rfl (by decide +kernel) rfl ?_
                  refine r_go (t := 151) i_113_187 (by decide) ?_
                  exact ih151B (o + 1) B_26  (by omega) (by first | exact hfr | (intro a ha; rw [eB_26, up2_a ha]; exact hfr2 a ha)) (by first | exact hv1 | exact hnV_u (kind0 := (A 37 (s.toNat))) (m0 := (marks + (A 51 (s.toNat))) - A 49 word.toNat) (lo0 := ((((A q (((kind * 8) + (A 37 (s.toNat))).toNat)) + (A 38 (s.toNat))) + r_21) - r_2) + o) hv2 eB_26 (by omega) (by omega) (by omega) (by omega) hs.2 hrg.2.2.symm (by omega)) (by omega)
            exact lp151B _ least B24  (by omega) (by first | exact hfr | (intro a ha; rw [eB24, up2_a ha]; exact hfr2 a ha)) (by first | exact hv1 | exact hnV_u (kind0 := (A 37 (s.toNat))) (m0 := (marks + (A 51 (s.toNat))) - A 49 word.toNat) (lo0 := ((((A q (((kind * 8) + (A 37 (s.toNat))).toNat)) + (A 38 (s.toNat))) + r_21) - r_2) + o) hv2 eB24 (by omega) (by omega) (by omega) (by omega) hs.2 hrg.2.2.symm (by omega)) (Nat.lt_succ_self _)
          · skip
            refine r_go (t := 190) i_113_130 (by decide) ?_
            refine r_iinc (l' := [(0, .ref 57), (1, V word), (2, V kind), (3, V marks), (4, V row), (5, V least), (6, V r_2), (7, V (word * 12)), (8, V (s + 1)), (9, V (A 37 (s.toNat))), (10, V (marks + (A 51 (s.toNat)))), (11, V ((A q (((kind * 8) + (A 37 (s.toNat))).toNat)) + (A 38 (s.toNat)))), (12, V ((((A q (((kind * 8) + (A 37 (s.toNat))).toNat)) + (A 38 (s.toNat))) + r_21) - r_2))]) i_113_190 rfl (by decide +kernel) rfl ?_
            refine r_go (t := 24) i_113_193 (by decide) ?_
            exact ih24A89101112 (s + 1) (A 37 (s.toNat)) (marks + (A 51 (s.toNat))) ((A q (((kind * 8) + (A 37 (s.toNat))).toNat)) + (A 38 (s.toNat))) ((((A q (((kind * 8) + (A 37 (s.toNat))).toNat)) + (A 38 (s.toNat))) + r_21) - r_2) B24  (by omega) (by first | (intro a ha; rfl) | exact hfr | exact hfr2) (by first | exact hh | exact hv1 | exact hv2) (by omega)
  have lp24A8 : ∀ (nf : Nat) (s : Int) (B24 : Nat → Nat → Int64), (12 * word ≤ s ∧ s ≤ 12 * word + 12) → (∀ a, ¬ a = lb → B24 a = B a) → (hnV A B24 lb word) → (12 * word + 12 - s).toNat < nf → Re L xs 113 24 [(0, .ref 57), (1, V word), (2, V kind), (3, V marks), (4, V row), (5, V least), (6, V r_2), (7, V (word * 12)), (8, V s)] [] (HP ly F G A B24) Q := by
    intro nf
    induction nf with
    | zero => intros; omega
    | succ nf ih24A8 =>
      intro s B24  hs8 hfr hv1 hm24
      refine r_iload i_113_24 rfl ?_
      refine r_iload i_113_26 rfl ?_
      refine r_aload_n i_113_28 rfl ?_
      refine r_getF (v := .ref 31) i_113_29 rfl (hly 57 _ rfl) (hF.1 57 1 31 rfl) ?_
      refine r_getF (v := .ref 32) i_113_32 rfl (hly 31 _ rfl) (hF.1 31 0 32 rfl) ?_
      refine r_iload_n i_113_35 rfl ?_
      refine r_iald i_113_36 (hly 32 _ rfl) (by omega) (by omega) (by omega) ?_
      have q_27 := a_32 hA (word.toNat)
      refine r_iadd i_113_37 ?_
      refine r_cge (t := 196) i_113_38 (by decide) (by omega) (by omega) (fun u_28 => ?_) (fun u_28 => ?_)
      · skip
        exact r_vret i_113_196 rfl (K B24 (by exact hfr) (by exact hv1))
      · skip
        refine r_aload_n i_113_41 rfl ?_
        refine r_getF (v := .ref 31) i_113_42 rfl (hly 57 _ rfl) (hF.1 57 1 31 rfl) ?_
        refine r_getF (v := .ref 37) i_113_45 rfl (hly 31 _ rfl) (hF.1 31 3 37 rfl) ?_
        refine r_iload i_113_48 rfl ?_
        refine r_iald i_113_50 (hly 37 _ rfl) (by omega) (by omega) (by omega) ?_
        have q_29 := a_37 hA (s.toNat)
        refine r_istore (l' := [(0, .ref 57), (1, V word), (2, V kind), (3, V marks), (4, V row), (5, V least), (6, V r_2), (7, V (word * 12)), (8, V s), (9, V (A 37 (s.toNat)))]) i_113_51 (by decide +kernel) rfl ?_
        refine r_iload_n i_113_53 rfl ?_
        refine r_aload_n i_113_54 rfl ?_
        refine r_getF (v := .ref 48) i_113_55 rfl (hly 57 _ rfl) (hF.1 57 0 48 rfl) ?_
        refine r_getF (v := .ref 51) i_113_58 rfl (hly 48 _ rfl) (hF.1 48 3 51 rfl) ?_
        refine r_iload i_113_61 rfl ?_
        refine r_iald i_113_63 (hly 51 _ rfl) (by omega) (by omega) (by omega) ?_
        have q_30 := a_51 hA (s.toNat)
        refine r_iadd i_113_64 ?_
        refine r_istore (l' := [(0, .ref 57), (1, V word), (2, V kind), (3, V marks), (4, V row), (5, V least), (6, V r_2), (7, V (word * 12)), (8, V s), (9, V (A 37 (s.toNat))), (10, V (marks + (A 51 (s.toNat))))]) i_113_65 (by decide +kernel) rfl ?_
        refine r_aload_n i_113_67 rfl ?_
        refine r_getF (v := .ref 48) i_113_68 rfl (hly 57 _ rfl) (hF.1 57 0 48 rfl) ?_
        refine r_getF (v := .ref q) i_113_71 rfl (hly 48 _ rfl) hfq ?_
        refine r_iload_n i_113_74 rfl ?_
        refine r_bipush i_113_75 (by decide) ?_
        refine r_imul i_113_77 ?_
        refine r_iload i_113_78 rfl ?_
        refine r_iadd i_113_80 ?_
        refine r_iald i_113_81 (Lq_0 hly hq) (by omega) (by omega) (by omega) ?_
        have q_31 := Aq_0 hA hq (((kind * 8) + (A 37 (s.toNat))).toNat)
        refine r_aload_n i_113_82 rfl ?_
        refine r_getF (v := .ref 31) i_113_83 rfl (hly 57 _ rfl) (hF.1 57 1 31 rfl) ?_
        refine r_getF (v := .ref 38) i_113_86 rfl (hly 31 _ rfl) (hF.1 31 4 38 rfl) ?_
        refine r_iload i_113_89 rfl ?_
        refine r_iald i_113_91 (hly 38 _ rfl) (by omega) (by omega) (by omega) ?_
        have q_32 := a_38 hA (s.toNat)
        refine r_iadd i_113_92 ?_
        refine r_istore (l' := [(0, .ref 57), (1, V word), (2, V kind), (3, V marks), (4, V row), (5, V least), (6, V r_2), (7, V (word * 12)), (8, V s), (9, V (A 37 (s.toNat))), (10, V (marks + (A 51 (s.toNat)))), (11, V ((A q (((kind * 8) + (A 37 (s.toNat))).toNat)) + (A 38 (s.toNat))))]) i_113_93 (by decide +kernel) rfl ?_
        refine r_iload i_113_95 rfl ?_
        refine r_aload_n i_113_97 rfl ?_
        refine r_getF (v := .ref 48) i_113_98 rfl (hly 57 _ rfl) (hF.1 57 0 48 rfl) ?_
        refine r_iload_n i_113_101 rfl ?_
        refine r_iload i_113_102 rfl ?_
        refine r_iload i_113_104 rfl ?_
        refine r_cV (as := [V (marks + (A 51 (s.toNat))), V (A 37 (s.toNat)), V word]) i_113_106 rfl (by decide +kernel) (Nat.le_of_ble_eq_true rfl) (Nat.le_of_ble_eq_true rfl) (hly 48 _ rfl) rfl ?_
        refine c_98 (word := word) (kind := A 37 (s.toNat)) (marks := marks + (A 51 (s.toNat))) hly hF hG hA (by omega) (by omega) (by omega) (by omega) (by omega) (by exact spV_c (by rfl) (by rfl) (by rfl) hsp) (by omega) (fun r_33 p33_0 p33_1 => ?_)
        show Re L xs 113 109 [(0, .ref 57), (1, V word), (2, V kind), (3, V marks), (4, V row), (5, V least), (6, V r_2), (7, V (word * 12)), (8, V s), (9, V (A 37 (s.toNat))), (10, V (marks + (A 51 (s.toNat)))), (11, V ((A q (((kind * 8) + (A 37 (s.toNat))).toNat)) + (A 38 (s.toNat))))] [V r_33, V ((A q (((kind * 8) + (A 37 (s.toNat))).toNat)) + (A 38 (s.toNat)))] (HP ly F G A B24) _
        refine r_iadd i_113_109 ?_
        refine r_iload i_113_110 rfl ?_
        refine r_isub i_113_112 ?_
        refine r_istore (l' := [(0, .ref 57), (1, V word), (2, V kind), (3, V marks), (4, V row), (5, V least), (6, V r_2), (7, V (word * 12)), (8, V s), (9, V (A 37 (s.toNat))), (10, V (marks + (A 51 (s.toNat)))), (11, V ((A q (((kind * 8) + (A 37 (s.toNat))).toNat)) + (A 38 (s.toNat)))), (12, V ((((A q (((kind * 8) + (A 37 (s.toNat))).toNat)) + (A 38 (s.toNat))) + r_33) - r_2))]) i_113_113 (by decide +kernel) rfl ?_
        refine r_iload i_113_115 rfl ?_
        refine r_lt0 (t := 190) i_113_117 (by decide) (by omega) (fun u_34 => ?_) (fun u_34 => ?_)
        · skip
          refine r_iinc (l' := [(0, .ref 57), (1, V word), (2, V kind), (3, V marks), (4, V row), (5, V least), (6, V r_2), (7, V (word * 12)), (8, V (s + 1)), (9, V (A 37 (s.toNat))), (10, V (marks + (A 51 (s.toNat)))), (11, V ((A q (((kind * 8) + (A 37 (s.toNat))).toNat)) + (A 38 (s.toNat)))), (12, V ((((A q (((kind * 8) + (A 37 (s.toNat))).toNat)) + (A 38 (s.toNat))) + r_33) - r_2))]) i_113_190 rfl (by decide +kernel) rfl ?_
          refine r_go (t := 24) i_113_193 (by decide) ?_
          exact lp24A89101112 _ (s + 1) (A 37 (s.toNat)) (marks + (A 51 (s.toNat))) ((A q (((kind * 8) + (A 37 (s.toNat))).toNat)) + (A 38 (s.toNat))) ((((A q (((kind * 8) + (A 37 (s.toNat))).toNat)) + (A 38 (s.toNat))) + r_33) - r_2) B24  (by omega) (by first | (intro a ha; rfl) | exact hfr | exact hfr2) (by first | exact hh | exact hv1 | exact hv2) (Nat.lt_succ_self _)
        · skip
          refine r_iload i_113_120 rfl ?_
          refine r_iload i_113_122 rfl ?_
          refine r_iadd i_113_124 ?_
          refine r_bipush i_113_125 (by decide) ?_
          refine r_clt (t := 133) i_113_127 (by decide) (by omega) (by omega) (fun u_35 => ?_) (fun u_35 => ?_)
          · skip
            refine r_aload_n i_113_133 rfl ?_
            refine r_iload_n i_113_134 rfl ?_
            refine r_iload i_113_135 rfl ?_
            refine r_iload i_113_137 rfl ?_
            refine r_cV (as := [V (marks + (A 51 (s.toNat))), V (A 37 (s.toNat)), V word]) i_113_139 rfl (by decide +kernel) (Nat.le_of_ble_eq_true rfl) (Nat.le_of_ble_eq_true rfl) (hly 57 _ rfl) rfl ?_
            refine c_108 (word := word) (kind := A 37 (s.toNat)) (marks := marks + (A 51 (s.toNat))) hly hF hG hA (by omega) (by omega) (by omega) (by omega) (fun r_36 p36_0 => ?_)
            show Re L xs 113 142 [(0, .ref 57), (1, V word), (2, V kind), (3, V marks), (4, V row), (5, V least), (6, V r_2), (7, V (word * 12)), (8, V s), (9, V (A 37 (s.toNat))), (10, V (marks + (A 51 (s.toNat)))), (11, V ((A q (((kind * 8) + (A 37 (s.toNat))).toNat)) + (A 38 (s.toNat)))), (12, V ((((A q (((kind * 8) + (A 37 (s.toNat))).toNat)) + (A 38 (s.toNat))) + r_33) - r_2))] [V r_36] (HP ly F G A B24) _
            refine r_iload i_113_142 rfl ?_
            refine r_iadd i_113_144 ?_
            refine r_istore (l' := [(0, .ref 57), (1, V word), (2, V kind), (3, V marks), (4, V row), (5, V least), (6, V r_2), (7, V (word * 12)), (8, V s), (9, V (A 37 (s.toNat))), (10, V (marks + (A 51 (s.toNat)))), (11, V ((A q (((kind * 8) + (A 37 (s.toNat))).toNat)) + (A 38 (s.toNat)))), (12, V ((((A q (((kind * 8) + (A 37 (s.toNat))).toNat)) + (A 38 (s.toNat))) + r_33) - r_2)), (13, V (r_36 + ((((A q (((kind * 8) + (A 37 (s.toNat))).toNat)) + (A 38 (s.toNat))) + r_33) - r_2)))]) i_113_145 (by decide +kernel) rfl ?_
            have hrg : A 49 word.toNat ≤ (marks + (A 51 (s.toNat))) ∧ (marks + (A 51 (s.toNat))) ≤ A 50 word.toNat ∧ r_33 = A 54 (680 * word + 85 * (A 37 (s.toNat)) + ((marks + (A 51 (s.toNat))) - A 49 word.toNat)).toNat := by rcases p33_1 with hx | hx; exfalso; omega; exact hx
            have hrg1 := hrg.1
            have hrg2 := hrg.2.1
            refine r_iload i_113_147 rfl ?_
            refine r_istore (l' := [(0, .ref 57), (1, V word), (2, V kind), (3, V marks), (4, V row), (5, V least), (6, V r_2), (7, V (word * 12)), (8, V s), (9, V (A 37 (s.toNat))), (10, V (marks + (A 51 (s.toNat)))), (11, V ((A q (((kind * 8) + (A 37 (s.toNat))).toNat)) + (A 38 (s.toNat)))), (12, V ((((A q (((kind * 8) + (A 37 (s.toNat))).toNat)) + (A 38 (s.toNat))) + r_33) - r_2)), (13, V (r_36 + ((((A q (((kind * 8) + (A 37 (s.toNat))).toNat)) + (A 38 (s.toNat))) + r_33) - r_2))), (14, V least)]) i_113_149 (by decide +kernel) rfl ?_
            have lp151B : ∀ (nf : Nat) (o : Int) (B151 : Nat → Nat → Int64), (least ≤ o ∧ o ≤ 101) → (∀ a, ¬ a = lb → B151 a = B a) → (hnV A B151 lb word) → (101 - o).toNat < nf → Re L xs 113 151 [(0, .ref 57), (1, V word), (2, V kind), (3, V marks), (4, V row), (5, V least), (6, V r_2), (7, V (word * 12)), (8, V s), (9, V (A 37 (s.toNat))), (10, V (marks + (A 51 (s.toNat)))), (11, V ((A q (((kind * 8) + (A 37 (s.toNat))).toNat)) + (A 38 (s.toNat)))), (12, V ((((A q (((kind * 8) + (A 37 (s.toNat))).toNat)) + (A 38 (s.toNat))) + r_33) - r_2)), (13, V (r_36 + ((((A q (((kind * 8) + (A 37 (s.toNat))).toNat)) + (A 38 (s.toNat))) + r_33) - r_2))), (14, V o)] [] (HP ly F G A B151) Q := by
              intro nf
              induction nf with
              | zero => intros; omega
              | succ nf ih151B =>
                intro o B151  ho hfr2 hv2 hm151
                refine r_iload i_113_151 rfl ?_
                refine r_iload i_113_153 rfl ?_
                refine r_iadd i_113_155 ?_
                refine r_bipush i_113_156 (by decide) ?_
                refine r_cge (t := 190) i_113_158 (by decide) (by omega) (by omega) (fun u_37 => ?_) (fun u_37 => ?_)
                · skip
                  refine r_iinc (l' := [(0, .ref 57), (1, V word), (2, V kind), (3, V marks), (4, V row), (5, V least), (6, V r_2), (7, V (word * 12)), (8, V (s + 1)), (9, V (A 37 (s.toNat))), (10, V (marks + (A 51 (s.toNat)))), (11, V ((A q (((kind * 8) + (A 37 (s.toNat))).toNat)) + (A 38 (s.toNat)))), (12, V ((((A q (((kind * 8) + (A 37 (s.toNat))).toNat)) + (A 38 (s.toNat))) + r_33) - r_2)), (13, V (r_36 + ((((A q (((kind * 8) + (A 37 (s.toNat))).toNat)) + (A 38 (s.toNat))) + r_33) - r_2))), (14, V o)]) i_113_190 rfl (by decide +kernel) rfl ?_
                  refine r_go (t := 24) i_113_193 (by decide) ?_
                  exact lp24B _ (s + 1) (A 37 (s.toNat)) (marks + (A 51 (s.toNat))) ((A q (((kind * 8) + (A 37 (s.toNat))).toNat)) + (A 38 (s.toNat))) ((((A q (((kind * 8) + (A 37 (s.toNat))).toNat)) + (A 38 (s.toNat))) + r_33) - r_2) (r_36 + ((((A q (((kind * 8) + (A 37 (s.toNat))).toNat)) + (A 38 (s.toNat))) + r_33) - r_2)) o B151  (by omega) (by first | (intro a ha; rfl) | exact hfr | exact hfr2) (by first | exact hh | exact hv1 | exact hv2) (Nat.lt_succ_self _)
                · skip
                  refine r_aload_n i_113_161 rfl ?_
                  refine r_getF (v := .ref lb) i_113_162 rfl (hly 57 _ rfl) hf4 ?_
                  refine r_iload i_113_165 rfl ?_
                  refine r_iload i_113_167 rfl ?_
                  refine r_iadd i_113_169 ?_
                  refine re_nx i_113_170 rfl ?_
                  refine r_lald i_113_171 (hlb) (by omega) (by omega) (by omega) ?_
                  refine r_aload_n i_113_172 rfl ?_
                  refine r_getF (v := .ref la) i_113_173 rfl (hly 57 _ rfl) hf3 ?_
                  refine r_iload i_113_176 rfl ?_
                  refine r_iload i_113_178 rfl ?_
                  refine r_iadd i_113_180 ?_
                  refine r_lald i_113_181 (hla) (by omega) (by omega) (by omega) ?_
                  refine re_nx i_113_182 rfl ?_
                  refine r_lastQ i_113_183 (hlb) (by omega) (by omega) (by omega) (fun B_38 eB_38 => ?_)
                  refine r_iinc (l' := [(0, .ref 57), (1, V word), (2, V kind), (3, V marks), (4, V row), (5, V least), (6, V r_2), (7, V (word * 12)), (8, V s), (9, V (A 37 (s.toNat))), (10, V (marks + (A 51 (s.toNat)))), (11, V ((A q (((kind * 8) + (A 37 (s.toNat))).toNat)) + (A 38 (s.toNat)))), (12, V ((((A q (((kind * 8) + (A 37 (s.toNat))).toNat)) + (A 38 (s.toNat))) + r_33) - r_2)), (13, V (r_36 + ((((A q (((kind * 8) + (A 37 (s.toNat))).toNat)) + (A 38 (s.toNat))) + r_33) - r_2))), (14, V (o + 1))]) i_113_184 rfl (by decide +kernel) rfl ?_
                  refine r_go (t := 151) i_113_187 (by decide) ?_
                  exact ih151B (o + 1) B_38  (by omega) (by first | exact hfr | (intro a ha; rw [eB_38, up2_a ha]; exact hfr2 a ha)) (by first | exact hv1 | exact hnV_u (kind0 := (A 37 (s.toNat))) (m0 := (marks + (A 51 (s.toNat))) - A 49 word.toNat) (lo0 := ((((A q (((kind * 8) + (A 37 (s.toNat))).toNat)) + (A 38 (s.toNat))) + r_33) - r_2) + o) hv2 eB_38 (by omega) (by omega) (by omega) (by omega) hs.2 hrg.2.2.symm (by omega)) (by omega)
            exact lp151B _ least B24  (by omega) (by first | exact hfr | (intro a ha; rw [eB24, up2_a ha]; exact hfr2 a ha)) (by first | exact hv1 | exact hnV_u (kind0 := (A 37 (s.toNat))) (m0 := (marks + (A 51 (s.toNat))) - A 49 word.toNat) (lo0 := ((((A q (((kind * 8) + (A 37 (s.toNat))).toNat)) + (A 38 (s.toNat))) + r_33) - r_2) + o) hv2 eB24 (by omega) (by omega) (by omega) (by omega) hs.2 hrg.2.2.symm (by omega)) (Nat.lt_succ_self _)
          · skip
            refine r_go (t := 190) i_113_130 (by decide) ?_
            refine r_iinc (l' := [(0, .ref 57), (1, V word), (2, V kind), (3, V marks), (4, V row), (5, V least), (6, V r_2), (7, V (word * 12)), (8, V (s + 1)), (9, V (A 37 (s.toNat))), (10, V (marks + (A 51 (s.toNat)))), (11, V ((A q (((kind * 8) + (A 37 (s.toNat))).toNat)) + (A 38 (s.toNat)))), (12, V ((((A q (((kind * 8) + (A 37 (s.toNat))).toNat)) + (A 38 (s.toNat))) + r_33) - r_2))]) i_113_190 rfl (by decide +kernel) rfl ?_
            refine r_go (t := 24) i_113_193 (by decide) ?_
            exact lp24A89101112 _ (s + 1) (A 37 (s.toNat)) (marks + (A 51 (s.toNat))) ((A q (((kind * 8) + (A 37 (s.toNat))).toNat)) + (A 38 (s.toNat))) ((((A q (((kind * 8) + (A 37 (s.toNat))).toNat)) + (A 38 (s.toNat))) + r_33) - r_2) B24  (by omega) (by first | (intro a ha; rfl) | exact hfr | exact hfr2) (by first | exact hh | exact hv1 | exact hv2) (Nat.lt_succ_self _)
  exact lp24A8 _ (word * 12) B  (by omega) (by first | (intro a ha; rfl) | exact hfr | exact hfr2) (by first | exact hh | exact hv1 | exact hv2) (Nat.lt_succ_self _)
set_option maxHeartbeats 4000000 in
theorem c_111 {L : Nat} {xs : Nat → Int32} {ly : List LK} {F : Nat → Nat → Value} {G A : Nat → Nat → Int} {B : Nat → Nat → Int64} {Q : Option Value → AH → Prop} {word : Int} {la lb q : Nat} (hly : LyOk ly) (hF : RfOk F) (hG : GO G) (hA : AQ A) (in_word : inR word) (hw : 1 ≤ word ∧ word < G 31 8) (hsp : spV G A) (hrs : RS A) (hq : q = 20 ∨ q = 78 ∨ q = 52) (hfq : F 48 4 = .ref q) (hpc : PC A q) (hla : ly[la]? = some (.inr (.long, 68680))) (hlb : ly[lb]? = some (.inr (.long, 68680))) (hab : ¬ la = lb) (hf3 : F 57 3 = .ref la) (hf4 : F 57 4 = .ref lb) (hh : hnV A B lb word) (hha : hnV A B la (word - 1)) (K : ∀ (B' : Nat → Nat → Int64), (∀ a, ¬ a = lb → B' a = B a) → (hnV A B' lb word) → Q none (HP ly F G A B')) : Re L xs 111 0 [(0, .ref 57), (1, V word)] [] (HP ly F G A B) Q := by
  have z8 := g_31_8 hG
  have hsb := hsp (word - 1).toNat (by omega)
  have z49b := a_49 hA (word - 1).toNat
  have z50b := a_50 hA (word - 1).toNat
  refine r_iload_n i_111_0 rfl ?_
  refine r_iconst i_111_1 ?_
  refine r_isub i_111_2 ?_
  refine r_istore_n (l' := [(0, .ref 57), (1, V word), (2, V (word - 1))]) i_111_3 (by decide +kernel) rfl ?_
  refine r_iconst i_111_4 ?_
  refine r_istore_n (l' := [(0, .ref 57), (1, V word), (2, V (word - 1)), (3, V 0)]) i_111_5 (by decide +kernel) rfl ?_
  have lp6B : ∀ (nf : Nat) (kd : Int) (l4 : Int) (l5 : Int) (l6 : Int) (B6 : Nat → Nat → Int64), (0 ≤ kd ∧ kd ≤ 8) → (∀ a, ¬ a = lb → B6 a = B a) → (hnV A B6 lb word) → (8 - kd).toNat < nf → Re L xs 111 6 [(0, .ref 57), (1, V word), (2, V (word - 1)), (3, V kd), (4, V l4), (5, V l5), (6, V l6)] [] (HP ly F G A B6) Q := by
    intro nf
    induction nf with
    | zero => intros; omega
    | succ nf ih6B =>
      intro kd l4 l5 l6 B6  hkk hfr hv1 hm6
      refine r_iload_n i_111_6 rfl ?_
      refine r_bipush i_111_7 (by decide) ?_
      refine r_cge (t := 101) i_111_9 (by decide) (by omega) (by omega) (fun u_1 => ?_) (fun u_1 => ?_)
      · skip
        exact r_vret i_111_101 rfl (K B6 (by exact hfr) (by exact hv1))
      · skip
        refine r_aload_n i_111_12 rfl ?_
        refine r_getF (v := .ref 48) i_111_13 rfl (hly 57 _ rfl) (hF.1 57 0 48 rfl) ?_
        refine r_iload_n i_111_16 rfl ?_
        refine r_iload_n i_111_17 rfl ?_
        refine r_cV (as := [V kd, V (word - 1)]) i_111_18 rfl (by decide +kernel) (Nat.le_of_ble_eq_true rfl) (Nat.le_of_ble_eq_true rfl) (hly 48 _ rfl) rfl ?_
        refine c_88 (word := word - 1) (kind := kd) hly hF hG hA (by omega) (by omega) (by omega) (fun r_2 p2_0 p2_1 => ?_)
        show Re L xs 111 21 [(0, .ref 57), (1, V word), (2, V (word - 1)), (3, V kd), (4, V l4), (5, V l5), (6, V l6)] [V r_2] (HP ly F G A B6) _
        refine r_ne0 (t := 27) i_111_21 (by decide) (by omega) (fun u_3 => ?_) (fun u_3 => ?_)
        · skip
          refine r_aload_n i_111_27 rfl ?_
          refine r_getF (v := .ref 48) i_111_28 rfl (hly 57 _ rfl) (hF.1 57 0 48 rfl) ?_
          refine r_getF (v := .ref 49) i_111_31 rfl (hly 48 _ rfl) (hF.1 48 1 49 rfl) ?_
          refine r_iload_n i_111_34 rfl ?_
          refine r_iald i_111_35 (hly 49 _ rfl) (by omega) (by omega) (by omega) ?_
          have q_4 := a_49 hA ((word - 1).toNat)
          refine r_istore (l' := [(0, .ref 57), (1, V word), (2, V (word - 1)), (3, V kd), (4, V (A 49 ((word - 1).toNat))), (5, V l5), (6, V l6)]) i_111_36 (by decide +kernel) rfl ?_
          have lp38B : ∀ (nf : Nat) (mk : Int) (k5 : Int) (k6 : Int) (B38 : Nat → Nat → Int64), (A 49 (word - 1).toNat ≤ mk ∧ mk ≤ 1000) → (∀ a, ¬ a = lb → B38 a = B a) → (hnV A B38 lb word) → (1000 - mk).toNat < nf → Re L xs 111 38 [(0, .ref 57), (1, V word), (2, V (word - 1)), (3, V kd), (4, V mk), (5, V k5), (6, V k6)] [] (HP ly F G A B38) Q := by
            intro nf
            induction nf with
            | zero => intros; omega
            | succ nf ih38B =>
              intro mk k5 k6 B38  hmk hfr2 hv2 hm38
              refine r_iload i_111_38 rfl ?_
              refine r_aload_n i_111_40 rfl ?_
              refine r_getF (v := .ref 48) i_111_41 rfl (hly 57 _ rfl) (hF.1 57 0 48 rfl) ?_
              refine r_getF (v := .ref 50) i_111_44 rfl (hly 48 _ rfl) (hF.1 48 2 50 rfl) ?_
              refine r_iload_n i_111_47 rfl ?_
              refine r_iald i_111_48 (hly 50 _ rfl) (by omega) (by omega) (by omega) ?_
              have q_5 := a_50 hA ((word - 1).toNat)
              refine r_cgt (t := 95) i_111_49 (by decide) (by omega) (by omega) (fun u_6 => ?_) (fun u_6 => ?_)
              · skip
                refine r_iinc (l' := [(0, .ref 57), (1, V word), (2, V (word - 1)), (3, V (kd + 1)), (4, V mk), (5, V k5), (6, V k6)]) i_111_95 rfl (by decide +kernel) rfl ?_
                refine r_go (t := 6) i_111_98 (by decide) ?_
                exact ih6B (kd + 1) mk k5 k6 B38  (by omega) (by first | (intro a ha; rfl) | exact hfr | exact hfr2) (by first | exact hh | exact hv1 | exact hv2) (by omega)
              · skip
                refine r_aload_n i_111_52 rfl ?_
                refine r_iload_n i_111_53 rfl ?_
                refine r_iload_n i_111_54 rfl ?_
                refine r_iload i_111_55 rfl ?_
                refine r_cV (as := [V mk, V kd, V (word - 1)]) i_111_57 rfl (by decide +kernel) (Nat.le_of_ble_eq_true rfl) (Nat.le_of_ble_eq_true rfl) (hly 57 _ rfl) rfl ?_
                refine c_108 (word := word - 1) (kind := kd) (marks := mk) hly hF hG hA (by omega) (by omega) (by omega) (by omega) (fun r_7 p7_0 => ?_)
                show Re L xs 111 60 [(0, .ref 57), (1, V word), (2, V (word - 1)), (3, V kd), (4, V mk), (5, V k5), (6, V k6)] [V r_7] (HP ly F G A B38) _
                refine r_istore (l' := [(0, .ref 57), (1, V word), (2, V (word - 1)), (3, V kd), (4, V mk), (5, V r_7), (6, V k6)]) i_111_60 (by decide +kernel) rfl ?_
                refine r_aload_n i_111_62 rfl ?_
                refine r_iload i_111_63 rfl ?_
                refine r_cV (as := [V r_7]) i_111_65 rfl (by decide +kernel) (Nat.le_of_ble_eq_true rfl) (Nat.le_of_ble_eq_true rfl) (hly 57 _ rfl) rfl ?_
                refine c_112 (row := r_7) (la := la) hly hF hG hA (by omega) (by omega) (by exact hla) (by exact hf3) (fun r_8 p8_0 p8_1 => ?_)
                show Re L xs 111 68 [(0, .ref 57), (1, V word), (2, V (word - 1)), (3, V kd), (4, V mk), (5, V r_7), (6, V k6)] [V r_8] (HP ly F G A B38) _
                refine r_istore (l' := [(0, .ref 57), (1, V word), (2, V (word - 1)), (3, V kd), (4, V mk), (5, V r_7), (6, V r_8)]) i_111_68 (by decide +kernel) rfl ?_
                refine r_iload i_111_70 rfl ?_
                refine r_bipush i_111_72 (by decide) ?_
                refine r_cge (t := 89) i_111_74 (by decide) (by omega) (by omega) (fun u_9 => ?_) (fun u_9 => ?_)
                · skip
                  refine r_iinc (l' := [(0, .ref 57), (1, V word), (2, V (word - 1)), (3, V kd), (4, V (mk + 1)), (5, V r_7), (6, V r_8)]) i_111_89 rfl (by decide +kernel) rfl ?_
                  refine r_go (t := 38) i_111_92 (by decide) ?_
                  exact ih38B (mk + 1) r_7 r_8 B38  (by omega) (by first | exact hfr | exact hfr2 | (intro a ha; rw [zzp0 a ha]; exact hfr2 a ha)) (by first | exact hv1 | exact hv2 | exact zzp1) (by omega)
                · skip
                  have hkn : A 54 (680 * (word - 1) + 85 * kd + (mk - A 49 (word - 1).toNat)).toNat < 1000000 := (hnV_c (hfr2 la hab) hha) kd (mk - A 49 (word - 1).toNat) r_8 (by omega) (by omega) (p2_1.mp (by omega)) (by omega) (by omega) (by omega) (by omega) (by have hh2 := p8_1 (by omega); rw [show (kd * 85 + (mk - A 49 (word - 1).toNat)) * 101 + r_8 = r_7 + r_8 from by omega]; exact hh2)
                  refine r_aload_n i_111_77 rfl ?_
                  refine r_iload_n i_111_78 rfl ?_
                  refine r_iload_n i_111_79 rfl ?_
                  refine r_iload i_111_80 rfl ?_
                  refine r_iload i_111_82 rfl ?_
                  refine r_iload i_111_84 rfl ?_
                  refine r_cV (as := [V r_8, V r_7, V mk, V kd, V word]) i_111_86 rfl (by decide +kernel) (Nat.le_of_ble_eq_true rfl) (Nat.le_of_ble_eq_true rfl) (hly 57 _ rfl) rfl ?_
                  have q_10 := g_31_8 hG
                  refine c_113 (word := word) (kind := kd) (marks := mk) (row := r_7) (least := r_8) (la := la) (lb := lb) (q := q) hly hF hG hA (by omega) (by omega) (by omega) (by omega) (by omega) (by omega) (by omega) (by omega) (by omega) (by omega) (by exact hkn) (by exact spV_c (by rfl) (by rfl) (by rfl) hsp) (by exact RS_c (by rfl) hrs) (by exact hq) (by exact hfq) (by exact hpc) (by exact hla) (by exact hlb) (by exact hab) (by exact hf3) (by exact hf4) (by exact hv2) (fun B_11 p11_0 p11_1 => ?_)
                  show Re L xs 111 89 [(0, .ref 57), (1, V word), (2, V (word - 1)), (3, V kd), (4, V mk), (5, V r_7), (6, V r_8)] [] (HP ly F G A B_11) _
                  refine r_iinc (l' := [(0, .ref 57), (1, V word), (2, V (word - 1)), (3, V kd), (4, V (mk + 1)), (5, V r_7), (6, V r_8)]) i_111_89 rfl (by decide +kernel) rfl ?_
                  refine r_go (t := 38) i_111_92 (by decide) ?_
                  exact ih38B (mk + 1) r_7 r_8 B_11  (by omega) (by first | exact hfr | exact hfr2 | (intro a ha; rw [p11_0 a ha]; exact hfr2 a ha)) (by first | exact hv1 | exact hv2 | exact p11_1) (by omega)
          exact lp38B _ (A 49 ((word - 1).toNat)) l5 l6 B6  (by omega) (by first | exact hfr | exact hfr2 | (intro a ha; rw [zzp0 a ha]; exact hfr2 a ha)) (by first | exact hv1 | exact hv2 | exact zzp1) (Nat.lt_succ_self _)
        · skip
          refine r_go (t := 95) i_111_24 (by decide) ?_
          refine r_iinc (l' := [(0, .ref 57), (1, V word), (2, V (word - 1)), (3, V (kd + 1)), (4, V l4), (5, V l5), (6, V l6)]) i_111_95 rfl (by decide +kernel) rfl ?_
          refine r_go (t := 6) i_111_98 (by decide) ?_
          exact ih6B (kd + 1) l4 l5 l6 B6  (by omega) (by first | (intro a ha; rfl) | exact hfr | exact hfr2) (by first | exact hh | exact hv1 | exact hv2) (by omega)
  have lp6A34 : ∀ (nf : Nat) (kd : Int) (l4 : Int) (B6 : Nat → Nat → Int64), (0 ≤ kd ∧ kd ≤ 8) → (∀ a, ¬ a = lb → B6 a = B a) → (hnV A B6 lb word) → (8 - kd).toNat < nf → Re L xs 111 6 [(0, .ref 57), (1, V word), (2, V (word - 1)), (3, V kd), (4, V l4)] [] (HP ly F G A B6) Q := by
    intro nf
    induction nf with
    | zero => intros; omega
    | succ nf ih6A34 =>
      intro kd l4 B6  hkk hfr hv1 hm6
      refine r_iload_n i_111_6 rfl ?_
      refine r_bipush i_111_7 (by decide) ?_
      refine r_cge (t := 101) i_111_9 (by decide) (by omega) (by omega) (fun u_12 => ?_) (fun u_12 => ?_)
      · skip
        exact r_vret i_111_101 rfl (K B6 (by exact hfr) (by exact hv1))
      · skip
        refine r_aload_n i_111_12 rfl ?_
        refine r_getF (v := .ref 48) i_111_13 rfl (hly 57 _ rfl) (hF.1 57 0 48 rfl) ?_
        refine r_iload_n i_111_16 rfl ?_
        refine r_iload_n i_111_17 rfl ?_
        refine r_cV (as := [V kd, V (word - 1)]) i_111_18 rfl (by decide +kernel) (Nat.le_of_ble_eq_true rfl) (Nat.le_of_ble_eq_true rfl) (hly 48 _ rfl) rfl ?_
        refine c_88 (word := word - 1) (kind := kd) hly hF hG hA (by omega) (by omega) (by omega) (fun r_13 p13_0 p13_1 => ?_)
        show Re L xs 111 21 [(0, .ref 57), (1, V word), (2, V (word - 1)), (3, V kd), (4, V l4)] [V r_13] (HP ly F G A B6) _
        refine r_ne0 (t := 27) i_111_21 (by decide) (by omega) (fun u_14 => ?_) (fun u_14 => ?_)
        · skip
          refine r_aload_n i_111_27 rfl ?_
          refine r_getF (v := .ref 48) i_111_28 rfl (hly 57 _ rfl) (hF.1 57 0 48 rfl) ?_
          refine r_getF (v := .ref 49) i_111_31 rfl (hly 48 _ rfl) (hF.1 48 1 49 rfl) ?_
          refine r_iload_n i_111_34 rfl ?_
          refine r_iald i_111_35 (hly 49 _ rfl) (by omega) (by omega) (by omega) ?_
          have q_15 := a_49 hA ((word - 1).toNat)
          refine r_istore (l' := [(0, .ref 57), (1, V word), (2, V (word - 1)), (3, V kd), (4, V (A 49 ((word - 1).toNat)))]) i_111_36 (by decide +kernel) rfl ?_
          have lp38B : ∀ (nf : Nat) (mk : Int) (k5 : Int) (k6 : Int) (B38 : Nat → Nat → Int64), (A 49 (word - 1).toNat ≤ mk ∧ mk ≤ 1000) → (∀ a, ¬ a = lb → B38 a = B a) → (hnV A B38 lb word) → (1000 - mk).toNat < nf → Re L xs 111 38 [(0, .ref 57), (1, V word), (2, V (word - 1)), (3, V kd), (4, V mk), (5, V k5), (6, V k6)] [] (HP ly F G A B38) Q := by
            intro nf
            induction nf with
            | zero => intros; omega
            | succ nf ih38B =>
              intro mk k5 k6 B38  hmk hfr2 hv2 hm38
              refine r_iload i_111_38 rfl ?_
              refine r_aload_n i_111_40 rfl ?_
              refine r_getF (v := .ref 48) i_111_41 rfl (hly 57 _ rfl) (hF.1 57 0 48 rfl) ?_
              refine r_getF (v := .ref 50) i_111_44 rfl (hly 48 _ rfl) (hF.1 48 2 50 rfl) ?_
              refine r_iload_n i_111_47 rfl ?_
              refine r_iald i_111_48 (hly 50 _ rfl) (by omega) (by omega) (by omega) ?_
              have q_16 := a_50 hA ((word - 1).toNat)
              refine r_cgt (t := 95) i_111_49 (by decide) (by omega) (by omega) (fun u_17 => ?_) (fun u_17 => ?_)
              · skip
                refine r_iinc (l' := [(0, .ref 57), (1, V word), (2, V (word - 1)), (3, V (kd + 1)), (4, V mk), (5, V k5), (6, V k6)]) i_111_95 rfl (by decide +kernel) rfl ?_
                refine r_go (t := 6) i_111_98 (by decide) ?_
                exact lp6B _ (kd + 1) mk k5 k6 B38  (by omega) (by first | (intro a ha; rfl) | exact hfr | exact hfr2) (by first | exact hh | exact hv1 | exact hv2) (Nat.lt_succ_self _)
              · skip
                refine r_aload_n i_111_52 rfl ?_
                refine r_iload_n i_111_53 rfl ?_
                refine r_iload_n i_111_54 rfl ?_
                refine r_iload i_111_55 rfl ?_
                refine r_cV (as := [V mk, V kd, V (word - 1)]) i_111_57 rfl (by decide +kernel) (Nat.le_of_ble_eq_true rfl) (Nat.le_of_ble_eq_true rfl) (hly 57 _ rfl) rfl ?_
                refine c_108 (word := word - 1) (kind := kd) (marks := mk) hly hF hG hA (by omega) (by omega) (by omega) (by omega) (fun r_18 p18_0 => ?_)
                show Re L xs 111 60 [(0, .ref 57), (1, V word), (2, V (word - 1)), (3, V kd), (4, V mk), (5, V k5), (6, V k6)] [V r_18] (HP ly F G A B38) _
                refine r_istore (l' := [(0, .ref 57), (1, V word), (2, V (word - 1)), (3, V kd), (4, V mk), (5, V r_18), (6, V k6)]) i_111_60 (by decide +kernel) rfl ?_
                refine r_aload_n i_111_62 rfl ?_
                refine r_iload i_111_63 rfl ?_
                refine r_cV (as := [V r_18]) i_111_65 rfl (by decide +kernel) (Nat.le_of_ble_eq_true rfl) (Nat.le_of_ble_eq_true rfl) (hly 57 _ rfl) rfl ?_
                refine c_112 (row := r_18) (la := la) hly hF hG hA (by omega) (by omega) (by exact hla) (by exact hf3) (fun r_19 p19_0 p19_1 => ?_)
                show Re L xs 111 68 [(0, .ref 57), (1, V word), (2, V (word - 1)), (3, V kd), (4, V mk), (5, V r_18), (6, V k6)] [V r_19] (HP ly F G A B38) _
                refine r_istore (l' := [(0, .ref 57), (1, V word), (2, V (word - 1)), (3, V kd), (4, V mk), (5, V r_18), (6, V r_19)]) i_111_68 (by decide +kernel) rfl ?_
                refine r_iload i_111_70 rfl ?_
                refine r_bipush i_111_72 (by decide) ?_
                refine r_cge (t := 89) i_111_74 (by decide) (by omega) (by omega) (fun u_20 => ?_) (fun u_20 => ?_)
                · skip
                  refine r_iinc (l' := [(0, .ref 57), (1, V word), (2, V (word - 1)), (3, V kd), (4, V (mk + 1)), (5, V r_18), (6, V r_19)]) i_111_89 rfl (by decide +kernel) rfl ?_
                  refine r_go (t := 38) i_111_92 (by decide) ?_
                  exact ih38B (mk + 1) r_18 r_19 B38  (by omega) (by first | exact hfr | exact hfr2 | (intro a ha; rw [zzp0 a ha]; exact hfr2 a ha)) (by first | exact hv1 | exact hv2 | exact zzp1) (by omega)
                · skip
                  have hkn : A 54 (680 * (word - 1) + 85 * kd + (mk - A 49 (word - 1).toNat)).toNat < 1000000 := (hnV_c (hfr2 la hab) hha) kd (mk - A 49 (word - 1).toNat) r_19 (by omega) (by omega) (p13_1.mp (by omega)) (by omega) (by omega) (by omega) (by omega) (by have hh2 := p19_1 (by omega); rw [show (kd * 85 + (mk - A 49 (word - 1).toNat)) * 101 + r_19 = r_18 + r_19 from by omega]; exact hh2)
                  refine r_aload_n i_111_77 rfl ?_
                  refine r_iload_n i_111_78 rfl ?_
                  refine r_iload_n i_111_79 rfl ?_
                  refine r_iload i_111_80 rfl ?_
                  refine r_iload i_111_82 rfl ?_
                  refine r_iload i_111_84 rfl ?_
                  refine r_cV (as := [V r_19, V r_18, V mk, V kd, V word]) i_111_86 rfl (by decide +kernel) (Nat.le_of_ble_eq_true rfl) (Nat.le_of_ble_eq_true rfl) (hly 57 _ rfl) rfl ?_
                  have q_21 := g_31_8 hG
                  refine c_113 (word := word) (kind := kd) (marks := mk) (row := r_18) (least := r_19) (la := la) (lb := lb) (q := q) hly hF hG hA (by omega) (by omega) (by omega) (by omega) (by omega) (by omega) (by omega) (by omega) (by omega) (by omega) (by exact hkn) (by exact spV_c (by rfl) (by rfl) (by rfl) hsp) (by exact RS_c (by rfl) hrs) (by exact hq) (by exact hfq) (by exact hpc) (by exact hla) (by exact hlb) (by exact hab) (by exact hf3) (by exact hf4) (by exact hv2) (fun B_22 p22_0 p22_1 => ?_)
                  show Re L xs 111 89 [(0, .ref 57), (1, V word), (2, V (word - 1)), (3, V kd), (4, V mk), (5, V r_18), (6, V r_19)] [] (HP ly F G A B_22) _
                  refine r_iinc (l' := [(0, .ref 57), (1, V word), (2, V (word - 1)), (3, V kd), (4, V (mk + 1)), (5, V r_18), (6, V r_19)]) i_111_89 rfl (by decide +kernel) rfl ?_
                  refine r_go (t := 38) i_111_92 (by decide) ?_
                  exact ih38B (mk + 1) r_18 r_19 B_22  (by omega) (by first | exact hfr | exact hfr2 | (intro a ha; rw [p22_0 a ha]; exact hfr2 a ha)) (by first | exact hv1 | exact hv2 | exact p22_1) (by omega)
          have lp38A4 : ∀ (nf : Nat) (mk : Int) (B38 : Nat → Nat → Int64), (A 49 (word - 1).toNat ≤ mk ∧ mk ≤ 1000) → (∀ a, ¬ a = lb → B38 a = B a) → (hnV A B38 lb word) → (1000 - mk).toNat < nf → Re L xs 111 38 [(0, .ref 57), (1, V word), (2, V (word - 1)), (3, V kd), (4, V mk)] [] (HP ly F G A B38) Q := by
            intro nf
            induction nf with
            | zero => intros; omega
            | succ nf ih38A4 =>
              intro mk B38  hmk hfr2 hv2 hm38
              refine r_iload i_111_38 rfl ?_
              refine r_aload_n i_111_40 rfl ?_
              refine r_getF (v := .ref 48) i_111_41 rfl (hly 57 _ rfl) (hF.1 57 0 48 rfl) ?_
              refine r_getF (v := .ref 50) i_111_44 rfl (hly 48 _ rfl) (hF.1 48 2 50 rfl) ?_
              refine r_iload_n i_111_47 rfl ?_
              refine r_iald i_111_48 (hly 50 _ rfl) (by omega) (by omega) (by omega) ?_
              have q_23 := a_50 hA ((word - 1).toNat)
              refine r_cgt (t := 95) i_111_49 (by decide) (by omega) (by omega) (fun u_24 => ?_) (fun u_24 => ?_)
              · skip
                refine r_iinc (l' := [(0, .ref 57), (1, V word), (2, V (word - 1)), (3, V (kd + 1)), (4, V mk)]) i_111_95 rfl (by decide +kernel) rfl ?_
                refine r_go (t := 6) i_111_98 (by decide) ?_
                exact ih6A34 (kd + 1) mk B38  (by omega) (by first | (intro a ha; rfl) | exact hfr | exact hfr2) (by first | exact hh | exact hv1 | exact hv2) (by omega)
              · skip
                refine r_aload_n i_111_52 rfl ?_
                refine r_iload_n i_111_53 rfl ?_
                refine r_iload_n i_111_54 rfl ?_
                refine r_iload i_111_55 rfl ?_
                refine r_cV (as := [V mk, V kd, V (word - 1)]) i_111_57 rfl (by decide +kernel) (Nat.le_of_ble_eq_true rfl) (Nat.le_of_ble_eq_true rfl) (hly 57 _ rfl) rfl ?_
                refine c_108 (word := word - 1) (kind := kd) (marks := mk) hly hF hG hA (by omega) (by omega) (by omega) (by omega) (fun r_25 p25_0 => ?_)
                show Re L xs 111 60 [(0, .ref 57), (1, V word), (2, V (word - 1)), (3, V kd), (4, V mk)] [V r_25] (HP ly F G A B38) _
                refine r_istore (l' := [(0, .ref 57), (1, V word), (2, V (word - 1)), (3, V kd), (4, V mk), (5, V r_25)]) i_111_60 (by decide +kernel) rfl ?_
                refine r_aload_n i_111_62 rfl ?_
                refine r_iload i_111_63 rfl ?_
                refine r_cV (as := [V r_25]) i_111_65 rfl (by decide +kernel) (Nat.le_of_ble_eq_true rfl) (Nat.le_of_ble_eq_true rfl) (hly 57 _ rfl) rfl ?_
                refine c_112 (row := r_25) (la := la) hly hF hG hA (by omega) (by omega) (by exact hla) (by exact hf3) (fun r_26 p26_0 p26_1 => ?_)
                show Re L xs 111 68 [(0, .ref 57), (1, V word), (2, V (word - 1)), (3, V kd), (4, V mk), (5, V r_25)] [V r_26] (HP ly F G A B38) _
                refine r_istore (l' := [(0, .ref 57), (1, V word), (2, V (word - 1)), (3, V kd), (4, V mk), (5, V r_25), (6, V r_26)]) i_111_68 (by decide +kernel) rfl ?_
                refine r_iload i_111_70 rfl ?_
                refine r_bipush i_111_72 (by decide) ?_
                refine r_cge (t := 89) i_111_74 (by decide) (by omega) (by omega) (fun u_27 => ?_) (fun u_27 => ?_)
                · skip
                  refine r_iinc (l' := [(0, .ref 57), (1, V word), (2, V (word - 1)), (3, V kd), (4, V (mk + 1)), (5, V r_25), (6, V r_26)]) i_111_89 rfl (by decide +kernel) rfl ?_
                  refine r_go (t := 38) i_111_92 (by decide) ?_
                  exact lp38B _ (mk + 1) r_25 r_26 B38  (by omega) (by first | exact hfr | exact hfr2 | (intro a ha; rw [zzp0 a ha]; exact hfr2 a ha)) (by first | exact hv1 | exact hv2 | exact zzp1) (Nat.lt_succ_self _)
                · skip
                  have hkn : A 54 (680 * (word - 1) + 85 * kd + (mk - A 49 (word - 1).toNat)).toNat < 1000000 := (hnV_c (hfr2 la hab) hha) kd (mk - A 49 (word - 1).toNat) r_26 (by omega) (by omega) (p13_1.mp (by omega)) (by omega) (by omega) (by omega) (by omega) (by have hh2 := p26_1 (by omega); rw [show (kd * 85 + (mk - A 49 (word - 1).toNat)) * 101 + r_26 = r_25 + r_26 from by omega]; exact hh2)
                  refine r_aload_n i_111_77 rfl ?_
                  refine r_iload_n i_111_78 rfl ?_
                  refine r_iload_n i_111_79 rfl ?_
                  refine r_iload i_111_80 rfl ?_
                  refine r_iload i_111_82 rfl ?_
                  refine r_iload i_111_84 rfl ?_
                  refine r_cV (as := [V r_26, V r_25, V mk, V kd, V word]) i_111_86 rfl (by decide +kernel) (Nat.le_of_ble_eq_true rfl) (Nat.le_of_ble_eq_true rfl) (hly 57 _ rfl) rfl ?_
                  have q_28 := g_31_8 hG
                  refine c_113 (word := word) (kind := kd) (marks := mk) (row := r_25) (least := r_26) (la := la) (lb := lb) (q := q) hly hF hG hA (by omega) (by omega) (by omega) (by omega) (by omega) (by omega) (by omega) (by omega) (by omega) (by omega) (by exact hkn) (by exact spV_c (by rfl) (by rfl) (by rfl) hsp) (by exact RS_c (by rfl) hrs) (by exact hq) (by exact hfq) (by exact hpc) (by exact hla) (by exact hlb) (by exact hab) (by exact hf3) (by exact hf4) (by exact hv2) (fun B_29 p29_0 p29_1 => ?_)
                  show Re L xs 111 89 [(0, .ref 57), (1, V word), (2, V (word - 1)), (3, V kd), (4, V mk), (5, V r_25), (6, V r_26)] [] (HP ly F G A B_29) _
                  refine r_iinc (l' := [(0, .ref 57), (1, V word), (2, V (word - 1)), (3, V kd), (4, V (mk + 1)), (5, V r_25), (6, V r_26)]) i_111_89 rfl (by decide +kernel) rfl ?_
                  refine r_go (t := 38) i_111_92 (by decide) ?_
                  exact lp38B _ (mk + 1) r_25 r_26 B_29  (by omega) (by first | exact hfr | exact hfr2 | (intro a ha; rw [p29_0 a ha]; exact hfr2 a ha)) (by first | exact hv1 | exact hv2 | exact p29_1) (Nat.lt_succ_self _)
          exact lp38A4 _ (A 49 ((word - 1).toNat)) B6  (by omega) (by first | exact hfr | exact hfr2 | (intro a ha; rw [zzp0 a ha]; exact hfr2 a ha)) (by first | exact hv1 | exact hv2 | exact zzp1) (Nat.lt_succ_self _)
        · skip
          refine r_go (t := 95) i_111_24 (by decide) ?_
          refine r_iinc (l' := [(0, .ref 57), (1, V word), (2, V (word - 1)), (3, V (kd + 1)), (4, V l4)]) i_111_95 rfl (by decide +kernel) rfl ?_
          refine r_go (t := 6) i_111_98 (by decide) ?_
          exact ih6A34 (kd + 1) l4 B6  (by omega) (by first | (intro a ha; rfl) | exact hfr | exact hfr2) (by first | exact hh | exact hv1 | exact hv2) (by omega)
  have lp6A3 : ∀ (nf : Nat) (kd : Int) (B6 : Nat → Nat → Int64), (0 ≤ kd ∧ kd ≤ 8) → (∀ a, ¬ a = lb → B6 a = B a) → (hnV A B6 lb word) → (8 - kd).toNat < nf → Re L xs 111 6 [(0, .ref 57), (1, V word), (2, V (word - 1)), (3, V kd)] [] (HP ly F G A B6) Q := by
    intro nf
    induction nf with
    | zero => intros; omega
    | succ nf ih6A3 =>
      intro kd B6  hkk hfr hv1 hm6
      refine r_iload_n i_111_6 rfl ?_
      refine r_bipush i_111_7 (by decide) ?_
      refine r_cge (t := 101) i_111_9 (by decide) (by omega) (by omega) (fun u_30 => ?_) (fun u_30 => ?_)
      · skip
        exact r_vret i_111_101 rfl (K B6 (by exact hfr) (by exact hv1))
      · skip
        refine r_aload_n i_111_12 rfl ?_
        refine r_getF (v := .ref 48) i_111_13 rfl (hly 57 _ rfl) (hF.1 57 0 48 rfl) ?_
        refine r_iload_n i_111_16 rfl ?_
        refine r_iload_n i_111_17 rfl ?_
        refine r_cV (as := [V kd, V (word - 1)]) i_111_18 rfl (by decide +kernel) (Nat.le_of_ble_eq_true rfl) (Nat.le_of_ble_eq_true rfl) (hly 48 _ rfl) rfl ?_
        refine c_88 (word := word - 1) (kind := kd) hly hF hG hA (by omega) (by omega) (by omega) (fun r_31 p31_0 p31_1 => ?_)
        show Re L xs 111 21 [(0, .ref 57), (1, V word), (2, V (word - 1)), (3, V kd)] [V r_31] (HP ly F G A B6) _
        refine r_ne0 (t := 27) i_111_21 (by decide) (by omega) (fun u_32 => ?_) (fun u_32 => ?_)
        · skip
          refine r_aload_n i_111_27 rfl ?_
          refine r_getF (v := .ref 48) i_111_28 rfl (hly 57 _ rfl) (hF.1 57 0 48 rfl) ?_
          refine r_getF (v := .ref 49) i_111_31 rfl (hly 48 _ rfl) (hF.1 48 1 49 rfl) ?_
          refine r_iload_n i_111_34 rfl ?_
          refine r_iald i_111_35 (hly 49 _ rfl) (by omega) (by omega) (by omega) ?_
          have q_33 := a_49 hA ((word - 1).toNat)
          refine r_istore (l' := [(0, .ref 57), (1, V word), (2, V (word - 1)), (3, V kd), (4, V (A 49 ((word - 1).toNat)))]) i_111_36 (by decide +kernel) rfl ?_
          have lp38B : ∀ (nf : Nat) (mk : Int) (k5 : Int) (k6 : Int) (B38 : Nat → Nat → Int64), (A 49 (word - 1).toNat ≤ mk ∧ mk ≤ 1000) → (∀ a, ¬ a = lb → B38 a = B a) → (hnV A B38 lb word) → (1000 - mk).toNat < nf → Re L xs 111 38 [(0, .ref 57), (1, V word), (2, V (word - 1)), (3, V kd), (4, V mk), (5, V k5), (6, V k6)] [] (HP ly F G A B38) Q := by
            intro nf
            induction nf with
            | zero => intros; omega
            | succ nf ih38B =>
              intro mk k5 k6 B38  hmk hfr2 hv2 hm38
              refine r_iload i_111_38 rfl ?_
              refine r_aload_n i_111_40 rfl ?_
              refine r_getF (v := .ref 48) i_111_41 rfl (hly 57 _ rfl) (hF.1 57 0 48 rfl) ?_
              refine r_getF (v := .ref 50) i_111_44 rfl (hly 48 _ rfl) (hF.1 48 2 50 rfl) ?_
              refine r_iload_n i_111_47 rfl ?_
              refine r_iald i_111_48 (hly 50 _ rfl) (by omega) (by omega) (by omega) ?_
              have q_34 := a_50 hA ((word - 1).toNat)
              refine r_cgt (t := 95) i_111_49 (by decide) (by omega) (by omega) (fun u_35 => ?_) (fun u_35 => ?_)
              · skip
                refine r_iinc (l' := [(0, .ref 57), (1, V word), (2, V (word - 1)), (3, V (kd + 1)), (4, V mk), (5, V k5), (6, V k6)]) i_111_95 rfl (by decide +kernel) rfl ?_
                refine r_go (t := 6) i_111_98 (by decide) ?_
                exact lp6B _ (kd + 1) mk k5 k6 B38  (by omega) (by first | (intro a ha; rfl) | exact hfr | exact hfr2) (by first | exact hh | exact hv1 | exact hv2) (Nat.lt_succ_self _)
              · skip
                refine r_aload_n i_111_52 rfl ?_
                refine r_iload_n i_111_53 rfl ?_
                refine r_iload_n i_111_54 rfl ?_
                refine r_iload i_111_55 rfl ?_
                refine r_cV (as := [V mk, V kd, V (word - 1)]) i_111_57 rfl (by decide +kernel) (Nat.le_of_ble_eq_true rfl) (Nat.le_of_ble_eq_true rfl) (hly 57 _ rfl) rfl ?_
                refine c_108 (word := word - 1) (kind := kd) (marks := mk) hly hF hG hA (by omega) (by omega) (by omega) (by omega) (fun r_36 p36_0 => ?_)
                show Re L xs 111 60 [(0, .ref 57), (1, V word), (2, V (word - 1)), (3, V kd), (4, V mk), (5, V k5), (6, V k6)] [V r_36] (HP ly F G A B38) _
                refine r_istore (l' := [(0, .ref 57), (1, V word), (2, V (word - 1)), (3, V kd), (4, V mk), (5, V r_36), (6, V k6)]) i_111_60 (by decide +kernel) rfl ?_
                refine r_aload_n i_111_62 rfl ?_
                refine r_iload i_111_63 rfl ?_
                refine r_cV (as := [V r_36]) i_111_65 rfl (by decide +kernel) (Nat.le_of_ble_eq_true rfl) (Nat.le_of_ble_eq_true rfl) (hly 57 _ rfl) rfl ?_
                refine c_112 (row := r_36) (la := la) hly hF hG hA (by omega) (by omega) (by exact hla) (by exact hf3) (fun r_37 p37_0 p37_1 => ?_)
                show Re L xs 111 68 [(0, .ref 57), (1, V word), (2, V (word - 1)), (3, V kd), (4, V mk), (5, V r_36), (6, V k6)] [V r_37] (HP ly F G A B38) _
                refine r_istore (l' := [(0, .ref 57), (1, V word), (2, V (word - 1)), (3, V kd), (4, V mk), (5, V r_36), (6, V r_37)]) i_111_68 (by decide +kernel) rfl ?_
                refine r_iload i_111_70 rfl ?_
                refine r_bipush i_111_72 (by decide) ?_
                refine r_cge (t := 89) i_111_74 (by decide) (by omega) (by omega) (fun u_38 => ?_) (fun u_38 => ?_)
                · skip
                  refine r_iinc (l' := [(0, .ref 57), (1, V word), (2, V (word - 1)), (3, V kd), (4, V (mk + 1)), (5, V r_36), (6, V r_37)]) i_111_89 rfl (by decide +kernel) rfl ?_
                  refine r_go (t := 38) i_111_92 (by decide) ?_
                  exact ih38B (mk + 1) r_36 r_37 B38  (by omega) (by first | exact hfr | exact hfr2 | (intro a ha; rw [zzp0 a ha]; exact hfr2 a ha)) (by first | exact hv1 | exact hv2 | exact zzp1) (by omega)
                · skip
                  have hkn : A 54 (680 * (word - 1) + 85 * kd + (mk - A 49 (word - 1).toNat)).toNat < 1000000 := (hnV_c (hfr2 la hab) hha) kd (mk - A 49 (word - 1).toNat) r_37 (by omega) (by omega) (p31_1.mp (by omega)) (by omega) (by omega) (by omega) (by omega) (by have hh2 := p37_1 (by omega); rw [show (kd * 85 + (mk - A 49 (word - 1).toNat)) * 101 + r_37 = r_36 + r_37 from by omega]; exact hh2)
                  refine r_aload_n i_111_77 rfl ?_
                  refine r_iload_n i_111_78 rfl ?_
                  refine r_iload_n i_111_79 rfl ?_
                  refine r_iload i_111_80 rfl ?_
                  refine r_iload i_111_82 rfl ?_
                  refine r_iload i_111_84 rfl ?_
                  refine r_cV (as := [V r_37, V r_36, V mk, V kd, V word]) i_111_86 rfl (by decide +kernel) (Nat.le_of_ble_eq_true rfl) (Nat.le_of_ble_eq_true rfl) (hly 57 _ rfl) rfl ?_
                  have q_39 := g_31_8 hG
                  refine c_113 (word := word) (kind := kd) (marks := mk) (row := r_36) (least := r_37) (la := la) (lb := lb) (q := q) hly hF hG hA (by omega) (by omega) (by omega) (by omega) (by omega) (by omega) (by omega) (by omega) (by omega) (by omega) (by exact hkn) (by exact spV_c (by rfl) (by rfl) (by rfl) hsp) (by exact RS_c (by rfl) hrs) (by exact hq) (by exact hfq) (by exact hpc) (by exact hla) (by exact hlb) (by exact hab) (by exact hf3) (by exact hf4) (by exact hv2) (fun B_40 p40_0 p40_1 => ?_)
                  show Re L xs 111 89 [(0, .ref 57), (1, V word), (2, V (word - 1)), (3, V kd), (4, V mk), (5, V r_36), (6, V r_37)] [] (HP ly F G A B_40) _
                  refine r_iinc (l' := [(0, .ref 57), (1, V word), (2, V (word - 1)), (3, V kd), (4, V (mk + 1)), (5, V r_36), (6, V r_37)]) i_111_89 rfl (by decide +kernel) rfl ?_
                  refine r_go (t := 38) i_111_92 (by decide) ?_
                  exact ih38B (mk + 1) r_36 r_37 B_40  (by omega) (by first | exact hfr | exact hfr2 | (intro a ha; rw [p40_0 a ha]; exact hfr2 a ha)) (by first | exact hv1 | exact hv2 | exact p40_1) (by omega)
          have lp38A4 : ∀ (nf : Nat) (mk : Int) (B38 : Nat → Nat → Int64), (A 49 (word - 1).toNat ≤ mk ∧ mk ≤ 1000) → (∀ a, ¬ a = lb → B38 a = B a) → (hnV A B38 lb word) → (1000 - mk).toNat < nf → Re L xs 111 38 [(0, .ref 57), (1, V word), (2, V (word - 1)), (3, V kd), (4, V mk)] [] (HP ly F G A B38) Q := by
            intro nf
            induction nf with
            | zero => intros; omega
            | succ nf ih38A4 =>
              intro mk B38  hmk hfr2 hv2 hm38
              refine r_iload i_111_38 rfl ?_
              refine r_aload_n i_111_40 rfl ?_
              refine r_getF (v := .ref 48) i_111_41 rfl (hly 57 _ rfl) (hF.1 57 0 48 rfl) ?_
              refine r_getF (v := .ref 50) i_111_44 rfl (hly 48 _ rfl) (hF.1 48 2 50 rfl) ?_
              refine r_iload_n i_111_47 rfl ?_
              refine r_iald i_111_48 (hly 50 _ rfl) (by omega) (by omega) (by omega) ?_
              have q_41 := a_50 hA ((word - 1).toNat)
              refine r_cgt (t := 95) i_111_49 (by decide) (by omega) (by omega) (fun u_42 => ?_) (fun u_42 => ?_)
              · skip
                refine r_iinc (l' := [(0, .ref 57), (1, V word), (2, V (word - 1)), (3, V (kd + 1)), (4, V mk)]) i_111_95 rfl (by decide +kernel) rfl ?_
                refine r_go (t := 6) i_111_98 (by decide) ?_
                exact lp6A34 _ (kd + 1) mk B38  (by omega) (by first | (intro a ha; rfl) | exact hfr | exact hfr2) (by first | exact hh | exact hv1 | exact hv2) (Nat.lt_succ_self _)
              · skip
                refine r_aload_n i_111_52 rfl ?_
                refine r_iload_n i_111_53 rfl ?_
                refine r_iload_n i_111_54 rfl ?_
                refine r_iload i_111_55 rfl ?_
                refine r_cV (as := [V mk, V kd, V (word - 1)]) i_111_57 rfl (by decide +kernel) (Nat.le_of_ble_eq_true rfl) (Nat.le_of_ble_eq_true rfl) (hly 57 _ rfl) rfl ?_
                refine c_108 (word := word - 1) (kind := kd) (marks := mk) hly hF hG hA (by omega) (by omega) (by omega) (by omega) (fun r_43 p43_0 => ?_)
                show Re L xs 111 60 [(0, .ref 57), (1, V word), (2, V (word - 1)), (3, V kd), (4, V mk)] [V r_43] (HP ly F G A B38) _
                refine r_istore (l' := [(0, .ref 57), (1, V word), (2, V (word - 1)), (3, V kd), (4, V mk), (5, V r_43)]) i_111_60 (by decide +kernel) rfl ?_
                refine r_aload_n i_111_62 rfl ?_
                refine r_iload i_111_63 rfl ?_
                refine r_cV (as := [V r_43]) i_111_65 rfl (by decide +kernel) (Nat.le_of_ble_eq_true rfl) (Nat.le_of_ble_eq_true rfl) (hly 57 _ rfl) rfl ?_
                refine c_112 (row := r_43) (la := la) hly hF hG hA (by omega) (by omega) (by exact hla) (by exact hf3) (fun r_44 p44_0 p44_1 => ?_)
                show Re L xs 111 68 [(0, .ref 57), (1, V word), (2, V (word - 1)), (3, V kd), (4, V mk), (5, V r_43)] [V r_44] (HP ly F G A B38) _
                refine r_istore (l' := [(0, .ref 57), (1, V word), (2, V (word - 1)), (3, V kd), (4, V mk), (5, V r_43), (6, V r_44)]) i_111_68 (by decide +kernel) rfl ?_
                refine r_iload i_111_70 rfl ?_
                refine r_bipush i_111_72 (by decide) ?_
                refine r_cge (t := 89) i_111_74 (by decide) (by omega) (by omega) (fun u_45 => ?_) (fun u_45 => ?_)
                · skip
                  refine r_iinc (l' := [(0, .ref 57), (1, V word), (2, V (word - 1)), (3, V kd), (4, V (mk + 1)), (5, V r_43), (6, V r_44)]) i_111_89 rfl (by decide +kernel) rfl ?_
                  refine r_go (t := 38) i_111_92 (by decide) ?_
                  exact lp38B _ (mk + 1) r_43 r_44 B38  (by omega) (by first | exact hfr | exact hfr2 | (intro a ha; rw [zzp0 a ha]; exact hfr2 a ha)) (by first | exact hv1 | exact hv2 | exact zzp1) (Nat.lt_succ_self _)
                · skip
                  have hkn : A 54 (680 * (word - 1) + 85 * kd + (mk - A 49 (word - 1).toNat)).toNat < 1000000 := (hnV_c (hfr2 la hab) hha) kd (mk - A 49 (word - 1).toNat) r_44 (by omega) (by omega) (p31_1.mp (by omega)) (by omega) (by omega) (by omega) (by omega) (by have hh2 := p44_1 (by omega); rw [show (kd * 85 + (mk - A 49 (word - 1).toNat)) * 101 + r_44 = r_43 + r_44 from by omega]; exact hh2)
                  refine r_aload_n i_111_77 rfl ?_
                  refine r_iload_n i_111_78 rfl ?_
                  refine r_iload_n i_111_79 rfl ?_
                  refine r_iload i_111_80 rfl ?_
                  refine r_iload i_111_82 rfl ?_
                  refine r_iload i_111_84 rfl ?_
                  refine r_cV (as := [V r_44, V r_43, V mk, V kd, V word]) i_111_86 rfl (by decide +kernel) (Nat.le_of_ble_eq_true rfl) (Nat.le_of_ble_eq_true rfl) (hly 57 _ rfl) rfl ?_
                  have q_46 := g_31_8 hG
                  refine c_113 (word := word) (kind := kd) (marks := mk) (row := r_43) (least := r_44) (la := la) (lb := lb) (q := q) hly hF hG hA (by omega) (by omega) (by omega) (by omega) (by omega) (by omega) (by omega) (by omega) (by omega) (by omega) (by exact hkn) (by exact spV_c (by rfl) (by rfl) (by rfl) hsp) (by exact RS_c (by rfl) hrs) (by exact hq) (by exact hfq) (by exact hpc) (by exact hla) (by exact hlb) (by exact hab) (by exact hf3) (by exact hf4) (by exact hv2) (fun B_47 p47_0 p47_1 => ?_)
                  show Re L xs 111 89 [(0, .ref 57), (1, V word), (2, V (word - 1)), (3, V kd), (4, V mk), (5, V r_43), (6, V r_44)] [] (HP ly F G A B_47) _
                  refine r_iinc (l' := [(0, .ref 57), (1, V word), (2, V (word - 1)), (3, V kd), (4, V (mk + 1)), (5, V r_43), (6, V r_44)]) i_111_89 rfl (by decide +kernel) rfl ?_
                  refine r_go (t := 38) i_111_92 (by decide) ?_
                  exact lp38B _ (mk + 1) r_43 r_44 B_47  (by omega) (by first | exact hfr | exact hfr2 | (intro a ha; rw [p47_0 a ha]; exact hfr2 a ha)) (by first | exact hv1 | exact hv2 | exact p47_1) (Nat.lt_succ_self _)
          exact lp38A4 _ (A 49 ((word - 1).toNat)) B6  (by omega) (by first | exact hfr | exact hfr2 | (intro a ha; rw [zzp0 a ha]; exact hfr2 a ha)) (by first | exact hv1 | exact hv2 | exact zzp1) (Nat.lt_succ_self _)
        · skip
          refine r_go (t := 95) i_111_24 (by decide) ?_
          refine r_iinc (l' := [(0, .ref 57), (1, V word), (2, V (word - 1)), (3, V (kd + 1))]) i_111_95 rfl (by decide +kernel) rfl ?_
          refine r_go (t := 6) i_111_98 (by decide) ?_
          exact ih6A3 (kd + 1) B6  (by omega) (by first | (intro a ha; rfl) | exact hfr | exact hfr2) (by first | exact hh | exact hv1 | exact hv2) (by omega)
  exact lp6A3 _ 0 B  (by omega) (by first | (intro a ha; rfl) | exact hfr | exact hfr2) (by first | exact hh | exact hv1 | exact hv2) (Nat.lt_succ_self _)
set_option maxHeartbeats 4000000 in
theorem c_114 {L : Nat} {xs : Nat → Int32} {ly : List LK} {F : Nat → Nat → Value} {G A : Nat → Nat → Int} {B : Nat → Nat → Int64} {Q : Option Value → AH → Prop} {la : Nat} (hly : LyOk ly) (hF : RfOk F) (hG : GO G) (hA : AQ A) (hn : 0 < G 31 8) (hsp : spV G A) (hla : ly[la]? = some (.inr (.long, 68680))) (hf3 : F 57 3 = .ref la) (K : ∀ (B' : Nat → Nat → Int64), Q none (HP ly F G A B')) : Re L xs 114 0 [(0, .ref 57)] [] (HP ly F G A B) Q := by
  have z8 := g_31_8 hG
  have hs := hsp (G 31 8 - 1).toNat (by omega)
  have z49 := a_49 hA (G 31 8 - 1).toNat
  refine r_aload_n i_114_0 rfl ?_
  refine r_getF (v := .ref 31) i_114_1 rfl (hly 57 _ rfl) (hF.1 57 1 31 rfl) ?_
  refine r_getI i_114_4 rfl (hly 31 _ rfl) ?_
  have q_1 := g_31_8 hG
  refine r_iconst i_114_7 ?_
  refine r_isub i_114_8 ?_
  refine r_istore_n (l' := [(0, .ref 57), (1, V ((G 31 8) - 1))]) i_114_9 (by decide +kernel) rfl ?_
  refine r_lconst i_114_10 ?_
  show Re L xs 114 11 [(0, .ref 57), (1, V ((G 31 8) - 1))] [.long (Int64.ofNat 0)] (HP ly F G A B) _
  refine r_lstore_n (l' := [(0, .ref 57), (1, V ((G 31 8) - 1)), (2, .long (Int64.ofNat 0))]) i_114_11 (by decide +kernel) rfl ?_
  refine r_iconst i_114_12 ?_
  refine r_istore (l' := [(0, .ref 57), (1, V ((G 31 8) - 1)), (2, .long (Int64.ofNat 0)), (4, V 0)]) i_114_13 (by decide +kernel) rfl ?_
  have lp15B : ∀ (nf : Nat) (sum : Int64) (o : Int) (l5 : Int) (B15 : Nat → Nat → Int64), (0 ≤ o ∧ o ≤ 101) → (101 - o).toNat < nf → Re L xs 114 15 [(0, .ref 57), (1, V ((G 31 8) - 1)), (2, .long sum), (4, V o), (5, V l5)] [] (HP ly F G A B15) Q := by
    intro nf
    induction nf with
    | zero => intros; omega
    | succ nf ih15B =>
      intro sum o l5 B15  ho hm15
      refine r_iload i_114_15 rfl ?_
      refine r_bipush i_114_17 (by decide) ?_
      refine r_cge (t := 92) i_114_19 (by decide) (by omega) (by omega) (fun u_2 => ?_) (fun u_2 => ?_)
      · skip
        exact r_vret i_114_92 rfl (K B15)
      · skip
        refine r_iconst i_114_22 ?_
        refine r_istore (l' := [(0, .ref 57), (1, V ((G 31 8) - 1)), (2, .long sum), (4, V o), (5, V 0)]) i_114_23 (by decide +kernel) rfl ?_
        have lp25B : ∀ (nf : Nat) (sm2 : Int64) (kd : Int), (0 ≤ kd ∧ kd ≤ 8) → (8 - kd).toNat < nf → Re L xs 114 25 [(0, .ref 57), (1, V ((G 31 8) - 1)), (2, .long sm2), (4, V o), (5, V kd)] [] (HP ly F G A B15) Q := by
          intro nf
          induction nf with
          | zero => intros; omega
          | succ nf ih25B =>
            intro sm2 kd  hkk hm25
            refine r_iload i_114_25 rfl ?_
            refine r_bipush i_114_27 (by decide) ?_
            refine r_cge (t := 78) i_114_29 (by decide) (by omega) (by omega) (fun u_3 => ?_) (fun u_3 => ?_)
            · skip
              refine r_aload_n i_114_78 rfl ?_
              refine r_getF (v := .ref 58) i_114_79 rfl (hly 57 _ rfl) (hF.1 57 2 58 rfl) ?_
              refine r_iload i_114_82 rfl ?_
              refine r_lload_n i_114_84 rfl ?_
              refine r_lastQ i_114_85 (hly 58 _ rfl) (by omega) (by omega) (by omega) (fun B_4 eB_4 => ?_)
              refine r_iinc (l' := [(0, .ref 57), (1, V ((G 31 8) - 1)), (2, .long sm2), (4, V (o + 1)), (5, V kd)]) i_114_86 rfl (by decide +kernel) rfl ?_
              refine r_go (t := 15) i_114_89 (by decide) ?_
              exact ih15B sm2 (o + 1) kd B_4  (by omega) (by omega)
            · skip
              refine r_aload_n i_114_32 rfl ?_
              refine r_getF (v := .ref 48) i_114_33 rfl (hly 57 _ rfl) (hF.1 57 0 48 rfl) ?_
              refine r_iload_n i_114_36 rfl ?_
              refine r_iload i_114_37 rfl ?_
              refine r_cV (as := [V kd, V ((G 31 8) - 1)]) i_114_39 rfl (by decide +kernel) (Nat.le_of_ble_eq_true rfl) (Nat.le_of_ble_eq_true rfl) (hly 48 _ rfl) rfl ?_
              refine c_88 (word := (G 31 8) - 1) (kind := kd) hly hF hG hA (by omega) (by omega) (by omega) (fun r_5 p5_0 p5_1 => ?_)
              show Re L xs 114 42 [(0, .ref 57), (1, V ((G 31 8) - 1)), (2, .long sm2), (4, V o), (5, V kd)] [V r_5] (HP ly F G A B15) _
              refine r_eq0 (t := 72) i_114_42 (by decide) (by omega) (fun u_6 => ?_) (fun u_6 => ?_)
              · skip
                refine r_iinc (l' := [(0, .ref 57), (1, V ((G 31 8) - 1)), (2, .long sm2), (4, V o), (5, V (kd + 1))]) i_114_72 rfl (by decide +kernel) rfl ?_
                refine r_go (t := 25) i_114_75 (by decide) ?_
                exact ih25B sm2 (kd + 1)  (by omega) (by omega)
              · skip
                refine r_lload_n i_114_45 rfl ?_
                refine r_aload_n i_114_46 rfl ?_
                refine r_getF (v := .ref la) i_114_47 rfl (hly 57 _ rfl) hf3 ?_
                refine r_aload_n i_114_50 rfl ?_
                refine r_iload_n i_114_51 rfl ?_
                refine r_iload i_114_52 rfl ?_
                refine r_aload_n i_114_54 rfl ?_
                refine r_getF (v := .ref 48) i_114_55 rfl (hly 57 _ rfl) (hF.1 57 0 48 rfl) ?_
                refine r_getF (v := .ref 49) i_114_58 rfl (hly 48 _ rfl) (hF.1 48 1 49 rfl) ?_
                refine r_iload_n i_114_61 rfl ?_
                refine r_iald i_114_62 (hly 49 _ rfl) (by omega) (by omega) (by omega) ?_
                have q_7 := a_49 hA (((G 31 8) - 1).toNat)
                refine r_cV (as := [V (A 49 (((G 31 8) - 1).toNat)), V kd, V ((G 31 8) - 1)]) i_114_63 rfl (by decide +kernel) (Nat.le_of_ble_eq_true rfl) (Nat.le_of_ble_eq_true rfl) (hly 57 _ rfl) rfl ?_
                refine c_108 (word := (G 31 8) - 1) (kind := kd) (marks := A 49 (((G 31 8) - 1).toNat)) hly hF hG hA (by omega) (by omega) (by omega) (by omega) (fun r_8 p8_0 => ?_)
                show Re L xs 114 66 [(0, .ref 57), (1, V ((G 31 8) - 1)), (2, .long sm2), (4, V o), (5, V kd)] [V r_8, .ref la, .long sm2] (HP ly F G A B15) _
                refine r_iload i_114_66 rfl ?_
                refine r_iadd i_114_68 ?_
                refine r_lald i_114_69 (hla) (by omega) (by omega) (by omega) ?_
                refine re_nx i_114_70 rfl ?_
                refine r_lstore_n (l' := [(0, .ref 57), (1, V ((G 31 8) - 1)), (2, .long (sm2 + (B15 la (r_8 + o).toNat))), (4, V o), (5, V kd)]) i_114_71 (by decide +kernel) rfl ?_
                refine r_iinc (l' := [(0, .ref 57), (1, V ((G 31 8) - 1)), (2, .long (sm2 + (B15 la (r_8 + o).toNat))), (4, V o), (5, V (kd + 1))]) i_114_72 rfl (by decide +kernel) rfl ?_
                refine r_go (t := 25) i_114_75 (by decide) ?_
                exact ih25B (sm2 + (B15 la (r_8 + o).toNat)) (kd + 1)  (by omega) (by omega)
        exact lp25B _ sum 0  (by omega) (Nat.lt_succ_self _)
  have lp15A24 : ∀ (nf : Nat) (sum : Int64) (o : Int) (B15 : Nat → Nat → Int64), (0 ≤ o ∧ o ≤ 101) → (101 - o).toNat < nf → Re L xs 114 15 [(0, .ref 57), (1, V ((G 31 8) - 1)), (2, .long sum), (4, V o)] [] (HP ly F G A B15) Q := by
    intro nf
    induction nf with
    | zero => intros; omega
    | succ nf ih15A24 =>
      intro sum o B15  ho hm15
      refine r_iload i_114_15 rfl ?_
      refine r_bipush i_114_17 (by decide) ?_
      refine r_cge (t := 92) i_114_19 (by decide) (by omega) (by omega) (fun u_9 => ?_) (fun u_9 => ?_)
      · skip
        exact r_vret i_114_92 rfl (K B15)
      · skip
        refine r_iconst i_114_22 ?_
        refine r_istore (l' := [(0, .ref 57), (1, V ((G 31 8) - 1)), (2, .long sum), (4, V o), (5, V 0)]) i_114_23 (by decide +kernel) rfl ?_
        have lp25B : ∀ (nf : Nat) (sm2 : Int64) (kd : Int), (0 ≤ kd ∧ kd ≤ 8) → (8 - kd).toNat < nf → Re L xs 114 25 [(0, .ref 57), (1, V ((G 31 8) - 1)), (2, .long sm2), (4, V o), (5, V kd)] [] (HP ly F G A B15) Q := by
          intro nf
          induction nf with
          | zero => intros; omega
          | succ nf ih25B =>
            intro sm2 kd  hkk hm25
            refine r_iload i_114_25 rfl ?_
            refine r_bipush i_114_27 (by decide) ?_
            refine r_cge (t := 78) i_114_29 (by decide) (by omega) (by omega) (fun u_10 => ?_) (fun u_10 => ?_)
            · skip
              refine r_aload_n i_114_78 rfl ?_
              refine r_getF (v := .ref 58) i_114_79 rfl (hly 57 _ rfl) (hF.1 57 2 58 rfl) ?_
              refine r_iload i_114_82 rfl ?_
              refine r_lload_n i_114_84 rfl ?_
              refine r_lastQ i_114_85 (hly 58 _ rfl) (by omega) (by omega) (by omega) (fun B_11 eB_11 => ?_)
              refine r_iinc (l' := [(0, .ref 57), (1, V ((G 31 8) - 1)), (2, .long sm2), (4, V (o + 1)), (5, V kd)]) i_114_86 rfl (by decide +kernel) rfl ?_
              refine r_go (t := 15) i_114_89 (by decide) ?_
              exact lp15B _ sm2 (o + 1) kd B_11  (by omega) (Nat.lt_succ_self _)
            · skip
              refine r_aload_n i_114_32 rfl ?_
              refine r_getF (v := .ref 48) i_114_33 rfl (hly 57 _ rfl) (hF.1 57 0 48 rfl) ?_
              refine r_iload_n i_114_36 rfl ?_
              refine r_iload i_114_37 rfl ?_
              refine r_cV (as := [V kd, V ((G 31 8) - 1)]) i_114_39 rfl (by decide +kernel) (Nat.le_of_ble_eq_true rfl) (Nat.le_of_ble_eq_true rfl) (hly 48 _ rfl) rfl ?_
              refine c_88 (word := (G 31 8) - 1) (kind := kd) hly hF hG hA (by omega) (by omega) (by omega) (fun r_12 p12_0 p12_1 => ?_)
              show Re L xs 114 42 [(0, .ref 57), (1, V ((G 31 8) - 1)), (2, .long sm2), (4, V o), (5, V kd)] [V r_12] (HP ly F G A B15) _
              refine r_eq0 (t := 72) i_114_42 (by decide) (by omega) (fun u_13 => ?_) (fun u_13 => ?_)
              · skip
                refine r_iinc (l' := [(0, .ref 57), (1, V ((G 31 8) - 1)), (2, .long sm2), (4, V o), (5, V (kd + 1))]) i_114_72 rfl (by decide +kernel) rfl ?_
                refine r_go (t := 25) i_114_75 (by decide) ?_
                exact ih25B sm2 (kd + 1)  (by omega) (by omega)
              · skip
                refine r_lload_n i_114_45 rfl ?_
                refine r_aload_n i_114_46 rfl ?_
                refine r_getF (v := .ref la) i_114_47 rfl (hly 57 _ rfl) hf3 ?_
                refine r_aload_n i_114_50 rfl ?_
                refine r_iload_n i_114_51 rfl ?_
                refine r_iload i_114_52 rfl ?_
                refine r_aload_n i_114_54 rfl ?_
                refine r_getF (v := .ref 48) i_114_55 rfl (hly 57 _ rfl) (hF.1 57 0 48 rfl) ?_
                refine r_getF (v := .ref 49) i_114_58 rfl (hly 48 _ rfl) (hF.1 48 1 49 rfl) ?_
                refine r_iload_n i_114_61 rfl ?_
                refine r_iald i_114_62 (hly 49 _ rfl) (by omega) (by omega) (by omega) ?_
                have q_14 := a_49 hA (((G 31 8) - 1).toNat)
                refine r_cV (as := [V (A 49 (((G 31 8) - 1).toNat)), V kd, V ((G 31 8) - 1)]) i_114_63 rfl (by decide +kernel) (Nat.le_of_ble_eq_true rfl) (Nat.le_of_ble_eq_true rfl) (hly 57 _ rfl) rfl ?_
                refine c_108 (word := (G 31 8) - 1) (kind := kd) (marks := A 49 (((G 31 8) - 1).toNat)) hly hF hG hA (by omega) (by omega) (by omega) (by omega) (fun r_15 p15_0 => ?_)
                show Re L xs 114 66 [(0, .ref 57), (1, V ((G 31 8) - 1)), (2, .long sm2), (4, V o), (5, V kd)] [V r_15, .ref la, .long sm2] (HP ly F G A B15) _
                refine r_iload i_114_66 rfl ?_
                refine r_iadd i_114_68 ?_
                refine r_lald i_114_69 (hla) (by omega) (by omega) (by omega) ?_
                refine re_nx i_114_70 rfl ?_
                refine r_lstore_n (l' := [(0, .ref 57), (1, V ((G 31 8) - 1)), (2, .long (sm2 + (B15 la (r_15 + o).toNat))), (4, V o), (5, V kd)]) i_114_71 (by decide +kernel) rfl ?_
                refine r_iinc (l' := [(0, .ref 57), (1, V ((G 31 8) - 1)), (2, .long (sm2 + (B15 la (r_15 + o).toNat))), (4, V o), (5, V (kd + 1))]) i_114_72 rfl (by decide +kernel) rfl ?_
                refine r_go (t := 25) i_114_75 (by decide) ?_
                exact ih25B (sm2 + (B15 la (r_15 + o).toNat)) (kd + 1)  (by omega) (by omega)
        exact lp25B _ sum 0  (by omega) (Nat.lt_succ_self _)
  exact lp15A24 _ (Int64.ofNat 0) 0 B  (by omega) (Nat.lt_succ_self _)
