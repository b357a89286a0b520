set_option maxHeartbeats 4000000 in
theorem c_118 {L : Nat} {xs : Nat → Int32} {ly : List LK} {F : Nat → Nat → Value} {G A : Nat → Nat → Int} {B : Nat → Nat → Int64} {Q : Option Value → AH → Prop} {th : Nat} {off : Int} {fr : Int} {gap : Int} {tl : Nat} (hly : LyOk ly) (hF : RfOk F) (hG : GO G) (hA : AQ A) (in_off : inR off) (in_fr : inR fr) (in_gap : inR gap) (hth : (th = 43 ∧ tl = 168) ∨ (th = 45 ∧ tl = 2352)) (hof : 0 ≤ off ∧ off + 168 ≤ (tl : Int)) (hg : 0 ≤ gap ∧ gap ≤ 100) (hfr : 0 ≤ fr ∧ fr < 168) (K : ∀ (r : Int), (r = -1 ∨ (fr ≤ r ∧ r < 12 * (fr / 12) + A 32 (fr / 12).toNat ∧ A th (off + r).toNat ≤ G 42 7 + gap)) → (r = -1 → ∀ s, fr ≤ s → s < 12 * (fr / 12) + A 32 (fr / 12).toNat → G 42 7 + gap < A th (off + s).toNat) → Q (some (V r)) (HP ly F G A B)) : Re L xs 118 0 [(0, .ref 42), (1, .ref th), (2, V off), (3, V fr), (4, V gap)] [] (HP ly F G A B) Q := by
  have z32 := a_32 hA (fr / 12).toNat
  refine r_iload_n i_118_0 rfl ?_
  refine r_bipush i_118_1 (by decide) ?_
  refine r_bin (z := fr / 12) i_118_3 (by show (if Int32.ofInt 12 = 0 then none else _) = _; rw [if_neg (by decide)]; rfl) (idiv12 (by omega) (by omega)) ?_
  refine r_istore (l' := [(0, .ref 42), (1, .ref th), (2, V off), (3, V fr), (4, V gap), (5, V (fr / 12))]) i_118_4 (by decide +kernel) rfl ?_
  refine r_iload i_118_6 rfl ?_
  refine r_bipush i_118_8 (by decide) ?_
  refine r_imul i_118_10 ?_
  refine r_aload_n i_118_11 rfl ?_
  refine r_getF (v := .ref 31) i_118_12 rfl (hly 42 _ rfl) (hF.1 42 0 31 rfl) ?_
  refine r_getF (v := .ref 32) i_118_15 rfl (hly 31 _ rfl) (hF.1 31 0 32 rfl) ?_
  refine r_iload i_118_18 rfl ?_
  refine r_iald i_118_20 (hly 32 _ rfl) (by omega) (by omega) (by omega) ?_
  have q_1 := a_32 hA ((fr / 12).toNat)
  refine r_iadd i_118_21 ?_
  refine r_istore (l' := [(0, .ref 42), (1, .ref th), (2, V off), (3, V fr), (4, V gap), (5, V (fr / 12)), (6, V (((fr / 12) * 12) + (A 32 ((fr / 12).toNat))))]) i_118_22 (by decide +kernel) rfl ?_
  refine r_iload_n i_118_24 rfl ?_
  refine r_istore (l' := [(0, .ref 42), (1, .ref th), (2, V off), (3, V fr), (4, V gap), (5, V (fr / 12)), (6, V (((fr / 12) * 12) + (A 32 ((fr / 12).toNat)))), (7, V fr)]) i_118_25 (by decide +kernel) rfl ?_
  have lp27B : ∀ (nf : Nat) (s : Int), (fr ≤ s ∧ s ≤ 180) → (∀ s', fr ≤ s' → s' < s → G 42 7 + gap < A th (off + s').toNat) → (200 - s).toNat < nf → Re L xs 118 27 [(0, .ref 42), (1, .ref th), (2, V off), (3, V fr), (4, V gap), (5, V (fr / 12)), (6, V (((fr / 12) * 12) + (A 32 ((fr / 12).toNat)))), (7, V s)] [] (HP ly F G A B) Q := by
    intro nf
    induction nf with
    | zero => intros; omega
    | succ nf ih27B =>
      intro s  hs hno hm27
      refine r_iload i_118_27 rfl ?_
      refine r_iload i_118_29 rfl ?_
      refine r_cge (t := 59) i_118_31 (by decide) (by omega) (by omega) (fun u_2 => ?_) (fun u_2 => ?_)
      · skip
        refine r_iconst i_118_59 ?_
        exact r_iret i_118_60 rfl rfl (K ((-1)) (by omega) (by intro _ s h1 h2; exact hno s h1 (by omega)))
      · skip
        refine r_aload_n i_118_34 rfl ?_
        refine r_iload_n i_118_35 rfl ?_
        refine r_iload i_118_36 rfl ?_
        refine r_iadd i_118_38 ?_
        refine r_iald i_118_39 (Lth hly hth) (by omega) (by omega) (by omega) ?_
        have q_3 := Ath hA hth ((off + s).toNat)
        refine r_aload_n i_118_40 rfl ?_
        refine r_getI i_118_41 rfl (hly 42 _ rfl) ?_
        have q_4 := g_42_7 hG
        refine r_iload i_118_44 rfl ?_
        refine r_iadd i_118_46 ?_
        refine r_cgt (t := 53) i_118_47 (by decide) (by omega) (by omega) (fun u_5 => ?_) (fun u_5 => ?_)
        · skip
          refine r_iinc (l' := [(0, .ref 42), (1, .ref th), (2, V off), (3, V fr), (4, V gap), (5, V (fr / 12)), (6, V (((fr / 12) * 12) + (A 32 ((fr / 12).toNat)))), (7, V (s + 1))]) i_118_53 rfl (by decide +kernel) rfl ?_
          refine r_go (t := 27) i_118_56 (by decide) ?_
          exact ih27B (s + 1)  (by omega) (by first | (intro s' h1 h2; exfalso; omega) | (intro s' h1 h2; exact if e : s' = s then (by rw [e]; omega) else hno s' h1 (by omega))) (by omega)
        · skip
          refine r_iload i_118_50 rfl ?_
          exact r_iret i_118_52 rfl rfl (K s (by omega) (by intro h; exfalso; omega))
  exact lp27B _ fr  (by omega) (by first | (intro s' h1 h2; exfalso; omega) | (intro s' h1 h2; exact if e : s' = s then (by rw [e]; omega) else hno s' h1 (by omega))) (Nat.lt_succ_self _)
set_option maxHeartbeats 4000000 in
theorem c_117 {L : Nat} {xs : Nat → Int32} {ly : List LK} {F : Nat → Nat → Value} {G A : Nat → Nat → Int} {B : Nat → Nat → Int64} {Q : Option Value → AH → Prop} {th : Nat} {off : Int} {word : Int} {gap : Int} {tl : Nat} (hly : LyOk ly) (hF : RfOk F) (hG : GO G) (hA : AQ A) (in_off : inR off) (in_word : inR word) (in_gap : inR gap) (hth : (th = 43 ∧ tl = 168) ∨ (th = 45 ∧ tl = 2352)) (hof : 0 ≤ off ∧ off + 168 ≤ (tl : Int)) (hg : 0 ≤ gap ∧ gap ≤ 100) (hw : 0 ≤ word ∧ word ≤ 13) (K : ∀ (r : Int), (0 ≤ r ∧ r ≤ 1) → (r = 1 → sureE G A th off word gap) → Q (some (V r)) (HP ly F G A B)) : Re L xs 117 0 [(0, .ref 42), (1, .ref th), (2, V off), (3, V word), (4, V gap)] [] (HP ly F G A B) Q := by
  have z32 := a_32 hA word.toNat
  refine r_aload_n i_117_0 rfl ?_
  refine r_aload_n i_117_1 rfl ?_
  refine r_iload_n i_117_2 rfl ?_
  refine r_iload_n i_117_3 rfl ?_
  refine r_bipush i_117_4 (by decide) ?_
  refine r_imul i_117_6 ?_
  refine r_iload i_117_7 rfl ?_
  refine r_cV (as := [V gap, V (word * 12), V off, .ref th]) i_117_9 rfl (by decide +kernel) (Nat.le_of_ble_eq_true rfl) (Nat.le_of_ble_eq_true rfl) (hly 42 _ rfl) rfl ?_
  have q_1 := g_42_7 hG
  refine c_118 (th := th) (off := off) (fr := word * 12) (gap := gap) (tl := tl) hly hF hG hA (by omega) (by omega) (by omega) (by exact hth) (by omega) (by omega) (by omega) (fun r_2 p2_0 p2_1 => ?_)
  show Re L xs 117 12 [(0, .ref 42), (1, .ref th), (2, V off), (3, V word), (4, V gap)] [V r_2] (HP ly F G A B) _
  have e12 : word * 12 / 12 = word := by omega
  rw [e12] at p2_0 p2_1
  refine r_istore (l' := [(0, .ref 42), (1, .ref th), (2, V off), (3, V word), (4, V gap), (5, V r_2)]) i_117_12 (by decide +kernel) rfl ?_
  refine r_iload_n i_117_14 rfl ?_
  refine r_bipush i_117_15 (by decide) ?_
  refine r_imul i_117_17 ?_
  refine r_aload_n i_117_18 rfl ?_
  refine r_getF (v := .ref 31) i_117_19 rfl (hly 42 _ rfl) (hF.1 42 0 31 rfl) ?_
  refine r_getF (v := .ref 32) i_117_22 rfl (hly 31 _ rfl) (hF.1 31 0 32 rfl) ?_
  refine r_iload_n i_117_25 rfl ?_
  refine r_iald i_117_26 (hly 32 _ rfl) (by omega) (by omega) (by omega) ?_
  have q_3 := a_32 hA (word.toNat)
  refine r_iadd i_117_27 ?_
  refine r_istore (l' := [(0, .ref 42), (1, .ref th), (2, V off), (3, V word), (4, V gap), (5, V r_2), (6, V ((word * 12) + (A 32 (word.toNat))))]) i_117_28 (by decide +kernel) rfl ?_
  refine r_iload i_117_30 rfl ?_
  refine r_iconst i_117_32 ?_
  refine r_cne (t := 38) i_117_33 (by decide) (by omega) (by omega) (fun u_4 => ?_) (fun u_4 => ?_)
  · skip
    refine r_iload i_117_38 rfl ?_
    refine r_iconst i_117_40 ?_
    refine r_iadd i_117_41 ?_
    refine r_istore (l' := [(0, .ref 42), (1, .ref th), (2, V off), (3, V word), (4, V gap), (5, V r_2), (6, V ((word * 12) + (A 32 (word.toNat)))), (7, V (r_2 + 1))]) i_117_42 (by decide +kernel) rfl ?_
    have lp44B : ∀ (nf : Nat) (s : Int), (12 * word ≤ s ∧ s ≤ 12 * word + 12) → (12 * word + 12 - s).toNat < nf → Re L xs 117 44 [(0, .ref 42), (1, .ref th), (2, V off), (3, V word), (4, V gap), (5, V r_2), (6, V ((word * 12) + (A 32 (word.toNat)))), (7, V s)] [] (HP ly F G A B) Q := by
      intro nf
      induction nf with
      | zero => intros; omega
      | succ nf ih44B =>
        intro s  hs hm44
        refine r_iload i_117_44 rfl ?_
        refine r_iload i_117_46 rfl ?_
        refine r_cge (t := 89) i_117_48 (by decide) (by omega) (by omega) (fun u_5 => ?_) (fun u_5 => ?_)
        · skip
          refine r_iconst i_117_89 ?_
          exact r_iret i_117_90 rfl (nar_Z (by omega)) (K 1 (by omega) (by intro _; exact ⟨r_2, by omega, by omega, by omega⟩))
        · skip
          refine r_aload_n i_117_51 rfl ?_
          refine r_iload_n i_117_52 rfl ?_
          refine r_iload i_117_53 rfl ?_
          refine r_iadd i_117_55 ?_
          refine r_iald i_117_56 (Lth hly hth) (by omega) (by omega) (by omega) ?_
          have q_6 := Ath hA hth ((off + s).toNat)
          refine r_aload_n i_117_57 rfl ?_
          refine r_getI i_117_58 rfl (hly 42 _ rfl) ?_
          refine r_iload i_117_61 rfl ?_
          refine r_iadd i_117_63 ?_
          refine r_cgt (t := 83) i_117_64 (by decide) (by omega) (by omega) (fun u_7 => ?_) (fun u_7 => ?_)
          · skip
            refine r_iinc (l' := [(0, .ref 42), (1, .ref th), (2, V off), (3, V word), (4, V gap), (5, V r_2), (6, V ((word * 12) + (A 32 (word.toNat)))), (7, V (s + 1))]) i_117_83 rfl (by decide +kernel) rfl ?_
            refine r_go (t := 44) i_117_86 (by decide) ?_
            exact ih44B (s + 1)  (by omega) (by omega)
          · skip
            refine r_aload_n i_117_67 rfl ?_
            refine r_getF (v := .ref 31) i_117_68 rfl (hly 42 _ rfl) (hF.1 42 0 31 rfl) ?_
            refine r_iload i_117_71 rfl ?_
            refine r_iload i_117_73 rfl ?_
            refine r_cV (as := [V s, V r_2]) i_117_75 rfl (by decide +kernel) (Nat.le_of_ble_eq_true rfl) (Nat.le_of_ble_eq_true rfl) (hly 31 _ rfl) rfl ?_
            refine c_119 (a := r_2) (b := s) hly hF hG hA (by omega) (by omega) (by omega) (by omega) (fun r_8 p8_0 => ?_)
            show Re L xs 117 78 [(0, .ref 42), (1, .ref th), (2, V off), (3, V word), (4, V gap), (5, V r_2), (6, V ((word * 12) + (A 32 (word.toNat)))), (7, V s)] [V r_8] (HP ly F G A B) _
            refine r_ne0 (t := 83) i_117_78 (by decide) (by omega) (fun u_9 => ?_) (fun u_9 => ?_)
            · skip
              refine r_iinc (l' := [(0, .ref 42), (1, .ref th), (2, V off), (3, V word), (4, V gap), (5, V r_2), (6, V ((word * 12) + (A 32 (word.toNat)))), (7, V (s + 1))]) i_117_83 rfl (by decide +kernel) rfl ?_
              refine r_go (t := 44) i_117_86 (by decide) ?_
              exact ih44B (s + 1)  (by omega) (by omega)
            · skip
              refine r_iconst i_117_81 ?_
              exact r_iret i_117_82 rfl (nar_Z (by omega)) (K 0 (by omega) (by intro h; exfalso; omega))
    exact lp44B _ (r_2 + 1)  (by omega) (Nat.lt_succ_self _)
  · skip
    refine r_iconst i_117_36 ?_
    exact r_iret i_117_37 rfl (nar_Z (by omega)) (K 0 (by omega) (by intro h; exfalso; omega))
set_option maxHeartbeats 4000000 in
theorem c_116 {L : Nat} {xs : Nat → Int32} {ly : List LK} {F : Nat → Nat → Value} {G A : Nat → Nat → Int} {B : Nat → Nat → Int64} {Q : Option Value → AH → Prop} {word : Int} {gap : Int} (hly : LyOk ly) (hF : RfOk F) (hG : GO G) (hA : AQ A) (in_word : inR word) (in_gap : inR gap) (hg : 0 ≤ gap ∧ gap ≤ 100) (hw : 0 ≤ word ∧ word ≤ 13) (K : ∀ (r : Int), (0 ≤ r ∧ r ≤ 1) → (r = 1 → sureE G A 43 0 word gap) → Q (some (V r)) (HP ly F G A B)) : Re L xs 116 0 [(0, .ref 42), (1, V word), (2, V gap)] [] (HP ly F G A B) Q := by
  refine r_aload_n i_116_0 rfl ?_
  refine r_aload_n i_116_1 rfl ?_
  refine r_getF (v := .ref 43) i_116_2 rfl (hly 42 _ rfl) (hF.1 42 3 43 rfl) ?_
  refine r_iconst i_116_5 ?_
  refine r_iload_n i_116_6 rfl ?_
  refine r_iload_n i_116_7 rfl ?_
  refine r_cV (as := [V gap, V word, V 0, .ref 43]) i_116_8 rfl (by decide +kernel) (Nat.le_of_ble_eq_true rfl) (Nat.le_of_ble_eq_true rfl) (hly 42 _ rfl) rfl ?_
  refine c_117 (th := 43) (off := 0) (word := word) (gap := gap) (tl := 168) hly hF hG hA (by omega) (by omega) (by omega) (by omega) (by omega) (by omega) (by omega) (fun r_1 p1_0 p1_1 => ?_)
  show Re L xs 116 11 [(0, .ref 42), (1, V word), (2, V gap)] [V r_1] (HP ly F G A B) _
  exact r_iret i_116_11 rfl (nar_Z (by omega)) (K r_1 (by omega) (by exact p1_1))
set_option maxHeartbeats 4000000 in
theorem c_122 {L : Nat} {xs : Nat → Int32} {ly : List LK} {F : Nat → Nat → Value} {G A : Nat → Nat → Int} {B : Nat → Nat → Int64} {Q : Option Value → AH → Prop} {word : Int} {gap : Int} (hly : LyOk ly) (hF : RfOk F) (hG : GO G) (hA : AQ A) (in_word : inR word) (in_gap : inR gap) (hg : 0 ≤ gap ∧ gap ≤ 100) (hw : 0 ≤ word ∧ word ≤ 13) (hsu : sureE G A 43 0 word gap) (K : ∀ (r : Int), (12 * word ≤ r ∧ r ≤ 12 * word + 11) → Q (some (V r)) (HP ly F G A B)) : Re L xs 122 0 [(0, .ref 42), (1, V word), (2, V gap)] [] (HP ly F G A B) Q := by
  have z32 := a_32 hA word.toNat
  obtain ⟨s0, hs0, hs1, hs2⟩ := hsu
  refine r_aload_n i_122_0 rfl ?_
  refine r_aload_n i_122_1 rfl ?_
  refine r_getF (v := .ref 43) i_122_2 rfl (hly 42 _ rfl) (hF.1 42 3 43 rfl) ?_
  refine r_iconst i_122_5 ?_
  refine r_iload_n i_122_6 rfl ?_
  refine r_bipush i_122_7 (by decide) ?_
  refine r_imul i_122_9 ?_
  refine r_iload_n i_122_10 rfl ?_
  refine r_cV (as := [V gap, V (word * 12), V 0, .ref 43]) i_122_11 rfl (by decide +kernel) (Nat.le_of_ble_eq_true rfl) (Nat.le_of_ble_eq_true rfl) (hly 42 _ rfl) rfl ?_
  have q_1 := g_42_7 hG
  refine c_118 (th := 43) (off := 0) (fr := word * 12) (gap := gap) (tl := 168) hly hF hG hA (by omega) (by omega) (by omega) (by omega) (by omega) (by omega) (by omega) (fun r_2 p2_0 p2_1 => ?_)
  show Re L xs 122 14 [(0, .ref 42), (1, V word), (2, V gap)] [V r_2] (HP ly F G A B) _
  exact r_iret i_122_14 rfl rfl (K r_2 (by have e12 : word * 12 / 12 = word := (by omega); rw [e12] at p2_0 p2_1; exact if e : r_2 = -1 then (by have hh := p2_1 e s0 (by omega) (by omega); omega) else (by omega)))
set_option maxHeartbeats 4000000 in
theorem c_129 {L : Nat} {xs : Nat → Int32} {ly : List LK} {F : Nat → Nat → Value} {G A : Nat → Nat → Int} {B : Nat → Nat → Int64} {Q : Option Value → AH → Prop} {word : Int} {gap : Int} (hly : LyOk ly) (hF : RfOk F) (hG : GO G) (hA : AQ A) (in_word : inR word) (in_gap : inR gap) (hrs : RS A) (hpcs : PCs A) (hwq : wqF F) (hsw : SWV G A) (hso : G 42 10 = 1) (hlt : G 42 7 < 1000000) (hg : 0 ≤ gap ∧ gap ≤ 100) (hw : 0 ≤ word ∧ word < G 31 8) (K : ∀ (r : Int) (G' : Nat → Nat → Int) (A' : Nat → Nat → Int), (GO G') → (AQ A') → (∀ a k, ¬ ((a = 48 ∧ k = 10) ∨ (a = 48 ∧ k = 11)) → G' a k = G a k) → (∀ a, ¬ (a = 54 ∨ a = 55 ∨ a = 56 ∨ a = 45 ∨ a = 46) → A' a = A a) → (RS A') → (0 ≤ r ∧ r ≤ 14) → Q (some (V r)) (HP ly F G' A' B)) : Re L xs 129 0 [(0, .ref 42), (1, V word), (2, V gap)] [] (HP ly F G A B) Q := by
  have z8 := g_31_8 hG
  obtain ⟨q, hfq, hq⟩ := hwq
  have hsw1 := hsw hso (by omega)
  refine r_iload_n i_129_0 rfl ?_
  refine r_sipush i_129_1 (by decide) ?_
  refine r_imul i_129_4 ?_
  refine r_istore_n (l' := [(0, .ref 42), (1, V word), (2, V gap), (3, V (word * 168))]) i_129_5 (by decide +kernel) rfl ?_
  refine r_aload_n i_129_6 rfl ?_
  refine r_getF (v := .ref 46) i_129_7 rfl (hly 42 _ rfl) (hF.1 42 6 46 rfl) ?_
  refine r_iload_n i_129_10 rfl ?_
  refine r_zald i_129_11 (hly 46 _ rfl) (by omega) (by omega) (by omega) ?_
  have q_1 := a_46 hA (word.toNat)
  refine r_ne0 (t := 42) i_129_12 (by decide) (by omega) (fun u_2 => ?_) (fun u_2 => ?_)
  · skip
    refine r_iconst i_129_42 ?_
    refine r_istore (l' := [(0, .ref 42), (1, V word), (2, V gap), (3, V (word * 168)), (4, V 0)]) i_129_43 (by decide +kernel) rfl ?_
    refine r_iconst i_129_45 ?_
    refine r_istore (l' := [(0, .ref 42), (1, V word), (2, V gap), (3, V (word * 168)), (4, V 0), (5, V 0)]) i_129_46 (by decide +kernel) rfl ?_
    have lp48B : ∀ (nf : Nat) (found : Int) (o : Int), (0 ≤ o ∧ o ≤ 14) → (0 ≤ found ∧ found ≤ o) → (14 - o).toNat < nf → Re L xs 129 48 [(0, .ref 42), (1, V word), (2, V gap), (3, V (word * 168)), (4, V found), (5, V o)] [] (HP ly F G A B) Q := by
      intro nf
      induction nf with
      | zero => intros; omega
      | succ nf ih48B =>
        intro found o  ho hf hm48
        refine r_iload i_129_48 rfl ?_
        refine r_aload_n i_129_50 rfl ?_
        refine r_getF (v := .ref 31) i_129_51 rfl (hly 42 _ rfl) (hF.1 42 0 31 rfl) ?_
        refine r_getI i_129_54 rfl (hly 31 _ rfl) ?_
        have q_3 := g_31_8 hG
        refine r_cge (t := 84) i_129_57 (by decide) (by omega) (by omega) (fun u_4 => ?_) (fun u_4 => ?_)
        · skip
          refine r_iload i_129_84 rfl ?_
          exact r_iret i_129_86 rfl rfl (K found G A hG hA (by intro a k hh; rfl) (by intro a hh; rfl) (by first | exact hrs | exact RS_c (by fail) zzp0) (by omega))
        · skip
          refine r_aload_n i_129_60 rfl ?_
          refine r_aload_n i_129_61 rfl ?_
          refine r_getF (v := .ref 45) i_129_62 rfl (hly 42 _ rfl) (hF.1 42 5 45 rfl) ?_
          refine r_iload_n i_129_65 rfl ?_
          refine r_iload i_129_66 rfl ?_
          refine r_iload_n i_129_68 rfl ?_
          refine r_cV (as := [V gap, V o, V (word * 168), .ref 45]) i_129_69 rfl (by decide +kernel) (Nat.le_of_ble_eq_true rfl) (Nat.le_of_ble_eq_true rfl) (hly 42 _ rfl) rfl ?_
          refine c_117 (th := 45) (off := word * 168) (word := o) (gap := gap) (tl := 2352) hly hF hG hA (by omega) (by omega) (by omega) (by omega) (by omega) (by omega) (by omega) (fun r_5 p5_0 p5_1 => ?_)
          show Re L xs 129 72 [(0, .ref 42), (1, V word), (2, V gap), (3, V (word * 168)), (4, V found), (5, V o)] [V r_5] (HP ly F G A B) _
          refine r_eq0 (t := 78) i_129_72 (by decide) (by omega) (fun u_6 => ?_) (fun u_6 => ?_)
          · skip
            refine r_iinc (l' := [(0, .ref 42), (1, V word), (2, V gap), (3, V (word * 168)), (4, V found), (5, V (o + 1))]) i_129_78 rfl (by decide +kernel) rfl ?_
            refine r_go (t := 48) i_129_81 (by decide) ?_
            exact ih48B found (o + 1)  (by omega) (by omega) (by omega)
          · skip
            refine r_iinc (l' := [(0, .ref 42), (1, V word), (2, V gap), (3, V (word * 168)), (4, V (found + 1)), (5, V o)]) i_129_75 rfl (by decide +kernel) rfl ?_
            refine r_iinc (l' := [(0, .ref 42), (1, V word), (2, V gap), (3, V (word * 168)), (4, V (found + 1)), (5, V (o + 1))]) i_129_78 rfl (by decide +kernel) rfl ?_
            refine r_go (t := 48) i_129_81 (by decide) ?_
            exact ih48B (found + 1) (o + 1)  (by omega) (by omega) (by omega)
    exact lp48B _ 0 0  (by omega) (by omega) (Nat.lt_succ_self _)
  · skip
    refine r_aload_n i_129_15 rfl ?_
    refine r_getF (v := .ref 48) i_129_16 rfl (hly 42 _ rfl) (hF.1 42 1 48 rfl) ?_
    refine r_iload_n i_129_19 rfl ?_
    refine r_aload_n i_129_20 rfl ?_
    refine r_getF (v := .ref 44) i_129_21 rfl (hly 42 _ rfl) (hF.1 42 4 44 rfl) ?_
    refine r_iload_n i_129_24 rfl ?_
    refine r_iald i_129_25 (hly 44 _ rfl) (by omega) (by omega) (by omega) ?_
    have q_7 := a_44 hA (word.toNat)
    refine r_aload_n i_129_26 rfl ?_
    refine r_getF (v := .ref 45) i_129_27 rfl (hly 42 _ rfl) (hF.1 42 5 45 rfl) ?_
    refine r_iload_n i_129_30 rfl ?_
    refine r_cV (as := [V (word * 168), .ref 45, V (A 44 (word.toNat)), V word]) i_129_31 rfl (by decide +kernel) (Nat.le_of_ble_eq_true rfl) (Nat.le_of_ble_eq_true rfl) (hly 48 _ rfl) rfl ?_
    have q_8 := g_48_9 hG
    have q_9 := g_31_8 hG
    refine c_84 (word := word) (reading := A 44 (word.toNat)) (th := 45) (off := word * 168) (q := q) (tl := 2352) hly hF hG hA (by omega) (by omega) (by omega) (by omega) (by omega) (by omega) (by omega) (by omega) (by intro h; exact ⟨(hsw1.1 h).1, fun _ => (hsw1.1 h).2⟩) (by exact hrs) (by exact hq) (by exact hfq) (by exact PC_c (by rfl) (PCs_q hpcs hq)) (fun r_10 G_11 A_12 hG_11 hA_12 fg_12 fa_12 p12_0 p12_1 p12_2 p12_3 => ?_)
    show Re L xs 129 34 [(0, .ref 42), (1, V word), (2, V gap), (3, V (word * 168))] [V r_10] (HP ly F G_11 A_12 B) _
    refine re_nx i_129_34 rfl ?_
    refine r_aload_n i_129_35 rfl ?_
    refine r_getF (v := .ref 46) i_129_36 rfl (hly 42 _ rfl) (hF.1 42 6 46 rfl) ?_
    refine r_iload_n i_129_39 rfl ?_
    refine r_iconst i_129_40 ?_
    refine r_zastQ i_129_41 (hly 46 _ rfl) (by omega) (by omega) (by omega) (by omega) (fun A_13 eA_13 => ?_)
    have hA_13 : AQ A_13 := by rw [eA_13]; exact au_46 hA_12 (by omega) (by omega)
    refine r_iconst i_129_42 ?_
    refine r_istore (l' := [(0, .ref 42), (1, V word), (2, V gap), (3, V (word * 168)), (4, V 0)]) i_129_43 (by decide +kernel) rfl ?_
    refine r_iconst i_129_45 ?_
    refine r_istore (l' := [(0, .ref 42), (1, V word), (2, V gap), (3, V (word * 168)), (4, V 0), (5, V 0)]) i_129_46 (by decide +kernel) rfl ?_
    have lp48B : ∀ (nf : Nat) (found : Int) (o : Int), (0 ≤ o ∧ o ≤ 14) → (0 ≤ found ∧ found ≤ o) → (14 - o).toNat < nf → Re L xs 129 48 [(0, .ref 42), (1, V word), (2, V gap), (3, V (word * 168)), (4, V found), (5, V o)] [] (HP ly F G_11 A_13 B) Q := by
      intro nf
      induction nf with
      | zero => intros; omega
      | succ nf ih48B =>
        intro found o  ho hf hm48
        refine r_iload i_129_48 rfl ?_
        refine r_aload_n i_129_50 rfl ?_
        refine r_getF (v := .ref 31) i_129_51 rfl (hly 42 _ rfl) (hF.1 42 0 31 rfl) ?_
        refine r_getI i_129_54 rfl (hly 31 _ rfl) ?_
        rw [show G_11 31 8 = G 31 8 from by rw [fg_12 31 8 (by omega)]]
        refine r_cge (t := 84) i_129_57 (by decide) (by omega) (by omega) (fun u_14 => ?_) (fun u_14 => ?_)
        · skip
          refine r_iload i_129_84 rfl ?_
          exact r_iret i_129_86 rfl rfl (K found G_11 A_13 hG_11 hA_13 (by intro a k hh; rw [fg_12 a k (fun h => h.elim (fun h => hh (Or.inl h)) (fun h => hh (Or.inr h)))]) (by intro a hh; rw [eA_13, up2_a (fun h => hh (Or.inr (Or.inr (Or.inr (Or.inr h))))), fa_12 a (fun h => h.elim (fun h => hh (Or.inl h)) (fun h => h.elim (fun h => hh (Or.inr (Or.inl h))) (fun h => h.elim (fun h => hh (Or.inr (Or.inr (Or.inl h)))) (fun h => hh (Or.inr (Or.inr (Or.inr (Or.inl h))))))))]) (by first | exact hrs | exact RS_c (by rw [eA_13, up2_a (by omega)]) p12_0) (by omega))
        · skip
          refine r_aload_n i_129_60 rfl ?_
          refine r_aload_n i_129_61 rfl ?_
          refine r_getF (v := .ref 45) i_129_62 rfl (hly 42 _ rfl) (hF.1 42 5 45 rfl) ?_
          refine r_iload_n i_129_65 rfl ?_
          refine r_iload i_129_66 rfl ?_
          refine r_iload_n i_129_68 rfl ?_
          refine r_cV (as := [V gap, V o, V (word * 168), .ref 45]) i_129_69 rfl (by decide +kernel) (Nat.le_of_ble_eq_true rfl) (Nat.le_of_ble_eq_true rfl) (hly 42 _ rfl) rfl ?_
          refine c_117 (th := 45) (off := word * 168) (word := o) (gap := gap) (tl := 2352) hly hF hG_11 hA_13 (by omega) (by omega) (by omega) (by omega) (by omega) (by omega) (by omega) (fun r_15 p15_0 p15_1 => ?_)
          show Re L xs 129 72 [(0, .ref 42), (1, V word), (2, V gap), (3, V (word * 168)), (4, V found), (5, V o)] [V r_15] (HP ly F G_11 A_13 B) _
          refine r_eq0 (t := 78) i_129_72 (by decide) (by omega) (fun u_16 => ?_) (fun u_16 => ?_)
          · skip
            refine r_iinc (l' := [(0, .ref 42), (1, V word), (2, V gap), (3, V (word * 168)), (4, V found), (5, V (o + 1))]) i_129_78 rfl (by decide +kernel) rfl ?_
            refine r_go (t := 48) i_129_81 (by decide) ?_
            exact ih48B found (o + 1)  (by omega) (by omega) (by omega)
          · skip
            refine r_iinc (l' := [(0, .ref 42), (1, V word), (2, V gap), (3, V (word * 168)), (4, V (found + 1)), (5, V o)]) i_129_75 rfl (by decide +kernel) rfl ?_
            refine r_iinc (l' := [(0, .ref 42), (1, V word), (2, V gap), (3, V (word * 168)), (4, V (found + 1)), (5, V (o + 1))]) i_129_78 rfl (by decide +kernel) rfl ?_
            refine r_go (t := 48) i_129_81 (by decide) ?_
            exact ih48B (found + 1) (o + 1)  (by omega) (by omega) (by omega)
    exact lp48B _ 0 0  (by omega) (by omega) (Nat.lt_succ_self _)
set_option maxHeartbeats 4000000 in
theorem c_128 {L : Nat} {xs : Nat → Int32} {ly : List LK} {F : Nat → Nat → Value} {G A : Nat → Nat → Int} {B : Nat → Nat → Int64} {Q : Option Value → AH → Prop} {gap : Int} (hly : LyOk ly) (hF : RfOk F) (hG : GO G) (hA : AQ A) (in_gap : inR gap) (hrs : RS A) (hpcs : PCs A) (hwq : wqF F) (hsw : SWV G A) (hso : G 42 10 = 1) (hlt : G 42 7 < 1000000) (hg : 0 ≤ gap ∧ gap ≤ 100) (K : ∀ (r : Int) (G' : Nat → Nat → Int) (A' : Nat → Nat → Int), (GO G') → (AQ A') → (∀ a k, ¬ ((a = 48 ∧ k = 10) ∨ (a = 48 ∧ k = 11)) → G' a k = G a k) → (∀ a, ¬ (a = 54 ∨ a = 55 ∨ a = 56 ∨ a = 45 ∨ a = 46) → A' a = A a) → (RS A') → Q (some (V r)) (HP ly F G' A' B)) : Re L xs 128 0 [(0, .ref 42), (1, V gap)] [] (HP ly F G A B) Q := by
  have z8 := g_31_8 hG
  refine r_iconst i_128_0 ?_
  refine r_istore_n (l' := [(0, .ref 42), (1, V gap), (2, V ((-1)))]) i_128_1 (by decide +kernel) rfl ?_
  refine r_iconst i_128_2 ?_
  refine r_istore_n (l' := [(0, .ref 42), (1, V gap), (2, V ((-1))), (3, V ((-1)))]) i_128_3 (by decide +kernel) rfl ?_
  refine r_iconst i_128_4 ?_
  refine r_istore (l' := [(0, .ref 42), (1, V gap), (2, V ((-1))), (3, V ((-1))), (4, V 0)]) i_128_5 (by decide +kernel) rfl ?_
  have lp7B : ∀ (nf : Nat) (asked : Int) (most : Int) (w : Int) (l5 : Int) (G7 : Nat → Nat → Int) (A7 : Nat → Nat → Int), (GO G7) → (AQ A7) → (∀ a k, ¬ ((a = 48 ∧ k = 10) ∨ (a = 48 ∧ k = 11)) → G7 a k = G a k) → (∀ a, ¬ (a = 54 ∨ a = 55 ∨ a = 56 ∨ a = 45 ∨ a = 46) → A7 a = A a) → (0 ≤ w ∧ w ≤ 14) → (-1 ≤ asked ∧ asked ≤ 13) → (-1 ≤ most ∧ most ≤ 14) → (RS A7) → (14 - w).toNat < nf → Re L xs 128 7 [(0, .ref 42), (1, V gap), (2, V asked), (3, V most), (4, V w), (5, V l5)] [] (HP ly F G7 A7 B) Q := by
    intro nf
    induction nf with
    | zero => intros; omega
    | succ nf ih7B =>
      intro asked most w l5 G7 A7 hG7 hA7 fg7 fa7 hw has hmo hr1 hm7
      refine r_iload i_128_7 rfl ?_
      refine r_aload_n i_128_9 rfl ?_
      refine r_getF (v := .ref 31) i_128_10 rfl (hly 42 _ rfl) (hF.1 42 0 31 rfl) ?_
      refine r_getI i_128_13 rfl (hly 31 _ rfl) ?_
      rw [show G7 31 8 = G 31 8 from by rw [fg7 31 8 (by omega)]]
      have q_1 := g_31_8 hG
      refine r_cge (t := 56) i_128_16 (by decide) (by omega) (by omega) (fun u_2 => ?_) (fun u_2 => ?_)
      · skip
        refine r_iload_n i_128_56 rfl ?_
        exact r_iret i_128_57 rfl rfl (K asked G7 A7 hG7 hA7 (by intro a k hh; rw [fg7 a k (fun h => h.elim (fun h => hh (Or.inl h)) (fun h => hh (Or.inr h)))]) (by intro a hh; rw [fa7 a (fun h => h.elim (fun h => hh (Or.inl h)) (fun h => h.elim (fun h => hh (Or.inr (Or.inl h))) (fun h => h.elim (fun h => hh (Or.inr (Or.inr (Or.inl h)))) (fun h => h.elim (fun h => hh (Or.inr (Or.inr (Or.inr (Or.inl h))))) (fun h => hh (Or.inr (Or.inr (Or.inr (Or.inr h)))))))))]) (by exact hr1))
      · skip
        refine r_aload_n i_128_19 rfl ?_
        refine r_iload i_128_20 rfl ?_
        refine r_iload_n i_128_22 rfl ?_
        refine r_cV (as := [V gap, V w]) i_128_23 rfl (by decide +kernel) (Nat.le_of_ble_eq_true rfl) (Nat.le_of_ble_eq_true rfl) (hly 42 _ rfl) rfl ?_
        refine c_116 (word := w) (gap := gap) hly hF hG7 hA7 (by omega) (by omega) (by omega) (by omega) (fun r_3 p3_0 p3_1 => ?_)
        show Re L xs 128 26 [(0, .ref 42), (1, V gap), (2, V asked), (3, V most), (4, V w), (5, V l5)] [V r_3] (HP ly F G7 A7 B) _
        refine r_ne0 (t := 50) i_128_26 (by decide) (by omega) (fun u_4 => ?_) (fun u_4 => ?_)
        · skip
          refine r_iinc (l' := [(0, .ref 42), (1, V gap), (2, V asked), (3, V most), (4, V (w + 1)), (5, V l5)]) i_128_50 rfl (by decide +kernel) rfl ?_
          refine r_go (t := 7) i_128_53 (by decide) ?_
          exact ih7B asked most (w + 1) l5 G7 A7 hG7 hA7 (by intro a k hh; rw [fg7 a k (fun h => h.elim (fun h => hh (Or.inl h)) (fun h => hh (Or.inr h)))]) (by intro a hh; rw [fa7 a (fun h => h.elim (fun h => hh (Or.inl h)) (fun h => h.elim (fun h => hh (Or.inr (Or.inl h))) (fun h => h.elim (fun h => hh (Or.inr (Or.inr (Or.inl h)))) (fun h => h.elim (fun h => hh (Or.inr (Or.inr (Or.inr (Or.inl h))))) (fun h => hh (Or.inr (Or.inr (Or.inr (Or.inr h)))))))))]) (by omega) (by omega) (by omega) (by first | exact hrs | exact hr1 | exact zzp0) (by omega)
        · skip
          refine r_aload_n i_128_29 rfl ?_
          refine r_iload i_128_30 rfl ?_
          refine r_iload_n i_128_32 rfl ?_
          refine r_cV (as := [V gap, V w]) i_128_33 rfl (by decide +kernel) (Nat.le_of_ble_eq_true rfl) (Nat.le_of_ble_eq_true rfl) (hly 42 _ rfl) rfl ?_
          have w_5 : G7 42 10 = G 42 10 := by rw [fg7 42 10 (by omega)]
          have q_6 := g_42_10 hG
          have w_7 : G7 42 7 = G 42 7 := by rw [fg7 42 7 (by omega)]
          have q_8 := g_42_7 hG
          have w_9 : G7 31 8 = G 31 8 := by rw [fg7 31 8 (by omega)]
          refine c_129 (word := w) (gap := gap) hly hF hG7 hA7 (by omega) (by omega) (by exact hr1) (by exact PCs_c (by rw [fa7 20 (by omega)]) (by rw [fa7 78 (by omega)]) (by rw [fa7 52 (by omega)]) hpcs) (by exact hwq) (by exact SWV_c (by rw [fg7 42 10 (by omega)]) (by rw [fg7 31 8 (by omega)]) (by rw [fg7 48 9 (by omega)]) (by rw [fg7 42 7 (by omega)]) (by rw [fa7 49 (by omega)]) (by rw [fa7 50 (by omega)]) (by rw [fa7 32 (by omega)]) (by rw [fa7 53 (by omega)]) (by rw [fa7 37 (by omega)]) hsw) (by omega) (by omega) (by omega) (by omega) (fun r_10 G_11 A_12 hG_11 hA_12 fg_12 fa_12 p12_0 p12_1 => ?_)
          show Re L xs 128 36 [(0, .ref 42), (1, V gap), (2, V asked), (3, V most), (4, V w), (5, V l5)] [V r_10] (HP ly F G_11 A_12 B) _
          refine r_istore (l' := [(0, .ref 42), (1, V gap), (2, V asked), (3, V most), (4, V w), (5, V r_10)]) i_128_36 (by decide +kernel) rfl ?_
          refine r_iload i_128_38 rfl ?_
          refine r_iload_n i_128_40 rfl ?_
          refine r_cle (t := 50) i_128_41 (by decide) (by omega) (by omega) (fun u_13 => ?_) (fun u_13 => ?_)
          · skip
            refine r_iinc (l' := [(0, .ref 42), (1, V gap), (2, V asked), (3, V most), (4, V (w + 1)), (5, V r_10)]) i_128_50 rfl (by decide +kernel) rfl ?_
            refine r_go (t := 7) i_128_53 (by decide) ?_
            exact ih7B asked most (w + 1) r_10 G_11 A_12 hG_11 hA_12 (by intro a k hh; rw [fg_12 a k (fun h => h.elim (fun h => hh (Or.inl h)) (fun h => hh (Or.inr h))), fg7 a k (fun h => h.elim (fun h => hh (Or.inl h)) (fun h => hh (Or.inr h)))]) (by intro a hh; rw [fa_12 a (fun h => h.elim (fun h => hh (Or.inl h)) (fun h => h.elim (fun h => hh (Or.inr (Or.inl h))) (fun h => h.elim (fun h => hh (Or.inr (Or.inr (Or.inl h)))) (fun h => h.elim (fun h => hh (Or.inr (Or.inr (Or.inr (Or.inl h))))) (fun h => hh (Or.inr (Or.inr (Or.inr (Or.inr h))))))))), fa7 a (fun h => h.elim (fun h => hh (Or.inl h)) (fun h => h.elim (fun h => hh (Or.inr (Or.inl h))) (fun h => h.elim (fun h => hh (Or.inr (Or.inr (Or.inl h)))) (fun h => h.elim (fun h => hh (Or.inr (Or.inr (Or.inr (Or.inl h))))) (fun h => hh (Or.inr (Or.inr (Or.inr (Or.inr h)))))))))]) (by omega) (by omega) (by omega) (by first | exact hrs | exact hr1 | exact p12_0) (by omega)
          · skip
            refine r_iload i_128_44 rfl ?_
            refine r_istore_n (l' := [(0, .ref 42), (1, V gap), (2, V asked), (3, V r_10), (4, V w), (5, V r_10)]) i_128_46 (by decide +kernel) rfl ?_
            refine r_iload i_128_47 rfl ?_
            refine r_istore_n (l' := [(0, .ref 42), (1, V gap), (2, V w), (3, V r_10), (4, V w), (5, V r_10)]) i_128_49 (by decide +kernel) rfl ?_
            refine r_iinc (l' := [(0, .ref 42), (1, V gap), (2, V w), (3, V r_10), (4, V (w + 1)), (5, V r_10)]) i_128_50 rfl (by decide +kernel) rfl ?_
            refine r_go (t := 7) i_128_53 (by decide) ?_
            exact ih7B w r_10 (w + 1) r_10 G_11 A_12 hG_11 hA_12 (by intro a k hh; rw [fg_12 a k (fun h => h.elim (fun h => hh (Or.inl h)) (fun h => hh (Or.inr h))), fg7 a k (fun h => h.elim (fun h => hh (Or.inl h)) (fun h => hh (Or.inr h)))]) (by intro a hh; rw [fa_12 a (fun h => h.elim (fun h => hh (Or.inl h)) (fun h => h.elim (fun h => hh (Or.inr (Or.inl h))) (fun h => h.elim (fun h => hh (Or.inr (Or.inr (Or.inl h)))) (fun h => h.elim (fun h => hh (Or.inr (Or.inr (Or.inr (Or.inl h))))) (fun h => hh (Or.inr (Or.inr (Or.inr (Or.inr h))))))))), fa7 a (fun h => h.elim (fun h => hh (Or.inl h)) (fun h => h.elim (fun h => hh (Or.inr (Or.inl h))) (fun h => h.elim (fun h => hh (Or.inr (Or.inr (Or.inl h)))) (fun h => h.elim (fun h => hh (Or.inr (Or.inr (Or.inr (Or.inl h))))) (fun h => hh (Or.inr (Or.inr (Or.inr (Or.inr h)))))))))]) (by omega) (by omega) (by omega) (by first | exact hrs | exact hr1 | exact p12_0) (by omega)
  have lp7A234 : ∀ (nf : Nat) (asked : Int) (most : Int) (w : Int) (G7 : Nat → Nat → Int) (A7 : Nat → Nat → Int), (GO G7) → (AQ A7) → (∀ a k, ¬ ((a = 48 ∧ k = 10) ∨ (a = 48 ∧ k = 11)) → G7 a k = G a k) → (∀ a, ¬ (a = 54 ∨ a = 55 ∨ a = 56 ∨ a = 45 ∨ a = 46) → A7 a = A a) → (0 ≤ w ∧ w ≤ 14) → (-1 ≤ asked ∧ asked ≤ 13) → (-1 ≤ most ∧ most ≤ 14) → (RS A7) → (14 - w).toNat < nf → Re L xs 128 7 [(0, .ref 42), (1, V gap), (2, V asked), (3, V most), (4, V w)] [] (HP ly F G7 A7 B) Q := by
    intro nf
    induction nf with
    | zero => intros; omega
    | succ nf ih7A234 =>
      intro asked most w G7 A7 hG7 hA7 fg7 fa7 hw has hmo hr1 hm7
      refine r_iload i_128_7 rfl ?_
      refine r_aload_n i_128_9 rfl ?_
      refine r_getF (v := .ref 31) i_128_10 rfl (hly 42 _ rfl) (hF.1 42 0 31 rfl) ?_
      refine r_getI i_128_13 rfl (hly 31 _ rfl) ?_
      rw [show G7 31 8 = G 31 8 from by rw [fg7 31 8 (by omega)]]
      have q_14 := g_31_8 hG
      refine r_cge (t := 56) i_128_16 (by decide) (by omega) (by omega) (fun u_15 => ?_) (fun u_15 => ?_)
      · skip
        refine r_iload_n i_128_56 rfl ?_
        exact r_iret i_128_57 rfl rfl (K asked G7 A7 hG7 hA7 (by intro a k hh; rw [fg7 a k (fun h => h.elim (fun h => hh (Or.inl h)) (fun h => hh (Or.inr h)))]) (by intro a hh; rw [fa7 a (fun h => h.elim (fun h => hh (Or.inl h)) (fun h => h.elim (fun h => hh (Or.inr (Or.inl h))) (fun h => h.elim (fun h => hh (Or.inr (Or.inr (Or.inl h)))) (fun h => h.elim (fun h => hh (Or.inr (Or.inr (Or.inr (Or.inl h))))) (fun h => hh (Or.inr (Or.inr (Or.inr (Or.inr h)))))))))]) (by exact hr1))
      · skip
        refine r_aload_n i_128_19 rfl ?_
        refine r_iload i_128_20 rfl ?_
        refine r_iload_n i_128_22 rfl ?_
        refine r_cV (as := [V gap, V w]) i_128_23 rfl (by decide +kernel) (Nat.le_of_ble_eq_true rfl) (Nat.le_of_ble_eq_true rfl) (hly 42 _ rfl) rfl ?_
        refine c_116 (word := w) (gap := gap) hly hF hG7 hA7 (by omega) (by omega) (by omega) (by omega) (fun r_16 p16_0 p16_1 => ?_)
        show Re L xs 128 26 [(0, .ref 42), (1, V gap), (2, V asked), (3, V most), (4, V w)] [V r_16] (HP ly F G7 A7 B) _
        refine r_ne0 (t := 50) i_128_26 (by decide) (by omega) (fun u_17 => ?_) (fun u_17 => ?_)
        · skip
          refine r_iinc (l' := [(0, .ref 42), (1, V gap), (2, V asked), (3, V most), (4, V (w + 1))]) i_128_50 rfl (by decide +kernel) rfl ?_
          refine r_go (t := 7) i_128_53 (by decide) ?_
          exact ih7A234 asked most (w + 1) G7 A7 hG7 hA7 (by intro a k hh; rw [fg7 a k (fun h => h.elim (fun h => hh (Or.inl h)) (fun h => hh (Or.inr h)))]) (by intro a hh; rw [fa7 a (fun h => h.elim (fun h => hh (Or.inl h)) (fun h => h.elim (fun h => hh (Or.inr (Or.inl h))) (fun h => h.elim (fun h => hh (Or.inr (Or.inr (Or.inl h)))) (fun h => h.elim (fun h => hh (Or.inr (Or.inr (Or.inr (Or.inl h))))) (fun h => hh (Or.inr (Or.inr (Or.inr (Or.inr h)))))))))]) (by omega) (by omega) (by omega) (by first | exact hrs | exact hr1 | exact zzp0) (by omega)
        · skip
          refine r_aload_n i_128_29 rfl ?_
          refine r_iload i_128_30 rfl ?_
          refine r_iload_n i_128_32 rfl ?_
          refine r_cV (as := [V gap, V w]) i_128_33 rfl (by decide +kernel) (Nat.le_of_ble_eq_true rfl) (Nat.le_of_ble_eq_true rfl) (hly 42 _ rfl) rfl ?_
          have w_18 : G7 42 10 = G 42 10 := by rw [fg7 42 10 (by omega)]
          have q_19 := g_42_10 hG
          have w_20 : G7 42 7 = G 42 7 := by rw [fg7 42 7 (by omega)]
          have q_21 := g_42_7 hG
          have w_22 : G7 31 8 = G 31 8 := by rw [fg7 31 8 (by omega)]
          refine c_129 (word := w) (gap := gap) hly hF hG7 hA7 (by omega) (by omega) (by exact hr1) (by exact PCs_c (by rw [fa7 20 (by omega)]) (by rw [fa7 78 (by omega)]) (by rw [fa7 52 (by omega)]) hpcs) (by exact hwq) (by exact SWV_c (by rw [fg7 42 10 (by omega)]) (by rw [fg7 31 8 (by omega)]) (by rw [fg7 48 9 (by omega)]) (by rw [fg7 42 7 (by omega)]) (by rw [fa7 49 (by omega)]) (by rw [fa7 50 (by omega)]) (by rw [fa7 32 (by omega)]) (by rw [fa7 53 (by omega)]) (by rw [fa7 37 (by omega)]) hsw) (by omega) (by omega) (by omega) (by omega) (fun r_23 G_24 A_25 hG_24 hA_25 fg_25 fa_25 p25_0 p25_1 => ?_)
          show Re L xs 128 36 [(0, .ref 42), (1, V gap), (2, V asked), (3, V most), (4, V w)] [V r_23] (HP ly F G_24 A_25 B) _
          refine r_istore (l' := [(0, .ref 42), (1, V gap), (2, V asked), (3, V most), (4, V w), (5, V r_23)]) i_128_36 (by decide +kernel) rfl ?_
          refine r_iload i_128_38 rfl ?_
          refine r_iload_n i_128_40 rfl ?_
          refine r_cle (t := 50) i_128_41 (by decide) (by omega) (by omega) (fun u_26 => ?_) (fun u_26 => ?_)
          · skip
            refine r_iinc (l' := [(0, .ref 42), (1, V gap), (2, V asked), (3, V most), (4, V (w + 1)), (5, V r_23)]) i_128_50 rfl (by decide +kernel) rfl ?_
            refine r_go (t := 7) i_128_53 (by decide) ?_
            exact lp7B _ asked most (w + 1) r_23 G_24 A_25 hG_24 hA_25 (by intro a k hh; rw [fg_25 a k (fun h => h.elim (fun h => hh (Or.inl h)) (fun h => hh (Or.inr h))), fg7 a k (fun h => h.elim (fun h => hh (Or.inl h)) (fun h => hh (Or.inr h)))]) (by intro a hh; rw [fa_25 a (fun h => h.elim (fun h => hh (Or.inl h)) (fun h => h.elim (fun h => hh (Or.inr (Or.inl h))) (fun h => h.elim (fun h => hh (Or.inr (Or.inr (Or.inl h)))) (fun h => h.elim (fun h => hh (Or.inr (Or.inr (Or.inr (Or.inl h))))) (fun h => hh (Or.inr (Or.inr (Or.inr (Or.inr h))))))))), fa7 a (fun h => h.elim (fun h => hh (Or.inl h)) (fun h => h.elim (fun h => hh (Or.inr (Or.inl h))) (fun h => h.elim (fun h => hh (Or.inr (Or.inr (Or.inl h)))) (fun h => h.elim (fun h => hh (Or.inr (Or.inr (Or.inr (Or.inl h))))) (fun h => hh (Or.inr (Or.inr (Or.inr (Or.inr h)))))))))]) (by omega) (by omega) (by omega) (by first | exact hrs | exact hr1 | exact p25_0) (Nat.lt_succ_self _)
          · skip
            refine r_iload i_128_44 rfl ?_
            refine r_istore_n (l' := [(0, .ref 42), (1, V gap), (2, V asked), (3, V r_23), (4, V w), (5, V r_23)]) i_128_46 (by decide +kernel) rfl ?_
            refine r_iload i_128_47 rfl ?_
            refine r_istore_n (l' := [(0, .ref 42), (1, V gap), (2, V w), (3, V r_23), (4, V w), (5, V r_23)]) i_128_49 (by decide +kernel) rfl ?_
            refine r_iinc (l' := [(0, .ref 42), (1, V gap), (2, V w), (3, V r_23), (4, V (w + 1)), (5, V r_23)]) i_128_50 rfl (by decide +kernel) rfl ?_
            refine r_go (t := 7) i_128_53 (by decide) ?_
            exact lp7B _ w r_23 (w + 1) r_23 G_24 A_25 hG_24 hA_25 (by intro a k hh; rw [fg_25 a k (fun h => h.elim (fun h => hh (Or.inl h)) (fun h => hh (Or.inr h))), fg7 a k (fun h => h.elim (fun h => hh (Or.inl h)) (fun h => hh (Or.inr h)))]) (by intro a hh; rw [fa_25 a (fun h => h.elim (fun h => hh (Or.inl h)) (fun h => h.elim (fun h => hh (Or.inr (Or.inl h))) (fun h => h.elim (fun h => hh (Or.inr (Or.inr (Or.inl h)))) (fun h => h.elim (fun h => hh (Or.inr (Or.inr (Or.inr (Or.inl h))))) (fun h => hh (Or.inr (Or.inr (Or.inr (Or.inr h))))))))), fa7 a (fun h => h.elim (fun h => hh (Or.inl h)) (fun h => h.elim (fun h => hh (Or.inr (Or.inl h))) (fun h => h.elim (fun h => hh (Or.inr (Or.inr (Or.inl h)))) (fun h => h.elim (fun h => hh (Or.inr (Or.inr (Or.inr (Or.inl h))))) (fun h => hh (Or.inr (Or.inr (Or.inr (Or.inr h)))))))))]) (by omega) (by omega) (by omega) (by first | exact hrs | exact hr1 | exact p25_0) (Nat.lt_succ_self _)
  exact lp7A234 _ ((-1)) ((-1)) 0 G A hG hA (by intro a k hh; rfl) (by intro a hh; rfl) (by omega) (by omega) (by omega) (by first | exact hrs | exact hr1 | exact zzp0) (Nat.lt_succ_self _)
