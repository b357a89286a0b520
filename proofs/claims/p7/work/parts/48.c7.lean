set_option maxHeartbeats 4000000 in
theorem c_31 {L : Nat} {xs : Nat → Int32} {ly : List LK} {F : Nat → Nat → Value} {G A : Nat → Nat → Int} {B : Nat → Nat → Int64} {Q : Option Value → AH → Prop} {word : Int} (hly : LyOk ly) (hF : RfOk F) (hG : GO G) (hA : AQ A) (in_word : inR word) (hw : 0 ≤ word ∧ word ≤ 13) (K : ∀ (A' : Nat → Nat → Int), (AQ A') → (∀ a, ¬ (a = 33 ∨ a = 39) → A' a = A a) → Q none (HP ly F G A' B)) : Re L xs 31 0 [(0, .ref 31), (1, V word)] [] (HP ly F G A B) Q := by
  refine r_iload_n i_31_0 rfl ?_
  refine r_bipush i_31_1 (by decide) ?_
  refine r_imul i_31_3 ?_
  refine r_istore_n (l' := [(0, .ref 31), (1, V word), (2, V (word * 12))]) i_31_4 (by decide +kernel) rfl ?_
  refine r_iload_n i_31_5 rfl ?_
  refine r_istore_n (l' := [(0, .ref 31), (1, V word), (2, V (word * 12)), (3, V (word * 12))]) i_31_6 (by decide +kernel) rfl ?_
  have lp7B : ∀ (nf : Nat) (s : Int) (l4 : Int) (l5 : Int) (l6 : Int) (l7 : Int) (A7 : Nat → Nat → Int), (AQ A7) → (∀ a, ¬ (a = 33 ∨ a = 39) → A7 a = A a) → (word * 12 ≤ s ∧ s ≤ word * 12 + 12) → (word * 12 + 12 - s).toNat < nf → Re L xs 31 7 [(0, .ref 31), (1, V word), (2, V (word * 12)), (3, V s), (4, V l4), (5, V l5), (6, V l6), (7, V l7)] [] (HP ly F G A7 B) Q := by
    intro nf
    induction nf with
    | zero => intros; omega
    | succ nf ih7B =>
      intro s l4 l5 l6 l7 A7 hA7 fa7 hs hm7
      refine r_iload_n i_31_7 rfl ?_
      refine r_iload_n i_31_8 rfl ?_
      refine r_aload_n i_31_9 rfl ?_
      refine r_getF (v := .ref 32) i_31_10 rfl (hly 31 _ rfl) (hF.1 31 0 32 rfl) ?_
      refine r_iload_n i_31_13 rfl ?_
      refine r_iald i_31_14 (hly 32 _ rfl) (by omega) (by omega) (by omega) ?_
      rw [show A7 32 = A 32 from by rw [fa7 32 (by omega)]]
      have q_1 := a_32 hA (word.toNat)
      refine r_iadd i_31_15 ?_
      refine r_cge (t := 111) i_31_16 (by decide) (by omega) (by omega) (fun u_2 => ?_) (fun u_2 => ?_)
      · skip
        exact r_vret i_31_111 rfl (K A7 hA7 (by intro a hh; rw [fa7 a (fun h => h.elim (fun h => hh (Or.inl h)) (fun h => hh (Or.inr h)))]))
      · skip
        refine r_iconst i_31_19 ?_
        refine r_istore (l' := [(0, .ref 31), (1, V word), (2, V (word * 12)), (3, V s), (4, V 0), (5, V l5), (6, V l6), (7, V l7)]) i_31_20 (by decide +kernel) rfl ?_
        refine r_iconst i_31_22 ?_
        refine r_istore (l' := [(0, .ref 31), (1, V word), (2, V (word * 12)), (3, V s), (4, V 0), (5, V 0), (6, V l6), (7, V l7)]) i_31_23 (by decide +kernel) rfl ?_
        refine r_iconst i_31_25 ?_
        refine r_istore (l' := [(0, .ref 31), (1, V word), (2, V (word * 12)), (3, V s), (4, V 0), (5, V 0), (6, V 0), (7, V l7)]) i_31_26 (by decide +kernel) rfl ?_
        have lp28B : ∀ (nf : Nat) (v : Int) (mk : Int) (k : Int) (c7 : Int), (0 ≤ k ∧ k ≤ 12) → (0 ≤ v ∧ v ≤ k) → (0 ≤ mk ∧ mk ≤ k) → (12 - k).toNat < nf → Re L xs 31 28 [(0, .ref 31), (1, V word), (2, V (word * 12)), (3, V s), (4, V v), (5, V mk), (6, V k), (7, V c7)] [] (HP ly F G A7 B) Q := by
          intro nf
          induction nf with
          | zero => intros; omega
          | succ nf ih28B =>
            intro v mk k c7  hk hv hm hm28
            refine r_iload i_31_28 rfl ?_
            refine r_aload_n i_31_30 rfl ?_
            refine r_getF (v := .ref 34) i_31_31 rfl (hly 31 _ rfl) (hF.1 31 2 34 rfl) ?_
            refine r_getF (v := .ref 36) i_31_34 rfl (hly 34 _ rfl) (hF.1 34 1 36 rfl) ?_
            refine r_iload_n i_31_37 rfl ?_
            refine r_iald i_31_38 (hly 36 _ rfl) (by omega) (by omega) (by omega) ?_
            rw [show A7 36 = A 36 from by rw [fa7 36 (by omega)]]
            have q_3 := a_36 hA (s.toNat)
            refine r_cge (t := 89) i_31_39 (by decide) (by omega) (by omega) (fun u_4 => ?_) (fun u_4 => ?_)
            · skip
              refine r_aload_n i_31_89 rfl ?_
              refine r_getF (v := .ref 33) i_31_90 rfl (hly 31 _ rfl) (hF.1 31 1 33 rfl) ?_
              refine r_iload_n i_31_93 rfl ?_
              refine r_iload i_31_94 rfl ?_
              refine r_iastQ i_31_96 (hly 33 _ rfl) (by omega) (by omega) (by omega) (fun A_5 eA_5 => ?_)
              have hA_5 : AQ A_5 := by rw [eA_5]; exact au_33 hA7 (by omega) (by omega)
              refine r_aload_n i_31_97 rfl ?_
              refine r_getF (v := .ref 39) i_31_98 rfl (hly 31 _ rfl) (hF.1 31 5 39 rfl) ?_
              refine r_iload_n i_31_101 rfl ?_
              refine r_iload i_31_102 rfl ?_
              refine r_iastQ i_31_104 (hly 39 _ rfl) (by omega) (by omega) (by omega) (fun A_6 eA_6 => ?_)
              have hA_6 : AQ A_6 := by rw [eA_6]; exact au_39 hA_5 (by omega) (by omega)
              refine r_iinc (l' := [(0, .ref 31), (1, V word), (2, V (word * 12)), (3, V (s + 1)), (4, V v), (5, V mk), (6, V k), (7, V c7)]) i_31_105 rfl (by decide +kernel) rfl ?_
              refine r_go (t := 7) i_31_108 (by decide) ?_
              exact ih7B (s + 1) v mk k c7 A_6 hA_6 (by intro a hh; rw [eA_6, up2_a (fun h => hh (Or.inr h)), eA_5, up2_a (fun h => hh (Or.inl h)), fa7 a (fun h => h.elim (fun h => hh (Or.inl h)) (fun h => hh (Or.inr h)))]) (by omega) (by omega)
            · skip
              refine r_aload_n i_31_42 rfl ?_
              refine r_getF (v := .ref 34) i_31_43 rfl (hly 31 _ rfl) (hF.1 31 2 34 rfl) ?_
              refine r_iload_n i_31_46 rfl ?_
              refine r_iload i_31_47 rfl ?_
              refine r_cV (as := [V k, V s]) i_31_49 rfl (by decide +kernel) (Nat.le_of_ble_eq_true rfl) (Nat.le_of_ble_eq_true rfl) (hly 34 _ rfl) rfl ?_
              refine c_32 (f := 34) (index := s) (k := k) (cap := 168) hly hF hG hA7 (by omega) (by omega) (by exact Fm_s) (by omega) (by omega) (fun r_7 p7_0 => ?_)
              show Re L xs 31 52 [(0, .ref 31), (1, V word), (2, V (word * 12)), (3, V s), (4, V v), (5, V mk), (6, V k), (7, V c7)] [V r_7] (HP ly F G A7 B) _
              refine r_istore (l' := [(0, .ref 31), (1, V word), (2, V (word * 12)), (3, V s), (4, V v), (5, V mk), (6, V k), (7, V r_7)]) i_31_52 (by decide +kernel) rfl ?_
              refine r_iload i_31_54 rfl ?_
              refine r_cS (as := [V r_7]) i_31_56 rfl (by decide +kernel) (Nat.le_of_ble_eq_true rfl) (Nat.le_of_ble_eq_true rfl) ?_
              refine c_33 (c := r_7) hly hF hG hA7 (by omega) (by omega) (fun r_8 p8_0 => ?_)
              show Re L xs 31 59 [(0, .ref 31), (1, V word), (2, V (word * 12)), (3, V s), (4, V v), (5, V mk), (6, V k), (7, V r_7)] [V r_8] (HP ly F G A7 B) _
              refine r_eq0 (t := 83) i_31_59 (by decide) (by omega) (fun u_9 => ?_) (fun u_9 => ?_)
              · skip
                refine r_iinc (l' := [(0, .ref 31), (1, V word), (2, V (word * 12)), (3, V s), (4, V v), (5, V mk), (6, V (k + 1)), (7, V r_7)]) i_31_83 rfl (by decide +kernel) rfl ?_
                refine r_go (t := 28) i_31_86 (by decide) ?_
                exact ih28B v mk (k + 1) r_7  (by omega) (by omega) (by omega) (by omega)
              · skip
                refine r_iinc (l' := [(0, .ref 31), (1, V word), (2, V (word * 12)), (3, V s), (4, V (v + 1)), (5, V mk), (6, V k), (7, V r_7)]) i_31_62 rfl (by decide +kernel) rfl ?_
                refine r_iload i_31_65 rfl ?_
                have jn80 : ∀ (b : Int), (0 ≤ b ∧ b ≤ 1) → Re L xs 31 80 [(0, .ref 31), (1, V word), (2, V (word * 12)), (3, V s), (4, V (v + 1)), (5, V mk), (6, V k), (7, V r_7)] [V b, V mk] (HP ly F G A7 B) Q := by
                  intro b  hb
                  refine r_iadd i_31_80 ?_
                  refine r_istore (l' := [(0, .ref 31), (1, V word), (2, V (word * 12)), (3, V s), (4, V (v + 1)), (5, V (mk + b)), (6, V k), (7, V r_7)]) i_31_81 (by decide +kernel) rfl ?_
                  refine r_iinc (l' := [(0, .ref 31), (1, V word), (2, V (word * 12)), (3, V s), (4, V (v + 1)), (5, V (mk + b)), (6, V (k + 1)), (7, V r_7)]) i_31_83 rfl (by decide +kernel) rfl ?_
                  refine r_go (t := 28) i_31_86 (by decide) ?_
                  exact ih28B (v + 1) (mk + b) (k + 1) r_7  (by omega) (by omega) (by omega) (by omega)
                refine r_iload i_31_67 rfl ?_
                refine r_cS (as := [V r_7]) i_31_69 rfl (by decide +kernel) (Nat.le_of_ble_eq_true rfl) (Nat.le_of_ble_eq_true rfl) ?_
                refine c_26 (c := r_7) hly hF hG hA7 (by omega) (fun r_10 p10_0 => ?_)
                show Re L xs 31 72 [(0, .ref 31), (1, V word), (2, V (word * 12)), (3, V s), (4, V (v + 1)), (5, V mk), (6, V k), (7, V r_7)] [V r_10, V mk] (HP ly F G A7 B) _
                refine r_eq0 (t := 79) i_31_72 (by decide) (by omega) (fun u_11 => ?_) (fun u_11 => ?_)
                · skip
                  refine r_iconst i_31_79 ?_
                  exact jn80 0  (by omega)
                · skip
                  refine r_iconst i_31_75 ?_
                  refine r_go (t := 80) i_31_76 (by decide) ?_
                  exact jn80 1  (by omega)
        exact lp28B _ 0 0 0 l7  (by omega) (by omega) (by omega) (Nat.lt_succ_self _)
  have lp7A3456 : ∀ (nf : Nat) (s : Int) (l4 : Int) (l5 : Int) (l6 : Int) (A7 : Nat → Nat → Int), (AQ A7) → (∀ a, ¬ (a = 33 ∨ a = 39) → A7 a = A a) → (word * 12 ≤ s ∧ s ≤ word * 12 + 12) → (word * 12 + 12 - s).toNat < nf → Re L xs 31 7 [(0, .ref 31), (1, V word), (2, V (word * 12)), (3, V s), (4, V l4), (5, V l5), (6, V l6)] [] (HP ly F G A7 B) Q := by
    intro nf
    induction nf with
    | zero => intros; omega
    | succ nf ih7A3456 =>
      intro s l4 l5 l6 A7 hA7 fa7 hs hm7
      refine r_iload_n i_31_7 rfl ?_
      refine r_iload_n i_31_8 rfl ?_
      refine r_aload_n i_31_9 rfl ?_
      refine r_getF (v := .ref 32) i_31_10 rfl (hly 31 _ rfl) (hF.1 31 0 32 rfl) ?_
      refine r_iload_n i_31_13 rfl ?_
      refine r_iald i_31_14 (hly 32 _ rfl) (by omega) (by omega) (by omega) ?_
      rw [show A7 32 = A 32 from by rw [fa7 32 (by omega)]]
      have q_12 := a_32 hA (word.toNat)
      refine r_iadd i_31_15 ?_
      refine r_cge (t := 111) i_31_16 (by decide) (by omega) (by omega) (fun u_13 => ?_) (fun u_13 => ?_)
      · skip
        exact r_vret i_31_111 rfl (K A7 hA7 (by intro a hh; rw [fa7 a (fun h => h.elim (fun h => hh (Or.inl h)) (fun h => hh (Or.inr h)))]))
      · skip
        refine r_iconst i_31_19 ?_
        refine r_istore (l' := [(0, .ref 31), (1, V word), (2, V (word * 12)), (3, V s), (4, V 0), (5, V l5), (6, V l6)]) i_31_20 (by decide +kernel) rfl ?_
        refine r_iconst i_31_22 ?_
        refine r_istore (l' := [(0, .ref 31), (1, V word), (2, V (word * 12)), (3, V s), (4, V 0), (5, V 0), (6, V l6)]) i_31_23 (by decide +kernel) rfl ?_
        refine r_iconst i_31_25 ?_
        refine r_istore (l' := [(0, .ref 31), (1, V word), (2, V (word * 12)), (3, V s), (4, V 0), (5, V 0), (6, V 0)]) i_31_26 (by decide +kernel) rfl ?_
        have lp28B : ∀ (nf : Nat) (v : Int) (mk : Int) (k : Int) (c7 : Int), (0 ≤ k ∧ k ≤ 12) → (0 ≤ v ∧ v ≤ k) → (0 ≤ mk ∧ mk ≤ k) → (12 - k).toNat < nf → Re L xs 31 28 [(0, .ref 31), (1, V word), (2, V (word * 12)), (3, V s), (4, V v), (5, V mk), (6, V k), (7, V c7)] [] (HP ly F G A7 B) Q := by
          intro nf
          induction nf with
          | zero => intros; omega
          | succ nf ih28B =>
            intro v mk k c7  hk hv hm hm28
            refine r_iload i_31_28 rfl ?_
            refine r_aload_n i_31_30 rfl ?_
            refine r_getF (v := .ref 34) i_31_31 rfl (hly 31 _ rfl) (hF.1 31 2 34 rfl) ?_
            refine r_getF (v := .ref 36) i_31_34 rfl (hly 34 _ rfl) (hF.1 34 1 36 rfl) ?_
            refine r_iload_n i_31_37 rfl ?_
            refine r_iald i_31_38 (hly 36 _ rfl) (by omega) (by omega) (by omega) ?_
            rw [show A7 36 = A 36 from by rw [fa7 36 (by omega)]]
            have q_14 := a_36 hA (s.toNat)
            refine r_cge (t := 89) i_31_39 (by decide) (by omega) (by omega) (fun u_15 => ?_) (fun u_15 => ?_)
            · skip
              refine r_aload_n i_31_89 rfl ?_
              refine r_getF (v := .ref 33) i_31_90 rfl (hly 31 _ rfl) (hF.1 31 1 33 rfl) ?_
              refine r_iload_n i_31_93 rfl ?_
              refine r_iload i_31_94 rfl ?_
              refine r_iastQ i_31_96 (hly 33 _ rfl) (by omega) (by omega) (by omega) (fun A_16 eA_16 => ?_)
              have hA_16 : AQ A_16 := by rw [eA_16]; exact au_33 hA7 (by omega) (by omega)
              refine r_aload_n i_31_97 rfl ?_
              refine r_getF (v := .ref 39) i_31_98 rfl (hly 31 _ rfl) (hF.1 31 5 39 rfl) ?_
              refine r_iload_n i_31_101 rfl ?_
              refine r_iload i_31_102 rfl ?_
              refine r_iastQ i_31_104 (hly 39 _ rfl) (by omega) (by omega) (by omega) (fun A_17 eA_17 => ?_)
              have hA_17 : AQ A_17 := by rw [eA_17]; exact au_39 hA_16 (by omega) (by omega)
              refine r_iinc (l' := [(0, .ref 31), (1, V word), (2, V (word * 12)), (3, V (s + 1)), (4, V v), (5, V mk), (6, V k), (7, V c7)]) i_31_105 rfl (by decide +kernel) rfl ?_
              refine r_go (t := 7) i_31_108 (by decide) ?_
              exact lp7B _ (s + 1) v mk k c7 A_17 hA_17 (by intro a hh; rw [eA_17, up2_a (fun h => hh (Or.inr h)), eA_16, up2_a (fun h => hh (Or.inl h)), fa7 a (fun h => h.elim (fun h => hh (Or.inl h)) (fun h => hh (Or.inr h)))]) (by omega) (Nat.lt_succ_self _)
            · skip
              refine r_aload_n i_31_42 rfl ?_
              refine r_getF (v := .ref 34) i_31_43 rfl (hly 31 _ rfl) (hF.1 31 2 34 rfl) ?_
              refine r_iload_n i_31_46 rfl ?_
              refine r_iload i_31_47 rfl ?_
              refine r_cV (as := [V k, V s]) i_31_49 rfl (by decide +kernel) (Nat.le_of_ble_eq_true rfl) (Nat.le_of_ble_eq_true rfl) (hly 34 _ rfl) rfl ?_
              refine c_32 (f := 34) (index := s) (k := k) (cap := 168) hly hF hG hA7 (by omega) (by omega) (by exact Fm_s) (by omega) (by omega) (fun r_18 p18_0 => ?_)
              show Re L xs 31 52 [(0, .ref 31), (1, V word), (2, V (word * 12)), (3, V s), (4, V v), (5, V mk), (6, V k), (7, V c7)] [V r_18] (HP ly F G A7 B) _
              refine r_istore (l' := [(0, .ref 31), (1, V word), (2, V (word * 12)), (3, V s), (4, V v), (5, V mk), (6, V k), (7, V r_18)]) i_31_52 (by decide +kernel) rfl ?_
              refine r_iload i_31_54 rfl ?_
              refine r_cS (as := [V r_18]) i_31_56 rfl (by decide +kernel) (Nat.le_of_ble_eq_true rfl) (Nat.le_of_ble_eq_true rfl) ?_
              refine c_33 (c := r_18) hly hF hG hA7 (by omega) (by omega) (fun r_19 p19_0 => ?_)
              show Re L xs 31 59 [(0, .ref 31), (1, V word), (2, V (word * 12)), (3, V s), (4, V v), (5, V mk), (6, V k), (7, V r_18)] [V r_19] (HP ly F G A7 B) _
              refine r_eq0 (t := 83) i_31_59 (by decide) (by omega) (fun u_20 => ?_) (fun u_20 => ?_)
              · skip
                refine r_iinc (l' := [(0, .ref 31), (1, V word), (2, V (word * 12)), (3, V s), (4, V v), (5, V mk), (6, V (k + 1)), (7, V r_18)]) i_31_83 rfl (by decide +kernel) rfl ?_
                refine r_go (t := 28) i_31_86 (by decide) ?_
                exact ih28B v mk (k + 1) r_18  (by omega) (by omega) (by omega) (by omega)
              · skip
                refine r_iinc (l' := [(0, .ref 31), (1, V word), (2, V (word * 12)), (3, V s), (4, V (v + 1)), (5, V mk), (6, V k), (7, V r_18)]) i_31_62 rfl (by decide +kernel) rfl ?_
                refine r_iload i_31_65 rfl ?_
                have jn80 : ∀ (b : Int), (0 ≤ b ∧ b ≤ 1) → Re L xs 31 80 [(0, .ref 31), (1, V word), (2, V (word * 12)), (3, V s), (4, V (v + 1)), (5, V mk), (6, V k), (7, V r_18)] [V b, V mk] (HP ly F G A7 B) Q := by
                  intro b  hb
                  refine r_iadd i_31_80 ?_
                  refine r_istore (l' := [(0, .ref 31), (1, V word), (2, V (word * 12)), (3, V s), (4, V (v + 1)), (5, V (mk + b)), (6, V k), (7, V r_18)]) i_31_81 (by decide +kernel) rfl ?_
                  refine r_iinc (l' := [(0, .ref 31), (1, V word), (2, V (word * 12)), (3, V s), (4, V (v + 1)), (5, V (mk + b)), (6, V (k + 1)), (7, V r_18)]) i_31_83 rfl (by decide +kernel) rfl ?_
                  refine r_go (t := 28) i_31_86 (by decide) ?_
                  exact ih28B (v + 1) (mk + b) (k + 1) r_18  (by omega) (by omega) (by omega) (by omega)
                refine r_iload i_31_67 rfl ?_
                refine r_cS (as := [V r_18]) i_31_69 rfl (by decide +kernel) (Nat.le_of_ble_eq_true rfl) (Nat.le_of_ble_eq_true rfl) ?_
                refine c_26 (c := r_18) hly hF hG hA7 (by omega) (fun r_21 p21_0 => ?_)
                show Re L xs 31 72 [(0, .ref 31), (1, V word), (2, V (word * 12)), (3, V s), (4, V (v + 1)), (5, V mk), (6, V k), (7, V r_18)] [V r_21, V mk] (HP ly F G A7 B) _
                refine r_eq0 (t := 79) i_31_72 (by decide) (by omega) (fun u_22 => ?_) (fun u_22 => ?_)
                · skip
                  refine r_iconst i_31_79 ?_
                  exact jn80 0  (by omega)
                · skip
                  refine r_iconst i_31_75 ?_
                  refine r_go (t := 80) i_31_76 (by decide) ?_
                  exact jn80 1  (by omega)
        have lp28A456 : ∀ (nf : Nat) (v : Int) (mk : Int) (k : Int), (0 ≤ k ∧ k ≤ 12) → (0 ≤ v ∧ v ≤ k) → (0 ≤ mk ∧ mk ≤ k) → (12 - k).toNat < nf → Re L xs 31 28 [(0, .ref 31), (1, V word), (2, V (word * 12)), (3, V s), (4, V v), (5, V mk), (6, V k)] [] (HP ly F G A7 B) Q := by
          intro nf
          induction nf with
          | zero => intros; omega
          | succ nf ih28A456 =>
            intro v mk k  hk hv hm hm28
            refine r_iload i_31_28 rfl ?_
            refine r_aload_n i_31_30 rfl ?_
            refine r_getF (v := .ref 34) i_31_31 rfl (hly 31 _ rfl) (hF.1 31 2 34 rfl) ?_
            refine r_getF (v := .ref 36) i_31_34 rfl (hly 34 _ rfl) (hF.1 34 1 36 rfl) ?_
            refine r_iload_n i_31_37 rfl ?_
            refine r_iald i_31_38 (hly 36 _ rfl) (by omega) (by omega) (by omega) ?_
            rw [show A7 36 = A 36 from by rw [fa7 36 (by omega)]]
            have q_23 := a_36 hA (s.toNat)
            refine r_cge (t := 89) i_31_39 (by decide) (by omega) (by omega) (fun u_24 => ?_) (fun u_24 => ?_)
            · skip
              refine r_aload_n i_31_89 rfl ?_
              refine r_getF (v := .ref 33) i_31_90 rfl (hly 31 _ rfl) (hF.1 31 1 33 rfl) ?_
              refine r_iload_n i_31_93 rfl ?_
              refine r_iload i_31_94 rfl ?_
              refine r_iastQ i_31_96 (hly 33 _ rfl) (by omega) (by omega) (by omega) (fun A_25 eA_25 => ?_)
              have hA_25 : AQ A_25 := by rw [eA_25]; exact au_33 hA7 (by omega) (by omega)
              refine r_aload_n i_31_97 rfl ?_
              refine r_getF (v := .ref 39) i_31_98 rfl (hly 31 _ rfl) (hF.1 31 5 39 rfl) ?_
              refine r_iload_n i_31_101 rfl ?_
              refine r_iload i_31_102 rfl ?_
              refine r_iastQ i_31_104 (hly 39 _ rfl) (by omega) (by omega) (by omega) (fun A_26 eA_26 => ?_)
              have hA_26 : AQ A_26 := by rw [eA_26]; exact au_39 hA_25 (by omega) (by omega)
              refine r_iinc (l' := [(0, .ref 31), (1, V word), (2, V (word * 12)), (3, V (s + 1)), (4, V v), (5, V mk), (6, V k)]) i_31_105 rfl (by decide +kernel) rfl ?_
              refine r_go (t := 7) i_31_108 (by decide) ?_
              exact ih7A3456 (s + 1) v mk k A_26 hA_26 (by intro a hh; rw [eA_26, up2_a (fun h => hh (Or.inr h)), eA_25, up2_a (fun h => hh (Or.inl h)), fa7 a (fun h => h.elim (fun h => hh (Or.inl h)) (fun h => hh (Or.inr h)))]) (by omega) (by omega)
            · skip
              refine r_aload_n i_31_42 rfl ?_
              refine r_getF (v := .ref 34) i_31_43 rfl (hly 31 _ rfl) (hF.1 31 2 34 rfl) ?_
              refine r_iload_n i_31_46 rfl ?_
              refine r_iload i_31_47 rfl ?_
              refine r_cV (as := [V k, V s]) i_31_49 rfl (by decide +kernel) (Nat.le_of_ble_eq_true rfl) (Nat.le_of_ble_eq_true rfl) (hly 34 _ rfl) rfl ?_
              refine c_32 (f := 34) (index := s) (k := k) (cap := 168) hly hF hG hA7 (by omega) (by omega) (by exact Fm_s) (by omega) (by omega) (fun r_27 p27_0 => ?_)
              show Re L xs 31 52 [(0, .ref 31), (1, V word), (2, V (word * 12)), (3, V s), (4, V v), (5, V mk), (6, V k)] [V r_27] (HP ly F G A7 B) _
              refine r_istore (l' := [(0, .ref 31), (1, V word), (2, V (word * 12)), (3, V s), (4, V v), (5, V mk), (6, V k), (7, V r_27)]) i_31_52 (by decide +kernel) rfl ?_
              refine r_iload i_31_54 rfl ?_
              refine r_cS (as := [V r_27]) i_31_56 rfl (by decide +kernel) (Nat.le_of_ble_eq_true rfl) (Nat.le_of_ble_eq_true rfl) ?_
              refine c_33 (c := r_27) hly hF hG hA7 (by omega) (by omega) (fun r_28 p28_0 => ?_)
              show Re L xs 31 59 [(0, .ref 31), (1, V word), (2, V (word * 12)), (3, V s), (4, V v), (5, V mk), (6, V k), (7, V r_27)] [V r_28] (HP ly F G A7 B) _
              refine r_eq0 (t := 83) i_31_59 (by decide) (by omega) (fun u_29 => ?_) (fun u_29 => ?_)
              · skip
                refine r_iinc (l' := [(0, .ref 31), (1, V word), (2, V (word * 12)), (3, V s), (4, V v), (5, V mk), (6, V (k + 1)), (7, V r_27)]) i_31_83 rfl (by decide +kernel) rfl ?_
                refine r_go (t := 28) i_31_86 (by decide) ?_
                exact lp28B _ v mk (k + 1) r_27  (by omega) (by omega) (by omega) (Nat.lt_succ_self _)
              · skip
                refine r_iinc (l' := [(0, .ref 31), (1, V word), (2, V (word * 12)), (3, V s), (4, V (v + 1)), (5, V mk), (6, V k), (7, V r_27)]) i_31_62 rfl (by decide +kernel) rfl ?_
                refine r_iload i_31_65 rfl ?_
                have jn80 : ∀ (b : Int), (0 ≤ b ∧ b ≤ 1) → Re L xs 31 80 [(0, .ref 31), (1, V word), (2, V (word * 12)), (3, V s), (4, V (v + 1)), (5, V mk), (6, V k), (7, V r_27)] [V b, V mk] (HP ly F G A7 B) Q := by
                  intro b  hb
                  refine r_iadd i_31_80 ?_
                  refine r_istore (l' := [(0, .ref 31), (1, V word), (2, V (word * 12)), (3, V s), (4, V (v + 1)), (5, V (mk + b)), (6, V k), (7, V r_27)]) i_31_81 (by decide +kernel) rfl ?_
                  refine r_iinc (l' := [(0, .ref 31), (1, V word), (2, V (word * 12)), (3, V s), (4, V (v + 1)), (5, V (mk + b)), (6, V (k + 1)), (7, V r_27)]) i_31_83 rfl (by decide +kernel) rfl ?_
                  refine r_go (t := 28) i_31_86 (by decide) ?_
                  exact lp28B _ (v + 1) (mk + b) (k + 1) r_27  (by omega) (by omega) (by omega) (Nat.lt_succ_self _)
                refine r_iload i_31_67 rfl ?_
                refine r_cS (as := [V r_27]) i_31_69 rfl (by decide +kernel) (Nat.le_of_ble_eq_true rfl) (Nat.le_of_ble_eq_true rfl) ?_
                refine c_26 (c := r_27) hly hF hG hA7 (by omega) (fun r_30 p30_0 => ?_)
                show Re L xs 31 72 [(0, .ref 31), (1, V word), (2, V (word * 12)), (3, V s), (4, V (v + 1)), (5, V mk), (6, V k), (7, V r_27)] [V r_30, V mk] (HP ly F G A7 B) _
                refine r_eq0 (t := 79) i_31_72 (by decide) (by omega) (fun u_31 => ?_) (fun u_31 => ?_)
                · skip
                  refine r_iconst i_31_79 ?_
                  exact jn80 0  (by omega)
                · skip
                  refine r_iconst i_31_75 ?_
                  refine r_go (t := 80) i_31_76 (by decide) ?_
                  exact jn80 1  (by omega)
        exact lp28A456 _ 0 0 0  (by omega) (by omega) (by omega) (Nat.lt_succ_self _)
  have lp7A3 : ∀ (nf : Nat) (s : Int) (A7 : Nat → Nat → Int), (AQ A7) → (∀ a, ¬ (a = 33 ∨ a = 39) → A7 a = A a) → (word * 12 ≤ s ∧ s ≤ word * 12 + 12) → (word * 12 + 12 - s).toNat < nf → Re L xs 31 7 [(0, .ref 31), (1, V word), (2, V (word * 12)), (3, V s)] [] (HP ly F G A7 B) Q := by
    intro nf
    induction nf with
    | zero => intros; omega
    | succ nf ih7A3 =>
      intro s A7 hA7 fa7 hs hm7
      refine r_iload_n i_31_7 rfl ?_
      refine r_iload_n i_31_8 rfl ?_
      refine r_aload_n i_31_9 rfl ?_
      refine r_getF (v := .ref 32) i_31_10 rfl (hly 31 _ rfl) (hF.1 31 0 32 rfl) ?_
      refine r_iload_n i_31_13 rfl ?_
      refine r_iald i_31_14 (hly 32 _ rfl) (by omega) (by omega) (by omega) ?_
      rw [show A7 32 = A 32 from by rw [fa7 32 (by omega)]]
      have q_32 := a_32 hA (word.toNat)
      refine r_iadd i_31_15 ?_
      refine r_cge (t := 111) i_31_16 (by decide) (by omega) (by omega) (fun u_33 => ?_) (fun u_33 => ?_)
      · skip
        exact r_vret i_31_111 rfl (K A7 hA7 (by intro a hh; rw [fa7 a (fun h => h.elim (fun h => hh (Or.inl h)) (fun h => hh (Or.inr h)))]))
      · skip
        refine r_iconst i_31_19 ?_
        refine r_istore (l' := [(0, .ref 31), (1, V word), (2, V (word * 12)), (3, V s), (4, V 0)]) i_31_20 (by decide +kernel) rfl ?_
        refine r_iconst i_31_22 ?_
        refine r_istore (l' := [(0, .ref 31), (1, V word), (2, V (word * 12)), (3, V s), (4, V 0), (5, V 0)]) i_31_23 (by decide +kernel) rfl ?_
        refine r_iconst i_31_25 ?_
        refine r_istore (l' := [(0, .ref 31), (1, V word), (2, V (word * 12)), (3, V s), (4, V 0), (5, V 0), (6, V 0)]) i_31_26 (by decide +kernel) rfl ?_
        have lp28B : ∀ (nf : Nat) (v : Int) (mk : Int) (k : Int) (c7 : Int), (0 ≤ k ∧ k ≤ 12) → (0 ≤ v ∧ v ≤ k) → (0 ≤ mk ∧ mk ≤ k) → (12 - k).toNat < nf → Re L xs 31 28 [(0, .ref 31), (1, V word), (2, V (word * 12)), (3, V s), (4, V v), (5, V mk), (6, V k), (7, V c7)] [] (HP ly F G A7 B) Q := by
          intro nf
          induction nf with
          | zero => intros; omega
          | succ nf ih28B =>
            intro v mk k c7  hk hv hm hm28
            refine r_iload i_31_28 rfl ?_
            refine r_aload_n i_31_30 rfl ?_
            refine r_getF (v := .ref 34) i_31_31 rfl (hly 31 _ rfl) (hF.1 31 2 34 rfl) ?_
            refine r_getF (v := .ref 36) i_31_34 rfl (hly 34 _ rfl) (hF.1 34 1 36 rfl) ?_
            refine r_iload_n i_31_37 rfl ?_
            refine r_iald i_31_38 (hly 36 _ rfl) (by omega) (by omega) (by omega) ?_
            rw [show A7 36 = A 36 from by rw [fa7 36 (by omega)]]
            have q_34 := a_36 hA (s.toNat)
            refine r_cge (t := 89) i_31_39 (by decide) (by omega) (by omega) (fun u_35 => ?_) (fun u_35 => ?_)
            · skip
              refine r_aload_n i_31_89 rfl ?_
              refine r_getF (v := .ref 33) i_31_90 rfl (hly 31 _ rfl) (hF.1 31 1 33 rfl) ?_
              refine r_iload_n i_31_93 rfl ?_
              refine r_iload i_31_94 rfl ?_
              refine r_iastQ i_31_96 (hly 33 _ rfl) (by omega) (by omega) (by omega) (fun A_36 eA_36 => ?_)
              have hA_36 : AQ A_36 := by rw [eA_36]; exact au_33 hA7 (by omega) (by omega)
              refine r_aload_n i_31_97 rfl ?_
              refine r_getF (v := .ref 39) i_31_98 rfl (hly 31 _ rfl) (hF.1 31 5 39 rfl) ?_
              refine r_iload_n i_31_101 rfl ?_
              refine r_iload i_31_102 rfl ?_
              refine r_iastQ i_31_104 (hly 39 _ rfl) (by omega) (by omega) (by omega) (fun A_37 eA_37 => ?_)
              have hA_37 : AQ A_37 := by rw [eA_37]; exact au_39 hA_36 (by omega) (by omega)
              refine r_iinc (l' := [(0, .ref 31), (1, V word), (2, V (word * 12)), (3, V (s + 1)), (4, V v), (5, V mk), (6, V k), (7, V c7)]) i_31_105 rfl (by decide +kernel) rfl ?_
              refine r_go (t := 7) i_31_108 (by decide) ?_
              exact lp7B _ (s + 1) v mk k c7 A_37 hA_37 (by intro a hh; rw [eA_37, up2_a (fun h => hh (Or.inr h)), eA_36, up2_a (fun h => hh (Or.inl h)), fa7 a (fun h => h.elim (fun h => hh (Or.inl h)) (fun h => hh (Or.inr h)))]) (by omega) (Nat.lt_succ_self _)
            · skip
              refine r_aload_n i_31_42 rfl ?_
              refine r_getF (v := .ref 34) i_31_43 rfl (hly 31 _ rfl) (hF.1 31 2 34 rfl) ?_
              refine r_iload_n i_31_46 rfl ?_
              refine r_iload i_31_47 rfl ?_
              refine r_cV (as := [V k, V s]) i_31_49 rfl (by decide +kernel) (Nat.le_of_ble_eq_true rfl) (Nat.le_of_ble_eq_true rfl) (hly 34 _ rfl) rfl ?_
              refine c_32 (f := 34) (index := s) (k := k) (cap := 168) hly hF hG hA7 (by omega) (by omega) (by exact Fm_s) (by omega) (by omega) (fun r_38 p38_0 => ?_)
              show Re L xs 31 52 [(0, .ref 31), (1, V word), (2, V (word * 12)), (3, V s), (4, V v), (5, V mk), (6, V k), (7, V c7)] [V r_38] (HP ly F G A7 B) _
              refine r_istore (l' := [(0, .ref 31), (1, V word), (2, V (word * 12)), (3, V s), (4, V v), (5, V mk), (6, V k), (7, V r_38)]) i_31_52 (by decide +kernel) rfl ?_
              refine r_iload i_31_54 rfl ?_
              refine r_cS (as := [V r_38]) i_31_56 rfl (by decide +kernel) (Nat.le_of_ble_eq_true rfl) (Nat.le_of_ble_eq_true rfl) ?_
              refine c_33 (c := r_38) hly hF hG hA7 (by omega) (by omega) (fun r_39 p39_0 => ?_)
              show Re L xs 31 59 [(0, .ref 31), (1, V word), (2, V (word * 12)), (3, V s), (4, V v), (5, V mk), (6, V k), (7, V r_38)] [V r_39] (HP ly F G A7 B) _
              refine r_eq0 (t := 83) i_31_59 (by decide) (by omega) (fun u_40 => ?_) (fun u_40 => ?_)
              · skip
                refine r_iinc (l' := [(0, .ref 31), (1, V word), (2, V (word * 12)), (3, V s), (4, V v), (5, V mk), (6, V (k + 1)), (7, V r_38)]) i_31_83 rfl (by decide +kernel) rfl ?_
                refine r_go (t := 28) i_31_86 (by decide) ?_
                exact ih28B v mk (k + 1) r_38  (by omega) (by omega) (by omega) (by omega)
              · skip
                refine r_iinc (l' := [(0, .ref 31), (1, V word), (2, V (word * 12)), (3, V s), (4, V (v + 1)), (5, V mk), (6, V k), (7, V r_38)]) i_31_62 rfl (by decide +kernel) rfl ?_
                refine r_iload i_31_65 rfl ?_
                have jn80 : ∀ (b : Int), (0 ≤ b ∧ b ≤ 1) → Re L xs 31 80 [(0, .ref 31), (1, V word), (2, V (word * 12)), (3, V s), (4, V (v + 1)), (5, V mk), (6, V k), (7, V r_38)] [V b, V mk] (HP ly F G A7 B) Q := by
                  intro b  hb
                  refine r_iadd i_31_80 ?_
                  refine r_istore (l' := [(0, .ref 31), (1, V word), (2, V (word * 12)), (3, V s), (4, V (v + 1)), (5, V (mk + b)), (6, V k), (7, V r_38)]) i_31_81 (by decide +kernel) rfl ?_
                  refine r_iinc (l' := [(0, .ref 31), (1, V word), (2, V (word * 12)), (3, V s), (4, V (v + 1)), (5, V (mk + b)), (6, V (k + 1)), (7, V r_38)]) i_31_83 rfl (by decide +kernel) rfl ?_
                  refine r_go (t := 28) i_31_86 (by decide) ?_
                  exact ih28B (v + 1) (mk + b) (k + 1) r_38  (by omega) (by omega) (by omega) (by omega)
                refine r_iload i_31_67 rfl ?_
                refine r_cS (as := [V r_38]) i_31_69 rfl (by decide +kernel) (Nat.le_of_ble_eq_true rfl) (Nat.le_of_ble_eq_true rfl) ?_
                refine c_26 (c := r_38) hly hF hG hA7 (by omega) (fun r_41 p41_0 => ?_)
                show Re L xs 31 72 [(0, .ref 31), (1, V word), (2, V (word * 12)), (3, V s), (4, V (v + 1)), (5, V mk), (6, V k), (7, V r_38)] [V r_41, V mk] (HP ly F G A7 B) _
                refine r_eq0 (t := 79) i_31_72 (by decide) (by omega) (fun u_42 => ?_) (fun u_42 => ?_)
                · skip
                  refine r_iconst i_31_79 ?_
                  exact jn80 0  (by omega)
                · skip
                  refine r_iconst i_31_75 ?_
                  refine r_go (t := 80) i_31_76 (by decide) ?_
                  exact jn80 1  (by omega)
        have lp28A456 : ∀ (nf : Nat) (v : Int) (mk : Int) (k : Int), (0 ≤ k ∧ k ≤ 12) → (0 ≤ v ∧ v ≤ k) → (0 ≤ mk ∧ mk ≤ k) → (12 - k).toNat < nf → Re L xs 31 28 [(0, .ref 31), (1, V word), (2, V (word * 12)), (3, V s), (4, V v), (5, V mk), (6, V k)] [] (HP ly F G A7 B) Q := by
          intro nf
          induction nf with
          | zero => intros; omega
          | succ nf ih28A456 =>
            intro v mk k  hk hv hm hm28
            refine r_iload i_31_28 rfl ?_
            refine r_aload_n i_31_30 rfl ?_
            refine r_getF (v := .ref 34) i_31_31 rfl (hly 31 _ rfl) (hF.1 31 2 34 rfl) ?_
            refine r_getF (v := .ref 36) i_31_34 rfl (hly 34 _ rfl) (hF.1 34 1 36 rfl) ?_
            refine r_iload_n i_31_37 rfl ?_
            refine r_iald i_31_38 (hly 36 _ rfl) (by omega) (by omega) (by omega) ?_
            rw [show A7 36 = A 36 from by rw [fa7 36 (by omega)]]
            have q_43 := a_36 hA (s.toNat)
            refine r_cge (t := 89) i_31_39 (by decide) (by omega) (by omega) (fun u_44 => ?_) (fun u_44 => ?_)
            · skip
              refine r_aload_n i_31_89 rfl ?_
              refine r_getF (v := .ref 33) i_31_90 rfl (hly 31 _ rfl) (hF.1 31 1 33 rfl) ?_
              refine r_iload_n i_31_93 rfl ?_
              refine r_iload i_31_94 rfl ?_
              refine r_iastQ i_31_96 (hly 33 _ rfl) (by omega) (by omega) (by omega) (fun A_45 eA_45 => ?_)
              have hA_45 : AQ A_45 := by rw [eA_45]; exact au_33 hA7 (by omega) (by omega)
              refine r_aload_n i_31_97 rfl ?_
              refine r_getF (v := .ref 39) i_31_98 rfl (hly 31 _ rfl) (hF.1 31 5 39 rfl) ?_
              refine r_iload_n i_31_101 rfl ?_
              refine r_iload i_31_102 rfl ?_
              refine r_iastQ i_31_104 (hly 39 _ rfl) (by omega) (by omega) (by omega) (fun A_46 eA_46 => ?_)
              have hA_46 : AQ A_46 := by rw [eA_46]; exact au_39 hA_45 (by omega) (by omega)
              refine r_iinc (l' := [(0, .ref 31), (1, V word), (2, V (word * 12)), (3, V (s + 1)), (4, V v), (5, V mk), (6, V k)]) i_31_105 rfl (by decide +kernel) rfl ?_
              refine r_go (t := 7) i_31_108 (by decide) ?_
              exact lp7A3456 _ (s + 1) v mk k A_46 hA_46 (by intro a hh; rw [eA_46, up2_a (fun h => hh (Or.inr h)), eA_45, up2_a (fun h => hh (Or.inl h)), fa7 a (fun h => h.elim (fun h => hh (Or.inl h)) (fun h => hh (Or.inr h)))]) (by omega) (Nat.lt_succ_self _)
            · skip
              refine r_aload_n i_31_42 rfl ?_
              refine r_getF (v := .ref 34) i_31_43 rfl (hly 31 _ rfl) (hF.1 31 2 34 rfl) ?_
              refine r_iload_n i_31_46 rfl ?_
              refine r_iload i_31_47 rfl ?_
              refine r_cV (as := [V k, V s]) i_31_49 rfl (by decide +kernel) (Nat.le_of_ble_eq_true rfl) (Nat.le_of_ble_eq_true rfl) (hly 34 _ rfl) rfl ?_
              refine c_32 (f := 34) (index := s) (k := k) (cap := 168) hly hF hG hA7 (by omega) (by omega) (by exact Fm_s) (by omega) (by omega) (fun r_47 p47_0 => ?_)
              show Re L xs 31 52 [(0, .ref 31), (1, V word), (2, V (word * 12)), (3, V s), (4, V v), (5, V mk), (6, V k)] [V r_47] (HP ly F G A7 B) _
              refine r_istore (l' := [(0, .ref 31), (1, V word), (2, V (word * 12)), (3, V s), (4, V v), (5, V mk), (6, V k), (7, V r_47)]) i_31_52 (by decide +kernel) rfl ?_
              refine r_iload i_31_54 rfl ?_
              refine r_cS (as := [V r_47]) i_31_56 rfl (by decide +kernel) (Nat.le_of_ble_eq_true rfl) (Nat.le_of_ble_eq_true rfl) ?_
              refine c_33 (c := r_47) hly hF hG hA7 (by omega) (by omega) (fun r_48 p48_0 => ?_)
              show Re L xs 31 59 [(0, .ref 31), (1, V word), (2, V (word * 12)), (3, V s), (4, V v), (5, V mk), (6, V k), (7, V r_47)] [V r_48] (HP ly F G A7 B) _
              refine r_eq0 (t := 83) i_31_59 (by decide) (by omega) (fun u_49 => ?_) (fun u_49 => ?_)
              · skip
                refine r_iinc (l' := [(0, .ref 31), (1, V word), (2, V (word * 12)), (3, V s), (4, V v), (5, V mk), (6, V (k + 1)), (7, V r_47)]) i_31_83 rfl (by decide +kernel) rfl ?_
                refine r_go (t := 28) i_31_86 (by decide) ?_
                exact lp28B _ v mk (k + 1) r_47  (by omega) (by omega) (by omega) (Nat.lt_succ_self _)
              · skip
                refine r_iinc (l' := [(0, .ref 31), (1, V word), (2, V (word * 12)), (3, V s), (4, V (v + 1)), (5, V mk), (6, V k), (7, V r_47)]) i_31_62 rfl (by decide +kernel) rfl ?_
                refine r_iload i_31_65 rfl ?_
                have jn80 : ∀ (b : Int), (0 ≤ b ∧ b ≤ 1) → Re L xs 31 80 [(0, .ref 31), (1, V word), (2, V (word * 12)), (3, V s), (4, V (v + 1)), (5, V mk), (6, V k), (7, V r_47)] [V b, V mk] (HP ly F G A7 B) Q := by
                  intro b  hb
                  refine r_iadd i_31_80 ?_
                  refine r_istore (l' := [(0, .ref 31), (1, V word), (2, V (word * 12)), (3, V s), (4, V (v + 1)), (5, V (mk + b)), (6, V k), (7, V r_47)]) i_31_81 (by decide +kernel) rfl ?_
                  refine r_iinc (l' := [(0, .ref 31), (1, V word), (2, V (word * 12)), (3, V s), (4, V (v + 1)), (5, V (mk + b)), (6, V (k + 1)), (7, V r_47)]) i_31_83 rfl (by decide +kernel) rfl ?_
                  refine r_go (t := 28) i_31_86 (by decide) ?_
                  exact lp28B _ (v + 1) (mk + b) (k + 1) r_47  (by omega) (by omega) (by omega) (Nat.lt_succ_self _)
                refine r_iload i_31_67 rfl ?_
                refine r_cS (as := [V r_47]) i_31_69 rfl (by decide +kernel) (Nat.le_of_ble_eq_true rfl) (Nat.le_of_ble_eq_true rfl) ?_
                refine c_26 (c := r_47) hly hF hG hA7 (by omega) (fun r_50 p50_0 => ?_)
                show Re L xs 31 72 [(0, .ref 31), (1, V word), (2, V (word * 12)), (3, V s), (4, V (v + 1)), (5, V mk), (6, V k), (7, V r_47)] [V r_50, V mk] (HP ly F G A7 B) _
                refine r_eq0 (t := 79) i_31_72 (by decide) (by omega) (fun u_51 => ?_) (fun u_51 => ?_)
                · skip
                  refine r_iconst i_31_79 ?_
                  exact jn80 0  (by omega)
                · skip
                  refine r_iconst i_31_75 ?_
                  refine r_go (t := 80) i_31_76 (by decide) ?_
                  exact jn80 1  (by omega)
        exact lp28A456 _ 0 0 0  (by omega) (by omega) (by omega) (Nat.lt_succ_self _)
  exact lp7A3 _ (word * 12) A hA (by intro a hh; rfl) (by omega) (Nat.lt_succ_self _)
set_option maxHeartbeats 4000000 in
theorem c_23 {L : Nat} {xs : Nat → Int32} {ly : List LK} {F : Nat → Nat → Value} {G A : Nat → Nat → Int} {B : Nat → Nat → Int64} {Q : Option Value → AH → Prop} {word : Int} {y : Nat} {x : Nat} {A0 : Nat → Nat → Int} (hly : LyOk ly) (hF : RfOk F) (hG : GO G) (hA : AQ A) (in_word : inR word) (hx : x = 3 ∨ x = 61) (hy : y = 80 ∨ y = 85) (hw : 0 ≤ word ∧ word ≤ 13) (hl : A (y + 2) word.toNat + A (y + 3) word.toNat ≤ 200) (hq : cqQ A0 A word.toNat (G (x + 1) 2)) (K : ∀ (A' : Nat → Nat → Int), (AQ A') → (∀ a, ¬ (a = 32 ∨ a = 35 ∨ a = 36 ∨ a = 37 ∨ a = 38 ∨ a = 40) → A' a = A a) → (cqQ A0 A' word.toNat (G (x + 1) 2)) → Q none (HP ly F G A' B)) : Re L xs 23 0 [(0, .ref 31), (1, V word), (2, .ref y), (3, .ref x)] [] (HP ly F G A B) Q := by
  refine r_aload_n i_23_0 rfl ?_
  refine r_getF (v := .ref (y + 2)) i_23_1 rfl (Ly_0 hly hy) (Ry_0_1 hF hy) ?_
  refine r_iload_n i_23_4 rfl ?_
  refine r_iald i_23_5 (Ly_2 hly hy) (by omega) (by omega) (by omega) ?_
  have q_1 := Ay_2 hA hy (word.toNat)
  refine r_istore (l' := [(0, .ref 31), (1, V word), (2, .ref y), (3, .ref x), (4, V (A (y + 2) (word.toNat)))]) i_23_6 (by decide +kernel) rfl ?_
  refine r_aload_n i_23_8 rfl ?_
  refine r_getF (v := .ref (y + 3)) i_23_9 rfl (Ly_0 hly hy) (Ry_0_2 hF hy) ?_
  refine r_iload_n i_23_12 rfl ?_
  refine r_iald i_23_13 (Ly_3 hly hy) (by omega) (by omega) (by omega) ?_
  have q_2 := Ay_3 hA hy (word.toNat)
  refine r_istore (l' := [(0, .ref 31), (1, V word), (2, .ref y), (3, .ref x), (4, V (A (y + 2) (word.toNat))), (5, V (A (y + 3) (word.toNat)))]) i_23_14 (by decide +kernel) rfl ?_
  refine r_aload_n i_23_16 rfl ?_
  refine r_getF (v := .ref (x + 1)) i_23_17 rfl (Lx_0 hly hx) (Rx_0_0 hF hx) ?_
  refine r_astore (l' := [(0, .ref 31), (1, V word), (2, .ref y), (3, .ref x), (4, V (A (y + 2) (word.toNat))), (5, V (A (y + 3) (word.toNat))), (6, .ref (x + 1))]) i_23_20 (by decide +kernel) rfl ?_
  refine r_iconst i_23_22 ?_
  refine r_istore (l' := [(0, .ref 31), (1, V word), (2, .ref y), (3, .ref x), (4, V (A (y + 2) (word.toNat))), (5, V (A (y + 3) (word.toNat))), (6, .ref (x + 1)), (7, V 0)]) i_23_23 (by decide +kernel) rfl ?_
  have lp25B : ∀ (nf : Nat) (k : Int) (A25 : Nat → Nat → Int), (AQ A25) → (∀ a, ¬ (a = 32 ∨ a = 35 ∨ a = 36 ∨ a = 37 ∨ a = 38 ∨ a = 40) → A25 a = A a) → (0 ≤ k ∧ k ≤ 80) → (cqQ A0 A25 word.toNat (G (x + 1) 2)) → (80 - k).toNat < nf → Re L xs 23 25 [(0, .ref 31), (1, V word), (2, .ref y), (3, .ref x), (4, V (A (y + 2) (word.toNat))), (5, V (A (y + 3) (word.toNat))), (6, .ref (x + 1)), (7, V k)] [] (HP ly F G A25 B) Q := by
    intro nf
    induction nf with
    | zero => intros; omega
    | succ nf ih25B =>
      intro k A25 hA25 fa25 hk hq2 hm25
      refine r_iload i_23_25 rfl ?_
      refine r_aload i_23_27 rfl ?_
      refine r_getI i_23_29 rfl (Lx_1 hly hx) ?_
      have q_3 := Gx_1_2 hG hx
      refine r_cge (t := 117) i_23_32 (by decide) (by omega) (by omega) (fun u_4 => ?_) (fun u_4 => ?_)
      · skip
        exact r_vret i_23_117 rfl (K A25 hA25 (by intro a hh; rw [fa25 a (fun h => h.elim (fun h => hh (Or.inl h)) (fun h => h.elim (fun h => hh (Or.inr (Or.inl h))) (fun h => h.elim (fun h => hh (Or.inr (Or.inr (Or.inl h)))) (fun h => h.elim (fun h => hh (Or.inr (Or.inr (Or.inr (Or.inl h))))) (fun h => h.elim (fun h => hh (Or.inr (Or.inr (Or.inr (Or.inr (Or.inl h)))))) (fun h => hh (Or.inr (Or.inr (Or.inr (Or.inr (Or.inr h)))))))))))]) (by exact hq2))
      · skip
        refine r_aload_n i_23_35 rfl ?_
        refine r_getF (v := .ref 32) i_23_36 rfl (hly 31 _ rfl) (hF.1 31 0 32 rfl) ?_
        refine r_iload_n i_23_39 rfl ?_
        refine r_iald i_23_40 (hly 32 _ rfl) (by omega) (by omega) (by omega) ?_
        have q_5 := a_32 hA25 (word.toNat)
        refine r_bipush i_23_41 (by decide) ?_
        refine r_cge (t := 117) i_23_43 (by decide) (by omega) (by omega) (fun u_6 => ?_) (fun u_6 => ?_)
        · skip
          exact r_vret i_23_117 rfl (K A25 hA25 (by intro a hh; rw [fa25 a (fun h => h.elim (fun h => hh (Or.inl h)) (fun h => h.elim (fun h => hh (Or.inr (Or.inl h))) (fun h => h.elim (fun h => hh (Or.inr (Or.inr (Or.inl h)))) (fun h => h.elim (fun h => hh (Or.inr (Or.inr (Or.inr (Or.inl h))))) (fun h => h.elim (fun h => hh (Or.inr (Or.inr (Or.inr (Or.inr (Or.inl h)))))) (fun h => hh (Or.inr (Or.inr (Or.inr (Or.inr (Or.inr h)))))))))))]) (by exact hq2))
        · skip
          refine r_aload i_23_46 rfl ?_
          refine r_iload i_23_48 rfl ?_
          refine r_aload_n i_23_50 rfl ?_
          refine r_getF (v := .ref (y + 1)) i_23_51 rfl (Ly_0 hly hy) (Ry_0_0 hF hy) ?_
          refine r_iload i_23_54 rfl ?_
          refine r_iload i_23_56 rfl ?_
          refine r_cV (as := [V (A (y + 3) (word.toNat)), V (A (y + 2) (word.toNat)), .ref (y + 1), V k]) i_23_58 rfl (by decide +kernel) (Nat.le_of_ble_eq_true rfl) (Nat.le_of_ble_eq_true rfl) (Lx_1 hly hx) rfl ?_
          refine c_21 (f := x + 1) (index := k) (ta := y + 1) (at' := A (y + 2) (word.toNat)) (length := A (y + 3) (word.toNat)) (cap := 80) (tn := 200) hly hF hG hA25 (by omega) (by omega) (by omega) (by exact Fm_w hx) (by omega) (by exact Ly_1 hly hy) (by exact fun i => Ay_1 hA25 hy i) (by omega) (by omega) (by omega) (fun r_7 p7_0 => ?_)
          show Re L xs 23 61 [(0, .ref 31), (1, V word), (2, .ref y), (3, .ref x), (4, V (A (y + 2) (word.toNat))), (5, V (A (y + 3) (word.toNat))), (6, .ref (x + 1)), (7, V k)] [V r_7] (HP ly F G A25 B) _
          refine r_eq0 (t := 111) i_23_61 (by decide) (by omega) (fun u_8 => ?_) (fun u_8 => ?_)
          · skip
            refine r_iinc (l' := [(0, .ref 31), (1, V word), (2, .ref y), (3, .ref x), (4, V (A (y + 2) (word.toNat))), (5, V (A (y + 3) (word.toNat))), (6, .ref (x + 1)), (7, V (k + 1))]) i_23_111 rfl (by decide +kernel) rfl ?_
            refine r_go (t := 25) i_23_114 (by decide) ?_
            exact ih25B (k + 1) A25 hA25 (by intro a hh; rw [fa25 a (fun h => h.elim (fun h => hh (Or.inl h)) (fun h => h.elim (fun h => hh (Or.inr (Or.inl h))) (fun h => h.elim (fun h => hh (Or.inr (Or.inr (Or.inl h)))) (fun h => h.elim (fun h => hh (Or.inr (Or.inr (Or.inr (Or.inl h))))) (fun h => h.elim (fun h => hh (Or.inr (Or.inr (Or.inr (Or.inr (Or.inl h)))))) (fun h => hh (Or.inr (Or.inr (Or.inr (Or.inr (Or.inr h)))))))))))]) (by omega) (by first | exact hq2 | exact hq | exact zzp1 _ _ hq2 (by omega)) (by omega)
          · skip
            refine r_aload_n i_23_64 rfl ?_
            refine r_iload i_23_65 rfl ?_
            refine r_aload_n i_23_67 rfl ?_
            refine r_getI i_23_68 rfl (Ly_0 hly hy) ?_
            have q_9 := Gy_0_6 hG hy
            refine r_cV (as := [V (G y 6), V k]) i_23_71 rfl (by decide +kernel) (Nat.le_of_ble_eq_true rfl) (Nat.le_of_ble_eq_true rfl) (Lx_0 hly hx) rfl ?_
            refine c_24 (x := x) (k := k) (day := G y 6) hly hF hG hA25 (by omega) (by omega) (by omega) (by omega) (fun r_10 p10_0 => ?_)
            show Re L xs 23 74 [(0, .ref 31), (1, V word), (2, .ref y), (3, .ref x), (4, V (A (y + 2) (word.toNat))), (5, V (A (y + 3) (word.toNat))), (6, .ref (x + 1)), (7, V k)] [V r_10] (HP ly F G A25 B) _
            refine r_eq0 (t := 111) i_23_74 (by decide) (by omega) (fun u_11 => ?_) (fun u_11 => ?_)
            · skip
              refine r_iinc (l' := [(0, .ref 31), (1, V word), (2, .ref y), (3, .ref x), (4, V (A (y + 2) (word.toNat))), (5, V (A (y + 3) (word.toNat))), (6, .ref (x + 1)), (7, V (k + 1))]) i_23_111 rfl (by decide +kernel) rfl ?_
              refine r_go (t := 25) i_23_114 (by decide) ?_
              exact ih25B (k + 1) A25 hA25 (by intro a hh; rw [fa25 a (fun h => h.elim (fun h => hh (Or.inl h)) (fun h => h.elim (fun h => hh (Or.inr (Or.inl h))) (fun h => h.elim (fun h => hh (Or.inr (Or.inr (Or.inl h)))) (fun h => h.elim (fun h => hh (Or.inr (Or.inr (Or.inr (Or.inl h))))) (fun h => h.elim (fun h => hh (Or.inr (Or.inr (Or.inr (Or.inr (Or.inl h)))))) (fun h => hh (Or.inr (Or.inr (Or.inr (Or.inr (Or.inr h)))))))))))]) (by omega) (by first | exact hq2 | exact hq | exact zzp1 _ _ hq2 (by omega)) (by omega)
            · skip
              refine r_aload i_23_77 rfl ?_
              refine r_getF (v := .ref (x + 2)) i_23_79 rfl (Lx_1 hly hx) (Rx_1_0 hF hx) ?_
              refine r_aload i_23_82 rfl ?_
              refine r_iload i_23_84 rfl ?_
              refine r_cV (as := [V k]) i_23_86 rfl (by decide +kernel) (Nat.le_of_ble_eq_true rfl) (Nat.le_of_ble_eq_true rfl) (Lx_1 hly hx) rfl ?_
              refine c_16 (f := x + 1) (index := k) hly hF hG hA25 (by omega) (fun r_12 p12_0 => ?_)
              show Re L xs 23 89 [(0, .ref 31), (1, V word), (2, .ref y), (3, .ref x), (4, V (A (y + 2) (word.toNat))), (5, V (A (y + 3) (word.toNat))), (6, .ref (x + 1)), (7, V k)] [V r_12, .ref (x + 2)] (HP ly F G A25 B) _
              refine r_aload_n i_23_89 rfl ?_
              refine r_getF (v := .ref (y + 1)) i_23_90 rfl (Ly_0 hly hy) (Ry_0_0 hF hy) ?_
              refine r_iload i_23_93 rfl ?_
              refine r_iload i_23_95 rfl ?_
              refine r_cS (as := [V (A (y + 3) (word.toNat)), V (A (y + 2) (word.toNat)), .ref (y + 1), V r_12, .ref (x + 2)]) i_23_97 rfl (by decide +kernel) (Nat.le_of_ble_eq_true rfl) (Nat.le_of_ble_eq_true rfl) ?_
              refine c_25 (ra := x + 2) (p := r_12) (rc := y + 1) (q := A (y + 2) (word.toNat)) (n := A (y + 3) (word.toNat)) (capa := 960) (capc := 200) hly hF hG hA25 (by omega) (by omega) (by omega) (by exact Lx_2 hly hx) (by exact Ly_1 hly hy) (by exact fun i => Ax_2 hA25 hx i) (by exact fun i => Ay_1 hA25 hy i) (by omega) (by omega) (by omega) (fun r_13 p13_0 => ?_)
              show Re L xs 23 100 [(0, .ref 31), (1, V word), (2, .ref y), (3, .ref x), (4, V (A (y + 2) (word.toNat))), (5, V (A (y + 3) (word.toNat))), (6, .ref (x + 1)), (7, V k)] [V r_13] (HP ly F G A25 B) _
              refine r_eq0 (t := 111) i_23_100 (by decide) (by omega) (fun u_14 => ?_) (fun u_14 => ?_)
              · skip
                refine r_iinc (l' := [(0, .ref 31), (1, V word), (2, .ref y), (3, .ref x), (4, V (A (y + 2) (word.toNat))), (5, V (A (y + 3) (word.toNat))), (6, .ref (x + 1)), (7, V (k + 1))]) i_23_111 rfl (by decide +kernel) rfl ?_
                refine r_go (t := 25) i_23_114 (by decide) ?_
                exact ih25B (k + 1) A25 hA25 (by intro a hh; rw [fa25 a (fun h => h.elim (fun h => hh (Or.inl h)) (fun h => h.elim (fun h => hh (Or.inr (Or.inl h))) (fun h => h.elim (fun h => hh (Or.inr (Or.inr (Or.inl h)))) (fun h => h.elim (fun h => hh (Or.inr (Or.inr (Or.inr (Or.inl h))))) (fun h => h.elim (fun h => hh (Or.inr (Or.inr (Or.inr (Or.inr (Or.inl h)))))) (fun h => hh (Or.inr (Or.inr (Or.inr (Or.inr (Or.inr h)))))))))))]) (by omega) (by first | exact hq2 | exact hq | exact zzp1 _ _ hq2 (by omega)) (by omega)
              · skip
                refine r_aload_n i_23_103 rfl ?_
                refine r_iload_n i_23_104 rfl ?_
                refine r_aload_n i_23_105 rfl ?_
                refine r_iload i_23_106 rfl ?_
                refine r_cV (as := [V k, .ref x, V word]) i_23_108 rfl (by decide +kernel) (Nat.le_of_ble_eq_true rfl) (Nat.le_of_ble_eq_true rfl) (hly 31 _ rfl) rfl ?_
                refine c_15 (word := word) (x := x) (entry := k) hly hF hG hA25 (by omega) (by omega) (by omega) (by omega) (by omega) (fun A_15 hA_15 fa15 p15_0 p15_1 => ?_)
                show Re L xs 23 111 [(0, .ref 31), (1, V word), (2, .ref y), (3, .ref x), (4, V (A (y + 2) (word.toNat))), (5, V (A (y + 3) (word.toNat))), (6, .ref (x + 1)), (7, V k)] [] (HP ly F G A_15 B) _
                refine r_iinc (l' := [(0, .ref 31), (1, V word), (2, .ref y), (3, .ref x), (4, V (A (y + 2) (word.toNat))), (5, V (A (y + 3) (word.toNat))), (6, .ref (x + 1)), (7, V (k + 1))]) i_23_111 rfl (by decide +kernel) rfl ?_
                refine r_go (t := 25) i_23_114 (by decide) ?_
                exact ih25B (k + 1) A_15 hA_15 (by intro a hh; rw [fa15 a (fun h => h.elim (fun h => hh (Or.inl h)) (fun h => h.elim (fun h => hh (Or.inr (Or.inl h))) (fun h => h.elim (fun h => hh (Or.inr (Or.inr (Or.inl h)))) (fun h => h.elim (fun h => hh (Or.inr (Or.inr (Or.inr (Or.inl h))))) (fun h => h.elim (fun h => hh (Or.inr (Or.inr (Or.inr (Or.inr (Or.inl h)))))) (fun h => hh (Or.inr (Or.inr (Or.inr (Or.inr (Or.inr h))))))))))), fa25 a (fun h => h.elim (fun h => hh (Or.inl h)) (fun h => h.elim (fun h => hh (Or.inr (Or.inl h))) (fun h => h.elim (fun h => hh (Or.inr (Or.inr (Or.inl h)))) (fun h => h.elim (fun h => hh (Or.inr (Or.inr (Or.inr (Or.inl h))))) (fun h => h.elim (fun h => hh (Or.inr (Or.inr (Or.inr (Or.inr (Or.inl h)))))) (fun h => hh (Or.inr (Or.inr (Or.inr (Or.inr (Or.inr h)))))))))))]) (by omega) (by first | exact hq2 | exact hq | exact p15_1 _ _ hq2 (by omega)) (by omega)
  exact lp25B _ 0 A hA (by intro a hh; rfl) (by omega) (by first | exact hq2 | exact hq | exact zzp1 _ _ hq2 (by omega)) (Nat.lt_succ_self _)
set_option maxHeartbeats 4000000 in
theorem c_27 {L : Nat} {xs : Nat → Int32} {ly : List LK} {F : Nat → Nat → Value} {G A : Nat → Nat → Int} {B : Nat → Nat → Int64} {Q : Option Value → AH → Prop} {word : Int} {y : Nat} {x : Nat} {A0 : Nat → Nat → Int} (hly : LyOk ly) (hF : RfOk F) (hG : GO G) (hA : AQ A) (in_word : inR word) (hx : x = 3 ∨ x = 61) (hy : y = 80 ∨ y = 85) (hw : 0 ≤ word ∧ word ≤ 13) (hl : A (y + 2) word.toNat + A (y + 3) word.toNat ≤ 200) (hq : cqQ A0 A word.toNat (G (x + 1) 2)) (K : ∀ (A' : Nat → Nat → Int), (AQ A') → (∀ a, ¬ (a = 32 ∨ a = 35 ∨ a = 36 ∨ a = 37 ∨ a = 38 ∨ a = 40 ∨ a = 41) → A' a = A a) → (cqQ A0 A' word.toNat (G (x + 1) 2)) → (1 ≤ A' 32 word.toNat) → Q none (HP ly F G A' B)) : Re L xs 27 0 [(0, .ref 31), (1, V word), (2, .ref y), (3, .ref x)] [] (HP ly F G A B) Q := by
  have zc := Gx_1_2 hG hx
  refine r_aload_n i_27_0 rfl ?_
  refine r_getF (v := .ref (y + 2)) i_27_1 rfl (Ly_0 hly hy) (Ry_0_1 hF hy) ?_
  refine r_iload_n i_27_4 rfl ?_
  refine r_iald i_27_5 (Ly_2 hly hy) (by omega) (by omega) (by omega) ?_
  have q_1 := Ay_2 hA hy (word.toNat)
  refine r_istore (l' := [(0, .ref 31), (1, V word), (2, .ref y), (3, .ref x), (4, V (A (y + 2) (word.toNat)))]) i_27_6 (by decide +kernel) rfl ?_
  refine r_aload_n i_27_8 rfl ?_
  refine r_getF (v := .ref (y + 3)) i_27_9 rfl (Ly_0 hly hy) (Ry_0_2 hF hy) ?_
  refine r_iload_n i_27_12 rfl ?_
  refine r_iald i_27_13 (Ly_3 hly hy) (by omega) (by omega) (by omega) ?_
  have q_2 := Ay_3 hA hy (word.toNat)
  refine r_istore (l' := [(0, .ref 31), (1, V word), (2, .ref y), (3, .ref x), (4, V (A (y + 2) (word.toNat))), (5, V (A (y + 3) (word.toNat)))]) i_27_14 (by decide +kernel) rfl ?_
  refine r_aload_n i_27_16 rfl ?_
  refine r_getF (v := .ref (x + 9)) i_27_17 rfl (Lx_0 hly hx) (Rx_0_6 hF hx) ?_
  refine r_astore (l' := [(0, .ref 31), (1, V word), (2, .ref y), (3, .ref x), (4, V (A (y + 2) (word.toNat))), (5, V (A (y + 3) (word.toNat))), (6, .ref (x + 9))]) i_27_20 (by decide +kernel) rfl ?_
  refine r_iconst i_27_22 ?_
  refine r_istore (l' := [(0, .ref 31), (1, V word), (2, .ref y), (3, .ref x), (4, V (A (y + 2) (word.toNat))), (5, V (A (y + 3) (word.toNat))), (6, .ref (x + 9)), (7, V 0)]) i_27_23 (by decide +kernel) rfl ?_
  have lp25B : ∀ (nf : Nat) (k : Int) (l8 : Int) (l9 : Int) (A25 : Nat → Nat → Int), (AQ A25) → (∀ a, ¬ (a = 32 ∨ a = 35 ∨ a = 36 ∨ a = 37 ∨ a = 38 ∨ a = 40 ∨ a = 41) → A25 a = A a) → (0 ≤ k ∧ k ≤ 20) → (cqQ A0 A25 word.toNat (G (x + 1) 2)) → (20 - k).toNat < nf → Re L xs 27 25 [(0, .ref 31), (1, V word), (2, .ref y), (3, .ref x), (4, V (A (y + 2) (word.toNat))), (5, V (A (y + 3) (word.toNat))), (6, .ref (x + 9)), (7, V k), (8, V l8), (9, V l9)] [] (HP ly F G A25 B) Q := by
    intro nf
    induction nf with
    | zero => intros; omega
    | succ nf ih25B =>
      intro k l8 l9 A25 hA25 fa25 hk hq2 hm25
      refine r_iload i_27_25 rfl ?_
      refine r_aload i_27_27 rfl ?_
      refine r_getI i_27_29 rfl (Lx_9 hly hx) ?_
      have q_3 := Gx_9_2 hG hx
      refine r_cge (t := 196) i_27_32 (by decide) (by omega) (by omega) (fun u_4 => ?_) (fun u_4 => ?_)
      · skip
        refine r_aload_n i_27_196 rfl ?_
        refine r_iload_n i_27_197 rfl ?_
        refine r_aload_n i_27_198 rfl ?_
        refine r_getF (v := .ref (y + 1)) i_27_199 rfl (Ly_0 hly hy) (Ry_0_0 hF hy) ?_
        refine r_iload i_27_202 rfl ?_
        refine r_iload i_27_204 rfl ?_
        refine r_cV (as := [V (A (y + 3) (word.toNat)), V (A (y + 2) (word.toNat)), .ref (y + 1), V word]) i_27_206 rfl (by decide +kernel) (Nat.le_of_ble_eq_true rfl) (Nat.le_of_ble_eq_true rfl) (hly 31 _ rfl) rfl ?_
        refine c_28 (word := word) (ta := y + 1) (at' := A (y + 2) (word.toNat)) (length := A (y + 3) (word.toNat)) (tn := 200) hly hF hG hA25 (by omega) (by omega) (by omega) (by omega) (by exact Ly_1 hly hy) (by exact fun i => Ay_1 hA25 hy i) (by omega) (by omega) (by omega) (fun r_5 p5_0 p5_1 => ?_)
        show Re L xs 27 209 [(0, .ref 31), (1, V word), (2, .ref y), (3, .ref x), (4, V (A (y + 2) (word.toNat))), (5, V (A (y + 3) (word.toNat))), (6, .ref (x + 9)), (7, V k), (8, V l8), (9, V l9)] [V r_5] (HP ly F G A25 B) _
        refine r_eq0 (t := 234) i_27_209 (by decide) (by omega) (fun u_6 => ?_) (fun u_6 => ?_)
        · skip
          exact r_vret i_27_234 rfl (K A25 hA25 (by intro a hh; rw [fa25 a (fun h => h.elim (fun h => hh (Or.inl h)) (fun h => h.elim (fun h => hh (Or.inr (Or.inl h))) (fun h => h.elim (fun h => hh (Or.inr (Or.inr (Or.inl h)))) (fun h => h.elim (fun h => hh (Or.inr (Or.inr (Or.inr (Or.inl h))))) (fun h => h.elim (fun h => hh (Or.inr (Or.inr (Or.inr (Or.inr (Or.inl h)))))) (fun h => h.elim (fun h => hh (Or.inr (Or.inr (Or.inr (Or.inr (Or.inr (Or.inl h))))))) (fun h => hh (Or.inr (Or.inr (Or.inr (Or.inr (Or.inr (Or.inr h)))))))))))))]) (by first | exact hq2 | exact cq_add zzp1 zzp2 (by omega) hq2 (by omega)) (by first | exact p5_1 (by omega) | exact ad_pos zzp1 zzp2 (by omega)))
        · skip
          refine r_aload_n i_27_212 rfl ?_
          refine r_iload_n i_27_213 rfl ?_
          refine r_aload_n i_27_214 rfl ?_
          refine r_getF (v := .ref (y + 1)) i_27_215 rfl (Ly_0 hly hy) (Ry_0_0 hF hy) ?_
          refine r_iload i_27_218 rfl ?_
          refine r_iload i_27_220 rfl ?_
          refine r_aload_n i_27_222 rfl ?_
          refine r_getI i_27_223 rfl (Lx_0 hly hx) ?_
          have q_7 := Gx_0_14 hG hx
          refine r_aload_n i_27_226 rfl ?_
          refine r_getI i_27_227 rfl (Lx_0 hly hx) ?_
          have q_8 := Gx_0_15 hG hx
          have z230 := a_32 hA25 word.toNat
          refine r_cV (as := [V (G x 15), V (G x 14), V (A (y + 3) (word.toNat)), V (A (y + 2) (word.toNat)), .ref (y + 1), V word]) i_27_230 rfl (by decide +kernel) (Nat.le_of_ble_eq_true rfl) (Nat.le_of_ble_eq_true rfl) (hly 31 _ rfl) rfl ?_
          refine c_18 (word := word) (ta := y + 1) (at' := A (y + 2) (word.toNat)) (length := A (y + 3) (word.toNat)) (kind := G x 14) (cost := G x 15) (tn := 200) hly hF hG hA25 (by omega) (by omega) (by omega) (by omega) (by omega) (by omega) (by exact Ly_1 hly hy) (by exact fun i => Ay_1 hA25 hy i) (by omega) (by omega) (by omega) (by omega) (by omega) (fun r_9 A_10 hA_10 fa10 p10_0 p10_1 p10_2 => ?_)
          show Re L xs 27 233 [(0, .ref 31), (1, V word), (2, .ref y), (3, .ref x), (4, V (A (y + 2) (word.toNat))), (5, V (A (y + 3) (word.toNat))), (6, .ref (x + 9)), (7, V k), (8, V l8), (9, V l9)] [V r_9] (HP ly F G A_10 B) _
          refine re_nx i_27_233 rfl ?_
          exact r_vret i_27_234 rfl (K A_10 hA_10 (by intro a hh; rw [fa10 a (fun h => h.elim (fun h => hh (Or.inl h)) (fun h => h.elim (fun h => hh (Or.inr (Or.inl h))) (fun h => h.elim (fun h => hh (Or.inr (Or.inr (Or.inl h)))) (fun h => h.elim (fun h => hh (Or.inr (Or.inr (Or.inr (Or.inl h))))) (fun h => h.elim (fun h => hh (Or.inr (Or.inr (Or.inr (Or.inr (Or.inl h)))))) (fun h => hh (Or.inr (Or.inr (Or.inr (Or.inr (Or.inr (Or.inl h)))))))))))), fa25 a (fun h => h.elim (fun h => hh (Or.inl h)) (fun h => h.elim (fun h => hh (Or.inr (Or.inl h))) (fun h => h.elim (fun h => hh (Or.inr (Or.inr (Or.inl h)))) (fun h => h.elim (fun h => hh (Or.inr (Or.inr (Or.inr (Or.inl h))))) (fun h => h.elim (fun h => hh (Or.inr (Or.inr (Or.inr (Or.inr (Or.inl h)))))) (fun h => h.elim (fun h => hh (Or.inr (Or.inr (Or.inr (Or.inr (Or.inr (Or.inl h))))))) (fun h => hh (Or.inr (Or.inr (Or.inr (Or.inr (Or.inr (Or.inr h)))))))))))))]) (by first | exact hq2 | exact cq_add p10_1 p10_2 (by omega) hq2 (by omega)) (by first | exact p5_1 (by omega) | exact ad_pos p10_1 p10_2 (by omega)))
      · skip
        refine r_aload i_27_35 rfl ?_
        refine r_getF (v := .ref (x + 11)) i_27_37 rfl (Lx_9 hly hx) (Rx_9_1 hF hx) ?_
        refine r_iload i_27_40 rfl ?_
        refine r_iald i_27_42 (Lx_11 hly hx) (by omega) (by omega) (by omega) ?_
        rw [show A25 (x + 11) = A (x + 11) from by rw [fa25 (x + 11) (by omega)]]
        have q_11 := Ax_11 hA hx (k.toNat)
        refine r_istore (l' := [(0, .ref 31), (1, V word), (2, .ref y), (3, .ref x), (4, V (A (y + 2) (word.toNat))), (5, V (A (y + 3) (word.toNat))), (6, .ref (x + 9)), (7, V k), (8, V (A (x + 11) (k.toNat))), (9, V l9)]) i_27_43 (by decide +kernel) rfl ?_
        refine r_iload i_27_45 rfl ?_
        refine r_iload i_27_47 rfl ?_
        refine r_iadd i_27_49 ?_
        refine r_iload i_27_50 rfl ?_
        refine r_isub i_27_52 ?_
        refine r_istore (l' := [(0, .ref 31), (1, V word), (2, .ref y), (3, .ref x), (4, V (A (y + 2) (word.toNat))), (5, V (A (y + 3) (word.toNat))), (6, .ref (x + 9)), (7, V k), (8, V (A (x + 11) (k.toNat))), (9, V (((A (y + 2) (word.toNat)) + (A (y + 3) (word.toNat))) - (A (x + 11) (k.toNat))))]) i_27_53 (by decide +kernel) rfl ?_
        refine r_iload i_27_55 rfl ?_
        refine r_iload i_27_57 rfl ?_
        refine r_cgt (t := 190) i_27_59 (by decide) (by omega) (by omega) (fun u_12 => ?_) (fun u_12 => ?_)
        · skip
          refine r_iinc (l' := [(0, .ref 31), (1, V word), (2, .ref y), (3, .ref x), (4, V (A (y + 2) (word.toNat))), (5, V (A (y + 3) (word.toNat))), (6, .ref (x + 9)), (7, V (k + 1)), (8, V (A (x + 11) (k.toNat))), (9, V (((A (y + 2) (word.toNat)) + (A (y + 3) (word.toNat))) - (A (x + 11) (k.toNat))))]) i_27_190 rfl (by decide +kernel) rfl ?_
          refine r_go (t := 25) i_27_193 (by decide) ?_
          exact ih25B (k + 1) (A (x + 11) (k.toNat)) (((A (y + 2) (word.toNat)) + (A (y + 3) (word.toNat))) - (A (x + 11) (k.toNat))) A25 hA25 (by intro a hh; rw [fa25 a (fun h => h.elim (fun h => hh (Or.inl h)) (fun h => h.elim (fun h => hh (Or.inr (Or.inl h))) (fun h => h.elim (fun h => hh (Or.inr (Or.inr (Or.inl h)))) (fun h => h.elim (fun h => hh (Or.inr (Or.inr (Or.inr (Or.inl h))))) (fun h => h.elim (fun h => hh (Or.inr (Or.inr (Or.inr (Or.inr (Or.inl h)))))) (fun h => h.elim (fun h => hh (Or.inr (Or.inr (Or.inr (Or.inr (Or.inr (Or.inl h))))))) (fun h => hh (Or.inr (Or.inr (Or.inr (Or.inr (Or.inr (Or.inr h)))))))))))))]) (by omega) (by first | exact hq2 | exact hq | exact cq_add zzp1 zzp2 (by omega) (cq_s hq2 (by fail) (by fail)) (by omega) | exact cq_s hq2 (by rfl) (by rfl)) (by omega)
        · skip
          refine r_aload i_27_62 rfl ?_
          refine r_iload i_27_64 rfl ?_
          refine r_aload_n i_27_66 rfl ?_
          refine r_getF (v := .ref (y + 1)) i_27_67 rfl (Ly_0 hly hy) (Ry_0_0 hF hy) ?_
          refine r_iload i_27_70 rfl ?_
          refine r_iload i_27_72 rfl ?_
          refine r_cV (as := [V (A (x + 11) (k.toNat)), V (((A (y + 2) (word.toNat)) + (A (y + 3) (word.toNat))) - (A (x + 11) (k.toNat))), .ref (y + 1), V k]) i_27_74 rfl (by decide +kernel) (Nat.le_of_ble_eq_true rfl) (Nat.le_of_ble_eq_true rfl) (Lx_9 hly hx) rfl ?_
          refine c_21 (f := x + 9) (index := k) (ta := y + 1) (at' := ((A (y + 2) (word.toNat)) + (A (y + 3) (word.toNat))) - (A (x + 11) (k.toNat))) (length := A (x + 11) (k.toNat)) (cap := 20) (tn := 200) hly hF hG hA25 (by omega) (by omega) (by omega) (by exact Fm_e hx) (by omega) (by exact Ly_1 hly hy) (by exact fun i => Ay_1 hA25 hy i) (by omega) (by omega) (by omega) (fun r_13 p13_0 => ?_)
          show Re L xs 27 77 [(0, .ref 31), (1, V word), (2, .ref y), (3, .ref x), (4, V (A (y + 2) (word.toNat))), (5, V (A (y + 3) (word.toNat))), (6, .ref (x + 9)), (7, V k), (8, V (A (x + 11) (k.toNat))), (9, V (((A (y + 2) (word.toNat)) + (A (y + 3) (word.toNat))) - (A (x + 11) (k.toNat))))] [V r_13] (HP ly F G A25 B) _
          refine r_eq0 (t := 190) i_27_77 (by decide) (by omega) (fun u_14 => ?_) (fun u_14 => ?_)
          · skip
            refine r_iinc (l' := [(0, .ref 31), (1, V word), (2, .ref y), (3, .ref x), (4, V (A (y + 2) (word.toNat))), (5, V (A (y + 3) (word.toNat))), (6, .ref (x + 9)), (7, V (k + 1)), (8, V (A (x + 11) (k.toNat))), (9, V (((A (y + 2) (word.toNat)) + (A (y + 3) (word.toNat))) - (A (x + 11) (k.toNat))))]) i_27_190 rfl (by decide +kernel) rfl ?_
            refine r_go (t := 25) i_27_193 (by decide) ?_
            exact ih25B (k + 1) (A (x + 11) (k.toNat)) (((A (y + 2) (word.toNat)) + (A (y + 3) (word.toNat))) - (A (x + 11) (k.toNat))) A25 hA25 (by intro a hh; rw [fa25 a (fun h => h.elim (fun h => hh (Or.inl h)) (fun h => h.elim (fun h => hh (Or.inr (Or.inl h))) (fun h => h.elim (fun h => hh (Or.inr (Or.inr (Or.inl h)))) (fun h => h.elim (fun h => hh (Or.inr (Or.inr (Or.inr (Or.inl h))))) (fun h => h.elim (fun h => hh (Or.inr (Or.inr (Or.inr (Or.inr (Or.inl h)))))) (fun h => h.elim (fun h => hh (Or.inr (Or.inr (Or.inr (Or.inr (Or.inr (Or.inl h))))))) (fun h => hh (Or.inr (Or.inr (Or.inr (Or.inr (Or.inr (Or.inr h)))))))))))))]) (by omega) (by first | exact hq2 | exact hq | exact cq_add zzp1 zzp2 (by omega) (cq_s hq2 (by fail) (by fail)) (by omega) | exact cq_s hq2 (by rfl) (by rfl)) (by omega)
          · skip
            refine r_aload i_27_80 rfl ?_
            refine r_getF (v := .ref (x + 10)) i_27_82 rfl (Lx_9 hly hx) (Rx_9_0 hF hx) ?_
            refine r_aload i_27_85 rfl ?_
            refine r_iload i_27_87 rfl ?_
            refine r_cV (as := [V k]) i_27_89 rfl (by decide +kernel) (Nat.le_of_ble_eq_true rfl) (Nat.le_of_ble_eq_true rfl) (Lx_9 hly hx) rfl ?_
            refine c_16 (f := x + 9) (index := k) hly hF hG hA25 (by omega) (fun r_15 p15_0 => ?_)
            show Re L xs 27 92 [(0, .ref 31), (1, V word), (2, .ref y), (3, .ref x), (4, V (A (y + 2) (word.toNat))), (5, V (A (y + 3) (word.toNat))), (6, .ref (x + 9)), (7, V k), (8, V (A (x + 11) (k.toNat))), (9, V (((A (y + 2) (word.toNat)) + (A (y + 3) (word.toNat))) - (A (x + 11) (k.toNat))))] [V r_15, .ref (x + 10)] (HP ly F G A25 B) _
            refine r_aload_n i_27_92 rfl ?_
            refine r_getF (v := .ref (y + 1)) i_27_93 rfl (Ly_0 hly hy) (Ry_0_0 hF hy) ?_
            refine r_iload i_27_96 rfl ?_
            refine r_iload i_27_98 rfl ?_
            refine r_cS (as := [V (A (x + 11) (k.toNat)), V (((A (y + 2) (word.toNat)) + (A (y + 3) (word.toNat))) - (A (x + 11) (k.toNat))), .ref (y + 1), V r_15, .ref (x + 10)]) i_27_100 rfl (by decide +kernel) (Nat.le_of_ble_eq_true rfl) (Nat.le_of_ble_eq_true rfl) ?_
            refine c_25 (ra := x + 10) (p := r_15) (rc := y + 1) (q := ((A (y + 2) (word.toNat)) + (A (y + 3) (word.toNat))) - (A (x + 11) (k.toNat))) (n := A (x + 11) (k.toNat)) (capa := 240) (capc := 200) hly hF hG hA25 (by omega) (by omega) (by omega) (by exact Lx_10 hly hx) (by exact Ly_1 hly hy) (by exact fun i => Ax_10 hA25 hx i) (by exact fun i => Ay_1 hA25 hy i) (by omega) (by omega) (by omega) (fun r_16 p16_0 => ?_)
            show Re L xs 27 103 [(0, .ref 31), (1, V word), (2, .ref y), (3, .ref x), (4, V (A (y + 2) (word.toNat))), (5, V (A (y + 3) (word.toNat))), (6, .ref (x + 9)), (7, V k), (8, V (A (x + 11) (k.toNat))), (9, V (((A (y + 2) (word.toNat)) + (A (y + 3) (word.toNat))) - (A (x + 11) (k.toNat))))] [V r_16] (HP ly F G A25 B) _
            refine r_eq0 (t := 190) i_27_103 (by decide) (by omega) (fun u_17 => ?_) (fun u_17 => ?_)
            · skip
              refine r_iinc (l' := [(0, .ref 31), (1, V word), (2, .ref y), (3, .ref x), (4, V (A (y + 2) (word.toNat))), (5, V (A (y + 3) (word.toNat))), (6, .ref (x + 9)), (7, V (k + 1)), (8, V (A (x + 11) (k.toNat))), (9, V (((A (y + 2) (word.toNat)) + (A (y + 3) (word.toNat))) - (A (x + 11) (k.toNat))))]) i_27_190 rfl (by decide +kernel) rfl ?_
              refine r_go (t := 25) i_27_193 (by decide) ?_
              exact ih25B (k + 1) (A (x + 11) (k.toNat)) (((A (y + 2) (word.toNat)) + (A (y + 3) (word.toNat))) - (A (x + 11) (k.toNat))) A25 hA25 (by intro a hh; rw [fa25 a (fun h => h.elim (fun h => hh (Or.inl h)) (fun h => h.elim (fun h => hh (Or.inr (Or.inl h))) (fun h => h.elim (fun h => hh (Or.inr (Or.inr (Or.inl h)))) (fun h => h.elim (fun h => hh (Or.inr (Or.inr (Or.inr (Or.inl h))))) (fun h => h.elim (fun h => hh (Or.inr (Or.inr (Or.inr (Or.inr (Or.inl h)))))) (fun h => h.elim (fun h => hh (Or.inr (Or.inr (Or.inr (Or.inr (Or.inr (Or.inl h))))))) (fun h => hh (Or.inr (Or.inr (Or.inr (Or.inr (Or.inr (Or.inr h)))))))))))))]) (by omega) (by first | exact hq2 | exact hq | exact cq_add zzp1 zzp2 (by omega) (cq_s hq2 (by fail) (by fail)) (by omega) | exact cq_s hq2 (by rfl) (by rfl)) (by omega)
            · skip
              refine r_aload_n i_27_106 rfl ?_
              refine r_getF (v := .ref (y + 1)) i_27_107 rfl (Ly_0 hly hy) (Ry_0_0 hF hy) ?_
              refine r_iload i_27_110 rfl ?_
              refine r_aload_n i_27_112 rfl ?_
              refine r_getF (v := .ref 41) i_27_113 rfl (hly 31 _ rfl) (hF.1 31 7 41 rfl) ?_
              refine r_iconst i_27_116 ?_
              refine r_iload i_27_117 rfl ?_
              refine r_copyQ i_27_119 (by decide +kernel) (by decide +kernel) (Nat.le_of_ble_eq_true rfl) (Ly_1 hly hy) (hly 41 _ rfl) (by omega) (by omega) (by omega) (fun i => Ay_1 hA25 hy i) (fun A_18 eA_18 => ?_)
              have hA_18 : AQ A_18 := by rw [eA_18]; exact F_41 hA25 (fun k => by (try dsimp only); split; exact (fun i => Ay_1 hA25 hy i) _; exact a_41 hA25 k)
              have fc18 : ∀ a, ¬ (a = 41) → A_18 a = A25 a := fun a hh => by rw [eA_18]; exact up1_n hh
              refine r_aload i_27_122 rfl ?_
              refine r_getF (v := .ref (x + 10)) i_27_124 rfl (Lx_9 hly hx) (Rx_9_0 hF hx) ?_
              refine r_aload i_27_127 rfl ?_
              refine r_iload i_27_129 rfl ?_
              refine r_cV (as := [V k]) i_27_131 rfl (by decide +kernel) (Nat.le_of_ble_eq_true rfl) (Nat.le_of_ble_eq_true rfl) (Lx_9 hly hx) rfl ?_
              refine c_16 (f := x + 9) (index := k) hly hF hG hA_18 (by omega) (fun r_19 p19_0 => ?_)
              show Re L xs 27 134 [(0, .ref 31), (1, V word), (2, .ref y), (3, .ref x), (4, V (A (y + 2) (word.toNat))), (5, V (A (y + 3) (word.toNat))), (6, .ref (x + 9)), (7, V k), (8, V (A (x + 11) (k.toNat))), (9, V (((A (y + 2) (word.toNat)) + (A (y + 3) (word.toNat))) - (A (x + 11) (k.toNat))))] [V r_19, .ref (x + 10)] (HP ly F G A_18 B) _
              refine r_aload_n i_27_134 rfl ?_
              refine r_getF (v := .ref 41) i_27_135 rfl (hly 31 _ rfl) (hF.1 31 7 41 rfl) ?_
              refine r_iload i_27_138 rfl ?_
              refine r_iload i_27_140 rfl ?_
              refine r_isub i_27_142 ?_
              refine r_iload i_27_143 rfl ?_
              refine r_copyQ i_27_145 (by decide +kernel) (by decide +kernel) (Nat.le_of_ble_eq_true rfl) (Lx_10 hly hx) (hly 41 _ rfl) (by omega) (by omega) (by omega) (fun i => Ax_10 hA_18 hx i) (fun A_20 eA_20 => ?_)
              have hA_20 : AQ A_20 := by rw [eA_20]; exact F_41 hA_18 (fun k => by (try dsimp only); split; exact (fun i => Ax_10 hA_18 hx i) _; exact a_41 hA_18 k)
              have fc20 : ∀ a, ¬ (a = 41) → A_20 a = A_18 a := fun a hh => by rw [eA_20]; exact up1_n hh
              refine r_aload_n i_27_148 rfl ?_
              refine r_iload_n i_27_149 rfl ?_
              refine r_aload_n i_27_150 rfl ?_
              refine r_getF (v := .ref 41) i_27_151 rfl (hly 31 _ rfl) (hF.1 31 7 41 rfl) ?_
              refine r_iconst i_27_154 ?_
              refine r_iload i_27_155 rfl ?_
              refine r_cV (as := [V (A (y + 3) (word.toNat)), V 0, .ref 41, V word]) i_27_157 rfl (by decide +kernel) (Nat.le_of_ble_eq_true rfl) (Nat.le_of_ble_eq_true rfl) (hly 31 _ rfl) rfl ?_
              refine c_28 (word := word) (ta := 41) (at' := 0) (length := A (y + 3) (word.toNat)) (tn := 12) hly hF hG hA_20 (by omega) (by omega) (by omega) (by omega) (by exact hly 41 _ rfl) (by exact fun i => a_41 hA_20 i) (by omega) (by omega) (by omega) (fun r_21 p21_0 p21_1 => ?_)
              show Re L xs 27 160 [(0, .ref 31), (1, V word), (2, .ref y), (3, .ref x), (4, V (A (y + 2) (word.toNat))), (5, V (A (y + 3) (word.toNat))), (6, .ref (x + 9)), (7, V k), (8, V (A (x + 11) (k.toNat))), (9, V (((A (y + 2) (word.toNat)) + (A (y + 3) (word.toNat))) - (A (x + 11) (k.toNat))))] [V r_21] (HP ly F G A_20 B) _
              refine r_eq0 (t := 190) i_27_160 (by decide) (by omega) (fun u_22 => ?_) (fun u_22 => ?_)
              · skip
                refine r_iinc (l' := [(0, .ref 31), (1, V word), (2, .ref y), (3, .ref x), (4, V (A (y + 2) (word.toNat))), (5, V (A (y + 3) (word.toNat))), (6, .ref (x + 9)), (7, V (k + 1)), (8, V (A (x + 11) (k.toNat))), (9, V (((A (y + 2) (word.toNat)) + (A (y + 3) (word.toNat))) - (A (x + 11) (k.toNat))))]) i_27_190 rfl (by decide +kernel) rfl ?_
                refine r_go (t := 25) i_27_193 (by decide) ?_
                exact ih25B (k + 1) (A (x + 11) (k.toNat)) (((A (y + 2) (word.toNat)) + (A (y + 3) (word.toNat))) - (A (x + 11) (k.toNat))) A_20 hA_20 (by intro a hh; rw [fc20 a (by omega), fc18 a (by omega), fa25 a (fun h => h.elim (fun h => hh (Or.inl h)) (fun h => h.elim (fun h => hh (Or.inr (Or.inl h))) (fun h => h.elim (fun h => hh (Or.inr (Or.inr (Or.inl h)))) (fun h => h.elim (fun h => hh (Or.inr (Or.inr (Or.inr (Or.inl h))))) (fun h => h.elim (fun h => hh (Or.inr (Or.inr (Or.inr (Or.inr (Or.inl h)))))) (fun h => h.elim (fun h => hh (Or.inr (Or.inr (Or.inr (Or.inr (Or.inr (Or.inl h))))))) (fun h => hh (Or.inr (Or.inr (Or.inr (Or.inr (Or.inr (Or.inr h)))))))))))))]) (by omega) (by first | exact hq2 | exact hq | exact cq_add zzp1 zzp2 (by omega) (cq_s hq2 (by fail) (by fail)) (by omega) | exact cq_s hq2 (by rw [fc20 32 (by omega), fc18 32 (by omega)]) (by rw [fc20 40 (by omega), fc18 40 (by omega)])) (by omega)
              · skip
                refine r_aload_n i_27_163 rfl ?_
                refine r_iload_n i_27_164 rfl ?_
                refine r_aload_n i_27_165 rfl ?_
                refine r_getF (v := .ref 41) i_27_166 rfl (hly 31 _ rfl) (hF.1 31 7 41 rfl) ?_
                refine r_iconst i_27_169 ?_
                refine r_iload i_27_170 rfl ?_
                refine r_aload_n i_27_172 rfl ?_
                refine r_getF (v := .ref (x + 12)) i_27_173 rfl (Lx_0 hly hx) (Rx_0_7 hF hx) ?_
                refine r_iload i_27_176 rfl ?_
                refine r_iald i_27_178 (Lx_12 hly hx) (by omega) (by omega) (by omega) ?_
                rw [show A_20 (x + 12) = A (x + 12) from by rw [fc20 (x + 12) (by omega), fc18 (x + 12) (by omega), fa25 (x + 12) (by omega)]]
                have q_23 := Ax_12 hA hx (k.toNat)
                refine r_aload_n i_27_179 rfl ?_
                refine r_getF (v := .ref (x + 13)) i_27_180 rfl (Lx_0 hly hx) (Rx_0_8 hF hx) ?_
                refine r_iload i_27_183 rfl ?_
                refine r_iald i_27_185 (Lx_13 hly hx) (by omega) (by omega) (by omega) ?_
                rw [show A_20 (x + 13) = A (x + 13) from by rw [fc20 (x + 13) (by omega), fc18 (x + 13) (by omega), fa25 (x + 13) (by omega)]]
                have q_24 := Ax_13 hA hx (k.toNat)
                have z186 := a_32 hA_20 word.toNat
                refine r_cV (as := [V (A (x + 13) (k.toNat)), V (A (x + 12) (k.toNat)), V (A (y + 3) (word.toNat)), V 0, .ref 41, V word]) i_27_186 rfl (by decide +kernel) (Nat.le_of_ble_eq_true rfl) (Nat.le_of_ble_eq_true rfl) (hly 31 _ rfl) rfl ?_
                refine c_18 (word := word) (ta := 41) (at' := 0) (length := A (y + 3) (word.toNat)) (kind := A (x + 12) (k.toNat)) (cost := A (x + 13) (k.toNat)) (tn := 12) hly hF hG hA_20 (by omega) (by omega) (by omega) (by omega) (by omega) (by omega) (by exact hly 41 _ rfl) (by exact fun i => a_41 hA_20 i) (by omega) (by omega) (by omega) (by omega) (by omega) (fun r_25 A_26 hA_26 fa26 p26_0 p26_1 p26_2 => ?_)
                show Re L xs 27 189 [(0, .ref 31), (1, V word), (2, .ref y), (3, .ref x), (4, V (A (y + 2) (word.toNat))), (5, V (A (y + 3) (word.toNat))), (6, .ref (x + 9)), (7, V k), (8, V (A (x + 11) (k.toNat))), (9, V (((A (y + 2) (word.toNat)) + (A (y + 3) (word.toNat))) - (A (x + 11) (k.toNat))))] [V r_25] (HP ly F G A_26 B) _
                refine re_nx i_27_189 rfl ?_
                refine r_iinc (l' := [(0, .ref 31), (1, V word), (2, .ref y), (3, .ref x), (4, V (A (y + 2) (word.toNat))), (5, V (A (y + 3) (word.toNat))), (6, .ref (x + 9)), (7, V (k + 1)), (8, V (A (x + 11) (k.toNat))), (9, V (((A (y + 2) (word.toNat)) + (A (y + 3) (word.toNat))) - (A (x + 11) (k.toNat))))]) i_27_190 rfl (by decide +kernel) rfl ?_
                refine r_go (t := 25) i_27_193 (by decide) ?_
                exact ih25B (k + 1) (A (x + 11) (k.toNat)) (((A (y + 2) (word.toNat)) + (A (y + 3) (word.toNat))) - (A (x + 11) (k.toNat))) A_26 hA_26 (by intro a hh; rw [fa26 a (fun h => h.elim (fun h => hh (Or.inl h)) (fun h => h.elim (fun h => hh (Or.inr (Or.inl h))) (fun h => h.elim (fun h => hh (Or.inr (Or.inr (Or.inl h)))) (fun h => h.elim (fun h => hh (Or.inr (Or.inr (Or.inr (Or.inl h))))) (fun h => h.elim (fun h => hh (Or.inr (Or.inr (Or.inr (Or.inr (Or.inl h)))))) (fun h => hh (Or.inr (Or.inr (Or.inr (Or.inr (Or.inr (Or.inl h)))))))))))), fc20 a (by omega), fc18 a (by omega), fa25 a (fun h => h.elim (fun h => hh (Or.inl h)) (fun h => h.elim (fun h => hh (Or.inr (Or.inl h))) (fun h => h.elim (fun h => hh (Or.inr (Or.inr (Or.inl h)))) (fun h => h.elim (fun h => hh (Or.inr (Or.inr (Or.inr (Or.inl h))))) (fun h => h.elim (fun h => hh (Or.inr (Or.inr (Or.inr (Or.inr (Or.inl h)))))) (fun h => h.elim (fun h => hh (Or.inr (Or.inr (Or.inr (Or.inr (Or.inr (Or.inl h))))))) (fun h => hh (Or.inr (Or.inr (Or.inr (Or.inr (Or.inr (Or.inr h)))))))))))))]) (by omega) (by first | exact hq2 | exact hq | exact cq_add p26_1 p26_2 (by omega) (cq_s hq2 (by rw [fc20 32 (by omega), fc18 32 (by omega)]) (by rw [fc20 40 (by omega), fc18 40 (by omega)])) (by omega) | exact cq_s hq2 (by fail) (by fail)) (by omega)
  have lp25A7 : ∀ (nf : Nat) (k : Int) (A25 : Nat → Nat → Int), (AQ A25) → (∀ a, ¬ (a = 32 ∨ a = 35 ∨ a = 36 ∨ a = 37 ∨ a = 38 ∨ a = 40 ∨ a = 41) → A25 a = A a) → (0 ≤ k ∧ k ≤ 20) → (cqQ A0 A25 word.toNat (G (x + 1) 2)) → (20 - k).toNat < nf → Re L xs 27 25 [(0, .ref 31), (1, V word), (2, .ref y), (3, .ref x), (4, V (A (y + 2) (word.toNat))), (5, V (A (y + 3) (word.toNat))), (6, .ref (x + 9)), (7, V k)] [] (HP ly F G A25 B) Q := by
    intro nf
    induction nf with
    | zero => intros; omega
    | succ nf ih25A7 =>
      intro k A25 hA25 fa25 hk hq2 hm25
      refine r_iload i_27_25 rfl ?_
      refine r_aload i_27_27 rfl ?_
      refine r_getI i_27_29 rfl (Lx_9 hly hx) ?_
      have q_27 := Gx_9_2 hG hx
      refine r_cge (t := 196) i_27_32 (by decide) (by omega) (by omega) (fun u_28 => ?_) (fun u_28 => ?_)
      · skip
        refine r_aload_n i_27_196 rfl ?_
        refine r_iload_n i_27_197 rfl ?_
        refine r_aload_n i_27_198 rfl ?_
        refine r_getF (v := .ref (y + 1)) i_27_199 rfl (Ly_0 hly hy) (Ry_0_0 hF hy) ?_
        refine r_iload i_27_202 rfl ?_
        refine r_iload i_27_204 rfl ?_
        refine r_cV (as := [V (A (y + 3) (word.toNat)), V (A (y + 2) (word.toNat)), .ref (y + 1), V word]) i_27_206 rfl (by decide +kernel) (Nat.le_of_ble_eq_true rfl) (Nat.le_of_ble_eq_true rfl) (hly 31 _ rfl) rfl ?_
        refine c_28 (word := word) (ta := y + 1) (at' := A (y + 2) (word.toNat)) (length := A (y + 3) (word.toNat)) (tn := 200) hly hF hG hA25 (by omega) (by omega) (by omega) (by omega) (by exact Ly_1 hly hy) (by exact fun i => Ay_1 hA25 hy i) (by omega) (by omega) (by omega) (fun r_29 p29_0 p29_1 => ?_)
        show Re L xs 27 209 [(0, .ref 31), (1, V word), (2, .ref y), (3, .ref x), (4, V (A (y + 2) (word.toNat))), (5, V (A (y + 3) (word.toNat))), (6, .ref (x + 9)), (7, V k)] [V r_29] (HP ly F G A25 B) _
        refine r_eq0 (t := 234) i_27_209 (by decide) (by omega) (fun u_30 => ?_) (fun u_30 => ?_)
        · skip
          exact r_vret i_27_234 rfl (K A25 hA25 (by intro a hh; rw [fa25 a (fun h => h.elim (fun h => hh (Or.inl h)) (fun h => h.elim (fun h => hh (Or.inr (Or.inl h))) (fun h => h.elim (fun h => hh (Or.inr (Or.inr (Or.inl h)))) (fun h => h.elim (fun h => hh (Or.inr (Or.inr (Or.inr (Or.inl h))))) (fun h => h.elim (fun h => hh (Or.inr (Or.inr (Or.inr (Or.inr (Or.inl h)))))) (fun h => h.elim (fun h => hh (Or.inr (Or.inr (Or.inr (Or.inr (Or.inr (Or.inl h))))))) (fun h => hh (Or.inr (Or.inr (Or.inr (Or.inr (Or.inr (Or.inr h)))))))))))))]) (by first | exact hq2 | exact cq_add zzp1 zzp2 (by omega) hq2 (by omega)) (by first | exact p29_1 (by omega) | exact ad_pos zzp1 zzp2 (by omega)))
        · skip
          refine r_aload_n i_27_212 rfl ?_
          refine r_iload_n i_27_213 rfl ?_
          refine r_aload_n i_27_214 rfl ?_
          refine r_getF (v := .ref (y + 1)) i_27_215 rfl (Ly_0 hly hy) (Ry_0_0 hF hy) ?_
          refine r_iload i_27_218 rfl ?_
          refine r_iload i_27_220 rfl ?_
          refine r_aload_n i_27_222 rfl ?_
          refine r_getI i_27_223 rfl (Lx_0 hly hx) ?_
          have q_31 := Gx_0_14 hG hx
          refine r_aload_n i_27_226 rfl ?_
          refine r_getI i_27_227 rfl (Lx_0 hly hx) ?_
          have q_32 := Gx_0_15 hG hx
          have z230 := a_32 hA25 word.toNat
          refine r_cV (as := [V (G x 15), V (G x 14), V (A (y + 3) (word.toNat)), V (A (y + 2) (word.toNat)), .ref (y + 1), V word]) i_27_230 rfl (by decide +kernel) (Nat.le_of_ble_eq_true rfl) (Nat.le_of_ble_eq_true rfl) (hly 31 _ rfl) rfl ?_
          refine c_18 (word := word) (ta := y + 1) (at' := A (y + 2) (word.toNat)) (length := A (y + 3) (word.toNat)) (kind := G x 14) (cost := G x 15) (tn := 200) hly hF hG hA25 (by omega) (by omega) (by omega) (by omega) (by omega) (by omega) (by exact Ly_1 hly hy) (by exact fun i => Ay_1 hA25 hy i) (by omega) (by omega) (by omega) (by omega) (by omega) (fun r_33 A_34 hA_34 fa34 p34_0 p34_1 p34_2 => ?_)
          show Re L xs 27 233 [(0, .ref 31), (1, V word), (2, .ref y), (3, .ref x), (4, V (A (y + 2) (word.toNat))), (5, V (A (y + 3) (word.toNat))), (6, .ref (x + 9)), (7, V k)] [V r_33] (HP ly F G A_34 B) _
          refine re_nx i_27_233 rfl ?_
          exact r_vret i_27_234 rfl (K A_34 hA_34 (by intro a hh; rw [fa34 a (fun h => h.elim (fun h => hh (Or.inl h)) (fun h => h.elim (fun h => hh (Or.inr (Or.inl h))) (fun h => h.elim (fun h => hh (Or.inr (Or.inr (Or.inl h)))) (fun h => h.elim (fun h => hh (Or.inr (Or.inr (Or.inr (Or.inl h))))) (fun h => h.elim (fun h => hh (Or.inr (Or.inr (Or.inr (Or.inr (Or.inl h)))))) (fun h => hh (Or.inr (Or.inr (Or.inr (Or.inr (Or.inr (Or.inl h)))))))))))), fa25 a (fun h => h.elim (fun h => hh (Or.inl h)) (fun h => h.elim (fun h => hh (Or.inr (Or.inl h))) (fun h => h.elim (fun h => hh (Or.inr (Or.inr (Or.inl h)))) (fun h => h.elim (fun h => hh (Or.inr (Or.inr (Or.inr (Or.inl h))))) (fun h => h.elim (fun h => hh (Or.inr (Or.inr (Or.inr (Or.inr (Or.inl h)))))) (fun h => h.elim (fun h => hh (Or.inr (Or.inr (Or.inr (Or.inr (Or.inr (Or.inl h))))))) (fun h => hh (Or.inr (Or.inr (Or.inr (Or.inr (Or.inr (Or.inr h)))))))))))))]) (by first | exact hq2 | exact cq_add p34_1 p34_2 (by omega) hq2 (by omega)) (by first | exact p29_1 (by omega) | exact ad_pos p34_1 p34_2 (by omega)))
      · skip
        refine r_aload i_27_35 rfl ?_
        refine r_getF (v := .ref (x + 11)) i_27_37 rfl (Lx_9 hly hx) (Rx_9_1 hF hx) ?_
        refine r_iload i_27_40 rfl ?_
        refine r_iald i_27_42 (Lx_11 hly hx) (by omega) (by omega) (by omega) ?_
        rw [show A25 (x + 11) = A (x + 11) from by rw [fa25 (x + 11) (by omega)]]
        have q_35 := Ax_11 hA hx (k.toNat)
        refine r_istore (l' := [(0, .ref 31), (1, V word), (2, .ref y), (3, .ref x), (4, V (A (y + 2) (word.toNat))), (5, V (A (y + 3) (word.toNat))), (6, .ref (x + 9)), (7, V k), (8, V (A (x + 11) (k.toNat)))]) i_27_43 (by decide +kernel) rfl ?_
        refine r_iload i_27_45 rfl ?_
        refine r_iload i_27_47 rfl ?_
        refine r_iadd i_27_49 ?_
        refine r_iload i_27_50 rfl ?_
        refine r_isub i_27_52 ?_
        refine r_istore (l' := [(0, .ref 31), (1, V word), (2, .ref y), (3, .ref x), (4, V (A (y + 2) (word.toNat))), (5, V (A (y + 3) (word.toNat))), (6, .ref (x + 9)), (7, V k), (8, V (A (x + 11) (k.toNat))), (9, V (((A (y + 2) (word.toNat)) + (A (y + 3) (word.toNat))) - (A (x + 11) (k.toNat))))]) i_27_53 (by decide +kernel) rfl ?_
        refine r_iload i_27_55 rfl ?_
        refine r_iload i_27_57 rfl ?_
        refine r_cgt (t := 190) i_27_59 (by decide) (by omega) (by omega) (fun u_36 => ?_) (fun u_36 => ?_)
        · skip
          refine r_iinc (l' := [(0, .ref 31), (1, V word), (2, .ref y), (3, .ref x), (4, V (A (y + 2) (word.toNat))), (5, V (A (y + 3) (word.toNat))), (6, .ref (x + 9)), (7, V (k + 1)), (8, V (A (x + 11) (k.toNat))), (9, V (((A (y + 2) (word.toNat)) + (A (y + 3) (word.toNat))) - (A (x + 11) (k.toNat))))]) i_27_190 rfl (by decide +kernel) rfl ?_
          refine r_go (t := 25) i_27_193 (by decide) ?_
          exact lp25B _ (k + 1) (A (x + 11) (k.toNat)) (((A (y + 2) (word.toNat)) + (A (y + 3) (word.toNat))) - (A (x + 11) (k.toNat))) A25 hA25 (by intro a hh; rw [fa25 a (fun h => h.elim (fun h => hh (Or.inl h)) (fun h => h.elim (fun h => hh (Or.inr (Or.inl h))) (fun h => h.elim (fun h => hh (Or.inr (Or.inr (Or.inl h)))) (fun h => h.elim (fun h => hh (Or.inr (Or.inr (Or.inr (Or.inl h))))) (fun h => h.elim (fun h => hh (Or.inr (Or.inr (Or.inr (Or.inr (Or.inl h)))))) (fun h => h.elim (fun h => hh (Or.inr (Or.inr (Or.inr (Or.inr (Or.inr (Or.inl h))))))) (fun h => hh (Or.inr (Or.inr (Or.inr (Or.inr (Or.inr (Or.inr h)))))))))))))]) (by omega) (by first | exact hq2 | exact hq | exact cq_add zzp1 zzp2 (by omega) (cq_s hq2 (by fail) (by fail)) (by omega) | exact cq_s hq2 (by rfl) (by rfl)) (Nat.lt_succ_self _)
        · skip
          refine r_aload i_27_62 rfl ?_
          refine r_iload i_27_64 rfl ?_
          refine r_aload_n i_27_66 rfl ?_
          refine r_getF (v := .ref (y + 1)) i_27_67 rfl (Ly_0 hly hy) (Ry_0_0 hF hy) ?_
          refine r_iload i_27_70 rfl ?_
          refine r_iload i_27_72 rfl ?_
          refine r_cV (as := [V (A (x + 11) (k.toNat)), V (((A (y + 2) (word.toNat)) + (A (y + 3) (word.toNat))) - (A (x + 11) (k.toNat))), .ref (y + 1), V k]) i_27_74 rfl (by decide +kernel) (Nat.le_of_ble_eq_true rfl) (Nat.le_of_ble_eq_true rfl) (Lx_9 hly hx) rfl ?_
          refine c_21 (f := x + 9) (index := k) (ta := y + 1) (at' := ((A (y + 2) (word.toNat)) + (A (y + 3) (word.toNat))) - (A (x + 11) (k.toNat))) (length := A (x + 11) (k.toNat)) (cap := 20) (tn := 200) hly hF hG hA25 (by omega) (by omega) (by omega) (by exact Fm_e hx) (by omega) (by exact Ly_1 hly hy) (by exact fun i => Ay_1 hA25 hy i) (by omega) (by omega) (by omega) (fun r_37 p37_0 => ?_)
          show Re L xs 27 77 [(0, .ref 31), (1, V word), (2, .ref y), (3, .ref x), (4, V (A (y + 2) (word.toNat))), (5, V (A (y + 3) (word.toNat))), (6, .ref (x + 9)), (7, V k), (8, V (A (x + 11) (k.toNat))), (9, V (((A (y + 2) (word.toNat)) + (A (y + 3) (word.toNat))) - (A (x + 11) (k.toNat))))] [V r_37] (HP ly F G A25 B) _
          refine r_eq0 (t := 190) i_27_77 (by decide) (by omega) (fun u_38 => ?_) (fun u_38 => ?_)
          · skip
            refine r_iinc (l' := [(0, .ref 31), (1, V word), (2, .ref y), (3, .ref x), (4, V (A (y + 2) (word.toNat))), (5, V (A (y + 3) (word.toNat))), (6, .ref (x + 9)), (7, V (k + 1)), (8, V (A (x + 11) (k.toNat))), (9, V (((A (y + 2) (word.toNat)) + (A (y + 3) (word.toNat))) - (A (x + 11) (k.toNat))))]) i_27_190 rfl (by decide +kernel) rfl ?_
            refine r_go (t := 25) i_27_193 (by decide) ?_
            exact lp25B _ (k + 1) (A (x + 11) (k.toNat)) (((A (y + 2) (word.toNat)) + (A (y + 3) (word.toNat))) - (A (x + 11) (k.toNat))) A25 hA25 (by intro a hh; rw [fa25 a (fun h => h.elim (fun h => hh (Or.inl h)) (fun h => h.elim (fun h => hh (Or.inr (Or.inl h))) (fun h => h.elim (fun h => hh (Or.inr (Or.inr (Or.inl h)))) (fun h => h.elim (fun h => hh (Or.inr (Or.inr (Or.inr (Or.inl h))))) (fun h => h.elim (fun h => hh (Or.inr (Or.inr (Or.inr (Or.inr (Or.inl h)))))) (fun h => h.elim (fun h => hh (Or.inr (Or.inr (Or.inr (Or.inr (Or.inr (Or.inl h))))))) (fun h => hh (Or.inr (Or.inr (Or.inr (Or.inr (Or.inr (Or.inr h)))))))))))))]) (by omega) (by first | exact hq2 | exact hq | exact cq_add zzp1 zzp2 (by omega) (cq_s hq2 (by fail) (by fail)) (by omega) | exact cq_s hq2 (by rfl) (by rfl)) (Nat.lt_succ_self _)
          · skip
            refine r_aload i_27_80 rfl ?_
            refine r_getF (v := .ref (x + 10)) i_27_82 rfl (Lx_9 hly hx) (Rx_9_0 hF hx) ?_
            refine r_aload i_27_85 rfl ?_
            refine r_iload i_27_87 rfl ?_
            refine r_cV (as := [V k]) i_27_89 rfl (by decide +kernel) (Nat.le_of_ble_eq_true rfl) (Nat.le_of_ble_eq_true rfl) (Lx_9 hly hx) rfl ?_
            refine c_16 (f := x + 9) (index := k) hly hF hG hA25 (by omega) (fun r_39 p39_0 => ?_)
            show Re L xs 27 92 [(0, .ref 31), (1, V word), (2, .ref y), (3, .ref x), (4, V (A (y + 2) (word.toNat))), (5, V (A (y + 3) (word.toNat))), (6, .ref (x + 9)), (7, V k), (8, V (A (x + 11) (k.toNat))), (9, V (((A (y + 2) (word.toNat)) + (A (y + 3) (word.toNat))) - (A (x + 11) (k.toNat))))] [V r_39, .ref (x + 10)] (HP ly F G A25 B) _
            refine r_aload_n i_27_92 rfl ?_
            refine r_getF (v := .ref (y + 1)) i_27_93 rfl (Ly_0 hly hy) (Ry_0_0 hF hy) ?_
            refine r_iload i_27_96 rfl ?_
            refine r_iload i_27_98 rfl ?_
            refine r_cS (as := [V (A (x + 11) (k.toNat)), V (((A (y + 2) (word.toNat)) + (A (y + 3) (word.toNat))) - (A (x + 11) (k.toNat))), .ref (y + 1), V r_39, .ref (x + 10)]) i_27_100 rfl (by decide +kernel) (Nat.le_of_ble_eq_true rfl) (Nat.le_of_ble_eq_true rfl) ?_
            refine c_25 (ra := x + 10) (p := r_39) (rc := y + 1) (q := ((A (y + 2) (word.toNat)) + (A (y + 3) (word.toNat))) - (A (x + 11) (k.toNat))) (n := A (x + 11) (k.toNat)) (capa := 240) (capc := 200) hly hF hG hA25 (by omega) (by omega) (by omega) (by exact Lx_10 hly hx) (by exact Ly_1 hly hy) (by exact fun i => Ax_10 hA25 hx i) (by exact fun i => Ay_1 hA25 hy i) (by omega) (by omega) (by omega) (fun r_40 p40_0 => ?_)
            show Re L xs 27 103 [(0, .ref 31), (1, V word), (2, .ref y), (3, .ref x), (4, V (A (y + 2) (word.toNat))), (5, V (A (y + 3) (word.toNat))), (6, .ref (x + 9)), (7, V k), (8, V (A (x + 11) (k.toNat))), (9, V (((A (y + 2) (word.toNat)) + (A (y + 3) (word.toNat))) - (A (x + 11) (k.toNat))))] [V r_40] (HP ly F G A25 B) _
            refine r_eq0 (t := 190) i_27_103 (by decide) (by omega) (fun u_41 => ?_) (fun u_41 => ?_)
            · skip
              refine r_iinc (l' := [(0, .ref 31), (1, V word), (2, .ref y), (3, .ref x), (4, V (A (y + 2) (word.toNat))), (5, V (A (y + 3) (word.toNat))), (6, .ref (x + 9)), (7, V (k + 1)), (8, V (A (x + 11) (k.toNat))), (9, V (((A (y + 2) (word.toNat)) + (A (y + 3) (word.toNat))) - (A (x + 11) (k.toNat))))]) i_27_190 rfl (by decide +kernel) rfl ?_
              refine r_go (t := 25) i_27_193 (by decide) ?_
              exact lp25B _ (k + 1) (A (x + 11) (k.toNat)) (((A (y + 2) (word.toNat)) + (A (y + 3) (word.toNat))) - (A (x + 11) (k.toNat))) A25 hA25 (by intro a hh; rw [fa25 a (fun h => h.elim (fun h => hh (Or.inl h)) (fun h => h.elim (fun h => hh (Or.inr (Or.inl h))) (fun h => h.elim (fun h => hh (Or.inr (Or.inr (Or.inl h)))) (fun h => h.elim (fun h => hh (Or.inr (Or.inr (Or.inr (Or.inl h))))) (fun h => h.elim (fun h => hh (Or.inr (Or.inr (Or.inr (Or.inr (Or.inl h)))))) (fun h => h.elim (fun h => hh (Or.inr (Or.inr (Or.inr (Or.inr (Or.inr (Or.inl h))))))) (fun h => hh (Or.inr (Or.inr (Or.inr (Or.inr (Or.inr (Or.inr h)))))))))))))]) (by omega) (by first | exact hq2 | exact hq | exact cq_add zzp1 zzp2 (by omega) (cq_s hq2 (by fail) (by fail)) (by omega) | exact cq_s hq2 (by rfl) (by rfl)) (Nat.lt_succ_self _)
            · skip
              refine r_aload_n i_27_106 rfl ?_
              refine r_getF (v := .ref (y + 1)) i_27_107 rfl (Ly_0 hly hy) (Ry_0_0 hF hy) ?_
              refine r_iload i_27_110 rfl ?_
              refine r_aload_n i_27_112 rfl ?_
              refine r_getF (v := .ref 41) i_27_113 rfl (hly 31 _ rfl) (hF.1 31 7 41 rfl) ?_
              refine r_iconst i_27_116 ?_
              refine r_iload i_27_117 rfl ?_
              refine r_copyQ i_27_119 (by decide +kernel) (by decide +kernel) (Nat.le_of_ble_eq_true rfl) (Ly_1 hly hy) (hly 41 _ rfl) (by omega) (by omega) (by omega) (fun i => Ay_1 hA25 hy i) (fun A_42 eA_42 => ?_)
              have hA_42 : AQ A_42 := by rw [eA_42]; exact F_41 hA25 (fun k => by (try dsimp only); split; exact (fun i => Ay_1 hA25 hy i) _; exact a_41 hA25 k)
              have fc42 : ∀ a, ¬ (a = 41) → A_42 a = A25 a := fun a hh => by rw [eA_42]; exact up1_n hh
              refine r_aload i_27_122 rfl ?_
              refine r_getF (v := .ref (x + 10)) i_27_124 rfl (Lx_9 hly hx) (Rx_9_0 hF hx) ?_
              refine r_aload i_27_127 rfl ?_
              refine r_iload i_27_129 rfl ?_
              refine r_cV (as := [V k]) i_27_131 rfl (by decide +kernel) (Nat.le_of_ble_eq_true rfl) (Nat.le_of_ble_eq_true rfl) (Lx_9 hly hx) rfl ?_
              refine c_16 (f := x + 9) (index := k) hly hF hG hA_42 (by omega) (fun r_43 p43_0 => ?_)
              show Re L xs 27 134 [(0, .ref 31), (1, V word), (2, .ref y), (3, .ref x), (4, V (A (y + 2) (word.toNat))), (5, V (A (y + 3) (word.toNat))), (6, .ref (x + 9)), (7, V k), (8, V (A (x + 11) (k.toNat))), (9, V (((A (y + 2) (word.toNat)) + (A (y + 3) (word.toNat))) - (A (x + 11) (k.toNat))))] [V r_43, .ref (x + 10)] (HP ly F G A_42 B) _
              refine r_aload_n i_27_134 rfl ?_
              refine r_getF (v := .ref 41) i_27_135 rfl (hly 31 _ rfl) (hF.1 31 7 41 rfl) ?_
              refine r_iload i_27_138 rfl ?_
              refine r_iload i_27_140 rfl ?_
              refine r_isub i_27_142 ?_
              refine r_iload i_27_143 rfl ?_
              refine r_copyQ i_27_145 (by decide +kernel) (by decide +kernel) (Nat.le_of_ble_eq_true rfl) (Lx_10 hly hx) (hly 41 _ rfl) (by omega) (by omega) (by omega) (fun i => Ax_10 hA_42 hx i) (fun A_44 eA_44 => ?_)
              have hA_44 : AQ A_44 := by rw [eA_44]; exact F_41 hA_42 (fun k => by (try dsimp only); split; exact (fun i => Ax_10 hA_42 hx i) _; exact a_41 hA_42 k)
              have fc44 : ∀ a, ¬ (a = 41) → A_44 a = A_42 a := fun a hh => by rw [eA_44]; exact up1_n hh
              refine r_aload_n i_27_148 rfl ?_
              refine r_iload_n i_27_149 rfl ?_
              refine r_aload_n i_27_150 rfl ?_
              refine r_getF (v := .ref 41) i_27_151 rfl (hly 31 _ rfl) (hF.1 31 7 41 rfl) ?_
              refine r_iconst i_27_154 ?_
              refine r_iload i_27_155 rfl ?_
              refine r_cV (as := [V (A (y + 3) (word.toNat)), V 0, .ref 41, V word]) i_27_157 rfl (by decide +kernel) (Nat.le_of_ble_eq_true rfl) (Nat.le_of_ble_eq_true rfl) (hly 31 _ rfl) rfl ?_
              refine c_28 (word := word) (ta := 41) (at' := 0) (length := A (y + 3) (word.toNat)) (tn := 12) hly hF hG hA_44 (by omega) (by omega) (by omega) (by omega) (by exact hly 41 _ rfl) (by exact fun i => a_41 hA_44 i) (by omega) (by omega) (by omega) (fun r_45 p45_0 p45_1 => ?_)
              show Re L xs 27 160 [(0, .ref 31), (1, V word), (2, .ref y), (3, .ref x), (4, V (A (y + 2) (word.toNat))), (5, V (A (y + 3) (word.toNat))), (6, .ref (x + 9)), (7, V k), (8, V (A (x + 11) (k.toNat))), (9, V (((A (y + 2) (word.toNat)) + (A (y + 3) (word.toNat))) - (A (x + 11) (k.toNat))))] [V r_45] (HP ly F G A_44 B) _
              refine r_eq0 (t := 190) i_27_160 (by decide) (by omega) (fun u_46 => ?_) (fun u_46 => ?_)
              · skip
                refine r_iinc (l' := [(0, .ref 31), (1, V word), (2, .ref y), (3, .ref x), (4, V (A (y + 2) (word.toNat))), (5, V (A (y + 3) (word.toNat))), (6, .ref (x + 9)), (7, V (k + 1)), (8, V (A (x + 11) (k.toNat))), (9, V (((A (y + 2) (word.toNat)) + (A (y + 3) (word.toNat))) - (A (x + 11) (k.toNat))))]) i_27_190 rfl (by decide +kernel) rfl ?_
                refine r_go (t := 25) i_27_193 (by decide) ?_
                exact lp25B _ (k + 1) (A (x + 11) (k.toNat)) (((A (y + 2) (word.toNat)) + (A (y + 3) (word.toNat))) - (A (x + 11) (k.toNat))) A_44 hA_44 (by intro a hh; rw [fc44 a (by omega), fc42 a (by omega), fa25 a (fun h => h.elim (fun h => hh (Or.inl h)) (fun h => h.elim (fun h => hh (Or.inr (Or.inl h))) (fun h => h.elim (fun h => hh (Or.inr (Or.inr (Or.inl h)))) (fun h => h.elim (fun h => hh (Or.inr (Or.inr (Or.inr (Or.inl h))))) (fun h => h.elim (fun h => hh (Or.inr (Or.inr (Or.inr (Or.inr (Or.inl h)))))) (fun h => h.elim (fun h => hh (Or.inr (Or.inr (Or.inr (Or.inr (Or.inr (Or.inl h))))))) (fun h => hh (Or.inr (Or.inr (Or.inr (Or.inr (Or.inr (Or.inr h)))))))))))))]) (by omega) (by first | exact hq2 | exact hq | exact cq_add zzp1 zzp2 (by omega) (cq_s hq2 (by fail) (by fail)) (by omega) | exact cq_s hq2 (by rw [fc44 32 (by omega), fc42 32 (by omega)]) (by rw [fc44 40 (by omega), fc42 40 (by omega)])) (Nat.lt_succ_self _)
              · skip
                refine r_aload_n i_27_163 rfl ?_
                refine r_iload_n i_27_164 rfl ?_
                refine r_aload_n i_27_165 rfl ?_
                refine r_getF (v := .ref 41) i_27_166 rfl (hly 31 _ rfl) (hF.1 31 7 41 rfl) ?_
                refine r_iconst i_27_169 ?_
                refine r_iload i_27_170 rfl ?_
                refine r_aload_n i_27_172 rfl ?_
                refine r_getF (v := .ref (x + 12)) i_27_173 rfl (Lx_0 hly hx) (Rx_0_7 hF hx) ?_
                refine r_iload i_27_176 rfl ?_
                refine r_iald i_27_178 (Lx_12 hly hx) (by omega) (by omega) (by omega) ?_
                rw [show A_44 (x + 12) = A (x + 12) from by rw [fc44 (x + 12) (by omega), fc42 (x + 12) (by omega), fa25 (x + 12) (by omega)]]
                have q_47 := Ax_12 hA hx (k.toNat)
                refine r_aload_n i_27_179 rfl ?_
                refine r_getF (v := .ref (x + 13)) i_27_180 rfl (Lx_0 hly hx) (Rx_0_8 hF hx) ?_
                refine r_iload i_27_183 rfl ?_
                refine r_iald i_27_185 (Lx_13 hly hx) (by omega) (by omega) (by omega) ?_
                rw [show A_44 (x + 13) = A (x + 13) from by rw [fc44 (x + 13) (by omega), fc42 (x + 13) (by omega), fa25 (x + 13) (by omega)]]
                have q_48 := Ax_13 hA hx (k.toNat)
                have z186 := a_32 hA_44 word.toNat
                refine r_cV (as := [V (A (x + 13) (k.toNat)), V (A (x + 12) (k.toNat)), V (A (y + 3) (word.toNat)), V 0, .ref 41, V word]) i_27_186 rfl (by decide +kernel) (Nat.le_of_ble_eq_true rfl) (Nat.le_of_ble_eq_true rfl) (hly 31 _ rfl) rfl ?_
                refine c_18 (word := word) (ta := 41) (at' := 0) (length := A (y + 3) (word.toNat)) (kind := A (x + 12) (k.toNat)) (cost := A (x + 13) (k.toNat)) (tn := 12) hly hF hG hA_44 (by omega) (by omega) (by omega) (by omega) (by omega) (by omega) (by exact hly 41 _ rfl) (by exact fun i => a_41 hA_44 i) (by omega) (by omega) (by omega) (by omega) (by omega) (fun r_49 A_50 hA_50 fa50 p50_0 p50_1 p50_2 => ?_)
                show Re L xs 27 189 [(0, .ref 31), (1, V word), (2, .ref y), (3, .ref x), (4, V (A (y + 2) (word.toNat))), (5, V (A (y + 3) (word.toNat))), (6, .ref (x + 9)), (7, V k), (8, V (A (x + 11) (k.toNat))), (9, V (((A (y + 2) (word.toNat)) + (A (y + 3) (word.toNat))) - (A (x + 11) (k.toNat))))] [V r_49] (HP ly F G A_50 B) _
                refine re_nx i_27_189 rfl ?_
                refine r_iinc (l' := [(0, .ref 31), (1, V word), (2, .ref y), (3, .ref x), (4, V (A (y + 2) (word.toNat))), (5, V (A (y + 3) (word.toNat))), (6, .ref (x + 9)), (7, V (k + 1)), (8, V (A (x + 11) (k.toNat))), (9, V (((A (y + 2) (word.toNat)) + (A (y + 3) (word.toNat))) - (A (x + 11) (k.toNat))))]) i_27_190 rfl (by decide +kernel) rfl ?_
                refine r_go (t := 25) i_27_193 (by decide) ?_
                exact lp25B _ (k + 1) (A (x + 11) (k.toNat)) (((A (y + 2) (word.toNat)) + (A (y + 3) (word.toNat))) - (A (x + 11) (k.toNat))) A_50 hA_50 (by intro a hh; rw [fa50 a (fun h => h.elim (fun h => hh (Or.inl h)) (fun h => h.elim (fun h => hh (Or.inr (Or.inl h))) (fun h => h.elim (fun h => hh (Or.inr (Or.inr (Or.inl h)))) (fun h => h.elim (fun h => hh (Or.inr (Or.inr (Or.inr (Or.inl h))))) (fun h => h.elim (fun h => hh (Or.inr (Or.inr (Or.inr (Or.inr (Or.inl h)))))) (fun h => hh (Or.inr (Or.inr (Or.inr (Or.inr (Or.inr (Or.inl h)))))))))))), fc44 a (by omega), fc42 a (by omega), fa25 a (fun h => h.elim (fun h => hh (Or.inl h)) (fun h => h.elim (fun h => hh (Or.inr (Or.inl h))) (fun h => h.elim (fun h => hh (Or.inr (Or.inr (Or.inl h)))) (fun h => h.elim (fun h => hh (Or.inr (Or.inr (Or.inr (Or.inl h))))) (fun h => h.elim (fun h => hh (Or.inr (Or.inr (Or.inr (Or.inr (Or.inl h)))))) (fun h => h.elim (fun h => hh (Or.inr (Or.inr (Or.inr (Or.inr (Or.inr (Or.inl h))))))) (fun h => hh (Or.inr (Or.inr (Or.inr (Or.inr (Or.inr (Or.inr h)))))))))))))]) (by omega) (by first | exact hq2 | exact hq | exact cq_add p50_1 p50_2 (by omega) (cq_s hq2 (by rw [fc44 32 (by omega), fc42 32 (by omega)]) (by rw [fc44 40 (by omega), fc42 40 (by omega)])) (by omega) | exact cq_s hq2 (by fail) (by fail)) (Nat.lt_succ_self _)
  exact lp25A7 _ 0 A hA (by intro a hh; rfl) (by omega) (by first | exact hq2 | exact hq | exact cq_add zzp1 zzp2 (by omega) (cq_s hq2 (by fail) (by fail)) (by omega) | exact cq_s hq2 (by fail) (by fail)) (Nat.lt_succ_self _)
