set_option maxHeartbeats 4000000 in
theorem c_14 {L : Nat} {xs : Nat → Int32} {ly : List LK} {F : Nat → Nat → Value} {G A : Nat → Nat → Int} {B : Nat → Nat → Int64} {Q : Option Value → AH → Prop} {word : Int} {y : Nat} {x : Nat} {settled : Int} (hly : LyOk ly) (hF : RfOk F) (hG : GO G) (hA : AQ A) (in_word : inR word) (in_settled : inR settled) (hx : x = 3 ∨ x = 61) (hy : y = 80 ∨ y = 85) (hw : 0 ≤ word ∧ word ≤ 13) (hl : A (y + 2) word.toNat + A (y + 3) word.toNat ≤ 200) (hs : -1 ≤ settled ∧ settled ≤ 79) (hs2 : settled < G (x + 1) 2 ∨ settled = -1) (K : ∀ (A' : Nat → Nat → Int), (AQ A') → (∀ a, ¬ (a = 32 ∨ a = 35 ∨ a = 36 ∨ a = 37 ∨ a = 38 ∨ a = 40 ∨ a = 33 ∨ a = 39 ∨ a = 41) → A' a = A a) → (cqQ A A' word.toNat (G (x + 1) 2)) → (1 ≤ A' 32 word.toNat) → Q none (HP ly F G A' B)) : Re L xs 14 0 [(0, .ref 31), (1, V word), (2, .ref y), (3, .ref x), (4, V settled)] [] (HP ly F G A B) Q := by
  have zc := Gx_1_2 hG hx
  refine r_aload_n i_14_0 rfl ?_
  refine r_getF (v := .ref (y + 2)) i_14_1 rfl (Ly_0 hly hy) (Ry_0_1 hF hy) ?_
  refine r_iload_n i_14_4 rfl ?_
  refine r_iald i_14_5 (Ly_2 hly hy) (by omega) (by omega) (by omega) ?_
  have q_1 := Ay_2 hA hy (word.toNat)
  refine r_istore (l' := [(0, .ref 31), (1, V word), (2, .ref y), (3, .ref x), (4, V settled), (5, V (A (y + 2) (word.toNat)))]) i_14_6 (by decide +kernel) rfl ?_
  refine r_aload_n i_14_8 rfl ?_
  refine r_getF (v := .ref (y + 3)) i_14_9 rfl (Ly_0 hly hy) (Ry_0_2 hF hy) ?_
  refine r_iload_n i_14_12 rfl ?_
  refine r_iald i_14_13 (Ly_3 hly hy) (by omega) (by omega) (by omega) ?_
  have q_2 := Ay_3 hA hy (word.toNat)
  refine r_istore (l' := [(0, .ref 31), (1, V word), (2, .ref y), (3, .ref x), (4, V settled), (5, V (A (y + 2) (word.toNat))), (6, V (A (y + 3) (word.toNat)))]) i_14_14 (by decide +kernel) rfl ?_
  refine r_aload_n i_14_16 rfl ?_
  refine r_getF (v := .ref 32) i_14_17 rfl (hly 31 _ rfl) (hF.1 31 0 32 rfl) ?_
  refine r_iload_n i_14_20 rfl ?_
  refine r_iconst i_14_21 ?_
  refine r_iastQ i_14_22 (hly 32 _ rfl) (by omega) (by omega) (by omega) (fun A_3 eA_3 => ?_)
  have hA_3 : AQ A_3 := by rw [eA_3]; exact au_32 hA (by omega) (by omega)
  have jn107 : ∀ (A107 : Nat → Nat → Int), (AQ A107) → (∀ a, ¬ (a = 32 ∨ a = 35 ∨ a = 36 ∨ a = 37 ∨ a = 38 ∨ a = 40 ∨ a = 41) → A107 a = A_3 a) → (cqQ A A107 word.toNat (G (x + 1) 2)) → (1 ≤ A107 32 word.toNat) → Re L xs 14 107 [(0, .ref 31), (1, V word), (2, .ref y), (3, .ref x), (4, V settled), (5, V (A (y + 2) (word.toNat))), (6, V (A (y + 3) (word.toNat)))] [] (HP ly F G A107 B) Q := by
    intro A107 hA107 fa107 hq hp1
    refine r_aload_n i_14_107 rfl ?_
    refine r_iload_n i_14_108 rfl ?_
    refine r_cV (as := [V word]) i_14_109 rfl (by decide +kernel) (Nat.le_of_ble_eq_true rfl) (Nat.le_of_ble_eq_true rfl) (hly 31 _ rfl) rfl ?_
    refine c_31 (word := word) hly hF hG hA107 (by omega) (by omega) (fun A_4 hA_4 fa4 => ?_)
    show Re L xs 14 112 [(0, .ref 31), (1, V word), (2, .ref y), (3, .ref x), (4, V settled), (5, V (A (y + 2) (word.toNat))), (6, V (A (y + 3) (word.toNat)))] [] (HP ly F G A_4 B) _
    exact r_vret i_14_112 rfl (K A_4 hA_4 (by intro a hh; rw [fa4 a (fun h => h.elim (fun h => hh (Or.inr (Or.inr (Or.inr (Or.inr (Or.inr (Or.inr (Or.inl h)))))))) (fun h => hh (Or.inr (Or.inr (Or.inr (Or.inr (Or.inr (Or.inr (Or.inr (Or.inl h)))))))))), fa107 a (fun h => h.elim (fun h => hh (Or.inl h)) (fun h => h.elim (fun h => hh (Or.inr (Or.inl h))) (fun h => h.elim (fun h => hh (Or.inr (Or.inr (Or.inl h)))) (fun h => h.elim (fun h => hh (Or.inr (Or.inr (Or.inr (Or.inl h))))) (fun h => h.elim (fun h => hh (Or.inr (Or.inr (Or.inr (Or.inr (Or.inl h)))))) (fun h => h.elim (fun h => hh (Or.inr (Or.inr (Or.inr (Or.inr (Or.inr (Or.inl h))))))) (fun h => hh (Or.inr (Or.inr (Or.inr (Or.inr (Or.inr (Or.inr (Or.inr (Or.inr h))))))))))))))), eA_3, up2_a (fun h => hh (Or.inl h))]) (by exact cq_s hq (by rw [fa4 32 (by omega)]) (by rw [fa4 40 (by omega)])) (by rw [show A_4 32 = A107 32 from by rw [fa4 32 (by omega)]]; exact hp1))
  have h0 : cqQ A A_3 word.toNat (G (x + 1) 2) := cq_0 (by rw [eA_3, up2_f]) (by rw [eA_3]; exact up2_a (by decide))
  refine r_iload i_14_23 rfl ?_
  refine r_iconst i_14_25 ?_
  refine r_ceq (t := 40) i_14_26 (by decide) (by omega) (by omega) (fun u_5 => ?_) (fun u_5 => ?_)
  · skip
    refine r_aload_n i_14_40 rfl ?_
    refine r_getF (v := .ref (y + 4)) i_14_41 rfl (Ly_0 hly hy) (Ry_0_3 hF hy) ?_
    refine r_iload_n i_14_44 rfl ?_
    refine r_zald i_14_45 (Ly_4 hly hy) (by omega) (by omega) (by omega) ?_
    rw [show A_3 (y + 4) = A (y + 4) from by rw [eA_3, up2_a (by omega)]]
    have q_6 := Ay_4 hA hy (word.toNat)
    refine r_ne0 (t := 64) i_14_46 (by decide) (by omega) (fun u_7 => ?_) (fun u_7 => ?_)
    · skip
      refine r_aload_n i_14_64 rfl ?_
      refine r_iload_n i_14_65 rfl ?_
      refine r_aload_n i_14_66 rfl ?_
      refine r_getF (v := .ref (y + 1)) i_14_67 rfl (Ly_0 hly hy) (Ry_0_0 hF hy) ?_
      refine r_iload i_14_70 rfl ?_
      refine r_iload i_14_72 rfl ?_
      refine r_bipush i_14_74 (by decide) ?_
      refine r_iconst i_14_76 ?_
      have z77 := a_32 hA_3 word.toNat
      refine r_cV (as := [V 0, V 7, V (A (y + 3) (word.toNat)), V (A (y + 2) (word.toNat)), .ref (y + 1), V word]) i_14_77 rfl (by decide +kernel) (Nat.le_of_ble_eq_true rfl) (Nat.le_of_ble_eq_true rfl) (hly 31 _ rfl) rfl ?_
      refine c_18 (word := word) (ta := y + 1) (at' := A (y + 2) (word.toNat)) (length := A (y + 3) (word.toNat)) (kind := 7) (cost := 0) (tn := 200) hly hF hG hA_3 (by omega) (by omega) (by omega) (by omega) (by omega) (by omega) (by exact Ly_1 hly hy) (by exact fun i => Ay_1 hA_3 hy i) (by omega) (by omega) (by omega) (by omega) (by omega) (fun r_8 A_9 hA_9 fa9 p9_0 p9_1 p9_2 => ?_)
      show Re L xs 14 80 [(0, .ref 31), (1, V word), (2, .ref y), (3, .ref x), (4, V settled), (5, V (A (y + 2) (word.toNat))), (6, V (A (y + 3) (word.toNat)))] [V r_8] (HP ly F G A_9 B) _
      refine re_nx i_14_80 rfl ?_
      refine r_go (t := 107) i_14_81 (by decide) ?_
      exact jn107 A_9 hA_9 (by intro a hh; rw [fa9 a (fun h => h.elim (fun h => hh (Or.inl h)) (fun h => h.elim (fun h => hh (Or.inr (Or.inl h))) (fun h => h.elim (fun h => hh (Or.inr (Or.inr (Or.inl h)))) (fun h => h.elim (fun h => hh (Or.inr (Or.inr (Or.inr (Or.inl h))))) (fun h => h.elim (fun h => hh (Or.inr (Or.inr (Or.inr (Or.inr (Or.inl h)))))) (fun h => hh (Or.inr (Or.inr (Or.inr (Or.inr (Or.inr (Or.inl h))))))))))))]) (by first | exact zzp1 _ _ h0 (by omega) | exact cq_add p9_1 p9_2 (by omega) h0 (by omega) | exact zzp0 | exact zzp0) (by first | exact zzp0 | exact ad_pos p9_1 p9_2 (by omega) | exact zzp1 | (have zz := a_32 hA_9 word.toNat; omega))
    · skip
      refine r_aload_n i_14_49 rfl ?_
      refine r_aload_n i_14_50 rfl ?_
      refine r_getF (v := .ref (y + 1)) i_14_51 rfl (Ly_0 hly hy) (Ry_0_0 hF hy) ?_
      refine r_iload i_14_54 rfl ?_
      refine r_iload i_14_56 rfl ?_
      refine r_cV (as := [V (A (y + 3) (word.toNat)), V (A (y + 2) (word.toNat)), .ref (y + 1)]) i_14_58 rfl (by decide +kernel) (Nat.le_of_ble_eq_true rfl) (Nat.le_of_ble_eq_true rfl) (Lx_0 hly hx) rfl ?_
      refine c_20 (x := x) (ta := y + 1) (at' := A (y + 2) (word.toNat)) (length := A (y + 3) (word.toNat)) (tn := 200) hly hF hG hA_3 (by omega) (by omega) (by omega) (by exact Ly_1 hly hy) (by exact fun i => Ay_1 hA_3 hy i) (by omega) (by omega) (by omega) (fun r_10 p10_0 => ?_)
      show Re L xs 14 61 [(0, .ref 31), (1, V word), (2, .ref y), (3, .ref x), (4, V settled), (5, V (A (y + 2) (word.toNat))), (6, V (A (y + 3) (word.toNat)))] [V r_10] (HP ly F G A_3 B) _
      refine r_eq0 (t := 84) i_14_61 (by decide) (by omega) (fun u_11 => ?_) (fun u_11 => ?_)
      · skip
        refine r_aload_n i_14_84 rfl ?_
        refine r_iload_n i_14_85 rfl ?_
        refine r_aload_n i_14_86 rfl ?_
        refine r_aload_n i_14_87 rfl ?_
        refine r_cV (as := [.ref x, .ref y, V word]) i_14_88 rfl (by decide +kernel) (Nat.le_of_ble_eq_true rfl) (Nat.le_of_ble_eq_true rfl) (hly 31 _ rfl) rfl ?_
        have q_12 := Gx_1_2 hG hx
        refine c_23 (word := word) (y := y) (x := x) (A0 := A) hly hF hG hA_3 (by omega) (by omega) (by omega) (by omega) (by rw [show A_3 (y + 2) = A (y + 2) from by rw [eA_3, up2_a (by omega)], show A_3 (y + 3) = A (y + 3) from by rw [eA_3, up2_a (by omega)]]; omega) (by exact h0) (fun A_13 hA_13 fa13 p13_0 => ?_)
        show Re L xs 14 91 [(0, .ref 31), (1, V word), (2, .ref y), (3, .ref x), (4, V settled), (5, V (A (y + 2) (word.toNat))), (6, V (A (y + 3) (word.toNat)))] [] (HP ly F G A_13 B) _
        refine r_aload_n i_14_91 rfl ?_
        refine r_getF (v := .ref 32) i_14_92 rfl (hly 31 _ rfl) (hF.1 31 0 32 rfl) ?_
        refine r_iload_n i_14_95 rfl ?_
        refine r_iald i_14_96 (hly 32 _ rfl) (by omega) (by omega) (by omega) ?_
        have q_14 := a_32 hA_13 (word.toNat)
        refine r_ne0 (t := 107) i_14_97 (by decide) (by omega) (fun u_15 => ?_) (fun u_15 => ?_)
        · skip
          exact jn107 A_13 hA_13 (by intro a hh; rw [fa13 a (fun h => h.elim (fun h => hh (Or.inl h)) (fun h => h.elim (fun h => hh (Or.inr (Or.inl h))) (fun h => h.elim (fun h => hh (Or.inr (Or.inr (Or.inl h)))) (fun h => h.elim (fun h => hh (Or.inr (Or.inr (Or.inr (Or.inl h))))) (fun h => h.elim (fun h => hh (Or.inr (Or.inr (Or.inr (Or.inr (Or.inl h)))))) (fun h => hh (Or.inr (Or.inr (Or.inr (Or.inr (Or.inr (Or.inl h))))))))))))]) (by first | exact zzp1 _ _ h0 (by omega) | exact cq_add zzp1 zzp2 (by omega) h0 (by omega) | exact zzp0 | exact p13_0) (by first | exact zzp0 | exact ad_pos zzp1 zzp2 (by omega) | exact zzp1 | (have zz := a_32 hA_13 word.toNat; omega))
        · skip
          refine r_aload_n i_14_100 rfl ?_
          refine r_iload_n i_14_101 rfl ?_
          refine r_aload_n i_14_102 rfl ?_
          refine r_aload_n i_14_103 rfl ?_
          refine r_cV (as := [.ref x, .ref y, V word]) i_14_104 rfl (by decide +kernel) (Nat.le_of_ble_eq_true rfl) (Nat.le_of_ble_eq_true rfl) (hly 31 _ rfl) rfl ?_
          refine c_27 (word := word) (y := y) (x := x) (A0 := A) hly hF hG hA_13 (by omega) (by omega) (by omega) (by omega) (by rw [show A_13 (y + 2) = A (y + 2) from by rw [fa13 (y + 2) (by omega), eA_3, up2_a (by omega)], show A_13 (y + 3) = A (y + 3) from by rw [fa13 (y + 3) (by omega), eA_3, up2_a (by omega)]]; omega) (by exact p13_0) (fun A_16 hA_16 fa16 p16_0 p16_1 => ?_)
          show Re L xs 14 107 [(0, .ref 31), (1, V word), (2, .ref y), (3, .ref x), (4, V settled), (5, V (A (y + 2) (word.toNat))), (6, V (A (y + 3) (word.toNat)))] [] (HP ly F G A_16 B) _
          exact jn107 A_16 hA_16 (by intro a hh; rw [fa16 a (fun h => h.elim (fun h => hh (Or.inl h)) (fun h => h.elim (fun h => hh (Or.inr (Or.inl h))) (fun h => h.elim (fun h => hh (Or.inr (Or.inr (Or.inl h)))) (fun h => h.elim (fun h => hh (Or.inr (Or.inr (Or.inr (Or.inl h))))) (fun h => h.elim (fun h => hh (Or.inr (Or.inr (Or.inr (Or.inr (Or.inl h)))))) (fun h => h.elim (fun h => hh (Or.inr (Or.inr (Or.inr (Or.inr (Or.inr (Or.inl h))))))) (fun h => hh (Or.inr (Or.inr (Or.inr (Or.inr (Or.inr (Or.inr h))))))))))))), fa13 a (fun h => h.elim (fun h => hh (Or.inl h)) (fun h => h.elim (fun h => hh (Or.inr (Or.inl h))) (fun h => h.elim (fun h => hh (Or.inr (Or.inr (Or.inl h)))) (fun h => h.elim (fun h => hh (Or.inr (Or.inr (Or.inr (Or.inl h))))) (fun h => h.elim (fun h => hh (Or.inr (Or.inr (Or.inr (Or.inr (Or.inl h)))))) (fun h => hh (Or.inr (Or.inr (Or.inr (Or.inr (Or.inr (Or.inl h))))))))))))]) (by first | exact zzp1 _ _ h0 (by omega) | exact cq_add zzp1 zzp2 (by omega) h0 (by omega) | exact p16_0 | exact p13_0) (by first | exact zzp0 | exact ad_pos zzp1 zzp2 (by omega) | exact p16_1 | (have zz := a_32 hA_16 word.toNat; omega))
      · skip
        refine r_aload_n i_14_64 rfl ?_
        refine r_iload_n i_14_65 rfl ?_
        refine r_aload_n i_14_66 rfl ?_
        refine r_getF (v := .ref (y + 1)) i_14_67 rfl (Ly_0 hly hy) (Ry_0_0 hF hy) ?_
        refine r_iload i_14_70 rfl ?_
        refine r_iload i_14_72 rfl ?_
        refine r_bipush i_14_74 (by decide) ?_
        refine r_iconst i_14_76 ?_
        have z77 := a_32 hA_3 word.toNat
        refine r_cV (as := [V 0, V 7, V (A (y + 3) (word.toNat)), V (A (y + 2) (word.toNat)), .ref (y + 1), V word]) i_14_77 rfl (by decide +kernel) (Nat.le_of_ble_eq_true rfl) (Nat.le_of_ble_eq_true rfl) (hly 31 _ rfl) rfl ?_
        refine c_18 (word := word) (ta := y + 1) (at' := A (y + 2) (word.toNat)) (length := A (y + 3) (word.toNat)) (kind := 7) (cost := 0) (tn := 200) hly hF hG hA_3 (by omega) (by omega) (by omega) (by omega) (by omega) (by omega) (by exact Ly_1 hly hy) (by exact fun i => Ay_1 hA_3 hy i) (by omega) (by omega) (by omega) (by omega) (by omega) (fun r_17 A_18 hA_18 fa18 p18_0 p18_1 p18_2 => ?_)
        show Re L xs 14 80 [(0, .ref 31), (1, V word), (2, .ref y), (3, .ref x), (4, V settled), (5, V (A (y + 2) (word.toNat))), (6, V (A (y + 3) (word.toNat)))] [V r_17] (HP ly F G A_18 B) _
        refine re_nx i_14_80 rfl ?_
        refine r_go (t := 107) i_14_81 (by decide) ?_
        exact jn107 A_18 hA_18 (by intro a hh; rw [fa18 a (fun h => h.elim (fun h => hh (Or.inl h)) (fun h => h.elim (fun h => hh (Or.inr (Or.inl h))) (fun h => h.elim (fun h => hh (Or.inr (Or.inr (Or.inl h)))) (fun h => h.elim (fun h => hh (Or.inr (Or.inr (Or.inr (Or.inl h))))) (fun h => h.elim (fun h => hh (Or.inr (Or.inr (Or.inr (Or.inr (Or.inl h)))))) (fun h => hh (Or.inr (Or.inr (Or.inr (Or.inr (Or.inr (Or.inl h))))))))))))]) (by first | exact zzp1 _ _ h0 (by omega) | exact cq_add p18_1 p18_2 (by omega) h0 (by omega) | exact zzp0 | exact zzp0) (by first | exact zzp0 | exact ad_pos p18_1 p18_2 (by omega) | exact zzp1 | (have zz := a_32 hA_18 word.toNat; omega))
  · skip
    refine r_aload_n i_14_29 rfl ?_
    refine r_iload_n i_14_30 rfl ?_
    refine r_aload_n i_14_31 rfl ?_
    refine r_iload i_14_32 rfl ?_
    refine r_cV (as := [V settled, .ref x, V word]) i_14_34 rfl (by decide +kernel) (Nat.le_of_ble_eq_true rfl) (Nat.le_of_ble_eq_true rfl) (hly 31 _ rfl) rfl ?_
    refine c_15 (word := word) (x := x) (entry := settled) hly hF hG hA_3 (by omega) (by omega) (by omega) (by omega) (by omega) (fun A_19 hA_19 fa19 p19_0 p19_1 => ?_)
    show Re L xs 14 37 [(0, .ref 31), (1, V word), (2, .ref y), (3, .ref x), (4, V settled), (5, V (A (y + 2) (word.toNat))), (6, V (A (y + 3) (word.toNat)))] [] (HP ly F G A_19 B) _
    refine r_go (t := 107) i_14_37 (by decide) ?_
    exact jn107 A_19 hA_19 (by intro a hh; rw [fa19 a (fun h => h.elim (fun h => hh (Or.inl h)) (fun h => h.elim (fun h => hh (Or.inr (Or.inl h))) (fun h => h.elim (fun h => hh (Or.inr (Or.inr (Or.inl h)))) (fun h => h.elim (fun h => hh (Or.inr (Or.inr (Or.inr (Or.inl h))))) (fun h => h.elim (fun h => hh (Or.inr (Or.inr (Or.inr (Or.inr (Or.inl h)))))) (fun h => hh (Or.inr (Or.inr (Or.inr (Or.inr (Or.inr (Or.inl h))))))))))))]) (by first | exact p19_1 _ _ h0 (by omega) | exact cq_add zzp1 zzp2 (by omega) h0 (by omega) | exact zzp0 | exact zzp0) (by first | exact p19_0 | exact ad_pos zzp1 zzp2 (by omega) | exact zzp1 | (have zz := a_32 hA_19 word.toNat; omega))
set_option maxHeartbeats 4000000 in
theorem c_34 {L : Nat} {xs : Nat → Int32} {ly : List LK} {F : Nat → Nat → Value} {G A : Nat → Nat → Int} {B : Nat → Nat → Int64} {Q : Option Value → AH → Prop} {q : Nat} {weight : Int} (hly : LyOk ly) (hF : RfOk F) (hG : GO G) (hA : AQ A) (in_weight : inR weight) (hw : -1 ≤ weight ∧ weight ≤ 400) (K : ∀ (F' : Nat → Nat → Value) (G' : Nat → Nat → Int), (RfOk F') → (GO G') → (∀ a k, ¬ ((a = 42 ∧ k = 8)) → F' a k = F a k) → (∀ a k, ¬ ((a = 42 ∧ k = 9) ∨ (a = 42 ∧ k = 10)) → G' a k = G a k) → (F' 42 8 = .ref q) → (G' 42 10 = 0) → (G' 42 9 = weight) → Q none (HP ly F' G' A B)) : Re L xs 34 0 [(0, .ref 42), (1, .ref q), (2, V weight)] [] (HP ly F G A B) Q := by
  refine r_aload_n i_34_0 rfl ?_
  refine r_aload_n i_34_1 rfl ?_
  refine r_putRQ i_34_2 (by decide +kernel) (hly 42 _ rfl) (fun F_1 eF_1 => ?_)
  have hF_1 : RfOk F_1 := by rw [eF_1]; exact RfOk.up hF rfl (by omega)
  refine r_aload_n i_34_5 rfl ?_
  refine r_iload_n i_34_6 rfl ?_
  refine r_putIQ i_34_7 (by decide +kernel) (hly 42 _ rfl) (fun G_2 eG_2 => ?_)
  have hG_2 : GO G_2 := by rw [eG_2]; exact gu_42_9 hG (by omega) (by omega)
  refine r_aload_n i_34_10 rfl ?_
  refine r_iconst i_34_11 ?_
  refine r_putZQ i_34_12 (by decide +kernel) (hly 42 _ rfl) (by omega) (fun G_3 eG_3 => ?_)
  have hG_3 : GO G_3 := by rw [eG_3]; exact gu_42_10 hG_2 (by omega) (by omega)
  exact r_vret i_34_15 rfl (K F_1 G_3 hF_1 hG_3 (by intro a k hh; rw [eF_1, up2_n (fun h => hh h)]) (by intro a k hh; rw [eG_3, up2_n (fun h => hh (Or.inr h)), eG_2, up2_n (fun h => hh (Or.inl h))]) (by rw [eF_1, up2_s]) (by rw [show G_3 42 10 = 0 from by rw [eG_3, up2_s]] <;> omega) (by rw [show G_3 42 9 = weight from by rw [eG_3, up2_n (by omega), eG_2, up2_s]] <;> omega))
set_option maxHeartbeats 4000000 in
theorem c_12 {L : Nat} {xs : Nat → Int32} {ly : List LK} {F : Nat → Nat → Value} {G A : Nat → Nat → Int} {B : Nat → Nat → Int64} {Q : Option Value → AH → Prop} {x y : Nat} (hly : LyOk ly) (hF : RfOk F) (hG : GO G) (hA : AQ A) (hx : x = 3 ∨ x = 61) (hy : y = 80 ∨ y = 85) (hb : F 0 6 = .ref x) (hl : F 0 7 = .ref y) (hln : lnQ (A (y + 2)) (A (y + 3)) (G y 5) 200) (hch : ∀ j : Nat, (j : Int) < G 27 3 → A 29 j < G (x + 1) 2) (K : ∀ (F' : Nat → Nat → Value) (G' : Nat → Nat → Int) (A' : Nat → Nat → Int), (RfOk F') → (GO G') → (AQ A') → (∀ a k, ¬ ((a = 42 ∧ k = 8)) → F' a k = F a k) → (∀ a k, ¬ ((a = 31 ∧ k = 8) ∨ (a = 42 ∧ k = 9) ∨ (a = 42 ∧ k = 10)) → G' a k = G a k) → (∀ a, ¬ (a = 32 ∨ a = 35 ∨ a = 36 ∨ a = 37 ∨ a = 38 ∨ a = 40 ∨ a = 33 ∨ a = 39 ∨ a = 41) → A' a = A a) → (F' 42 8 = .ref (x + 17)) → (G' 31 8 = G y 5) → (G' 42 10 = 0) → (∀ p : Nat, (p : Int) < G y 5 → crV A' p (G (x + 1) 2)) → Q none (HP ly F' G' A' B)) : Re L xs 12 0 [(0, .ref 0)] [] (HP ly F G A B) Q := by
  have zl := Gy_0_5 hG hy
  refine r_aload_n i_12_0 rfl ?_
  refine r_getF (v := .ref 31) i_12_1 rfl (hly 0 _ rfl) (hF.1 0 3 31 rfl) ?_
  refine r_aload_n i_12_4 rfl ?_
  refine r_getF (v := .ref y) i_12_5 rfl (hly 0 _ rfl) hl ?_
  refine r_getI i_12_8 rfl (Ly_0 hly hy) ?_
  have q_1 := Gy_0_5 hG hy
  refine r_putIQ i_12_11 (by decide +kernel) (hly 31 _ rfl) (fun G_2 eG_2 => ?_)
  have hG_2 : GO G_2 := by rw [eG_2]; exact gu_31_8 hG (by omega) (by omega)
  refine r_iconst i_12_14 ?_
  refine r_istore_n (l' := [(0, .ref 0), (1, V 0)]) i_12_15 (by decide +kernel) rfl ?_
  have lp16B : ∀ (nf : Nat) (w : Int) (A16 : Nat → Nat → Int), (AQ A16) → (∀ a, ¬ (a = 32 ∨ a = 35 ∨ a = 36 ∨ a = 37 ∨ a = 38 ∨ a = 40 ∨ a = 33 ∨ a = 39 ∨ a = 41) → A16 a = A a) → (0 ≤ w ∧ w ≤ 14) → (∀ q : Nat, (q : Int) < w → crV A16 q (G (x + 1) 2)) → (14 - w).toNat < nf → Re L xs 12 16 [(0, .ref 0), (1, V w)] [] (HP ly F G_2 A16 B) Q := by
    intro nf
    induction nf with
    | zero => intros; omega
    | succ nf ih16B =>
      intro w A16 hA16 fa16 hw hcr hm16
      refine r_iload_n i_12_16 rfl ?_
      refine r_aload_n i_12_17 rfl ?_
      refine r_getF (v := .ref y) i_12_18 rfl (hly 0 _ rfl) hl ?_
      refine r_getI i_12_21 rfl (Ly_0 hly hy) ?_
      rw [show G_2 y 5 = G y 5 from by rw [eG_2, up2_n (by omega)]]
      refine r_cge (t := 57) i_12_24 (by decide) (by omega) (by omega) (fun u_3 => ?_) (fun u_3 => ?_)
      · skip
        refine r_aload_n i_12_57 rfl ?_
        refine r_getF (v := .ref 42) i_12_58 rfl (hly 0 _ rfl) (hF.1 0 4 42 rfl) ?_
        refine r_aload_n i_12_61 rfl ?_
        refine r_getF (v := .ref x) i_12_62 rfl (hly 0 _ rfl) hb ?_
        refine r_getF (v := .ref (x + 17)) i_12_65 rfl (Lx_0 hly hx) (Rx_0_10 hF hx) ?_
        refine r_aload_n i_12_68 rfl ?_
        refine r_getI i_12_69 rfl (hly 0 _ rfl) ?_
        rw [show G_2 0 11 = G 0 11 from by rw [eG_2, up2_n (by omega)]]
        have q_4 := g_0_11 hG
        refine r_cV (as := [V (G 0 11), .ref (x + 17)]) i_12_72 rfl (by decide +kernel) (Nat.le_of_ble_eq_true rfl) (Nat.le_of_ble_eq_true rfl) (hly 42 _ rfl) rfl ?_
        refine c_34 (q := x + 17) (weight := G 0 11) hly hF hG_2 hA16 (by omega) (by omega) (fun F_5 G_6 hF_5 hG_6 ff6 fg6 p6_0 p6_1 p6_2 => ?_)
        show Re L xs 12 75 [(0, .ref 0), (1, V w)] [] (HP ly F_5 G_6 A16 B) _
        exact r_vret i_12_75 rfl (K F_5 G_6 A16 hF_5 hG_6 hA16 (by intro a k hh; rw [ff6 a k (fun h => hh h)]) (by intro a k hh; rw [fg6 a k (fun h => h.elim (fun h => hh (Or.inr (Or.inl h))) (fun h => hh (Or.inr (Or.inr h)))), eG_2, up2_n (fun h => hh (Or.inl h))]) (by intro a hh; rw [fa16 a (fun h => h.elim (fun h => hh (Or.inl h)) (fun h => h.elim (fun h => hh (Or.inr (Or.inl h))) (fun h => h.elim (fun h => hh (Or.inr (Or.inr (Or.inl h)))) (fun h => h.elim (fun h => hh (Or.inr (Or.inr (Or.inr (Or.inl h))))) (fun h => h.elim (fun h => hh (Or.inr (Or.inr (Or.inr (Or.inr (Or.inl h)))))) (fun h => h.elim (fun h => hh (Or.inr (Or.inr (Or.inr (Or.inr (Or.inr (Or.inl h))))))) (fun h => h.elim (fun h => hh (Or.inr (Or.inr (Or.inr (Or.inr (Or.inr (Or.inr (Or.inl h)))))))) (fun h => h.elim (fun h => hh (Or.inr (Or.inr (Or.inr (Or.inr (Or.inr (Or.inr (Or.inr (Or.inl h))))))))) (fun h => hh (Or.inr (Or.inr (Or.inr (Or.inr (Or.inr (Or.inr (Or.inr (Or.inr h)))))))))))))))))]) (by exact p6_0) (by rw [show G_6 31 8 = G y 5 from by rw [fg6 31 8 (by omega), eG_2, up2_s]] <;> omega) (by omega) (by intro q hq; exact hcr q (by omega)))
      · skip
        refine r_aload_n i_12_27 rfl ?_
        refine r_getF (v := .ref 31) i_12_28 rfl (hly 0 _ rfl) (hF.1 0 3 31 rfl) ?_
        refine r_iload_n i_12_31 rfl ?_
        refine r_aload_n i_12_32 rfl ?_
        refine r_getF (v := .ref y) i_12_33 rfl (hly 0 _ rfl) hl ?_
        refine r_aload_n i_12_36 rfl ?_
        refine r_getF (v := .ref x) i_12_37 rfl (hly 0 _ rfl) hb ?_
        refine r_aload_n i_12_40 rfl ?_
        refine r_getF (v := .ref 27) i_12_41 rfl (hly 0 _ rfl) (hF.1 0 2 27 rfl) ?_
        refine r_iload_n i_12_44 rfl ?_
        refine r_cV (as := [V w]) i_12_45 rfl (by decide +kernel) (Nat.le_of_ble_eq_true rfl) (Nat.le_of_ble_eq_true rfl) (hly 27 _ rfl) rfl ?_
        have w_7 : G_2 27 3 = G 27 3 := by rw [eG_2, up2_n (by omega)]
        have q_8 := g_27_3 hG
        refine c_13 (word := w) hly hF hG_2 hA16 (by omega) (fun r_9 p9_0 => ?_)
        show Re L xs 12 48 [(0, .ref 0), (1, V w)] [V r_9, .ref x, .ref y, V w, .ref 31] (HP ly F G_2 A16 B) _
        have hl2 := hln w.toNat (by omega)
        have hst : r_9 ≤ 79 ∧ -1 ≤ r_9 ∧ (r_9 < G (x + 1) 2 ∨ r_9 = -1) := by rcases p9_0 with h | ⟨h0, h1, j, hj, e⟩; exact ⟨by omega, by omega, .inr h⟩; rw [show A16 29 = A 29 from by rw [fa16 29 (by omega)]] at e; exact ⟨h1, by omega, .inl (by rw [e]; exact hch j (by omega))⟩
        clear p9_0
        refine r_cV (as := [V r_9, .ref x, .ref y, V w]) i_12_48 rfl (by decide +kernel) (Nat.le_of_ble_eq_true rfl) (Nat.le_of_ble_eq_true rfl) (hly 31 _ rfl) rfl ?_
        have w_10 : G_2 (x + 1) 2 = G (x + 1) 2 := by rw [eG_2, up2_n (by omega)]
        have q_11 := Gx_1_2 hG hx
        refine c_14 (word := w) (y := y) (x := x) (settled := r_9) hly hF hG_2 hA16 (by omega) (by omega) (by omega) (by omega) (by omega) (by rw [show A16 (y + 2) = A (y + 2) from by rw [fa16 (y + 2) (by omega)], show A16 (y + 3) = A (y + 3) from by rw [fa16 (y + 3) (by omega)]]; omega) (by omega) (by omega) (fun A_12 hA_12 fa12 p12_0 p12_1 => ?_)
        show Re L xs 12 51 [(0, .ref 0), (1, V w)] [] (HP ly F G_2 A_12 B) _
        refine r_iinc (l' := [(0, .ref 0), (1, V (w + 1))]) i_12_51 rfl (by decide +kernel) rfl ?_
        refine r_go (t := 16) i_12_54 (by decide) ?_
        exact ih16B (w + 1) A_12 hA_12 (by intro a hh; rw [fa12 a (fun h => h.elim (fun h => hh (Or.inl h)) (fun h => h.elim (fun h => hh (Or.inr (Or.inl h))) (fun h => h.elim (fun h => hh (Or.inr (Or.inr (Or.inl h)))) (fun h => h.elim (fun h => hh (Or.inr (Or.inr (Or.inr (Or.inl h))))) (fun h => h.elim (fun h => hh (Or.inr (Or.inr (Or.inr (Or.inr (Or.inl h)))))) (fun h => h.elim (fun h => hh (Or.inr (Or.inr (Or.inr (Or.inr (Or.inr (Or.inl h))))))) (fun h => h.elim (fun h => hh (Or.inr (Or.inr (Or.inr (Or.inr (Or.inr (Or.inr (Or.inl h)))))))) (fun h => h.elim (fun h => hh (Or.inr (Or.inr (Or.inr (Or.inr (Or.inr (Or.inr (Or.inr (Or.inl h))))))))) (fun h => hh (Or.inr (Or.inr (Or.inr (Or.inr (Or.inr (Or.inr (Or.inr (Or.inr h))))))))))))))))), fa16 a (fun h => h.elim (fun h => hh (Or.inl h)) (fun h => h.elim (fun h => hh (Or.inr (Or.inl h))) (fun h => h.elim (fun h => hh (Or.inr (Or.inr (Or.inl h)))) (fun h => h.elim (fun h => hh (Or.inr (Or.inr (Or.inr (Or.inl h))))) (fun h => h.elim (fun h => hh (Or.inr (Or.inr (Or.inr (Or.inr (Or.inl h)))))) (fun h => h.elim (fun h => hh (Or.inr (Or.inr (Or.inr (Or.inr (Or.inr (Or.inl h))))))) (fun h => h.elim (fun h => hh (Or.inr (Or.inr (Or.inr (Or.inr (Or.inr (Or.inr (Or.inl h)))))))) (fun h => h.elim (fun h => hh (Or.inr (Or.inr (Or.inr (Or.inr (Or.inr (Or.inr (Or.inr (Or.inl h))))))))) (fun h => hh (Or.inr (Or.inr (Or.inr (Or.inr (Or.inr (Or.inr (Or.inr (Or.inr h)))))))))))))))))]) (by omega) (by first | (intro q hq; exfalso; omega) | exact cr_s hA_12 hcr (by omega) (by have hh := p12_0; rw [show G_2 (x + 1) 2 = G (x + 1) 2 from by rw [eG_2, up2_n (by omega)]] at hh; exact hh) p12_1) (by omega)
  exact lp16B _ 0 A hA (by intro a hh; rfl) (by omega) (by first | (intro q hq; exfalso; omega) | exact cr_s hA hcr (by omega) (by have hh := zzp0; rw [show G_2 (x + 1) 2 = G (x + 1) 2 from by rw [eG_2, up2_n (by omega)]] at hh; exact hh) zzp1) (Nat.lt_succ_self _)
