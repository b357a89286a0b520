set_option maxHeartbeats 4000000 in
theorem c_63 {L : Nat} {xs : Nat → Int32} {ly : List LK} {F : Nat → Nat → Value} {G A : Nat → Nat → Int} {B : Nat → Nat → Int64} {Q : Option Value → AH → Prop} {costs : Int} {x : Nat} (hly : LyOk ly) (hF : RfOk F) (hG : GO G) (hA : AQ A) (in_costs : inR costs) (hb : F 2 2 = .ref x) (hx : x = 3 ∨ x = 61) (htk : tkO G A) (hrv : G 2 6 = 0 → G 2 7 + G 2 8 ≤ 2000) (hco : costs = 0 ∨ costs = 1) (K : ∀ (r : Int) (G' : Nat → Nat → Int) (A' : Nat → Nat → Int), (GO G') → (AQ A') → (∀ a k, ¬ ((a = 2 ∧ k = 0) ∨ (a = 2 ∧ k = 1) ∨ (a = 2 ∧ k = 5) ∨ (a = 2 ∧ k = 6) ∨ (a = 2 ∧ k = 7) ∨ (a = 2 ∧ k = 8) ∨ (a = 2 ∧ k = 9) ∨ (a = x ∧ k = 12)) → G' a k = G a k) → (∀ a, ¬ (a = x + 17 ∨ a = x + 18) → A' a = A a) → (G' 2 6 = 0 → G' 2 7 + G' 2 8 ≤ 2000) → (0 ≤ r ∧ r ≤ 1) → (PC A (x + 17) → PC A' (x + 17)) → Q (some (V r)) (HP ly F G' A' B)) : Re L xs 63 0 [(0, .ref 2), (1, V costs)] [] (HP ly F G A B) Q := by
  refine r_aload_n i_63_0 rfl ?_
  refine r_getF (v := .ref x) i_63_1 rfl (hly 2 _ rfl) hb ?_
  refine r_getI i_63_4 rfl (Lx_0 hly hx) ?_
  have q_1 := Gx_0_12 hG hx
  refine r_bipush i_63_7 (by decide) ?_
  refine r_clt (t := 17) i_63_9 (by decide) (by omega) (by omega) (fun u_2 => ?_) (fun u_2 => ?_)
  · skip
    refine r_aload_n i_63_17 rfl ?_
    refine r_bipush i_63_18 (by decide) ?_
    refine r_cV (as := [V 7]) i_63_20 rfl (by decide +kernel) (Nat.le_of_ble_eq_true rfl) (Nat.le_of_ble_eq_true rfl) (hly 2 _ rfl) rfl ?_
    have q_3 := g_2_6 hG
    have q_4 := g_2_7 hG
    have q_5 := g_2_8 hG
    refine c_55 (most := 7) hly hF hG hA (by omega) (by exact tkO_c (by rfl) (by rfl) (by rfl) (by rfl) htk) (by omega) (fun r_6 G_7 hG_7 fg7 p7_0 p7_1 p7_2 => ?_)
    show Re L xs 63 23 [(0, .ref 2), (1, V costs)] [V r_6] (HP ly F G_7 A B) _
    refine r_ne0 (t := 28) i_63_23 (by decide) (by omega) (fun u_8 => ?_) (fun u_8 => ?_)
    · skip
      refine r_aload_n i_63_28 rfl ?_
      refine r_getI i_63_29 rfl (hly 2 _ rfl) ?_
      have q_9 := g_2_7 hG_7
      refine r_istore_n (l' := [(0, .ref 2), (1, V costs), (2, V (G_7 2 7))]) i_63_32 (by decide +kernel) rfl ?_
      refine r_aload_n i_63_33 rfl ?_
      refine r_getI i_63_34 rfl (hly 2 _ rfl) ?_
      have q_10 := g_2_9 hG_7
      refine r_bipush i_63_37 (by decide) ?_
      refine r_imul i_63_39 ?_
      refine r_istore_n (l' := [(0, .ref 2), (1, V costs), (2, V (G_7 2 7)), (3, V ((G_7 2 9) * 8))]) i_63_40 (by decide +kernel) rfl ?_
      refine r_aload_n i_63_41 rfl ?_
      refine r_bipush i_63_42 (by decide) ?_
      refine r_cV (as := [V 7]) i_63_44 rfl (by decide +kernel) (Nat.le_of_ble_eq_true rfl) (Nat.le_of_ble_eq_true rfl) (hly 2 _ rfl) rfl ?_
      have q_11 := g_2_6 hG_7
      have q_12 := g_2_8 hG_7
      refine c_55 (most := 7) hly hF hG_7 hA (by omega) (by exact tkO_c (by rw [fg7 22 4 (by omega)]) (by rfl) (by rfl) (by rfl) htk) (by omega) (fun r_13 G_14 hG_14 fg14 p14_0 p14_1 p14_2 => ?_)
      show Re L xs 63 47 [(0, .ref 2), (1, V costs), (2, V (G_7 2 7)), (3, V ((G_7 2 9) * 8))] [V r_13] (HP ly F G_14 A B) _
      refine r_ne0 (t := 52) i_63_47 (by decide) (by omega) (fun u_15 => ?_) (fun u_15 => ?_)
      · skip
        refine r_iload_n i_63_52 rfl ?_
        refine r_aload_n i_63_53 rfl ?_
        refine r_getI i_63_54 rfl (hly 2 _ rfl) ?_
        have q_16 := g_2_9 hG_14
        refine r_iadd i_63_57 ?_
        refine r_istore_n (l' := [(0, .ref 2), (1, V costs), (2, V (G_7 2 7)), (3, V (((G_7 2 9) * 8) + (G_14 2 9)))]) i_63_58 (by decide +kernel) rfl ?_
        refine r_aload_n i_63_59 rfl ?_
        refine r_getF (v := .ref x) i_63_60 rfl (hly 2 _ rfl) hb ?_
        refine r_getF (v := .ref (x + 18)) i_63_63 rfl (Lx_0 hly hx) (Rx_0_11 hF hx) ?_
        refine r_iload_n i_63_66 rfl ?_
        refine r_zald i_63_67 (Lx_18 hly hx) (by omega) (by omega) (by omega) ?_
        have q_17 := Ax_18 hA hx ((((G_7 2 9) * 8) + (G_14 2 9)).toNat)
        refine r_eq0 (t := 78) i_63_68 (by decide) (by omega) (fun u_18 => ?_) (fun u_18 => ?_)
        · skip
          refine r_ldc (v := 1000000) i_63_78 (by decide) ?_
          refine r_istore (l' := [(0, .ref 2), (1, V costs), (2, V (G_7 2 7)), (3, V (((G_7 2 9) * 8) + (G_14 2 9))), (4, V 1000000)]) i_63_80 (by decide +kernel) rfl ?_
          have jn103 : ∀ (cost : Int) (G103 : Nat → Nat → Int), (GO G103) → (∀ a k, ¬ ((a = 2 ∧ k = 0) ∨ (a = 2 ∧ k = 1) ∨ (a = 2 ∧ k = 5) ∨ (a = 2 ∧ k = 6) ∨ (a = 2 ∧ k = 7) ∨ (a = 2 ∧ k = 8) ∨ (a = 2 ∧ k = 9)) → G103 a k = G_14 a k) → (G103 2 6 = 0 → G103 2 7 + G103 2 8 ≤ 2000) → ((0 ≤ cost ∧ cost ≤ 99) ∨ cost = 1000000) → Re L xs 63 103 [(0, .ref 2), (1, V costs), (2, V (G_7 2 7)), (3, V (((G_7 2 9) * 8) + (G_14 2 9))), (4, V cost)] [] (HP ly F G103 A B) Q := by
            intro cost G103 hG103 fg103 hj hco2
            refine r_aload_n i_63_103 rfl ?_
            refine r_cV (as := []) i_63_104 rfl (by decide +kernel) (Nat.le_of_ble_eq_true rfl) (Nat.le_of_ble_eq_true rfl) (hly 2 _ rfl) rfl ?_
            have q_19 := g_2_6 hG103
            have q_20 := g_2_7 hG103
            have q_21 := g_2_8 hG103
            refine c_61  hly hF hG103 hA (by exact tkO_c (by rw [fg103 22 4 (by omega), fg14 22 4 (by omega), fg7 22 4 (by omega)]) (by rfl) (by rfl) (by rfl) htk) (by omega) (fun r_22 G_23 hG_23 fg23 p23_0 p23_1 => ?_)
            show Re L xs 63 107 [(0, .ref 2), (1, V costs), (2, V (G_7 2 7)), (3, V (((G_7 2 9) * 8) + (G_14 2 9))), (4, V cost)] [V r_22] (HP ly F G_23 A B) _
            refine r_ne0 (t := 112) i_63_107 (by decide) (by omega) (fun u_24 => ?_) (fun u_24 => ?_)
            · skip
              refine r_aload_n i_63_112 rfl ?_
              refine r_getF (v := .ref x) i_63_113 rfl (hly 2 _ rfl) hb ?_
              refine r_iload_n i_63_116 rfl ?_
              refine r_iload i_63_117 rfl ?_
              refine r_cV (as := [V cost, V (((G_7 2 9) * 8) + (G_14 2 9))]) i_63_119 rfl (by decide +kernel) (Nat.le_of_ble_eq_true rfl) (Nat.le_of_ble_eq_true rfl) (Lx_0 hly hx) rfl ?_
              have w_25 : G_23 x 12 = G x 12 := by rw [fg23 x 12 (by omega), fg103 x 12 (by omega), fg14 x 12 (by omega), fg7 x 12 (by omega)]
              refine c_64 (x := x) (pair := ((G_7 2 9) * 8) + (G_14 2 9)) (cost := cost) hly hF hG_23 hA (by omega) (by omega) (by omega) (by omega) (by omega) (by omega) (fun G_26 A_27 hG_26 hA_27 fg27 fa27 p27_0 => ?_)
              show Re L xs 63 122 [(0, .ref 2), (1, V costs), (2, V (G_7 2 7)), (3, V (((G_7 2 9) * 8) + (G_14 2 9))), (4, V cost)] [] (HP ly F G_26 A_27 B) _
              refine r_iconst i_63_122 ?_
              exact r_iret i_63_123 rfl (nar_Z (by omega)) (K 1 G_26 A_27 hG_26 hA_27 (by intro a k hh; rw [fg27 a k (fun h => hh (Or.inr (Or.inr (Or.inr (Or.inr (Or.inr (Or.inr (Or.inr h)))))))), fg23 a k (fun h => h.elim (fun h => hh (Or.inl h)) (fun h => h.elim (fun h => hh (Or.inr (Or.inl h))) (fun h => h.elim (fun h => hh (Or.inr (Or.inr (Or.inl h)))) (fun h => h.elim (fun h => hh (Or.inr (Or.inr (Or.inr (Or.inl h))))) (fun h => h.elim (fun h => hh (Or.inr (Or.inr (Or.inr (Or.inr (Or.inl h)))))) (fun h => h.elim (fun h => hh (Or.inr (Or.inr (Or.inr (Or.inr (Or.inr (Or.inl h))))))) (fun h => hh (Or.inr (Or.inr (Or.inr (Or.inr (Or.inr (Or.inr (Or.inl h)))))))))))))), fg103 a k (fun h => h.elim (fun h => hh (Or.inl h)) (fun h => h.elim (fun h => hh (Or.inr (Or.inl h))) (fun h => h.elim (fun h => hh (Or.inr (Or.inr (Or.inl h)))) (fun h => h.elim (fun h => hh (Or.inr (Or.inr (Or.inr (Or.inl h))))) (fun h => h.elim (fun h => hh (Or.inr (Or.inr (Or.inr (Or.inr (Or.inl h)))))) (fun h => h.elim (fun h => hh (Or.inr (Or.inr (Or.inr (Or.inr (Or.inr (Or.inl h))))))) (fun h => hh (Or.inr (Or.inr (Or.inr (Or.inr (Or.inr (Or.inr (Or.inl h)))))))))))))), fg14 a k (fun h => h.elim (fun h => hh (Or.inl h)) (fun h => h.elim (fun h => hh (Or.inr (Or.inl h))) (fun h => h.elim (fun h => hh (Or.inr (Or.inr (Or.inl h)))) (fun h => h.elim (fun h => hh (Or.inr (Or.inr (Or.inr (Or.inl h))))) (fun h => h.elim (fun h => hh (Or.inr (Or.inr (Or.inr (Or.inr (Or.inl h)))))) (fun h => h.elim (fun h => hh (Or.inr (Or.inr (Or.inr (Or.inr (Or.inr (Or.inl h))))))) (fun h => hh (Or.inr (Or.inr (Or.inr (Or.inr (Or.inr (Or.inr (Or.inl h)))))))))))))), fg7 a k (fun h => h.elim (fun h => hh (Or.inl h)) (fun h => h.elim (fun h => hh (Or.inr (Or.inl h))) (fun h => h.elim (fun h => hh (Or.inr (Or.inr (Or.inl h)))) (fun h => h.elim (fun h => hh (Or.inr (Or.inr (Or.inr (Or.inl h))))) (fun h => h.elim (fun h => hh (Or.inr (Or.inr (Or.inr (Or.inr (Or.inl h)))))) (fun h => h.elim (fun h => hh (Or.inr (Or.inr (Or.inr (Or.inr (Or.inr (Or.inl h))))))) (fun h => hh (Or.inr (Or.inr (Or.inr (Or.inr (Or.inr (Or.inr (Or.inl h))))))))))))))]) (by intro a hh; rw [fa27 a (fun h => h.elim (fun h => hh (Or.inl h)) (fun h => hh (Or.inr h)))]) (by rw [show G_26 2 6 = G_23 2 6 from by rw [fg27 2 6 (by omega)]] <;> rw [show G_26 2 7 = G_23 2 7 from by rw [fg27 2 7 (by omega)]] <;> rw [show G_26 2 8 = G_23 2 8 from by rw [fg27 2 8 (by omega)]] <;> omega) (by omega) (by exact p27_0))
            · skip
              refine r_iconst i_63_110 ?_
              exact r_iret i_63_111 rfl (nar_Z (by omega)) (K 0 G_23 A hG_23 hA (by intro a k hh; rw [fg23 a k (fun h => h.elim (fun h => hh (Or.inl h)) (fun h => h.elim (fun h => hh (Or.inr (Or.inl h))) (fun h => h.elim (fun h => hh (Or.inr (Or.inr (Or.inl h)))) (fun h => h.elim (fun h => hh (Or.inr (Or.inr (Or.inr (Or.inl h))))) (fun h => h.elim (fun h => hh (Or.inr (Or.inr (Or.inr (Or.inr (Or.inl h)))))) (fun h => h.elim (fun h => hh (Or.inr (Or.inr (Or.inr (Or.inr (Or.inr (Or.inl h))))))) (fun h => hh (Or.inr (Or.inr (Or.inr (Or.inr (Or.inr (Or.inr (Or.inl h)))))))))))))), fg103 a k (fun h => h.elim (fun h => hh (Or.inl h)) (fun h => h.elim (fun h => hh (Or.inr (Or.inl h))) (fun h => h.elim (fun h => hh (Or.inr (Or.inr (Or.inl h)))) (fun h => h.elim (fun h => hh (Or.inr (Or.inr (Or.inr (Or.inl h))))) (fun h => h.elim (fun h => hh (Or.inr (Or.inr (Or.inr (Or.inr (Or.inl h)))))) (fun h => h.elim (fun h => hh (Or.inr (Or.inr (Or.inr (Or.inr (Or.inr (Or.inl h))))))) (fun h => hh (Or.inr (Or.inr (Or.inr (Or.inr (Or.inr (Or.inr (Or.inl h)))))))))))))), fg14 a k (fun h => h.elim (fun h => hh (Or.inl h)) (fun h => h.elim (fun h => hh (Or.inr (Or.inl h))) (fun h => h.elim (fun h => hh (Or.inr (Or.inr (Or.inl h)))) (fun h => h.elim (fun h => hh (Or.inr (Or.inr (Or.inr (Or.inl h))))) (fun h => h.elim (fun h => hh (Or.inr (Or.inr (Or.inr (Or.inr (Or.inl h)))))) (fun h => h.elim (fun h => hh (Or.inr (Or.inr (Or.inr (Or.inr (Or.inr (Or.inl h))))))) (fun h => hh (Or.inr (Or.inr (Or.inr (Or.inr (Or.inr (Or.inr (Or.inl h)))))))))))))), fg7 a k (fun h => h.elim (fun h => hh (Or.inl h)) (fun h => h.elim (fun h => hh (Or.inr (Or.inl h))) (fun h => h.elim (fun h => hh (Or.inr (Or.inr (Or.inl h)))) (fun h => h.elim (fun h => hh (Or.inr (Or.inr (Or.inr (Or.inl h))))) (fun h => h.elim (fun h => hh (Or.inr (Or.inr (Or.inr (Or.inr (Or.inl h)))))) (fun h => h.elim (fun h => hh (Or.inr (Or.inr (Or.inr (Or.inr (Or.inr (Or.inl h))))))) (fun h => hh (Or.inr (Or.inr (Or.inr (Or.inr (Or.inr (Or.inr (Or.inl h))))))))))))))]) (by intro a hh; rfl) (by omega) (by omega) (by exact fun h => h))
          refine r_iload_n i_63_82 rfl ?_
          refine r_eq0 (t := 103) i_63_83 (by decide) (by omega) (fun u_28 => ?_) (fun u_28 => ?_)
          · skip
            exact jn103 1000000 G_14 hG_14 (by intro a k hh; rfl) (by omega) (by omega)
          · skip
            refine r_aload_n i_63_86 rfl ?_
            refine r_bipush i_63_87 (by decide) ?_
            refine r_cV (as := [V 99]) i_63_89 rfl (by decide +kernel) (Nat.le_of_ble_eq_true rfl) (Nat.le_of_ble_eq_true rfl) (hly 2 _ rfl) rfl ?_
            have q_29 := g_2_6 hG_14
            have q_30 := g_2_7 hG_14
            have q_31 := g_2_8 hG_14
            refine c_55 (most := 99) hly hF hG_14 hA (by omega) (by exact tkO_c (by rw [fg14 22 4 (by omega), fg7 22 4 (by omega)]) (by rfl) (by rfl) (by rfl) htk) (by omega) (fun r_32 G_33 hG_33 fg33 p33_0 p33_1 p33_2 => ?_)
            show Re L xs 63 92 [(0, .ref 2), (1, V costs), (2, V (G_7 2 7)), (3, V (((G_7 2 9) * 8) + (G_14 2 9))), (4, V 1000000)] [V r_32] (HP ly F G_33 A B) _
            refine r_ne0 (t := 97) i_63_92 (by decide) (by omega) (fun u_34 => ?_) (fun u_34 => ?_)
            · skip
              refine r_aload_n i_63_97 rfl ?_
              refine r_getI i_63_98 rfl (hly 2 _ rfl) ?_
              have q_35 := g_2_9 hG_33
              refine r_istore (l' := [(0, .ref 2), (1, V costs), (2, V (G_7 2 7)), (3, V (((G_7 2 9) * 8) + (G_14 2 9))), (4, V (G_33 2 9))]) i_63_101 (by decide +kernel) rfl ?_
              exact jn103 (G_33 2 9) G_33 hG_33 (by intro a k hh; rw [fg33 a k (fun h => h.elim (fun h => hh (Or.inl h)) (fun h => h.elim (fun h => hh (Or.inr (Or.inl h))) (fun h => h.elim (fun h => hh (Or.inr (Or.inr (Or.inl h)))) (fun h => h.elim (fun h => hh (Or.inr (Or.inr (Or.inr (Or.inl h))))) (fun h => h.elim (fun h => hh (Or.inr (Or.inr (Or.inr (Or.inr (Or.inl h)))))) (fun h => h.elim (fun h => hh (Or.inr (Or.inr (Or.inr (Or.inr (Or.inr (Or.inl h))))))) (fun h => hh (Or.inr (Or.inr (Or.inr (Or.inr (Or.inr (Or.inr h)))))))))))))]) (by omega) (by omega)
            · skip
              refine r_iconst i_63_95 ?_
              exact r_iret i_63_96 rfl (nar_Z (by omega)) (K 0 G_33 A hG_33 hA (by intro a k hh; rw [fg33 a k (fun h => h.elim (fun h => hh (Or.inl h)) (fun h => h.elim (fun h => hh (Or.inr (Or.inl h))) (fun h => h.elim (fun h => hh (Or.inr (Or.inr (Or.inl h)))) (fun h => h.elim (fun h => hh (Or.inr (Or.inr (Or.inr (Or.inl h))))) (fun h => h.elim (fun h => hh (Or.inr (Or.inr (Or.inr (Or.inr (Or.inl h)))))) (fun h => h.elim (fun h => hh (Or.inr (Or.inr (Or.inr (Or.inr (Or.inr (Or.inl h))))))) (fun h => hh (Or.inr (Or.inr (Or.inr (Or.inr (Or.inr (Or.inr (Or.inl h)))))))))))))), fg14 a k (fun h => h.elim (fun h => hh (Or.inl h)) (fun h => h.elim (fun h => hh (Or.inr (Or.inl h))) (fun h => h.elim (fun h => hh (Or.inr (Or.inr (Or.inl h)))) (fun h => h.elim (fun h => hh (Or.inr (Or.inr (Or.inr (Or.inl h))))) (fun h => h.elim (fun h => hh (Or.inr (Or.inr (Or.inr (Or.inr (Or.inl h)))))) (fun h => h.elim (fun h => hh (Or.inr (Or.inr (Or.inr (Or.inr (Or.inr (Or.inl h))))))) (fun h => hh (Or.inr (Or.inr (Or.inr (Or.inr (Or.inr (Or.inr (Or.inl h)))))))))))))), fg7 a k (fun h => h.elim (fun h => hh (Or.inl h)) (fun h => h.elim (fun h => hh (Or.inr (Or.inl h))) (fun h => h.elim (fun h => hh (Or.inr (Or.inr (Or.inl h)))) (fun h => h.elim (fun h => hh (Or.inr (Or.inr (Or.inr (Or.inl h))))) (fun h => h.elim (fun h => hh (Or.inr (Or.inr (Or.inr (Or.inr (Or.inl h)))))) (fun h => h.elim (fun h => hh (Or.inr (Or.inr (Or.inr (Or.inr (Or.inr (Or.inl h))))))) (fun h => hh (Or.inr (Or.inr (Or.inr (Or.inr (Or.inr (Or.inr (Or.inl h))))))))))))))]) (by intro a hh; rfl) (by omega) (by omega) (by exact fun h => h))
        · skip
          refine r_aload_n i_63_71 rfl ?_
          refine r_iconst i_63_72 ?_
          refine r_iload_n i_63_73 rfl ?_
          refine r_cV (as := [V (G_7 2 7), V 3]) i_63_74 rfl (by decide +kernel) (Nat.le_of_ble_eq_true rfl) (Nat.le_of_ble_eq_true rfl) (hly 2 _ rfl) rfl ?_
          refine c_56 (kind := 3) (place := G_7 2 7) hly hF hG_14 hA (by omega) (by omega) (by omega) (by omega) (fun r_36 G_37 hG_37 fg37 p37_0 => ?_)
          show Re L xs 63 77 [(0, .ref 2), (1, V costs), (2, V (G_7 2 7)), (3, V (((G_7 2 9) * 8) + (G_14 2 9)))] [V r_36] (HP ly F G_37 A B) _
          exact r_iret i_63_77 rfl (nar_Z (by omega)) (K r_36 G_37 A hG_37 hA (by intro a k hh; rw [fg37 a k (fun h => h.elim (fun h => hh (Or.inl h)) (fun h => hh (Or.inr (Or.inl h)))), fg14 a k (fun h => h.elim (fun h => hh (Or.inl h)) (fun h => h.elim (fun h => hh (Or.inr (Or.inl h))) (fun h => h.elim (fun h => hh (Or.inr (Or.inr (Or.inl h)))) (fun h => h.elim (fun h => hh (Or.inr (Or.inr (Or.inr (Or.inl h))))) (fun h => h.elim (fun h => hh (Or.inr (Or.inr (Or.inr (Or.inr (Or.inl h)))))) (fun h => h.elim (fun h => hh (Or.inr (Or.inr (Or.inr (Or.inr (Or.inr (Or.inl h))))))) (fun h => hh (Or.inr (Or.inr (Or.inr (Or.inr (Or.inr (Or.inr (Or.inl h)))))))))))))), fg7 a k (fun h => h.elim (fun h => hh (Or.inl h)) (fun h => h.elim (fun h => hh (Or.inr (Or.inl h))) (fun h => h.elim (fun h => hh (Or.inr (Or.inr (Or.inl h)))) (fun h => h.elim (fun h => hh (Or.inr (Or.inr (Or.inr (Or.inl h))))) (fun h => h.elim (fun h => hh (Or.inr (Or.inr (Or.inr (Or.inr (Or.inl h)))))) (fun h => h.elim (fun h => hh (Or.inr (Or.inr (Or.inr (Or.inr (Or.inr (Or.inl h))))))) (fun h => hh (Or.inr (Or.inr (Or.inr (Or.inr (Or.inr (Or.inr (Or.inl h))))))))))))))]) (by intro a hh; rfl) (by rw [show G_37 2 6 = G_14 2 6 from by rw [fg37 2 6 (by omega)]] <;> rw [show G_37 2 7 = G_14 2 7 from by rw [fg37 2 7 (by omega)]] <;> rw [show G_37 2 8 = G_14 2 8 from by rw [fg37 2 8 (by omega)]] <;> omega) (by omega) (by exact fun h => h))
      · skip
        refine r_iconst i_63_50 ?_
        exact r_iret i_63_51 rfl (nar_Z (by omega)) (K 0 G_14 A hG_14 hA (by intro a k hh; rw [fg14 a k (fun h => h.elim (fun h => hh (Or.inl h)) (fun h => h.elim (fun h => hh (Or.inr (Or.inl h))) (fun h => h.elim (fun h => hh (Or.inr (Or.inr (Or.inl h)))) (fun h => h.elim (fun h => hh (Or.inr (Or.inr (Or.inr (Or.inl h))))) (fun h => h.elim (fun h => hh (Or.inr (Or.inr (Or.inr (Or.inr (Or.inl h)))))) (fun h => h.elim (fun h => hh (Or.inr (Or.inr (Or.inr (Or.inr (Or.inr (Or.inl h))))))) (fun h => hh (Or.inr (Or.inr (Or.inr (Or.inr (Or.inr (Or.inr (Or.inl h)))))))))))))), fg7 a k (fun h => h.elim (fun h => hh (Or.inl h)) (fun h => h.elim (fun h => hh (Or.inr (Or.inl h))) (fun h => h.elim (fun h => hh (Or.inr (Or.inr (Or.inl h)))) (fun h => h.elim (fun h => hh (Or.inr (Or.inr (Or.inr (Or.inl h))))) (fun h => h.elim (fun h => hh (Or.inr (Or.inr (Or.inr (Or.inr (Or.inl h)))))) (fun h => h.elim (fun h => hh (Or.inr (Or.inr (Or.inr (Or.inr (Or.inr (Or.inl h))))))) (fun h => hh (Or.inr (Or.inr (Or.inr (Or.inr (Or.inr (Or.inr (Or.inl h))))))))))))))]) (by intro a hh; rfl) (by omega) (by omega) (by exact fun h => h))
    · skip
      refine r_iconst i_63_26 ?_
      exact r_iret i_63_27 rfl (nar_Z (by omega)) (K 0 G_7 A hG_7 hA (by intro a k hh; rw [fg7 a k (fun h => h.elim (fun h => hh (Or.inl h)) (fun h => h.elim (fun h => hh (Or.inr (Or.inl h))) (fun h => h.elim (fun h => hh (Or.inr (Or.inr (Or.inl h)))) (fun h => h.elim (fun h => hh (Or.inr (Or.inr (Or.inr (Or.inl h))))) (fun h => h.elim (fun h => hh (Or.inr (Or.inr (Or.inr (Or.inr (Or.inl h)))))) (fun h => h.elim (fun h => hh (Or.inr (Or.inr (Or.inr (Or.inr (Or.inr (Or.inl h))))))) (fun h => hh (Or.inr (Or.inr (Or.inr (Or.inr (Or.inr (Or.inr (Or.inl h))))))))))))))]) (by intro a hh; rfl) (by omega) (by omega) (by exact fun h => h))
  · skip
    refine r_aload_n i_63_12 rfl ?_
    refine r_cV (as := []) i_63_13 rfl (by decide +kernel) (Nat.le_of_ble_eq_true rfl) (Nat.le_of_ble_eq_true rfl) (hly 2 _ rfl) rfl ?_
    refine c_52  hly hF hG hA  (fun r_38 G_39 hG_39 fg39 p39_0 => ?_)
    show Re L xs 63 16 [(0, .ref 2), (1, V costs)] [V r_38] (HP ly F G_39 A B) _
    exact r_iret i_63_16 rfl (nar_Z (by omega)) (K r_38 G_39 A hG_39 hA (by intro a k hh; rw [fg39 a k (fun h => h.elim (fun h => hh (Or.inl h)) (fun h => hh (Or.inr (Or.inl h))))]) (by intro a hh; rfl) (by rw [show G_39 2 6 = G 2 6 from by rw [fg39 2 6 (by omega)]] <;> rw [show G_39 2 7 = G 2 7 from by rw [fg39 2 7 (by omega)]] <;> rw [show G_39 2 8 = G 2 8 from by rw [fg39 2 8 (by omega)]] <;> omega) (by omega) (by exact fun h => h))
set_option maxHeartbeats 4000000 in
theorem c_65 {L : Nat} {xs : Nat → Int32} {ly : List LK} {F : Nat → Nat → Value} {G A : Nat → Nat → Int} {B : Nat → Nat → Int64} {Q : Option Value → AH → Prop} {x : Nat} (hly : LyOk ly) (hF : RfOk F) (hG : GO G) (hA : AQ A) (hb : F 2 2 = .ref x) (hx : x = 3 ∨ x = 61) (htk : tkO G A) (hrv : G 2 6 = 0 → G 2 7 + G 2 8 ≤ 2000) (K : ∀ (r : Int) (G' : Nat → Nat → Int), (GO G') → (∀ a k, ¬ ((a = 2 ∧ k = 0) ∨ (a = 2 ∧ k = 1) ∨ (a = 2 ∧ k = 5) ∨ (a = 2 ∧ k = 6) ∨ (a = 2 ∧ k = 7) ∨ (a = 2 ∧ k = 8) ∨ (a = 2 ∧ k = 9) ∨ (a = x ∧ k = 13) ∨ (a = x ∧ k = 14) ∨ (a = x ∧ k = 15)) → G' a k = G a k) → (G' 2 6 = 0 → G' 2 7 + G' 2 8 ≤ 2000) → (0 ≤ r ∧ r ≤ 1) → Q (some (V r)) (HP ly F G' A B)) : Re L xs 65 0 [(0, .ref 2)] [] (HP ly F G A B) Q := by
  refine r_aload_n i_65_0 rfl ?_
  refine r_getF (v := .ref x) i_65_1 rfl (hly 2 _ rfl) hb ?_
  refine r_getI i_65_4 rfl (Lx_0 hly hx) ?_
  have q_1 := Gx_0_13 hG hx
  refine r_eq0 (t := 15) i_65_7 (by decide) (by omega) (fun u_2 => ?_) (fun u_2 => ?_)
  · skip
    refine r_aload_n i_65_15 rfl ?_
    refine r_bipush i_65_16 (by decide) ?_
    refine r_cV (as := [V 7]) i_65_18 rfl (by decide +kernel) (Nat.le_of_ble_eq_true rfl) (Nat.le_of_ble_eq_true rfl) (hly 2 _ rfl) rfl ?_
    have q_3 := g_2_6 hG
    have q_4 := g_2_7 hG
    have q_5 := g_2_8 hG
    refine c_55 (most := 7) hly hF hG hA (by omega) (by exact tkO_c (by rfl) (by rfl) (by rfl) (by rfl) htk) (by omega) (fun r_6 G_7 hG_7 fg7 p7_0 p7_1 p7_2 => ?_)
    show Re L xs 65 21 [(0, .ref 2)] [V r_6] (HP ly F G_7 A B) _
    refine r_ne0 (t := 26) i_65_21 (by decide) (by omega) (fun u_8 => ?_) (fun u_8 => ?_)
    · skip
      refine r_aload_n i_65_26 rfl ?_
      refine r_getF (v := .ref x) i_65_27 rfl (hly 2 _ rfl) hb ?_
      refine r_aload_n i_65_30 rfl ?_
      refine r_getI i_65_31 rfl (hly 2 _ rfl) ?_
      have q_9 := g_2_9 hG_7
      refine r_putIQ i_65_34 (by decide +kernel) (Lx_0 hly hx) (fun G_10 eG_10 => ?_)
      have hG_10 : GO G_10 := by rw [eG_10]; exact GUx_0_14 hx hG_7 (by omega) (by omega)
      refine r_aload_n i_65_37 rfl ?_
      refine r_bipush i_65_38 (by decide) ?_
      refine r_cV (as := [V 99]) i_65_40 rfl (by decide +kernel) (Nat.le_of_ble_eq_true rfl) (Nat.le_of_ble_eq_true rfl) (hly 2 _ rfl) rfl ?_
      have w_11 : G_10 2 6 = G_7 2 6 := by rw [eG_10, up2_n (by omega)]
      have q_12 := g_2_6 hG_7
      have w_13 : G_10 2 7 = G_7 2 7 := by rw [eG_10, up2_n (by omega)]
      have q_14 := g_2_7 hG_7
      have w_15 : G_10 2 8 = G_7 2 8 := by rw [eG_10, up2_n (by omega)]
      have q_16 := g_2_8 hG_7
      refine c_55 (most := 99) hly hF hG_10 hA (by omega) (by exact tkO_c (by rw [eG_10, up2_n (by omega), fg7 22 4 (by omega)]) (by rfl) (by rfl) (by rfl) htk) (by omega) (fun r_17 G_18 hG_18 fg18 p18_0 p18_1 p18_2 => ?_)
      show Re L xs 65 43 [(0, .ref 2)] [V r_17] (HP ly F G_18 A B) _
      refine r_ne0 (t := 48) i_65_43 (by decide) (by omega) (fun u_19 => ?_) (fun u_19 => ?_)
      · skip
        refine r_aload_n i_65_48 rfl ?_
        refine r_getF (v := .ref x) i_65_49 rfl (hly 2 _ rfl) hb ?_
        refine r_aload_n i_65_52 rfl ?_
        refine r_getI i_65_53 rfl (hly 2 _ rfl) ?_
        have q_20 := g_2_9 hG_18
        refine r_putIQ i_65_56 (by decide +kernel) (Lx_0 hly hx) (fun G_21 eG_21 => ?_)
        have hG_21 : GO G_21 := by rw [eG_21]; exact GUx_0_15 hx hG_18 (by omega) (by omega)
        refine r_aload_n i_65_59 rfl ?_
        refine r_getF (v := .ref x) i_65_60 rfl (hly 2 _ rfl) hb ?_
        refine r_iconst i_65_63 ?_
        refine r_putZQ i_65_64 (by decide +kernel) (Lx_0 hly hx) (by omega) (fun G_22 eG_22 => ?_)
        have hG_22 : GO G_22 := by rw [eG_22]; exact GUx_0_13 hx hG_21 (by omega) (by omega)
        refine r_aload_n i_65_67 rfl ?_
        refine r_cV (as := []) i_65_68 rfl (by decide +kernel) (Nat.le_of_ble_eq_true rfl) (Nat.le_of_ble_eq_true rfl) (hly 2 _ rfl) rfl ?_
        have w_23 : G_22 2 6 = G_18 2 6 := by rw [eG_22, up2_n (by omega), eG_21, up2_n (by omega)]
        have q_24 := g_2_6 hG_18
        have w_25 : G_22 2 7 = G_18 2 7 := by rw [eG_22, up2_n (by omega), eG_21, up2_n (by omega)]
        have q_26 := g_2_7 hG_18
        have w_27 : G_22 2 8 = G_18 2 8 := by rw [eG_22, up2_n (by omega), eG_21, up2_n (by omega)]
        have q_28 := g_2_8 hG_18
        refine c_61  hly hF hG_22 hA (by exact tkO_c (by rw [eG_22, up2_n (by omega), eG_21, up2_n (by omega), fg18 22 4 (by omega), eG_10, up2_n (by omega), fg7 22 4 (by omega)]) (by rfl) (by rfl) (by rfl) htk) (by omega) (fun r_29 G_30 hG_30 fg30 p30_0 p30_1 => ?_)
        show Re L xs 65 71 [(0, .ref 2)] [V r_29] (HP ly F G_30 A B) _
        exact r_iret i_65_71 rfl (nar_Z (by omega)) (K r_29 G_30 hG_30 (by intro a k hh; rw [fg30 a k (fun h => h.elim (fun h => hh (Or.inl h)) (fun h => h.elim (fun h => hh (Or.inr (Or.inl h))) (fun h => h.elim (fun h => hh (Or.inr (Or.inr (Or.inl h)))) (fun h => h.elim (fun h => hh (Or.inr (Or.inr (Or.inr (Or.inl h))))) (fun h => h.elim (fun h => hh (Or.inr (Or.inr (Or.inr (Or.inr (Or.inl h)))))) (fun h => h.elim (fun h => hh (Or.inr (Or.inr (Or.inr (Or.inr (Or.inr (Or.inl h))))))) (fun h => hh (Or.inr (Or.inr (Or.inr (Or.inr (Or.inr (Or.inr (Or.inl h)))))))))))))), eG_22, up2_n (fun h => hh (Or.inr (Or.inr (Or.inr (Or.inr (Or.inr (Or.inr (Or.inr (Or.inl h))))))))), eG_21, up2_n (fun h => hh (Or.inr (Or.inr (Or.inr (Or.inr (Or.inr (Or.inr (Or.inr (Or.inr (Or.inr h)))))))))), fg18 a k (fun h => h.elim (fun h => hh (Or.inl h)) (fun h => h.elim (fun h => hh (Or.inr (Or.inl h))) (fun h => h.elim (fun h => hh (Or.inr (Or.inr (Or.inl h)))) (fun h => h.elim (fun h => hh (Or.inr (Or.inr (Or.inr (Or.inl h))))) (fun h => h.elim (fun h => hh (Or.inr (Or.inr (Or.inr (Or.inr (Or.inl h)))))) (fun h => h.elim (fun h => hh (Or.inr (Or.inr (Or.inr (Or.inr (Or.inr (Or.inl h))))))) (fun h => hh (Or.inr (Or.inr (Or.inr (Or.inr (Or.inr (Or.inr (Or.inl h)))))))))))))), eG_10, up2_n (fun h => hh (Or.inr (Or.inr (Or.inr (Or.inr (Or.inr (Or.inr (Or.inr (Or.inr (Or.inl h)))))))))), fg7 a k (fun h => h.elim (fun h => hh (Or.inl h)) (fun h => h.elim (fun h => hh (Or.inr (Or.inl h))) (fun h => h.elim (fun h => hh (Or.inr (Or.inr (Or.inl h)))) (fun h => h.elim (fun h => hh (Or.inr (Or.inr (Or.inr (Or.inl h))))) (fun h => h.elim (fun h => hh (Or.inr (Or.inr (Or.inr (Or.inr (Or.inl h)))))) (fun h => h.elim (fun h => hh (Or.inr (Or.inr (Or.inr (Or.inr (Or.inr (Or.inl h))))))) (fun h => hh (Or.inr (Or.inr (Or.inr (Or.inr (Or.inr (Or.inr (Or.inl h))))))))))))))]) (by omega) (by omega))
      · skip
        refine r_iconst i_65_46 ?_
        exact r_iret i_65_47 rfl (nar_Z (by omega)) (K 0 G_18 hG_18 (by intro a k hh; rw [fg18 a k (fun h => h.elim (fun h => hh (Or.inl h)) (fun h => h.elim (fun h => hh (Or.inr (Or.inl h))) (fun h => h.elim (fun h => hh (Or.inr (Or.inr (Or.inl h)))) (fun h => h.elim (fun h => hh (Or.inr (Or.inr (Or.inr (Or.inl h))))) (fun h => h.elim (fun h => hh (Or.inr (Or.inr (Or.inr (Or.inr (Or.inl h)))))) (fun h => h.elim (fun h => hh (Or.inr (Or.inr (Or.inr (Or.inr (Or.inr (Or.inl h))))))) (fun h => hh (Or.inr (Or.inr (Or.inr (Or.inr (Or.inr (Or.inr (Or.inl h)))))))))))))), eG_10, up2_n (fun h => hh (Or.inr (Or.inr (Or.inr (Or.inr (Or.inr (Or.inr (Or.inr (Or.inr (Or.inl h)))))))))), fg7 a k (fun h => h.elim (fun h => hh (Or.inl h)) (fun h => h.elim (fun h => hh (Or.inr (Or.inl h))) (fun h => h.elim (fun h => hh (Or.inr (Or.inr (Or.inl h)))) (fun h => h.elim (fun h => hh (Or.inr (Or.inr (Or.inr (Or.inl h))))) (fun h => h.elim (fun h => hh (Or.inr (Or.inr (Or.inr (Or.inr (Or.inl h)))))) (fun h => h.elim (fun h => hh (Or.inr (Or.inr (Or.inr (Or.inr (Or.inr (Or.inl h))))))) (fun h => hh (Or.inr (Or.inr (Or.inr (Or.inr (Or.inr (Or.inr (Or.inl h))))))))))))))]) (by omega) (by omega))
    · skip
      refine r_iconst i_65_24 ?_
      exact r_iret i_65_25 rfl (nar_Z (by omega)) (K 0 G_7 hG_7 (by intro a k hh; rw [fg7 a k (fun h => h.elim (fun h => hh (Or.inl h)) (fun h => h.elim (fun h => hh (Or.inr (Or.inl h))) (fun h => h.elim (fun h => hh (Or.inr (Or.inr (Or.inl h)))) (fun h => h.elim (fun h => hh (Or.inr (Or.inr (Or.inr (Or.inl h))))) (fun h => h.elim (fun h => hh (Or.inr (Or.inr (Or.inr (Or.inr (Or.inl h)))))) (fun h => h.elim (fun h => hh (Or.inr (Or.inr (Or.inr (Or.inr (Or.inr (Or.inl h))))))) (fun h => hh (Or.inr (Or.inr (Or.inr (Or.inr (Or.inr (Or.inr (Or.inl h))))))))))))))]) (by omega) (by omega))
  · skip
    refine r_aload_n i_65_10 rfl ?_
    refine r_cV (as := []) i_65_11 rfl (by decide +kernel) (Nat.le_of_ble_eq_true rfl) (Nat.le_of_ble_eq_true rfl) (hly 2 _ rfl) rfl ?_
    refine c_52  hly hF hG hA  (fun r_31 G_32 hG_32 fg32 p32_0 => ?_)
    show Re L xs 65 14 [(0, .ref 2)] [V r_31] (HP ly F G_32 A B) _
    exact r_iret i_65_14 rfl (nar_Z (by omega)) (K r_31 G_32 hG_32 (by intro a k hh; rw [fg32 a k (fun h => h.elim (fun h => hh (Or.inl h)) (fun h => hh (Or.inr (Or.inl h))))]) (by rw [show G_32 2 6 = G 2 6 from by rw [fg32 2 6 (by omega)]] <;> rw [show G_32 2 7 = G 2 7 from by rw [fg32 2 7 (by omega)]] <;> rw [show G_32 2 8 = G 2 8 from by rw [fg32 2 8 (by omega)]] <;> omega) (by omega))
set_option maxHeartbeats 4000000 in
theorem c_49 {L : Nat} {xs : Nat → Int32} {ly : List LK} {F : Nat → Nat → Value} {G A : Nat → Nat → Int} {B : Nat → Nat → Int64} {Q : Option Value → AH → Prop} {x : Nat} (hly : LyOk ly) (hF : RfOk F) (hG : GO G) (hA : AQ A) (hb : F 2 2 = .ref x) (hx : x = 3 ∨ x = 61) (htk : tkO G A) (hrv : G 2 6 = 0 → G 2 7 + G 2 8 ≤ 2000) (K : ∀ (r : Int) (G' : Nat → Nat → Int) (A' : Nat → Nat → Int), (GO G') → (AQ A') → (∀ a k, ¬ ((a = 2 ∧ k = 0) ∨ (a = 2 ∧ k = 1) ∨ (a = 2 ∧ k = 5) ∨ (a = 2 ∧ k = 6) ∨ (a = 2 ∧ k = 7) ∨ (a = 2 ∧ k = 8) ∨ (a = 2 ∧ k = 9) ∨ (a = x + 1 ∧ k = 2) ∨ (a = x + 9 ∧ k = 2) ∨ (a = x + 14 ∧ k = 2) ∨ (a = x ∧ k = 12) ∨ (a = x ∧ k = 13) ∨ (a = x ∧ k = 14) ∨ (a = x ∧ k = 15)) → G' a k = G a k) → (∀ a, ¬ (a = x + 2 ∨ a = x + 3 ∨ a = x + 4 ∨ a = x + 5 ∨ a = x + 6 ∨ a = x + 7 ∨ a = x + 8 ∨ a = x + 10 ∨ a = x + 11 ∨ a = x + 12 ∨ a = x + 13 ∨ a = x + 15 ∨ a = x + 16 ∨ a = x + 17 ∨ a = x + 18) → A' a = A a) → (G' 2 6 = 0 → G' 2 7 + G' 2 8 ≤ 2000) → (0 ≤ r ∧ r ≤ 1) → (PC A (x + 17) → PC A' (x + 17)) → (r = 1 → lz G A x → lz G' A' x) → Q (some (V r)) (HP ly F G' A' B)) : Re L xs 49 0 [(0, .ref 2)] [] (HP ly F G A B) Q := by
  refine r_aload_n i_49_0 rfl ?_
  refine r_ldcs (s := 1) i_49_1 (by decide) ?_
  refine r_cV (as := [.float 1]) i_49_3 rfl (by decide +kernel) (Nat.le_of_ble_eq_true rfl) (Nat.le_of_ble_eq_true rfl) (hly 2 _ rfl) rfl ?_
  have q_1 := g_2_6 hG
  have q_2 := g_2_7 hG
  have q_3 := g_2_8 hG
  refine c_50 (s := 1) hly hF hG hA (by decide) (by omega) (fun r_4 p4_0 => ?_)
  show Re L xs 49 6 [(0, .ref 2)] [V r_4] (HP ly F G A B) _
  refine r_eq0 (t := 14) i_49_6 (by decide) (by omega) (fun u_5 => ?_) (fun u_5 => ?_)
  · skip
    refine r_aload_n i_49_14 rfl ?_
    refine r_ldcs (s := 4) i_49_15 (by decide) ?_
    refine r_cV (as := [.float 4]) i_49_17 rfl (by decide +kernel) (Nat.le_of_ble_eq_true rfl) (Nat.le_of_ble_eq_true rfl) (hly 2 _ rfl) rfl ?_
    refine c_50 (s := 4) hly hF hG hA (by decide) (by omega) (fun r_6 p6_0 => ?_)
    show Re L xs 49 20 [(0, .ref 2)] [V r_6] (HP ly F G A B) _
    refine r_eq0 (t := 28) i_49_20 (by decide) (by omega) (fun u_7 => ?_) (fun u_7 => ?_)
    · skip
      refine r_aload_n i_49_28 rfl ?_
      refine r_ldcs (s := 5) i_49_29 (by decide) ?_
      refine r_cV (as := [.float 5]) i_49_31 rfl (by decide +kernel) (Nat.le_of_ble_eq_true rfl) (Nat.le_of_ble_eq_true rfl) (hly 2 _ rfl) rfl ?_
      refine c_50 (s := 5) hly hF hG hA (by decide) (by omega) (fun r_8 p8_0 => ?_)
      show Re L xs 49 34 [(0, .ref 2)] [V r_8] (HP ly F G A B) _
      refine r_eq0 (t := 42) i_49_34 (by decide) (by omega) (fun u_9 => ?_) (fun u_9 => ?_)
      · skip
        refine r_aload_n i_49_42 rfl ?_
        refine r_ldcs (s := 6) i_49_43 (by decide) ?_
        refine r_cV (as := [.float 6]) i_49_45 rfl (by decide +kernel) (Nat.le_of_ble_eq_true rfl) (Nat.le_of_ble_eq_true rfl) (hly 2 _ rfl) rfl ?_
        refine c_50 (s := 6) hly hF hG hA (by decide) (by omega) (fun r_10 p10_0 => ?_)
        show Re L xs 49 48 [(0, .ref 2)] [V r_10] (HP ly F G A B) _
        refine r_eq0 (t := 57) i_49_48 (by decide) (by omega) (fun u_11 => ?_) (fun u_11 => ?_)
        · skip
          refine r_aload_n i_49_57 rfl ?_
          refine r_ldcs (s := 7) i_49_58 (by decide) ?_
          refine r_cV (as := [.float 7]) i_49_60 rfl (by decide +kernel) (Nat.le_of_ble_eq_true rfl) (Nat.le_of_ble_eq_true rfl) (hly 2 _ rfl) rfl ?_
          refine c_50 (s := 7) hly hF hG hA (by decide) (by omega) (fun r_12 p12_0 => ?_)
          show Re L xs 49 63 [(0, .ref 2)] [V r_12] (HP ly F G A B) _
          refine r_eq0 (t := 72) i_49_63 (by decide) (by omega) (fun u_13 => ?_) (fun u_13 => ?_)
          · skip
            refine r_aload_n i_49_72 rfl ?_
            refine r_ldcs (s := 8) i_49_73 (by decide) ?_
            refine r_cV (as := [.float 8]) i_49_75 rfl (by decide +kernel) (Nat.le_of_ble_eq_true rfl) (Nat.le_of_ble_eq_true rfl) (hly 2 _ rfl) rfl ?_
            refine c_50 (s := 8) hly hF hG hA (by decide) (by omega) (fun r_14 p14_0 => ?_)
            show Re L xs 49 78 [(0, .ref 2)] [V r_14] (HP ly F G A B) _
            refine r_eq0 (t := 86) i_49_78 (by decide) (by omega) (fun u_15 => ?_) (fun u_15 => ?_)
            · skip
              refine r_aload_n i_49_86 rfl ?_
              refine r_cV (as := []) i_49_87 rfl (by decide +kernel) (Nat.le_of_ble_eq_true rfl) (Nat.le_of_ble_eq_true rfl) (hly 2 _ rfl) rfl ?_
              refine c_52  hly hF hG hA  (fun r_16 G_17 hG_17 fg17 p17_0 => ?_)
              show Re L xs 49 90 [(0, .ref 2)] [V r_16] (HP ly F G_17 A B) _
              exact r_iret i_49_90 rfl (nar_Z (by omega)) (K r_16 G_17 A hG_17 hA (by intro a k hh; rw [fg17 a k (fun h => h.elim (fun h => hh (Or.inl h)) (fun h => hh (Or.inr (Or.inl h))))]) (by intro a hh; rfl) (by rw [show G_17 2 6 = G 2 6 from by rw [fg17 2 6 (by omega)]] <;> rw [show G_17 2 7 = G 2 7 from by rw [fg17 2 7 (by omega)]] <;> rw [show G_17 2 8 = G 2 8 from by rw [fg17 2 8 (by omega)]] <;> omega) (by omega) (by exact PC_c (by rfl)) (by intro h; exfalso; omega))
            · skip
              refine r_aload_n i_49_81 rfl ?_
              refine r_cV (as := []) i_49_82 rfl (by decide +kernel) (Nat.le_of_ble_eq_true rfl) (Nat.le_of_ble_eq_true rfl) (hly 2 _ rfl) rfl ?_
              refine c_65 (x := x) hly hF hG hA (by exact hb) (by exact hx) (by exact tkO_c (by rfl) (by rfl) (by rfl) (by rfl) htk) (by omega) (fun r_18 G_19 hG_19 fg19 p19_0 p19_1 => ?_)
              show Re L xs 49 85 [(0, .ref 2)] [V r_18] (HP ly F G_19 A B) _
              exact r_iret i_49_85 rfl (nar_Z (by omega)) (K r_18 G_19 A hG_19 hA (by intro a k hh; rw [fg19 a k (fun h => h.elim (fun h => hh (Or.inl h)) (fun h => h.elim (fun h => hh (Or.inr (Or.inl h))) (fun h => h.elim (fun h => hh (Or.inr (Or.inr (Or.inl h)))) (fun h => h.elim (fun h => hh (Or.inr (Or.inr (Or.inr (Or.inl h))))) (fun h => h.elim (fun h => hh (Or.inr (Or.inr (Or.inr (Or.inr (Or.inl h)))))) (fun h => h.elim (fun h => hh (Or.inr (Or.inr (Or.inr (Or.inr (Or.inr (Or.inl h))))))) (fun h => h.elim (fun h => hh (Or.inr (Or.inr (Or.inr (Or.inr (Or.inr (Or.inr (Or.inl h)))))))) (fun h => h.elim (fun h => hh (Or.inr (Or.inr (Or.inr (Or.inr (Or.inr (Or.inr (Or.inr (Or.inr (Or.inr (Or.inr (Or.inr (Or.inl h))))))))))))) (fun h => h.elim (fun h => hh (Or.inr (Or.inr (Or.inr (Or.inr (Or.inr (Or.inr (Or.inr (Or.inr (Or.inr (Or.inr (Or.inr (Or.inr (Or.inl h)))))))))))))) (fun h => hh (Or.inr (Or.inr (Or.inr (Or.inr (Or.inr (Or.inr (Or.inr (Or.inr (Or.inr (Or.inr (Or.inr (Or.inr (Or.inr h)))))))))))))))))))))))]) (by intro a hh; rfl) (by omega) (by omega) (by exact PC_c (by rfl)) (by intro _; exact lz_c (by rw [fg19 (x + 1) 2 (by omega)]) (by rfl)))
          · skip
            refine r_aload_n i_49_66 rfl ?_
            refine r_iconst i_49_67 ?_
            refine r_cV (as := [V 0]) i_49_68 rfl (by decide +kernel) (Nat.le_of_ble_eq_true rfl) (Nat.le_of_ble_eq_true rfl) (hly 2 _ rfl) rfl ?_
            refine c_63 (costs := 0) (x := x) hly hF hG hA (by omega) (by exact hb) (by exact hx) (by exact tkO_c (by rfl) (by rfl) (by rfl) (by rfl) htk) (by omega) (by omega) (fun r_20 G_21 A_22 hG_21 hA_22 fg22 fa22 p22_0 p22_1 p22_2 => ?_)
            show Re L xs 49 71 [(0, .ref 2)] [V r_20] (HP ly F G_21 A_22 B) _
            exact r_iret i_49_71 rfl (nar_Z (by omega)) (K r_20 G_21 A_22 hG_21 hA_22 (by intro a k hh; rw [fg22 a k (fun h => h.elim (fun h => hh (Or.inl h)) (fun h => h.elim (fun h => hh (Or.inr (Or.inl h))) (fun h => h.elim (fun h => hh (Or.inr (Or.inr (Or.inl h)))) (fun h => h.elim (fun h => hh (Or.inr (Or.inr (Or.inr (Or.inl h))))) (fun h => h.elim (fun h => hh (Or.inr (Or.inr (Or.inr (Or.inr (Or.inl h)))))) (fun h => h.elim (fun h => hh (Or.inr (Or.inr (Or.inr (Or.inr (Or.inr (Or.inl h))))))) (fun h => h.elim (fun h => hh (Or.inr (Or.inr (Or.inr (Or.inr (Or.inr (Or.inr (Or.inl h)))))))) (fun h => hh (Or.inr (Or.inr (Or.inr (Or.inr (Or.inr (Or.inr (Or.inr (Or.inr (Or.inr (Or.inr (Or.inl h)))))))))))))))))))]) (by intro a hh; rw [fa22 a (fun h => h.elim (fun h => hh (Or.inr (Or.inr (Or.inr (Or.inr (Or.inr (Or.inr (Or.inr (Or.inr (Or.inr (Or.inr (Or.inr (Or.inr (Or.inr (Or.inl h))))))))))))))) (fun h => hh (Or.inr (Or.inr (Or.inr (Or.inr (Or.inr (Or.inr (Or.inr (Or.inr (Or.inr (Or.inr (Or.inr (Or.inr (Or.inr (Or.inr h))))))))))))))))]) (by omega) (by omega) (by exact p22_2) (by intro _; exact lz_c (by rw [fg22 (x + 1) 2 (by omega)]) (by rw [fa22 (x + 8) (by omega)])))
        · skip
          refine r_aload_n i_49_51 rfl ?_
          refine r_iconst i_49_52 ?_
          refine r_cV (as := [V 1]) i_49_53 rfl (by decide +kernel) (Nat.le_of_ble_eq_true rfl) (Nat.le_of_ble_eq_true rfl) (hly 2 _ rfl) rfl ?_
          refine c_63 (costs := 1) (x := x) hly hF hG hA (by omega) (by exact hb) (by exact hx) (by exact tkO_c (by rfl) (by rfl) (by rfl) (by rfl) htk) (by omega) (by omega) (fun r_23 G_24 A_25 hG_24 hA_25 fg25 fa25 p25_0 p25_1 p25_2 => ?_)
          show Re L xs 49 56 [(0, .ref 2)] [V r_23] (HP ly F G_24 A_25 B) _
          exact r_iret i_49_56 rfl (nar_Z (by omega)) (K r_23 G_24 A_25 hG_24 hA_25 (by intro a k hh; rw [fg25 a k (fun h => h.elim (fun h => hh (Or.inl h)) (fun h => h.elim (fun h => hh (Or.inr (Or.inl h))) (fun h => h.elim (fun h => hh (Or.inr (Or.inr (Or.inl h)))) (fun h => h.elim (fun h => hh (Or.inr (Or.inr (Or.inr (Or.inl h))))) (fun h => h.elim (fun h => hh (Or.inr (Or.inr (Or.inr (Or.inr (Or.inl h)))))) (fun h => h.elim (fun h => hh (Or.inr (Or.inr (Or.inr (Or.inr (Or.inr (Or.inl h))))))) (fun h => h.elim (fun h => hh (Or.inr (Or.inr (Or.inr (Or.inr (Or.inr (Or.inr (Or.inl h)))))))) (fun h => hh (Or.inr (Or.inr (Or.inr (Or.inr (Or.inr (Or.inr (Or.inr (Or.inr (Or.inr (Or.inr (Or.inl h)))))))))))))))))))]) (by intro a hh; rw [fa25 a (fun h => h.elim (fun h => hh (Or.inr (Or.inr (Or.inr (Or.inr (Or.inr (Or.inr (Or.inr (Or.inr (Or.inr (Or.inr (Or.inr (Or.inr (Or.inr (Or.inl h))))))))))))))) (fun h => hh (Or.inr (Or.inr (Or.inr (Or.inr (Or.inr (Or.inr (Or.inr (Or.inr (Or.inr (Or.inr (Or.inr (Or.inr (Or.inr (Or.inr h))))))))))))))))]) (by omega) (by omega) (by exact p25_2) (by intro _; exact lz_c (by rw [fg25 (x + 1) 2 (by omega)]) (by rw [fa25 (x + 8) (by omega)])))
      · skip
        refine r_aload_n i_49_37 rfl ?_
        refine r_cV (as := []) i_49_38 rfl (by decide +kernel) (Nat.le_of_ble_eq_true rfl) (Nat.le_of_ble_eq_true rfl) (hly 2 _ rfl) rfl ?_
        refine c_62 (x := x) hly hF hG hA (by exact hb) (by exact hx) (by exact tkO_c (by rfl) (by rfl) (by rfl) (by rfl) htk) (by omega) (fun r_26 G_27 A_28 hG_27 hA_28 fg28 fa28 p28_0 p28_1 => ?_)
        show Re L xs 49 41 [(0, .ref 2)] [V r_26] (HP ly F G_27 A_28 B) _
        exact r_iret i_49_41 rfl (nar_Z (by omega)) (K r_26 G_27 A_28 hG_27 hA_28 (by intro a k hh; rw [fg28 a k (fun h => h.elim (fun h => hh (Or.inl h)) (fun h => h.elim (fun h => hh (Or.inr (Or.inl h))) (fun h => h.elim (fun h => hh (Or.inr (Or.inr (Or.inl h)))) (fun h => h.elim (fun h => hh (Or.inr (Or.inr (Or.inr (Or.inl h))))) (fun h => h.elim (fun h => hh (Or.inr (Or.inr (Or.inr (Or.inr (Or.inl h)))))) (fun h => h.elim (fun h => hh (Or.inr (Or.inr (Or.inr (Or.inr (Or.inr (Or.inl h))))))) (fun h => h.elim (fun h => hh (Or.inr (Or.inr (Or.inr (Or.inr (Or.inr (Or.inr (Or.inl h)))))))) (fun h => hh (Or.inr (Or.inr (Or.inr (Or.inr (Or.inr (Or.inr (Or.inr (Or.inr (Or.inr (Or.inl h))))))))))))))))))]) (by intro a hh; rw [fa28 a (fun h => h.elim (fun h => hh (Or.inr (Or.inr (Or.inr (Or.inr (Or.inr (Or.inr (Or.inr (Or.inr (Or.inr (Or.inr (Or.inr (Or.inl h))))))))))))) (fun h => hh (Or.inr (Or.inr (Or.inr (Or.inr (Or.inr (Or.inr (Or.inr (Or.inr (Or.inr (Or.inr (Or.inr (Or.inr (Or.inl h)))))))))))))))]) (by omega) (by omega) (by exact PC_c (by rw [fa28 (x + 17) (by omega)])) (by intro _; exact lz_c (by rw [fg28 (x + 1) 2 (by omega)]) (by rw [fa28 (x + 8) (by omega)])))
    · skip
      refine r_aload_n i_49_23 rfl ?_
      refine r_cV (as := []) i_49_24 rfl (by decide +kernel) (Nat.le_of_ble_eq_true rfl) (Nat.le_of_ble_eq_true rfl) (hly 2 _ rfl) rfl ?_
      refine c_60 (x := x) hly hF hG hA (by exact hb) (by exact hx) (by exact tkO_c (by rfl) (by rfl) (by rfl) (by rfl) htk) (by omega) (fun r_29 G_30 A_31 hG_30 hA_31 fg31 fa31 p31_0 p31_1 => ?_)
      show Re L xs 49 27 [(0, .ref 2)] [V r_29] (HP ly F G_30 A_31 B) _
      exact r_iret i_49_27 rfl (nar_Z (by omega)) (K r_29 G_30 A_31 hG_30 hA_31 (by intro a k hh; rw [fg31 a k (fun h => h.elim (fun h => hh (Or.inl h)) (fun h => h.elim (fun h => hh (Or.inr (Or.inl h))) (fun h => h.elim (fun h => hh (Or.inr (Or.inr (Or.inl h)))) (fun h => h.elim (fun h => hh (Or.inr (Or.inr (Or.inr (Or.inl h))))) (fun h => h.elim (fun h => hh (Or.inr (Or.inr (Or.inr (Or.inr (Or.inl h)))))) (fun h => h.elim (fun h => hh (Or.inr (Or.inr (Or.inr (Or.inr (Or.inr (Or.inl h))))))) (fun h => h.elim (fun h => hh (Or.inr (Or.inr (Or.inr (Or.inr (Or.inr (Or.inr (Or.inl h)))))))) (fun h => hh (Or.inr (Or.inr (Or.inr (Or.inr (Or.inr (Or.inr (Or.inr (Or.inr (Or.inl h)))))))))))))))))]) (by intro a hh; rw [fa31 a (fun h => h.elim (fun h => hh (Or.inr (Or.inr (Or.inr (Or.inr (Or.inr (Or.inr (Or.inr (Or.inl h))))))))) (fun h => h.elim (fun h => hh (Or.inr (Or.inr (Or.inr (Or.inr (Or.inr (Or.inr (Or.inr (Or.inr (Or.inl h)))))))))) (fun h => h.elim (fun h => hh (Or.inr (Or.inr (Or.inr (Or.inr (Or.inr (Or.inr (Or.inr (Or.inr (Or.inr (Or.inl h))))))))))) (fun h => hh (Or.inr (Or.inr (Or.inr (Or.inr (Or.inr (Or.inr (Or.inr (Or.inr (Or.inr (Or.inr (Or.inl h)))))))))))))))]) (by omega) (by omega) (by exact PC_c (by rw [fa31 (x + 17) (by omega)])) (by intro _; exact lz_c (by rw [fg31 (x + 1) 2 (by omega)]) (by rw [fa31 (x + 8) (by omega)])))
  · skip
    refine r_aload_n i_49_9 rfl ?_
    refine r_cV (as := []) i_49_10 rfl (by decide +kernel) (Nat.le_of_ble_eq_true rfl) (Nat.le_of_ble_eq_true rfl) (hly 2 _ rfl) rfl ?_
    refine c_51 (x := x) hly hF hG hA (by exact hb) (by exact hx) (by exact tkO_c (by rfl) (by rfl) (by rfl) (by rfl) htk) (by omega) (fun r_32 G_33 A_34 hG_33 hA_34 fg34 fa34 p34_0 p34_1 p34_2 => ?_)
    show Re L xs 49 13 [(0, .ref 2)] [V r_32] (HP ly F G_33 A_34 B) _
    exact r_iret i_49_13 rfl (nar_Z (by omega)) (K r_32 G_33 A_34 hG_33 hA_34 (by intro a k hh; rw [fg34 a k (fun h => h.elim (fun h => hh (Or.inl h)) (fun h => h.elim (fun h => hh (Or.inr (Or.inl h))) (fun h => h.elim (fun h => hh (Or.inr (Or.inr (Or.inl h)))) (fun h => h.elim (fun h => hh (Or.inr (Or.inr (Or.inr (Or.inl h))))) (fun h => h.elim (fun h => hh (Or.inr (Or.inr (Or.inr (Or.inr (Or.inl h)))))) (fun h => h.elim (fun h => hh (Or.inr (Or.inr (Or.inr (Or.inr (Or.inr (Or.inl h))))))) (fun h => h.elim (fun h => hh (Or.inr (Or.inr (Or.inr (Or.inr (Or.inr (Or.inr (Or.inl h)))))))) (fun h => hh (Or.inr (Or.inr (Or.inr (Or.inr (Or.inr (Or.inr (Or.inr (Or.inl h))))))))))))))))]) (by intro a hh; rw [fa34 a (fun h => h.elim (fun h => hh (Or.inl h)) (fun h => h.elim (fun h => hh (Or.inr (Or.inl h))) (fun h => h.elim (fun h => hh (Or.inr (Or.inr (Or.inl h)))) (fun h => h.elim (fun h => hh (Or.inr (Or.inr (Or.inr (Or.inl h))))) (fun h => h.elim (fun h => hh (Or.inr (Or.inr (Or.inr (Or.inr (Or.inl h)))))) (fun h => h.elim (fun h => hh (Or.inr (Or.inr (Or.inr (Or.inr (Or.inr (Or.inl h))))))) (fun h => hh (Or.inr (Or.inr (Or.inr (Or.inr (Or.inr (Or.inr (Or.inl h))))))))))))))]) (by omega) (by omega) (by exact PC_c (by rw [fa34 (x + 17) (by omega)])) (by exact p34_2))
