set_option maxHeartbeats 4000000 in
theorem c_51 {L : Nat} {xs : Nat → Int32} {ly : List LK} {F : Nat → Nat → Value} {G A : Nat → Nat → Int} {B : Nat → Nat → Int64} {Q : Option Value → AH → Prop} {x : Nat} (hly : LyOk ly) (hF : RfOk F) (hG : GO G) (hA : AQ A) (hb : F 2 2 = .ref x) (hx : x = 3 ∨ x = 61) (htk : tkO G A) (hrv : G 2 6 = 0 → G 2 7 + G 2 8 ≤ 2000) (K : ∀ (r : Int) (G' : Nat → Nat → Int) (A' : Nat → Nat → Int), (GO G') → (AQ A') → (∀ a k, ¬ ((a = 2 ∧ k = 0) ∨ (a = 2 ∧ k = 1) ∨ (a = 2 ∧ k = 5) ∨ (a = 2 ∧ k = 6) ∨ (a = 2 ∧ k = 7) ∨ (a = 2 ∧ k = 8) ∨ (a = 2 ∧ k = 9) ∨ (a = x + 1 ∧ k = 2)) → G' a k = G a k) → (∀ a, ¬ (a = x + 2 ∨ a = x + 3 ∨ a = x + 4 ∨ a = x + 5 ∨ a = x + 6 ∨ a = x + 7 ∨ a = x + 8) → A' a = A a) → (G' 2 6 = 0 → G' 2 7 + G' 2 8 ≤ 2000) → (0 ≤ r ∧ r ≤ 1) → (r = 1 → lz G A x → lz G' A' x) → Q (some (V r)) (HP ly F G' A' B)) : Re L xs 51 0 [(0, .ref 2)] [] (HP ly F G A B) Q := by
  refine r_aload_n i_51_0 rfl ?_
  refine r_getF (v := .ref x) i_51_1 rfl (hly 2 _ rfl) hb ?_
  refine r_getF (v := .ref (x + 1)) i_51_4 rfl (Lx_0 hly hx) (Rx_0_0 hF hx) ?_
  refine r_getI i_51_7 rfl (Lx_1 hly hx) ?_
  have q_1 := Gx_1_2 hG hx
  refine r_istore_n (l' := [(0, .ref 2), (1, V (G (x + 1) 2))]) i_51_10 (by decide +kernel) rfl ?_
  refine r_iload_n i_51_11 rfl ?_
  refine r_bipush i_51_12 (by decide) ?_
  refine r_clt (t := 22) i_51_14 (by decide) (by omega) (by omega) (fun u_2 => ?_) (fun u_2 => ?_)
  · skip
    refine r_aload_n i_51_22 rfl ?_
    refine r_cV (as := []) i_51_23 rfl (by decide +kernel) (Nat.le_of_ble_eq_true rfl) (Nat.le_of_ble_eq_true rfl) (hly 2 _ rfl) rfl ?_
    have q_3 := g_2_6 hG
    have q_4 := g_2_7 hG
    have q_5 := g_2_8 hG
    refine c_53  hly hF hG hA (by exact tkO_c (by rfl) (by rfl) (by rfl) (by rfl) htk) (by omega) (fun r_6 G_7 hG_7 fg7 p7_0 p7_1 p7_2 => ?_)
    show Re L xs 51 26 [(0, .ref 2), (1, V (G (x + 1) 2))] [V r_6] (HP ly F G_7 A B) _
    refine r_ne0 (t := 31) i_51_26 (by decide) (by omega) (fun u_8 => ?_) (fun u_8 => ?_)
    · skip
      refine r_aload_n i_51_31 rfl ?_
      refine r_getI i_51_32 rfl (hly 2 _ rfl) ?_
      have q_9 := g_2_7 hG_7
      refine r_istore_n (l' := [(0, .ref 2), (1, V (G (x + 1) 2)), (2, V (G_7 2 7))]) i_51_35 (by decide +kernel) rfl ?_
      refine r_aload_n i_51_36 rfl ?_
      refine r_getI i_51_37 rfl (hly 2 _ rfl) ?_
      have q_10 := g_2_8 hG_7
      refine r_istore_n (l' := [(0, .ref 2), (1, V (G (x + 1) 2)), (2, V (G_7 2 7)), (3, V (G_7 2 8))]) i_51_40 (by decide +kernel) rfl ?_
      refine r_aload_n i_51_41 rfl ?_
      refine r_bipush i_51_42 (by decide) ?_
      refine r_cV (as := [V 7]) i_51_44 rfl (by decide +kernel) (Nat.le_of_ble_eq_true rfl) (Nat.le_of_ble_eq_true rfl) (hly 2 _ rfl) rfl ?_
      have q_11 := g_2_6 hG_7
      refine c_55 (most := 7) hly hF hG_7 hA (by omega) (by exact tkO_c (by rw [fg7 22 4 (by omega)]) (by rfl) (by rfl) (by rfl) htk) (by omega) (fun r_12 G_13 hG_13 fg13 p13_0 p13_1 p13_2 => ?_)
      show Re L xs 51 47 [(0, .ref 2), (1, V (G (x + 1) 2)), (2, V (G_7 2 7)), (3, V (G_7 2 8))] [V r_12] (HP ly F G_13 A B) _
      refine r_ne0 (t := 52) i_51_47 (by decide) (by omega) (fun u_14 => ?_) (fun u_14 => ?_)
      · skip
        refine r_aload_n i_51_52 rfl ?_
        refine r_getF (v := .ref x) i_51_53 rfl (hly 2 _ rfl) hb ?_
        refine r_aload_n i_51_56 rfl ?_
        refine r_getF (v := .ref 1) i_51_57 rfl (hly 2 _ rfl) (hF.1 2 3 1 rfl) ?_
        refine r_iload_n i_51_60 rfl ?_
        refine r_iload_n i_51_61 rfl ?_
        refine r_aload_n i_51_62 rfl ?_
        refine r_getI i_51_63 rfl (hly 2 _ rfl) ?_
        have q_15 := g_2_9 hG_13
        refine r_cV (as := [V (G_13 2 9), V (G_7 2 8), V (G_7 2 7), .ref 1]) i_51_66 rfl (by decide +kernel) (Nat.le_of_ble_eq_true rfl) (Nat.le_of_ble_eq_true rfl) (Lx_0 hly hx) rfl ?_
        refine c_57 (x := x) (ta := 1) (at' := G_7 2 7) (length := G_7 2 8) (kind := G_13 2 9) (tn := 2000) hly hF hG_13 hA (by omega) (by omega) (by omega) (by omega) (by exact hly 1 _ rfl) (by exact fun i => a_1 hA i) (by omega) (by omega) (by omega) (fun r_16 p16_0 => ?_)
        show Re L xs 51 69 [(0, .ref 2), (1, V (G (x + 1) 2)), (2, V (G_7 2 7)), (3, V (G_7 2 8))] [V r_16] (HP ly F G_13 A B) _
        refine r_eq0 (t := 79) i_51_69 (by decide) (by omega) (fun u_17 => ?_) (fun u_17 => ?_)
        · skip
          refine r_aload_n i_51_79 rfl ?_
          refine r_getF (v := .ref x) i_51_80 rfl (hly 2 _ rfl) hb ?_
          refine r_getF (v := .ref (x + 4)) i_51_83 rfl (Lx_0 hly hx) (Rx_0_1 hF hx) ?_
          refine r_iload_n i_51_86 rfl ?_
          refine r_aload_n i_51_87 rfl ?_
          refine r_getI i_51_88 rfl (hly 2 _ rfl) ?_
          refine r_iastQ i_51_91 (Lx_4 hly hx) (by omega) (by omega) (by omega) (fun A_18 eA_18 => ?_)
          have hA_18 : AQ A_18 := by rw [eA_18]; exact AUx_4 hx hA (by omega) (by omega)
          refine r_aload_n i_51_92 rfl ?_
          refine r_bipush i_51_93 (by decide) ?_
          refine r_cV (as := [V 99]) i_51_95 rfl (by decide +kernel) (Nat.le_of_ble_eq_true rfl) (Nat.le_of_ble_eq_true rfl) (hly 2 _ rfl) rfl ?_
          have q_19 := g_2_6 hG_13
          have q_20 := g_2_7 hG_13
          have q_21 := g_2_8 hG_13
          refine c_55 (most := 99) hly hF hG_13 hA_18 (by omega) (by exact tkO_c (by rw [fg13 22 4 (by omega), fg7 22 4 (by omega)]) (by rw [eA_18, up2_a (by omega)]) (by rw [eA_18, up2_a (by omega)]) (by rw [eA_18, up2_a (by omega)]) htk) (by omega) (fun r_22 G_23 hG_23 fg23 p23_0 p23_1 p23_2 => ?_)
          show Re L xs 51 98 [(0, .ref 2), (1, V (G (x + 1) 2)), (2, V (G_7 2 7)), (3, V (G_7 2 8))] [V r_22] (HP ly F G_23 A_18 B) _
          refine r_ne0 (t := 103) i_51_98 (by decide) (by omega) (fun u_24 => ?_) (fun u_24 => ?_)
          · skip
            refine r_aload_n i_51_103 rfl ?_
            refine r_getF (v := .ref x) i_51_104 rfl (hly 2 _ rfl) hb ?_
            refine r_getF (v := .ref (x + 5)) i_51_107 rfl (Lx_0 hly hx) (Rx_0_2 hF hx) ?_
            refine r_iload_n i_51_110 rfl ?_
            refine r_aload_n i_51_111 rfl ?_
            refine r_getI i_51_112 rfl (hly 2 _ rfl) ?_
            have q_25 := g_2_9 hG_23
            refine r_iastQ i_51_115 (Lx_5 hly hx) (by omega) (by omega) (by omega) (fun A_26 eA_26 => ?_)
            have hA_26 : AQ A_26 := by rw [eA_26]; exact AUx_5 hx hA_18 (by omega) (by omega)
            refine r_aload_n i_51_116 rfl ?_
            refine r_getF (v := .ref x) i_51_117 rfl (hly 2 _ rfl) hb ?_
            refine r_getF (v := .ref (x + 8)) i_51_120 rfl (Lx_0 hly hx) (Rx_0_5 hF hx) ?_
            refine r_iload_n i_51_123 rfl ?_
            refine r_iconst i_51_124 ?_
            refine r_iastQ i_51_125 (Lx_8 hly hx) (by omega) (by omega) (by omega) (fun A_27 eA_27 => ?_)
            have hA_27 : AQ A_27 := by rw [eA_27]; exact AUx_8 hx hA_26 (by omega) (by omega)
            refine r_aload_n i_51_126 rfl ?_
            refine r_iload_n i_51_127 rfl ?_
            refine r_cV (as := [V (G (x + 1) 2)]) i_51_128 rfl (by decide +kernel) (Nat.le_of_ble_eq_true rfl) (Nat.le_of_ble_eq_true rfl) (hly 2 _ rfl) rfl ?_
            have q_28 := g_2_6 hG_23
            have q_29 := g_2_7 hG_23
            have q_30 := g_2_8 hG_23
            refine c_58 (entry := G (x + 1) 2) (x := x) hly hF hG_23 hA_27 (by omega) (by exact hb) (by exact hx) (by exact tkO_c (by rw [fg23 22 4 (by omega), fg13 22 4 (by omega), fg7 22 4 (by omega)]) (by rw [eA_27, up2_a (by omega), eA_26, up2_a (by omega), eA_18, up2_a (by omega)]) (by rw [eA_27, up2_a (by omega), eA_26, up2_a (by omega), eA_18, up2_a (by omega)]) (by rw [eA_27, up2_a (by omega), eA_26, up2_a (by omega), eA_18, up2_a (by omega)]) htk) (by omega) (by omega) (fun r_31 G_32 A_33 hG_32 hA_33 fg33 fa33 p33_0 p33_1 => ?_)
            show Re L xs 51 131 [(0, .ref 2), (1, V (G (x + 1) 2)), (2, V (G_7 2 7)), (3, V (G_7 2 8))] [V r_31] (HP ly F G_32 A_33 B) _
            refine r_ne0 (t := 136) i_51_131 (by decide) (by omega) (fun u_34 => ?_) (fun u_34 => ?_)
            · skip
              refine r_aload_n i_51_136 rfl ?_
              refine r_getF (v := .ref x) i_51_137 rfl (hly 2 _ rfl) hb ?_
              refine r_getF (v := .ref (x + 1)) i_51_140 rfl (Lx_0 hly hx) (Rx_0_0 hF hx) ?_
              refine r_aload_n i_51_143 rfl ?_
              refine r_getF (v := .ref 1) i_51_144 rfl (hly 2 _ rfl) (hF.1 2 3 1 rfl) ?_
              refine r_iload_n i_51_147 rfl ?_
              refine r_iload_n i_51_148 rfl ?_
              refine r_cV (as := [V (G_7 2 8), V (G_7 2 7), .ref 1]) i_51_149 rfl (by decide +kernel) (Nat.le_of_ble_eq_true rfl) (Nat.le_of_ble_eq_true rfl) (Lx_1 hly hx) rfl ?_
              have w_35 : G_32 (x + 1) 2 = G (x + 1) 2 := by rw [fg33 (x + 1) 2 (by omega), fg23 (x + 1) 2 (by omega), fg13 (x + 1) 2 (by omega), fg7 (x + 1) 2 (by omega)]
              refine c_59 (f := x + 1) (ta := 1) (at' := G_7 2 7) (length := G_7 2 8) (cap := 80) (tn := 2000) hly hF hG_32 hA_33 (by omega) (by omega) (by exact Fm_w hx) (by exact hly 1 _ rfl) (by exact fun i => a_1 hA_33 i) (by omega) (by omega) (fun G_36 A_37 hG_36 hA_37 fg37 fa37 p37_0 => ?_)
              show Re L xs 51 152 [(0, .ref 2), (1, V (G (x + 1) 2)), (2, V (G_7 2 7)), (3, V (G_7 2 8))] [] (HP ly F G_36 A_37 B) _
              have xx8_1 : A_27 (x + 8) = fun i => if i = (G (x + 1) 2).toNat then 0 else A (x + 8) i := by rw [eA_27, up2_f, eA_26, up2_a (by omega), eA_18, up2_a (by omega)]
              have xx8 : A_37 (x + 8) = fun i => if i = (G (x + 1) 2).toNat then 0 else A (x + 8) i := by rw [fa37 (x + 8) (by omega), fa33 (x + 8) (by omega), xx8_1]
              refine r_iconst i_51_152 ?_
              exact r_iret i_51_153 rfl (nar_Z (by omega)) (K 1 G_36 A_37 hG_36 hA_37 (by intro a k hh; rw [fg37 a k (fun h => hh (Or.inr (Or.inr (Or.inr (Or.inr (Or.inr (Or.inr (Or.inr h)))))))), fg33 a k (fun h => h.elim (fun h => hh (Or.inl h)) (fun h => h.elim (fun h => hh (Or.inr (Or.inl h))) (fun h => h.elim (fun h => hh (Or.inr (Or.inr (Or.inl h)))) (fun h => h.elim (fun h => hh (Or.inr (Or.inr (Or.inr (Or.inl h))))) (fun h => h.elim (fun h => hh (Or.inr (Or.inr (Or.inr (Or.inr (Or.inl h)))))) (fun h => h.elim (fun h => hh (Or.inr (Or.inr (Or.inr (Or.inr (Or.inr (Or.inl h))))))) (fun h => hh (Or.inr (Or.inr (Or.inr (Or.inr (Or.inr (Or.inr (Or.inl h)))))))))))))), fg23 a k (fun h => h.elim (fun h => hh (Or.inl h)) (fun h => h.elim (fun h => hh (Or.inr (Or.inl h))) (fun h => h.elim (fun h => hh (Or.inr (Or.inr (Or.inl h)))) (fun h => h.elim (fun h => hh (Or.inr (Or.inr (Or.inr (Or.inl h))))) (fun h => h.elim (fun h => hh (Or.inr (Or.inr (Or.inr (Or.inr (Or.inl h)))))) (fun h => h.elim (fun h => hh (Or.inr (Or.inr (Or.inr (Or.inr (Or.inr (Or.inl h))))))) (fun h => hh (Or.inr (Or.inr (Or.inr (Or.inr (Or.inr (Or.inr (Or.inl h)))))))))))))), fg13 a k (fun h => h.elim (fun h => hh (Or.inl h)) (fun h => h.elim (fun h => hh (Or.inr (Or.inl h))) (fun h => h.elim (fun h => hh (Or.inr (Or.inr (Or.inl h)))) (fun h => h.elim (fun h => hh (Or.inr (Or.inr (Or.inr (Or.inl h))))) (fun h => h.elim (fun h => hh (Or.inr (Or.inr (Or.inr (Or.inr (Or.inl h)))))) (fun h => h.elim (fun h => hh (Or.inr (Or.inr (Or.inr (Or.inr (Or.inr (Or.inl h))))))) (fun h => hh (Or.inr (Or.inr (Or.inr (Or.inr (Or.inr (Or.inr (Or.inl h)))))))))))))), fg7 a k (fun h => h.elim (fun h => hh (Or.inl h)) (fun h => h.elim (fun h => hh (Or.inr (Or.inl h))) (fun h => h.elim (fun h => hh (Or.inr (Or.inr (Or.inl h)))) (fun h => h.elim (fun h => hh (Or.inr (Or.inr (Or.inr (Or.inl h))))) (fun h => h.elim (fun h => hh (Or.inr (Or.inr (Or.inr (Or.inr (Or.inl h)))))) (fun h => h.elim (fun h => hh (Or.inr (Or.inr (Or.inr (Or.inr (Or.inr (Or.inl h))))))) (fun h => hh (Or.inr (Or.inr (Or.inr (Or.inr (Or.inr (Or.inr (Or.inl h))))))))))))))]) (by intro a hh; rw [fa37 a (fun h => h.elim (fun h => hh (Or.inl h)) (fun h => hh (Or.inr (Or.inl h)))), fa33 a (fun h => h.elim (fun h => hh (Or.inr (Or.inr (Or.inr (Or.inr (Or.inl h)))))) (fun h => hh (Or.inr (Or.inr (Or.inr (Or.inr (Or.inr (Or.inl h)))))))), eA_27, up2_a (fun h => hh (Or.inr (Or.inr (Or.inr (Or.inr (Or.inr (Or.inr h))))))), eA_26, up2_a (fun h => hh (Or.inr (Or.inr (Or.inr (Or.inl h))))), eA_18, up2_a (fun h => hh (Or.inr (Or.inr (Or.inl h))))]) (by rw [show G_36 2 6 = G_32 2 6 from by rw [fg37 2 6 (by omega)]] <;> rw [show G_36 2 7 = G_32 2 7 from by rw [fg37 2 7 (by omega)]] <;> rw [show G_36 2 8 = G_32 2 8 from by rw [fg37 2 8 (by omega)]] <;> omega) (by omega) (by intro _; exact lz_w (n := G (x + 1) 2) rfl (by omega) (by omega) xx8))
            · skip
              refine r_iconst i_51_134 ?_
              exact r_iret i_51_135 rfl (nar_Z (by omega)) (K 0 G_32 A_33 hG_32 hA_33 (by intro a k hh; rw [fg33 a k (fun h => h.elim (fun h => hh (Or.inl h)) (fun h => h.elim (fun h => hh (Or.inr (Or.inl h))) (fun h => h.elim (fun h => hh (Or.inr (Or.inr (Or.inl h)))) (fun h => h.elim (fun h => hh (Or.inr (Or.inr (Or.inr (Or.inl h))))) (fun h => h.elim (fun h => hh (Or.inr (Or.inr (Or.inr (Or.inr (Or.inl h)))))) (fun h => h.elim (fun h => hh (Or.inr (Or.inr (Or.inr (Or.inr (Or.inr (Or.inl h))))))) (fun h => hh (Or.inr (Or.inr (Or.inr (Or.inr (Or.inr (Or.inr (Or.inl h)))))))))))))), fg23 a k (fun h => h.elim (fun h => hh (Or.inl h)) (fun h => h.elim (fun h => hh (Or.inr (Or.inl h))) (fun h => h.elim (fun h => hh (Or.inr (Or.inr (Or.inl h)))) (fun h => h.elim (fun h => hh (Or.inr (Or.inr (Or.inr (Or.inl h))))) (fun h => h.elim (fun h => hh (Or.inr (Or.inr (Or.inr (Or.inr (Or.inl h)))))) (fun h => h.elim (fun h => hh (Or.inr (Or.inr (Or.inr (Or.inr (Or.inr (Or.inl h))))))) (fun h => hh (Or.inr (Or.inr (Or.inr (Or.inr (Or.inr (Or.inr (Or.inl h)))))))))))))), fg13 a k (fun h => h.elim (fun h => hh (Or.inl h)) (fun h => h.elim (fun h => hh (Or.inr (Or.inl h))) (fun h => h.elim (fun h => hh (Or.inr (Or.inr (Or.inl h)))) (fun h => h.elim (fun h => hh (Or.inr (Or.inr (Or.inr (Or.inl h))))) (fun h => h.elim (fun h => hh (Or.inr (Or.inr (Or.inr (Or.inr (Or.inl h)))))) (fun h => h.elim (fun h => hh (Or.inr (Or.inr (Or.inr (Or.inr (Or.inr (Or.inl h))))))) (fun h => hh (Or.inr (Or.inr (Or.inr (Or.inr (Or.inr (Or.inr (Or.inl h)))))))))))))), fg7 a k (fun h => h.elim (fun h => hh (Or.inl h)) (fun h => h.elim (fun h => hh (Or.inr (Or.inl h))) (fun h => h.elim (fun h => hh (Or.inr (Or.inr (Or.inl h)))) (fun h => h.elim (fun h => hh (Or.inr (Or.inr (Or.inr (Or.inl h))))) (fun h => h.elim (fun h => hh (Or.inr (Or.inr (Or.inr (Or.inr (Or.inl h)))))) (fun h => h.elim (fun h => hh (Or.inr (Or.inr (Or.inr (Or.inr (Or.inr (Or.inl h))))))) (fun h => hh (Or.inr (Or.inr (Or.inr (Or.inr (Or.inr (Or.inr (Or.inl h))))))))))))))]) (by intro a hh; rw [fa33 a (fun h => h.elim (fun h => hh (Or.inr (Or.inr (Or.inr (Or.inr (Or.inl h)))))) (fun h => hh (Or.inr (Or.inr (Or.inr (Or.inr (Or.inr (Or.inl h)))))))), eA_27, up2_a (fun h => hh (Or.inr (Or.inr (Or.inr (Or.inr (Or.inr (Or.inr h))))))), eA_26, up2_a (fun h => hh (Or.inr (Or.inr (Or.inr (Or.inl h))))), eA_18, up2_a (fun h => hh (Or.inr (Or.inr (Or.inl h))))]) (by omega) (by omega) (by intro h; exfalso; omega))
          · skip
            refine r_iconst i_51_101 ?_
            exact r_iret i_51_102 rfl (nar_Z (by omega)) (K 0 G_23 A_18 hG_23 hA_18 (by intro a k hh; rw [fg23 a k (fun h => h.elim (fun h => hh (Or.inl h)) (fun h => h.elim (fun h => hh (Or.inr (Or.inl h))) (fun h => h.elim (fun h => hh (Or.inr (Or.inr (Or.inl h)))) (fun h => h.elim (fun h => hh (Or.inr (Or.inr (Or.inr (Or.inl h))))) (fun h => h.elim (fun h => hh (Or.inr (Or.inr (Or.inr (Or.inr (Or.inl h)))))) (fun h => h.elim (fun h => hh (Or.inr (Or.inr (Or.inr (Or.inr (Or.inr (Or.inl h))))))) (fun h => hh (Or.inr (Or.inr (Or.inr (Or.inr (Or.inr (Or.inr (Or.inl h)))))))))))))), fg13 a k (fun h => h.elim (fun h => hh (Or.inl h)) (fun h => h.elim (fun h => hh (Or.inr (Or.inl h))) (fun h => h.elim (fun h => hh (Or.inr (Or.inr (Or.inl h)))) (fun h => h.elim (fun h => hh (Or.inr (Or.inr (Or.inr (Or.inl h))))) (fun h => h.elim (fun h => hh (Or.inr (Or.inr (Or.inr (Or.inr (Or.inl h)))))) (fun h => h.elim (fun h => hh (Or.inr (Or.inr (Or.inr (Or.inr (Or.inr (Or.inl h))))))) (fun h => hh (Or.inr (Or.inr (Or.inr (Or.inr (Or.inr (Or.inr (Or.inl h)))))))))))))), fg7 a k (fun h => h.elim (fun h => hh (Or.inl h)) (fun h => h.elim (fun h => hh (Or.inr (Or.inl h))) (fun h => h.elim (fun h => hh (Or.inr (Or.inr (Or.inl h)))) (fun h => h.elim (fun h => hh (Or.inr (Or.inr (Or.inr (Or.inl h))))) (fun h => h.elim (fun h => hh (Or.inr (Or.inr (Or.inr (Or.inr (Or.inl h)))))) (fun h => h.elim (fun h => hh (Or.inr (Or.inr (Or.inr (Or.inr (Or.inr (Or.inl h))))))) (fun h => hh (Or.inr (Or.inr (Or.inr (Or.inr (Or.inr (Or.inr (Or.inl h))))))))))))))]) (by intro a hh; rw [eA_18, up2_a (fun h => hh (Or.inr (Or.inr (Or.inl h))))]) (by omega) (by omega) (by intro h; exfalso; omega))
        · skip
          refine r_aload_n i_51_72 rfl ?_
          refine r_iconst i_51_73 ?_
          refine r_iload_n i_51_74 rfl ?_
          refine r_cV (as := [V (G_7 2 7), V 3]) i_51_75 rfl (by decide +kernel) (Nat.le_of_ble_eq_true rfl) (Nat.le_of_ble_eq_true rfl) (hly 2 _ rfl) rfl ?_
          refine c_56 (kind := 3) (place := G_7 2 7) hly hF hG_13 hA (by omega) (by omega) (by omega) (by omega) (fun r_38 G_39 hG_39 fg39 p39_0 => ?_)
          show Re L xs 51 78 [(0, .ref 2), (1, V (G (x + 1) 2)), (2, V (G_7 2 7)), (3, V (G_7 2 8))] [V r_38] (HP ly F G_39 A B) _
          exact r_iret i_51_78 rfl (nar_Z (by omega)) (K r_38 G_39 A hG_39 hA (by intro a k hh; rw [fg39 a k (fun h => h.elim (fun h => hh (Or.inl h)) (fun h => hh (Or.inr (Or.inl h)))), fg13 a k (fun h => h.elim (fun h => hh (Or.inl h)) (fun h => h.elim (fun h => hh (Or.inr (Or.inl h))) (fun h => h.elim (fun h => hh (Or.inr (Or.inr (Or.inl h)))) (fun h => h.elim (fun h => hh (Or.inr (Or.inr (Or.inr (Or.inl h))))) (fun h => h.elim (fun h => hh (Or.inr (Or.inr (Or.inr (Or.inr (Or.inl h)))))) (fun h => h.elim (fun h => hh (Or.inr (Or.inr (Or.inr (Or.inr (Or.inr (Or.inl h))))))) (fun h => hh (Or.inr (Or.inr (Or.inr (Or.inr (Or.inr (Or.inr (Or.inl h)))))))))))))), fg7 a k (fun h => h.elim (fun h => hh (Or.inl h)) (fun h => h.elim (fun h => hh (Or.inr (Or.inl h))) (fun h => h.elim (fun h => hh (Or.inr (Or.inr (Or.inl h)))) (fun h => h.elim (fun h => hh (Or.inr (Or.inr (Or.inr (Or.inl h))))) (fun h => h.elim (fun h => hh (Or.inr (Or.inr (Or.inr (Or.inr (Or.inl h)))))) (fun h => h.elim (fun h => hh (Or.inr (Or.inr (Or.inr (Or.inr (Or.inr (Or.inl h))))))) (fun h => hh (Or.inr (Or.inr (Or.inr (Or.inr (Or.inr (Or.inr (Or.inl h))))))))))))))]) (by intro a hh; rfl) (by rw [show G_39 2 6 = G_13 2 6 from by rw [fg39 2 6 (by omega)]] <;> rw [show G_39 2 7 = G_13 2 7 from by rw [fg39 2 7 (by omega)]] <;> rw [show G_39 2 8 = G_13 2 8 from by rw [fg39 2 8 (by omega)]] <;> omega) (by omega) (by intro h; exfalso; omega))
      · skip
        refine r_iconst i_51_50 ?_
        exact r_iret i_51_51 rfl (nar_Z (by omega)) (K 0 G_13 A hG_13 hA (by intro a k hh; rw [fg13 a k (fun h => h.elim (fun h => hh (Or.inl h)) (fun h => h.elim (fun h => hh (Or.inr (Or.inl h))) (fun h => h.elim (fun h => hh (Or.inr (Or.inr (Or.inl h)))) (fun h => h.elim (fun h => hh (Or.inr (Or.inr (Or.inr (Or.inl h))))) (fun h => h.elim (fun h => hh (Or.inr (Or.inr (Or.inr (Or.inr (Or.inl h)))))) (fun h => h.elim (fun h => hh (Or.inr (Or.inr (Or.inr (Or.inr (Or.inr (Or.inl h))))))) (fun h => hh (Or.inr (Or.inr (Or.inr (Or.inr (Or.inr (Or.inr (Or.inl h)))))))))))))), fg7 a k (fun h => h.elim (fun h => hh (Or.inl h)) (fun h => h.elim (fun h => hh (Or.inr (Or.inl h))) (fun h => h.elim (fun h => hh (Or.inr (Or.inr (Or.inl h)))) (fun h => h.elim (fun h => hh (Or.inr (Or.inr (Or.inr (Or.inl h))))) (fun h => h.elim (fun h => hh (Or.inr (Or.inr (Or.inr (Or.inr (Or.inl h)))))) (fun h => h.elim (fun h => hh (Or.inr (Or.inr (Or.inr (Or.inr (Or.inr (Or.inl h))))))) (fun h => hh (Or.inr (Or.inr (Or.inr (Or.inr (Or.inr (Or.inr (Or.inl h))))))))))))))]) (by intro a hh; rfl) (by omega) (by omega) (by intro h; exfalso; omega))
    · skip
      refine r_iconst i_51_29 ?_
      exact r_iret i_51_30 rfl (nar_Z (by omega)) (K 0 G_7 A hG_7 hA (by intro a k hh; rw [fg7 a k (fun h => h.elim (fun h => hh (Or.inl h)) (fun h => h.elim (fun h => hh (Or.inr (Or.inl h))) (fun h => h.elim (fun h => hh (Or.inr (Or.inr (Or.inl h)))) (fun h => h.elim (fun h => hh (Or.inr (Or.inr (Or.inr (Or.inl h))))) (fun h => h.elim (fun h => hh (Or.inr (Or.inr (Or.inr (Or.inr (Or.inl h)))))) (fun h => h.elim (fun h => hh (Or.inr (Or.inr (Or.inr (Or.inr (Or.inr (Or.inl h))))))) (fun h => hh (Or.inr (Or.inr (Or.inr (Or.inr (Or.inr (Or.inr (Or.inl h))))))))))))))]) (by intro a hh; rfl) (by omega) (by omega) (by intro h; exfalso; omega))
  · skip
    refine r_aload_n i_51_17 rfl ?_
    refine r_cV (as := []) i_51_18 rfl (by decide +kernel) (Nat.le_of_ble_eq_true rfl) (Nat.le_of_ble_eq_true rfl) (hly 2 _ rfl) rfl ?_
    refine c_52  hly hF hG hA  (fun r_40 G_41 hG_41 fg41 p41_0 => ?_)
    show Re L xs 51 21 [(0, .ref 2), (1, V (G (x + 1) 2))] [V r_40] (HP ly F G_41 A B) _
    exact r_iret i_51_21 rfl (nar_Z (by omega)) (K r_40 G_41 A hG_41 hA (by intro a k hh; rw [fg41 a k (fun h => h.elim (fun h => hh (Or.inl h)) (fun h => hh (Or.inr (Or.inl h))))]) (by intro a hh; rfl) (by rw [show G_41 2 6 = G 2 6 from by rw [fg41 2 6 (by omega)]] <;> rw [show G_41 2 7 = G 2 7 from by rw [fg41 2 7 (by omega)]] <;> rw [show G_41 2 8 = G 2 8 from by rw [fg41 2 8 (by omega)]] <;> omega) (by omega) (by intro h; exfalso; omega))
set_option maxHeartbeats 4000000 in
theorem c_60 {L : Nat} {xs : Nat → Int32} {ly : List LK} {F : Nat → Nat → Value} {G A : Nat → Nat → Int} {B : Nat → Nat → Int64} {Q : Option Value → AH → Prop} {x : Nat} (hly : LyOk ly) (hF : RfOk F) (hG : GO G) (hA : AQ A) (hb : F 2 2 = .ref x) (hx : x = 3 ∨ x = 61) (htk : tkO G A) (hrv : G 2 6 = 0 → G 2 7 + G 2 8 ≤ 2000) (K : ∀ (r : Int) (G' : Nat → Nat → Int) (A' : Nat → Nat → Int), (GO G') → (AQ A') → (∀ a k, ¬ ((a = 2 ∧ k = 0) ∨ (a = 2 ∧ k = 1) ∨ (a = 2 ∧ k = 5) ∨ (a = 2 ∧ k = 6) ∨ (a = 2 ∧ k = 7) ∨ (a = 2 ∧ k = 8) ∨ (a = 2 ∧ k = 9) ∨ (a = x + 9 ∧ k = 2)) → G' a k = G a k) → (∀ a, ¬ (a = x + 10 ∨ a = x + 11 ∨ a = x + 12 ∨ a = x + 13) → A' a = A a) → (G' 2 6 = 0 → G' 2 7 + G' 2 8 ≤ 2000) → (0 ≤ r ∧ r ≤ 1) → Q (some (V r)) (HP ly F G' A' B)) : Re L xs 60 0 [(0, .ref 2)] [] (HP ly F G A B) Q := by
  refine r_aload_n i_60_0 rfl ?_
  refine r_getF (v := .ref x) i_60_1 rfl (hly 2 _ rfl) hb ?_
  refine r_getF (v := .ref (x + 9)) i_60_4 rfl (Lx_0 hly hx) (Rx_0_6 hF hx) ?_
  refine r_getI i_60_7 rfl (Lx_9 hly hx) ?_
  have q_1 := Gx_9_2 hG hx
  refine r_istore_n (l' := [(0, .ref 2), (1, V (G (x + 9) 2))]) i_60_10 (by decide +kernel) rfl ?_
  refine r_iload_n i_60_11 rfl ?_
  refine r_bipush i_60_12 (by decide) ?_
  refine r_clt (t := 22) i_60_14 (by decide) (by omega) (by omega) (fun u_2 => ?_) (fun u_2 => ?_)
  · skip
    refine r_aload_n i_60_22 rfl ?_
    refine r_cV (as := []) i_60_23 rfl (by decide +kernel) (Nat.le_of_ble_eq_true rfl) (Nat.le_of_ble_eq_true rfl) (hly 2 _ rfl) rfl ?_
    have q_3 := g_2_6 hG
    have q_4 := g_2_7 hG
    have q_5 := g_2_8 hG
    refine c_53  hly hF hG hA (by exact tkO_c (by rfl) (by rfl) (by rfl) (by rfl) htk) (by omega) (fun r_6 G_7 hG_7 fg7 p7_0 p7_1 p7_2 => ?_)
    show Re L xs 60 26 [(0, .ref 2), (1, V (G (x + 9) 2))] [V r_6] (HP ly F G_7 A B) _
    refine r_ne0 (t := 31) i_60_26 (by decide) (by omega) (fun u_8 => ?_) (fun u_8 => ?_)
    · skip
      refine r_aload_n i_60_31 rfl ?_
      refine r_getI i_60_32 rfl (hly 2 _ rfl) ?_
      have q_9 := g_2_7 hG_7
      refine r_istore_n (l' := [(0, .ref 2), (1, V (G (x + 9) 2)), (2, V (G_7 2 7))]) i_60_35 (by decide +kernel) rfl ?_
      refine r_aload_n i_60_36 rfl ?_
      refine r_getI i_60_37 rfl (hly 2 _ rfl) ?_
      have q_10 := g_2_8 hG_7
      refine r_istore_n (l' := [(0, .ref 2), (1, V (G (x + 9) 2)), (2, V (G_7 2 7)), (3, V (G_7 2 8))]) i_60_40 (by decide +kernel) rfl ?_
      refine r_aload_n i_60_41 rfl ?_
      refine r_cV (as := []) i_60_42 rfl (by decide +kernel) (Nat.le_of_ble_eq_true rfl) (Nat.le_of_ble_eq_true rfl) (hly 2 _ rfl) rfl ?_
      have q_11 := g_2_6 hG_7
      refine c_53  hly hF hG_7 hA (by exact tkO_c (by rw [fg7 22 4 (by omega)]) (by rfl) (by rfl) (by rfl) htk) (by omega) (fun r_12 G_13 hG_13 fg13 p13_0 p13_1 p13_2 => ?_)
      show Re L xs 60 45 [(0, .ref 2), (1, V (G (x + 9) 2)), (2, V (G_7 2 7)), (3, V (G_7 2 8))] [V r_12] (HP ly F G_13 A B) _
      refine r_ne0 (t := 50) i_60_45 (by decide) (by omega) (fun u_14 => ?_) (fun u_14 => ?_)
      · skip
        refine r_aload_n i_60_50 rfl ?_
        refine r_getI i_60_51 rfl (hly 2 _ rfl) ?_
        have q_15 := g_2_7 hG_13
        refine r_istore (l' := [(0, .ref 2), (1, V (G (x + 9) 2)), (2, V (G_7 2 7)), (3, V (G_7 2 8)), (4, V (G_13 2 7))]) i_60_54 (by decide +kernel) rfl ?_
        refine r_aload_n i_60_56 rfl ?_
        refine r_getI i_60_57 rfl (hly 2 _ rfl) ?_
        have q_16 := g_2_8 hG_13
        refine r_iload_n i_60_60 rfl ?_
        refine r_cne (t := 82) i_60_61 (by decide) (by omega) (by omega) (fun u_17 => ?_) (fun u_17 => ?_)
        · skip
          refine r_aload_n i_60_82 rfl ?_
          refine r_iconst i_60_83 ?_
          refine r_iload i_60_84 rfl ?_
          refine r_cV (as := [V (G_13 2 7), V 5]) i_60_86 rfl (by decide +kernel) (Nat.le_of_ble_eq_true rfl) (Nat.le_of_ble_eq_true rfl) (hly 2 _ rfl) rfl ?_
          refine c_56 (kind := 5) (place := G_13 2 7) hly hF hG_13 hA (by omega) (by omega) (by omega) (by omega) (fun r_18 G_19 hG_19 fg19 p19_0 => ?_)
          show Re L xs 60 89 [(0, .ref 2), (1, V (G (x + 9) 2)), (2, V (G_7 2 7)), (3, V (G_7 2 8)), (4, V (G_13 2 7))] [V r_18] (HP ly F G_19 A B) _
          exact r_iret i_60_89 rfl (nar_Z (by omega)) (K r_18 G_19 A hG_19 hA (by intro a k hh; rw [fg19 a k (fun h => h.elim (fun h => hh (Or.inl h)) (fun h => hh (Or.inr (Or.inl h)))), fg13 a k (fun h => h.elim (fun h => hh (Or.inl h)) (fun h => h.elim (fun h => hh (Or.inr (Or.inl h))) (fun h => h.elim (fun h => hh (Or.inr (Or.inr (Or.inl h)))) (fun h => h.elim (fun h => hh (Or.inr (Or.inr (Or.inr (Or.inl h))))) (fun h => h.elim (fun h => hh (Or.inr (Or.inr (Or.inr (Or.inr (Or.inl h)))))) (fun h => h.elim (fun h => hh (Or.inr (Or.inr (Or.inr (Or.inr (Or.inr (Or.inl h))))))) (fun h => hh (Or.inr (Or.inr (Or.inr (Or.inr (Or.inr (Or.inr (Or.inl h)))))))))))))), fg7 a k (fun h => h.elim (fun h => hh (Or.inl h)) (fun h => h.elim (fun h => hh (Or.inr (Or.inl h))) (fun h => h.elim (fun h => hh (Or.inr (Or.inr (Or.inl h)))) (fun h => h.elim (fun h => hh (Or.inr (Or.inr (Or.inr (Or.inl h))))) (fun h => h.elim (fun h => hh (Or.inr (Or.inr (Or.inr (Or.inr (Or.inl h)))))) (fun h => h.elim (fun h => hh (Or.inr (Or.inr (Or.inr (Or.inr (Or.inr (Or.inl h))))))) (fun h => hh (Or.inr (Or.inr (Or.inr (Or.inr (Or.inr (Or.inr (Or.inl h))))))))))))))]) (by intro a hh; rfl) (by rw [show G_19 2 6 = G_13 2 6 from by rw [fg19 2 6 (by omega)]] <;> rw [show G_19 2 7 = G_13 2 7 from by rw [fg19 2 7 (by omega)]] <;> rw [show G_19 2 8 = G_13 2 8 from by rw [fg19 2 8 (by omega)]] <;> omega) (by omega))
        · skip
          refine r_aload_n i_60_64 rfl ?_
          refine r_getF (v := .ref 1) i_60_65 rfl (hly 2 _ rfl) (hF.1 2 3 1 rfl) ?_
          refine r_iload_n i_60_68 rfl ?_
          refine r_aload_n i_60_69 rfl ?_
          refine r_getF (v := .ref 1) i_60_70 rfl (hly 2 _ rfl) (hF.1 2 3 1 rfl) ?_
          refine r_iload i_60_73 rfl ?_
          refine r_iload_n i_60_75 rfl ?_
          refine r_cS (as := [V (G_7 2 8), V (G_13 2 7), .ref 1, V (G_7 2 7), .ref 1]) i_60_76 rfl (by decide +kernel) (Nat.le_of_ble_eq_true rfl) (Nat.le_of_ble_eq_true rfl) ?_
          refine c_22 (ra := 1) (p := G_7 2 7) (rc := 1) (q := G_13 2 7) (n := G_7 2 8) (capa := 2000) (capc := 2000) hly hF hG_13 hA (by omega) (by omega) (by omega) (by exact hly 1 _ rfl) (by exact hly 1 _ rfl) (by exact fun i => a_1 hA i) (by exact fun i => a_1 hA i) (by omega) (by omega) (by omega) (fun r_20 p20_0 => ?_)
          show Re L xs 60 79 [(0, .ref 2), (1, V (G (x + 9) 2)), (2, V (G_7 2 7)), (3, V (G_7 2 8)), (4, V (G_13 2 7))] [V r_20] (HP ly F G_13 A B) _
          refine r_ne0 (t := 90) i_60_79 (by decide) (by omega) (fun u_21 => ?_) (fun u_21 => ?_)
          · skip
            refine r_aload_n i_60_90 rfl ?_
            refine r_bipush i_60_91 (by decide) ?_
            refine r_cV (as := [V 7]) i_60_93 rfl (by decide +kernel) (Nat.le_of_ble_eq_true rfl) (Nat.le_of_ble_eq_true rfl) (hly 2 _ rfl) rfl ?_
            have q_22 := g_2_6 hG_13
            refine c_55 (most := 7) hly hF hG_13 hA (by omega) (by exact tkO_c (by rw [fg13 22 4 (by omega), fg7 22 4 (by omega)]) (by rfl) (by rfl) (by rfl) htk) (by omega) (fun r_23 G_24 hG_24 fg24 p24_0 p24_1 p24_2 => ?_)
            show Re L xs 60 96 [(0, .ref 2), (1, V (G (x + 9) 2)), (2, V (G_7 2 7)), (3, V (G_7 2 8)), (4, V (G_13 2 7))] [V r_23] (HP ly F G_24 A B) _
            refine r_ne0 (t := 101) i_60_96 (by decide) (by omega) (fun u_25 => ?_) (fun u_25 => ?_)
            · skip
              refine r_aload_n i_60_101 rfl ?_
              refine r_getF (v := .ref x) i_60_102 rfl (hly 2 _ rfl) hb ?_
              refine r_getF (v := .ref (x + 12)) i_60_105 rfl (Lx_0 hly hx) (Rx_0_7 hF hx) ?_
              refine r_iload_n i_60_108 rfl ?_
              refine r_aload_n i_60_109 rfl ?_
              refine r_getI i_60_110 rfl (hly 2 _ rfl) ?_
              have q_26 := g_2_9 hG_24
              refine r_iastQ i_60_113 (Lx_12 hly hx) (by omega) (by omega) (by omega) (fun A_27 eA_27 => ?_)
              have hA_27 : AQ A_27 := by rw [eA_27]; exact AUx_12 hx hA (by omega) (by omega)
              refine r_aload_n i_60_114 rfl ?_
              refine r_bipush i_60_115 (by decide) ?_
              refine r_cV (as := [V 99]) i_60_117 rfl (by decide +kernel) (Nat.le_of_ble_eq_true rfl) (Nat.le_of_ble_eq_true rfl) (hly 2 _ rfl) rfl ?_
              have q_28 := g_2_6 hG_24
              have q_29 := g_2_7 hG_24
              have q_30 := g_2_8 hG_24
              refine c_55 (most := 99) hly hF hG_24 hA_27 (by omega) (by exact tkO_c (by rw [fg24 22 4 (by omega), fg13 22 4 (by omega), fg7 22 4 (by omega)]) (by rw [eA_27, up2_a (by omega)]) (by rw [eA_27, up2_a (by omega)]) (by rw [eA_27, up2_a (by omega)]) htk) (by omega) (fun r_31 G_32 hG_32 fg32 p32_0 p32_1 p32_2 => ?_)
              show Re L xs 60 120 [(0, .ref 2), (1, V (G (x + 9) 2)), (2, V (G_7 2 7)), (3, V (G_7 2 8)), (4, V (G_13 2 7))] [V r_31] (HP ly F G_32 A_27 B) _
              refine r_ne0 (t := 125) i_60_120 (by decide) (by omega) (fun u_33 => ?_) (fun u_33 => ?_)
              · skip
                refine r_aload_n i_60_125 rfl ?_
                refine r_getF (v := .ref x) i_60_126 rfl (hly 2 _ rfl) hb ?_
                refine r_getF (v := .ref (x + 13)) i_60_129 rfl (Lx_0 hly hx) (Rx_0_8 hF hx) ?_
                refine r_iload_n i_60_132 rfl ?_
                refine r_aload_n i_60_133 rfl ?_
                refine r_getI i_60_134 rfl (hly 2 _ rfl) ?_
                have q_34 := g_2_9 hG_32
                refine r_iastQ i_60_137 (Lx_13 hly hx) (by omega) (by omega) (by omega) (fun A_35 eA_35 => ?_)
                have hA_35 : AQ A_35 := by rw [eA_35]; exact AUx_13 hx hA_27 (by omega) (by omega)
                refine r_aload_n i_60_138 rfl ?_
                refine r_cV (as := []) i_60_139 rfl (by decide +kernel) (Nat.le_of_ble_eq_true rfl) (Nat.le_of_ble_eq_true rfl) (hly 2 _ rfl) rfl ?_
                have q_36 := g_2_6 hG_32
                have q_37 := g_2_7 hG_32
                have q_38 := g_2_8 hG_32
                refine c_61  hly hF hG_32 hA_35 (by exact tkO_c (by rw [fg32 22 4 (by omega), fg24 22 4 (by omega), fg13 22 4 (by omega), fg7 22 4 (by omega)]) (by rw [eA_35, up2_a (by omega), eA_27, up2_a (by omega)]) (by rw [eA_35, up2_a (by omega), eA_27, up2_a (by omega)]) (by rw [eA_35, up2_a (by omega), eA_27, up2_a (by omega)]) htk) (by omega) (fun r_39 G_40 hG_40 fg40 p40_0 p40_1 => ?_)
                show Re L xs 60 142 [(0, .ref 2), (1, V (G (x + 9) 2)), (2, V (G_7 2 7)), (3, V (G_7 2 8)), (4, V (G_13 2 7))] [V r_39] (HP ly F G_40 A_35 B) _
                refine r_ne0 (t := 147) i_60_142 (by decide) (by omega) (fun u_41 => ?_) (fun u_41 => ?_)
                · skip
                  refine r_aload_n i_60_147 rfl ?_
                  refine r_getF (v := .ref x) i_60_148 rfl (hly 2 _ rfl) hb ?_
                  refine r_getF (v := .ref (x + 9)) i_60_151 rfl (Lx_0 hly hx) (Rx_0_6 hF hx) ?_
                  refine r_aload_n i_60_154 rfl ?_
                  refine r_getF (v := .ref 1) i_60_155 rfl (hly 2 _ rfl) (hF.1 2 3 1 rfl) ?_
                  refine r_iload i_60_158 rfl ?_
                  refine r_iload_n i_60_160 rfl ?_
                  refine r_cV (as := [V (G_7 2 8), V (G_13 2 7), .ref 1]) i_60_161 rfl (by decide +kernel) (Nat.le_of_ble_eq_true rfl) (Nat.le_of_ble_eq_true rfl) (Lx_9 hly hx) rfl ?_
                  have w_42 : G_40 (x + 9) 2 = G (x + 9) 2 := by rw [fg40 (x + 9) 2 (by omega), fg32 (x + 9) 2 (by omega), fg24 (x + 9) 2 (by omega), fg13 (x + 9) 2 (by omega), fg7 (x + 9) 2 (by omega)]
                  refine c_59 (f := x + 9) (ta := 1) (at' := G_13 2 7) (length := G_7 2 8) (cap := 20) (tn := 2000) hly hF hG_40 hA_35 (by omega) (by omega) (by exact Fm_e hx) (by exact hly 1 _ rfl) (by exact fun i => a_1 hA_35 i) (by omega) (by omega) (fun G_43 A_44 hG_43 hA_44 fg44 fa44 p44_0 => ?_)
                  show Re L xs 60 164 [(0, .ref 2), (1, V (G (x + 9) 2)), (2, V (G_7 2 7)), (3, V (G_7 2 8)), (4, V (G_13 2 7))] [] (HP ly F G_43 A_44 B) _
                  refine r_iconst i_60_164 ?_
                  exact r_iret i_60_165 rfl (nar_Z (by omega)) (K 1 G_43 A_44 hG_43 hA_44 (by intro a k hh; rw [fg44 a k (fun h => hh (Or.inr (Or.inr (Or.inr (Or.inr (Or.inr (Or.inr (Or.inr h)))))))), fg40 a k (fun h => h.elim (fun h => hh (Or.inl h)) (fun h => h.elim (fun h => hh (Or.inr (Or.inl h))) (fun h => h.elim (fun h => hh (Or.inr (Or.inr (Or.inl h)))) (fun h => h.elim (fun h => hh (Or.inr (Or.inr (Or.inr (Or.inl h))))) (fun h => h.elim (fun h => hh (Or.inr (Or.inr (Or.inr (Or.inr (Or.inl h)))))) (fun h => h.elim (fun h => hh (Or.inr (Or.inr (Or.inr (Or.inr (Or.inr (Or.inl h))))))) (fun h => hh (Or.inr (Or.inr (Or.inr (Or.inr (Or.inr (Or.inr (Or.inl h)))))))))))))), fg32 a k (fun h => h.elim (fun h => hh (Or.inl h)) (fun h => h.elim (fun h => hh (Or.inr (Or.inl h))) (fun h => h.elim (fun h => hh (Or.inr (Or.inr (Or.inl h)))) (fun h => h.elim (fun h => hh (Or.inr (Or.inr (Or.inr (Or.inl h))))) (fun h => h.elim (fun h => hh (Or.inr (Or.inr (Or.inr (Or.inr (Or.inl h)))))) (fun h => h.elim (fun h => hh (Or.inr (Or.inr (Or.inr (Or.inr (Or.inr (Or.inl h))))))) (fun h => hh (Or.inr (Or.inr (Or.inr (Or.inr (Or.inr (Or.inr (Or.inl h)))))))))))))), fg24 a k (fun h => h.elim (fun h => hh (Or.inl h)) (fun h => h.elim (fun h => hh (Or.inr (Or.inl h))) (fun h => h.elim (fun h => hh (Or.inr (Or.inr (Or.inl h)))) (fun h => h.elim (fun h => hh (Or.inr (Or.inr (Or.inr (Or.inl h))))) (fun h => h.elim (fun h => hh (Or.inr (Or.inr (Or.inr (Or.inr (Or.inl h)))))) (fun h => h.elim (fun h => hh (Or.inr (Or.inr (Or.inr (Or.inr (Or.inr (Or.inl h))))))) (fun h => hh (Or.inr (Or.inr (Or.inr (Or.inr (Or.inr (Or.inr (Or.inl h)))))))))))))), fg13 a k (fun h => h.elim (fun h => hh (Or.inl h)) (fun h => h.elim (fun h => hh (Or.inr (Or.inl h))) (fun h => h.elim (fun h => hh (Or.inr (Or.inr (Or.inl h)))) (fun h => h.elim (fun h => hh (Or.inr (Or.inr (Or.inr (Or.inl h))))) (fun h => h.elim (fun h => hh (Or.inr (Or.inr (Or.inr (Or.inr (Or.inl h)))))) (fun h => h.elim (fun h => hh (Or.inr (Or.inr (Or.inr (Or.inr (Or.inr (Or.inl h))))))) (fun h => hh (Or.inr (Or.inr (Or.inr (Or.inr (Or.inr (Or.inr (Or.inl h)))))))))))))), fg7 a k (fun h => h.elim (fun h => hh (Or.inl h)) (fun h => h.elim (fun h => hh (Or.inr (Or.inl h))) (fun h => h.elim (fun h => hh (Or.inr (Or.inr (Or.inl h)))) (fun h => h.elim (fun h => hh (Or.inr (Or.inr (Or.inr (Or.inl h))))) (fun h => h.elim (fun h => hh (Or.inr (Or.inr (Or.inr (Or.inr (Or.inl h)))))) (fun h => h.elim (fun h => hh (Or.inr (Or.inr (Or.inr (Or.inr (Or.inr (Or.inl h))))))) (fun h => hh (Or.inr (Or.inr (Or.inr (Or.inr (Or.inr (Or.inr (Or.inl h))))))))))))))]) (by intro a hh; rw [fa44 a (fun h => h.elim (fun h => hh (Or.inl h)) (fun h => hh (Or.inr (Or.inl h)))), eA_35, up2_a (fun h => hh (Or.inr (Or.inr (Or.inr h)))), eA_27, up2_a (fun h => hh (Or.inr (Or.inr (Or.inl h))))]) (by rw [show G_43 2 6 = G_40 2 6 from by rw [fg44 2 6 (by omega)]] <;> rw [show G_43 2 7 = G_40 2 7 from by rw [fg44 2 7 (by omega)]] <;> rw [show G_43 2 8 = G_40 2 8 from by rw [fg44 2 8 (by omega)]] <;> omega) (by omega))
                · skip
                  refine r_iconst i_60_145 ?_
                  exact r_iret i_60_146 rfl (nar_Z (by omega)) (K 0 G_40 A_35 hG_40 hA_35 (by intro a k hh; rw [fg40 a k (fun h => h.elim (fun h => hh (Or.inl h)) (fun h => h.elim (fun h => hh (Or.inr (Or.inl h))) (fun h => h.elim (fun h => hh (Or.inr (Or.inr (Or.inl h)))) (fun h => h.elim (fun h => hh (Or.inr (Or.inr (Or.inr (Or.inl h))))) (fun h => h.elim (fun h => hh (Or.inr (Or.inr (Or.inr (Or.inr (Or.inl h)))))) (fun h => h.elim (fun h => hh (Or.inr (Or.inr (Or.inr (Or.inr (Or.inr (Or.inl h))))))) (fun h => hh (Or.inr (Or.inr (Or.inr (Or.inr (Or.inr (Or.inr (Or.inl h)))))))))))))), fg32 a k (fun h => h.elim (fun h => hh (Or.inl h)) (fun h => h.elim (fun h => hh (Or.inr (Or.inl h))) (fun h => h.elim (fun h => hh (Or.inr (Or.inr (Or.inl h)))) (fun h => h.elim (fun h => hh (Or.inr (Or.inr (Or.inr (Or.inl h))))) (fun h => h.elim (fun h => hh (Or.inr (Or.inr (Or.inr (Or.inr (Or.inl h)))))) (fun h => h.elim (fun h => hh (Or.inr (Or.inr (Or.inr (Or.inr (Or.inr (Or.inl h))))))) (fun h => hh (Or.inr (Or.inr (Or.inr (Or.inr (Or.inr (Or.inr (Or.inl h)))))))))))))), fg24 a k (fun h => h.elim (fun h => hh (Or.inl h)) (fun h => h.elim (fun h => hh (Or.inr (Or.inl h))) (fun h => h.elim (fun h => hh (Or.inr (Or.inr (Or.inl h)))) (fun h => h.elim (fun h => hh (Or.inr (Or.inr (Or.inr (Or.inl h))))) (fun h => h.elim (fun h => hh (Or.inr (Or.inr (Or.inr (Or.inr (Or.inl h)))))) (fun h => h.elim (fun h => hh (Or.inr (Or.inr (Or.inr (Or.inr (Or.inr (Or.inl h))))))) (fun h => hh (Or.inr (Or.inr (Or.inr (Or.inr (Or.inr (Or.inr (Or.inl h)))))))))))))), fg13 a k (fun h => h.elim (fun h => hh (Or.inl h)) (fun h => h.elim (fun h => hh (Or.inr (Or.inl h))) (fun h => h.elim (fun h => hh (Or.inr (Or.inr (Or.inl h)))) (fun h => h.elim (fun h => hh (Or.inr (Or.inr (Or.inr (Or.inl h))))) (fun h => h.elim (fun h => hh (Or.inr (Or.inr (Or.inr (Or.inr (Or.inl h)))))) (fun h => h.elim (fun h => hh (Or.inr (Or.inr (Or.inr (Or.inr (Or.inr (Or.inl h))))))) (fun h => hh (Or.inr (Or.inr (Or.inr (Or.inr (Or.inr (Or.inr (Or.inl h)))))))))))))), fg7 a k (fun h => h.elim (fun h => hh (Or.inl h)) (fun h => h.elim (fun h => hh (Or.inr (Or.inl h))) (fun h => h.elim (fun h => hh (Or.inr (Or.inr (Or.inl h)))) (fun h => h.elim (fun h => hh (Or.inr (Or.inr (Or.inr (Or.inl h))))) (fun h => h.elim (fun h => hh (Or.inr (Or.inr (Or.inr (Or.inr (Or.inl h)))))) (fun h => h.elim (fun h => hh (Or.inr (Or.inr (Or.inr (Or.inr (Or.inr (Or.inl h))))))) (fun h => hh (Or.inr (Or.inr (Or.inr (Or.inr (Or.inr (Or.inr (Or.inl h))))))))))))))]) (by intro a hh; rw [eA_35, up2_a (fun h => hh (Or.inr (Or.inr (Or.inr h)))), eA_27, up2_a (fun h => hh (Or.inr (Or.inr (Or.inl h))))]) (by omega) (by omega))
              · skip
                refine r_iconst i_60_123 ?_
                exact r_iret i_60_124 rfl (nar_Z (by omega)) (K 0 G_32 A_27 hG_32 hA_27 (by intro a k hh; rw [fg32 a k (fun h => h.elim (fun h => hh (Or.inl h)) (fun h => h.elim (fun h => hh (Or.inr (Or.inl h))) (fun h => h.elim (fun h => hh (Or.inr (Or.inr (Or.inl h)))) (fun h => h.elim (fun h => hh (Or.inr (Or.inr (Or.inr (Or.inl h))))) (fun h => h.elim (fun h => hh (Or.inr (Or.inr (Or.inr (Or.inr (Or.inl h)))))) (fun h => h.elim (fun h => hh (Or.inr (Or.inr (Or.inr (Or.inr (Or.inr (Or.inl h))))))) (fun h => hh (Or.inr (Or.inr (Or.inr (Or.inr (Or.inr (Or.inr (Or.inl h)))))))))))))), fg24 a k (fun h => h.elim (fun h => hh (Or.inl h)) (fun h => h.elim (fun h => hh (Or.inr (Or.inl h))) (fun h => h.elim (fun h => hh (Or.inr (Or.inr (Or.inl h)))) (fun h => h.elim (fun h => hh (Or.inr (Or.inr (Or.inr (Or.inl h))))) (fun h => h.elim (fun h => hh (Or.inr (Or.inr (Or.inr (Or.inr (Or.inl h)))))) (fun h => h.elim (fun h => hh (Or.inr (Or.inr (Or.inr (Or.inr (Or.inr (Or.inl h))))))) (fun h => hh (Or.inr (Or.inr (Or.inr (Or.inr (Or.inr (Or.inr (Or.inl h)))))))))))))), fg13 a k (fun h => h.elim (fun h => hh (Or.inl h)) (fun h => h.elim (fun h => hh (Or.inr (Or.inl h))) (fun h => h.elim (fun h => hh (Or.inr (Or.inr (Or.inl h)))) (fun h => h.elim (fun h => hh (Or.inr (Or.inr (Or.inr (Or.inl h))))) (fun h => h.elim (fun h => hh (Or.inr (Or.inr (Or.inr (Or.inr (Or.inl h)))))) (fun h => h.elim (fun h => hh (Or.inr (Or.inr (Or.inr (Or.inr (Or.inr (Or.inl h))))))) (fun h => hh (Or.inr (Or.inr (Or.inr (Or.inr (Or.inr (Or.inr (Or.inl h)))))))))))))), fg7 a k (fun h => h.elim (fun h => hh (Or.inl h)) (fun h => h.elim (fun h => hh (Or.inr (Or.inl h))) (fun h => h.elim (fun h => hh (Or.inr (Or.inr (Or.inl h)))) (fun h => h.elim (fun h => hh (Or.inr (Or.inr (Or.inr (Or.inl h))))) (fun h => h.elim (fun h => hh (Or.inr (Or.inr (Or.inr (Or.inr (Or.inl h)))))) (fun h => h.elim (fun h => hh (Or.inr (Or.inr (Or.inr (Or.inr (Or.inr (Or.inl h))))))) (fun h => hh (Or.inr (Or.inr (Or.inr (Or.inr (Or.inr (Or.inr (Or.inl h))))))))))))))]) (by intro a hh; rw [eA_27, up2_a (fun h => hh (Or.inr (Or.inr (Or.inl h))))]) (by omega) (by omega))
            · skip
              refine r_iconst i_60_99 ?_
              exact r_iret i_60_100 rfl (nar_Z (by omega)) (K 0 G_24 A hG_24 hA (by intro a k hh; rw [fg24 a k (fun h => h.elim (fun h => hh (Or.inl h)) (fun h => h.elim (fun h => hh (Or.inr (Or.inl h))) (fun h => h.elim (fun h => hh (Or.inr (Or.inr (Or.inl h)))) (fun h => h.elim (fun h => hh (Or.inr (Or.inr (Or.inr (Or.inl h))))) (fun h => h.elim (fun h => hh (Or.inr (Or.inr (Or.inr (Or.inr (Or.inl h)))))) (fun h => h.elim (fun h => hh (Or.inr (Or.inr (Or.inr (Or.inr (Or.inr (Or.inl h))))))) (fun h => hh (Or.inr (Or.inr (Or.inr (Or.inr (Or.inr (Or.inr (Or.inl h)))))))))))))), fg13 a k (fun h => h.elim (fun h => hh (Or.inl h)) (fun h => h.elim (fun h => hh (Or.inr (Or.inl h))) (fun h => h.elim (fun h => hh (Or.inr (Or.inr (Or.inl h)))) (fun h => h.elim (fun h => hh (Or.inr (Or.inr (Or.inr (Or.inl h))))) (fun h => h.elim (fun h => hh (Or.inr (Or.inr (Or.inr (Or.inr (Or.inl h)))))) (fun h => h.elim (fun h => hh (Or.inr (Or.inr (Or.inr (Or.inr (Or.inr (Or.inl h))))))) (fun h => hh (Or.inr (Or.inr (Or.inr (Or.inr (Or.inr (Or.inr (Or.inl h)))))))))))))), fg7 a k (fun h => h.elim (fun h => hh (Or.inl h)) (fun h => h.elim (fun h => hh (Or.inr (Or.inl h))) (fun h => h.elim (fun h => hh (Or.inr (Or.inr (Or.inl h)))) (fun h => h.elim (fun h => hh (Or.inr (Or.inr (Or.inr (Or.inl h))))) (fun h => h.elim (fun h => hh (Or.inr (Or.inr (Or.inr (Or.inr (Or.inl h)))))) (fun h => h.elim (fun h => hh (Or.inr (Or.inr (Or.inr (Or.inr (Or.inr (Or.inl h))))))) (fun h => hh (Or.inr (Or.inr (Or.inr (Or.inr (Or.inr (Or.inr (Or.inl h))))))))))))))]) (by intro a hh; rfl) (by omega) (by omega))
          · skip
            refine r_aload_n i_60_82 rfl ?_
            refine r_iconst i_60_83 ?_
            refine r_iload i_60_84 rfl ?_
            refine r_cV (as := [V (G_13 2 7), V 5]) i_60_86 rfl (by decide +kernel) (Nat.le_of_ble_eq_true rfl) (Nat.le_of_ble_eq_true rfl) (hly 2 _ rfl) rfl ?_
            refine c_56 (kind := 5) (place := G_13 2 7) hly hF hG_13 hA (by omega) (by omega) (by omega) (by omega) (fun r_45 G_46 hG_46 fg46 p46_0 => ?_)
            show Re L xs 60 89 [(0, .ref 2), (1, V (G (x + 9) 2)), (2, V (G_7 2 7)), (3, V (G_7 2 8)), (4, V (G_13 2 7))] [V r_45] (HP ly F G_46 A B) _
            exact r_iret i_60_89 rfl (nar_Z (by omega)) (K r_45 G_46 A hG_46 hA (by intro a k hh; rw [fg46 a k (fun h => h.elim (fun h => hh (Or.inl h)) (fun h => hh (Or.inr (Or.inl h)))), fg13 a k (fun h => h.elim (fun h => hh (Or.inl h)) (fun h => h.elim (fun h => hh (Or.inr (Or.inl h))) (fun h => h.elim (fun h => hh (Or.inr (Or.inr (Or.inl h)))) (fun h => h.elim (fun h => hh (Or.inr (Or.inr (Or.inr (Or.inl h))))) (fun h => h.elim (fun h => hh (Or.inr (Or.inr (Or.inr (Or.inr (Or.inl h)))))) (fun h => h.elim (fun h => hh (Or.inr (Or.inr (Or.inr (Or.inr (Or.inr (Or.inl h))))))) (fun h => hh (Or.inr (Or.inr (Or.inr (Or.inr (Or.inr (Or.inr (Or.inl h)))))))))))))), fg7 a k (fun h => h.elim (fun h => hh (Or.inl h)) (fun h => h.elim (fun h => hh (Or.inr (Or.inl h))) (fun h => h.elim (fun h => hh (Or.inr (Or.inr (Or.inl h)))) (fun h => h.elim (fun h => hh (Or.inr (Or.inr (Or.inr (Or.inl h))))) (fun h => h.elim (fun h => hh (Or.inr (Or.inr (Or.inr (Or.inr (Or.inl h)))))) (fun h => h.elim (fun h => hh (Or.inr (Or.inr (Or.inr (Or.inr (Or.inr (Or.inl h))))))) (fun h => hh (Or.inr (Or.inr (Or.inr (Or.inr (Or.inr (Or.inr (Or.inl h))))))))))))))]) (by intro a hh; rfl) (by rw [show G_46 2 6 = G_13 2 6 from by rw [fg46 2 6 (by omega)]] <;> rw [show G_46 2 7 = G_13 2 7 from by rw [fg46 2 7 (by omega)]] <;> rw [show G_46 2 8 = G_13 2 8 from by rw [fg46 2 8 (by omega)]] <;> omega) (by omega))
      · skip
        refine r_iconst i_60_48 ?_
        exact r_iret i_60_49 rfl (nar_Z (by omega)) (K 0 G_13 A hG_13 hA (by intro a k hh; rw [fg13 a k (fun h => h.elim (fun h => hh (Or.inl h)) (fun h => h.elim (fun h => hh (Or.inr (Or.inl h))) (fun h => h.elim (fun h => hh (Or.inr (Or.inr (Or.inl h)))) (fun h => h.elim (fun h => hh (Or.inr (Or.inr (Or.inr (Or.inl h))))) (fun h => h.elim (fun h => hh (Or.inr (Or.inr (Or.inr (Or.inr (Or.inl h)))))) (fun h => h.elim (fun h => hh (Or.inr (Or.inr (Or.inr (Or.inr (Or.inr (Or.inl h))))))) (fun h => hh (Or.inr (Or.inr (Or.inr (Or.inr (Or.inr (Or.inr (Or.inl h)))))))))))))), fg7 a k (fun h => h.elim (fun h => hh (Or.inl h)) (fun h => h.elim (fun h => hh (Or.inr (Or.inl h))) (fun h => h.elim (fun h => hh (Or.inr (Or.inr (Or.inl h)))) (fun h => h.elim (fun h => hh (Or.inr (Or.inr (Or.inr (Or.inl h))))) (fun h => h.elim (fun h => hh (Or.inr (Or.inr (Or.inr (Or.inr (Or.inl h)))))) (fun h => h.elim (fun h => hh (Or.inr (Or.inr (Or.inr (Or.inr (Or.inr (Or.inl h))))))) (fun h => hh (Or.inr (Or.inr (Or.inr (Or.inr (Or.inr (Or.inr (Or.inl h))))))))))))))]) (by intro a hh; rfl) (by omega) (by omega))
    · skip
      refine r_iconst i_60_29 ?_
      exact r_iret i_60_30 rfl (nar_Z (by omega)) (K 0 G_7 A hG_7 hA (by intro a k hh; rw [fg7 a k (fun h => h.elim (fun h => hh (Or.inl h)) (fun h => h.elim (fun h => hh (Or.inr (Or.inl h))) (fun h => h.elim (fun h => hh (Or.inr (Or.inr (Or.inl h)))) (fun h => h.elim (fun h => hh (Or.inr (Or.inr (Or.inr (Or.inl h))))) (fun h => h.elim (fun h => hh (Or.inr (Or.inr (Or.inr (Or.inr (Or.inl h)))))) (fun h => h.elim (fun h => hh (Or.inr (Or.inr (Or.inr (Or.inr (Or.inr (Or.inl h))))))) (fun h => hh (Or.inr (Or.inr (Or.inr (Or.inr (Or.inr (Or.inr (Or.inl h))))))))))))))]) (by intro a hh; rfl) (by omega) (by omega))
  · skip
    refine r_aload_n i_60_17 rfl ?_
    refine r_cV (as := []) i_60_18 rfl (by decide +kernel) (Nat.le_of_ble_eq_true rfl) (Nat.le_of_ble_eq_true rfl) (hly 2 _ rfl) rfl ?_
    refine c_52  hly hF hG hA  (fun r_47 G_48 hG_48 fg48 p48_0 => ?_)
    show Re L xs 60 21 [(0, .ref 2), (1, V (G (x + 9) 2))] [V r_47] (HP ly F G_48 A B) _
    exact r_iret i_60_21 rfl (nar_Z (by omega)) (K r_47 G_48 A hG_48 hA (by intro a k hh; rw [fg48 a k (fun h => h.elim (fun h => hh (Or.inl h)) (fun h => hh (Or.inr (Or.inl h))))]) (by intro a hh; rfl) (by rw [show G_48 2 6 = G 2 6 from by rw [fg48 2 6 (by omega)]] <;> rw [show G_48 2 7 = G 2 7 from by rw [fg48 2 7 (by omega)]] <;> rw [show G_48 2 8 = G 2 8 from by rw [fg48 2 8 (by omega)]] <;> omega) (by omega))
set_option maxHeartbeats 4000000 in
theorem c_62 {L : Nat} {xs : Nat → Int32} {ly : List LK} {F : Nat → Nat → Value} {G A : Nat → Nat → Int} {B : Nat → Nat → Int64} {Q : Option Value → AH → Prop} {x : Nat} (hly : LyOk ly) (hF : RfOk F) (hG : GO G) (hA : AQ A) (hb : F 2 2 = .ref x) (hx : x = 3 ∨ x = 61) (htk : tkO G A) (hrv : G 2 6 = 0 → G 2 7 + G 2 8 ≤ 2000) (K : ∀ (r : Int) (G' : Nat → Nat → Int) (A' : Nat → Nat → Int), (GO G') → (AQ A') → (∀ a k, ¬ ((a = 2 ∧ k = 0) ∨ (a = 2 ∧ k = 1) ∨ (a = 2 ∧ k = 5) ∨ (a = 2 ∧ k = 6) ∨ (a = 2 ∧ k = 7) ∨ (a = 2 ∧ k = 8) ∨ (a = 2 ∧ k = 9) ∨ (a = x + 14 ∧ k = 2)) → G' a k = G a k) → (∀ a, ¬ (a = x + 15 ∨ a = x + 16) → A' a = A a) → (G' 2 6 = 0 → G' 2 7 + G' 2 8 ≤ 2000) → (0 ≤ r ∧ r ≤ 1) → Q (some (V r)) (HP ly F G' A' B)) : Re L xs 62 0 [(0, .ref 2)] [] (HP ly F G A B) Q := by
  refine r_aload_n i_62_0 rfl ?_
  refine r_getF (v := .ref x) i_62_1 rfl (hly 2 _ rfl) hb ?_
  refine r_getF (v := .ref (x + 14)) i_62_4 rfl (Lx_0 hly hx) (Rx_0_9 hF hx) ?_
  refine r_getI i_62_7 rfl (Lx_14 hly hx) ?_
  have q_1 := Gx_14_2 hG hx
  refine r_bipush i_62_10 (by decide) ?_
  refine r_clt (t := 20) i_62_12 (by decide) (by omega) (by omega) (fun u_2 => ?_) (fun u_2 => ?_)
  · skip
    refine r_aload_n i_62_20 rfl ?_
    refine r_cV (as := []) i_62_21 rfl (by decide +kernel) (Nat.le_of_ble_eq_true rfl) (Nat.le_of_ble_eq_true rfl) (hly 2 _ rfl) rfl ?_
    have q_3 := g_2_6 hG
    have q_4 := g_2_7 hG
    have q_5 := g_2_8 hG
    refine c_53  hly hF hG hA (by exact tkO_c (by rfl) (by rfl) (by rfl) (by rfl) htk) (by omega) (fun r_6 G_7 hG_7 fg7 p7_0 p7_1 p7_2 => ?_)
    show Re L xs 62 24 [(0, .ref 2)] [V r_6] (HP ly F G_7 A B) _
    refine r_ne0 (t := 29) i_62_24 (by decide) (by omega) (fun u_8 => ?_) (fun u_8 => ?_)
    · skip
      refine r_aload_n i_62_29 rfl ?_
      refine r_getI i_62_30 rfl (hly 2 _ rfl) ?_
      have q_9 := g_2_7 hG_7
      refine r_istore_n (l' := [(0, .ref 2), (1, V (G_7 2 7))]) i_62_33 (by decide +kernel) rfl ?_
      refine r_aload_n i_62_34 rfl ?_
      refine r_getI i_62_35 rfl (hly 2 _ rfl) ?_
      have q_10 := g_2_8 hG_7
      refine r_istore_n (l' := [(0, .ref 2), (1, V (G_7 2 7)), (2, V (G_7 2 8))]) i_62_38 (by decide +kernel) rfl ?_
      refine r_aload_n i_62_39 rfl ?_
      refine r_getF (v := .ref x) i_62_40 rfl (hly 2 _ rfl) hb ?_
      refine r_aload_n i_62_43 rfl ?_
      refine r_getF (v := .ref 1) i_62_44 rfl (hly 2 _ rfl) (hF.1 2 3 1 rfl) ?_
      refine r_iload_n i_62_47 rfl ?_
      refine r_iload_n i_62_48 rfl ?_
      refine r_cV (as := [V (G_7 2 8), V (G_7 2 7), .ref 1]) i_62_49 rfl (by decide +kernel) (Nat.le_of_ble_eq_true rfl) (Nat.le_of_ble_eq_true rfl) (Lx_0 hly hx) rfl ?_
      refine c_20 (x := x) (ta := 1) (at' := G_7 2 7) (length := G_7 2 8) (tn := 2000) hly hF hG_7 hA (by omega) (by omega) (by omega) (by exact hly 1 _ rfl) (by exact fun i => a_1 hA i) (by omega) (by omega) (by omega) (fun r_11 p11_0 => ?_)
      show Re L xs 62 52 [(0, .ref 2), (1, V (G_7 2 7)), (2, V (G_7 2 8))] [V r_11] (HP ly F G_7 A B) _
      refine r_eq0 (t := 62) i_62_52 (by decide) (by omega) (fun u_12 => ?_) (fun u_12 => ?_)
      · skip
        refine r_aload_n i_62_62 rfl ?_
        refine r_cV (as := []) i_62_63 rfl (by decide +kernel) (Nat.le_of_ble_eq_true rfl) (Nat.le_of_ble_eq_true rfl) (hly 2 _ rfl) rfl ?_
        have q_13 := g_2_6 hG_7
        refine c_61  hly hF hG_7 hA (by exact tkO_c (by rw [fg7 22 4 (by omega)]) (by rfl) (by rfl) (by rfl) htk) (by omega) (fun r_14 G_15 hG_15 fg15 p15_0 p15_1 => ?_)
        show Re L xs 62 66 [(0, .ref 2), (1, V (G_7 2 7)), (2, V (G_7 2 8))] [V r_14] (HP ly F G_15 A B) _
        refine r_ne0 (t := 71) i_62_66 (by decide) (by omega) (fun u_16 => ?_) (fun u_16 => ?_)
        · skip
          refine r_aload_n i_62_71 rfl ?_
          refine r_getF (v := .ref x) i_62_72 rfl (hly 2 _ rfl) hb ?_
          refine r_getF (v := .ref (x + 14)) i_62_75 rfl (Lx_0 hly hx) (Rx_0_9 hF hx) ?_
          refine r_aload_n i_62_78 rfl ?_
          refine r_getF (v := .ref 1) i_62_79 rfl (hly 2 _ rfl) (hF.1 2 3 1 rfl) ?_
          refine r_iload_n i_62_82 rfl ?_
          refine r_iload_n i_62_83 rfl ?_
          refine r_cV (as := [V (G_7 2 8), V (G_7 2 7), .ref 1]) i_62_84 rfl (by decide +kernel) (Nat.le_of_ble_eq_true rfl) (Nat.le_of_ble_eq_true rfl) (Lx_14 hly hx) rfl ?_
          have w_17 : G_15 (x + 14) 2 = G (x + 14) 2 := by rw [fg15 (x + 14) 2 (by omega), fg7 (x + 14) 2 (by omega)]
          refine c_59 (f := x + 14) (ta := 1) (at' := G_7 2 7) (length := G_7 2 8) (cap := 20) (tn := 2000) hly hF hG_15 hA (by omega) (by omega) (by exact Fm_n hx) (by exact hly 1 _ rfl) (by exact fun i => a_1 hA i) (by omega) (by omega) (fun G_18 A_19 hG_18 hA_19 fg19 fa19 p19_0 => ?_)
          show Re L xs 62 87 [(0, .ref 2), (1, V (G_7 2 7)), (2, V (G_7 2 8))] [] (HP ly F G_18 A_19 B) _
          refine r_iconst i_62_87 ?_
          exact r_iret i_62_88 rfl (nar_Z (by omega)) (K 1 G_18 A_19 hG_18 hA_19 (by intro a k hh; rw [fg19 a k (fun h => hh (Or.inr (Or.inr (Or.inr (Or.inr (Or.inr (Or.inr (Or.inr h)))))))), fg15 a k (fun h => h.elim (fun h => hh (Or.inl h)) (fun h => h.elim (fun h => hh (Or.inr (Or.inl h))) (fun h => h.elim (fun h => hh (Or.inr (Or.inr (Or.inl h)))) (fun h => h.elim (fun h => hh (Or.inr (Or.inr (Or.inr (Or.inl h))))) (fun h => h.elim (fun h => hh (Or.inr (Or.inr (Or.inr (Or.inr (Or.inl h)))))) (fun h => h.elim (fun h => hh (Or.inr (Or.inr (Or.inr (Or.inr (Or.inr (Or.inl h))))))) (fun h => hh (Or.inr (Or.inr (Or.inr (Or.inr (Or.inr (Or.inr (Or.inl h)))))))))))))), fg7 a k (fun h => h.elim (fun h => hh (Or.inl h)) (fun h => h.elim (fun h => hh (Or.inr (Or.inl h))) (fun h => h.elim (fun h => hh (Or.inr (Or.inr (Or.inl h)))) (fun h => h.elim (fun h => hh (Or.inr (Or.inr (Or.inr (Or.inl h))))) (fun h => h.elim (fun h => hh (Or.inr (Or.inr (Or.inr (Or.inr (Or.inl h)))))) (fun h => h.elim (fun h => hh (Or.inr (Or.inr (Or.inr (Or.inr (Or.inr (Or.inl h))))))) (fun h => hh (Or.inr (Or.inr (Or.inr (Or.inr (Or.inr (Or.inr (Or.inl h))))))))))))))]) (by intro a hh; rw [fa19 a (fun h => h.elim (fun h => hh (Or.inl h)) (fun h => hh (Or.inr h)))]) (by rw [show G_18 2 6 = G_15 2 6 from by rw [fg19 2 6 (by omega)]] <;> rw [show G_18 2 7 = G_15 2 7 from by rw [fg19 2 7 (by omega)]] <;> rw [show G_18 2 8 = G_15 2 8 from by rw [fg19 2 8 (by omega)]] <;> omega) (by omega))
        · skip
          refine r_iconst i_62_69 ?_
          exact r_iret i_62_70 rfl (nar_Z (by omega)) (K 0 G_15 A hG_15 hA (by intro a k hh; rw [fg15 a k (fun h => h.elim (fun h => hh (Or.inl h)) (fun h => h.elim (fun h => hh (Or.inr (Or.inl h))) (fun h => h.elim (fun h => hh (Or.inr (Or.inr (Or.inl h)))) (fun h => h.elim (fun h => hh (Or.inr (Or.inr (Or.inr (Or.inl h))))) (fun h => h.elim (fun h => hh (Or.inr (Or.inr (Or.inr (Or.inr (Or.inl h)))))) (fun h => h.elim (fun h => hh (Or.inr (Or.inr (Or.inr (Or.inr (Or.inr (Or.inl h))))))) (fun h => hh (Or.inr (Or.inr (Or.inr (Or.inr (Or.inr (Or.inr (Or.inl h)))))))))))))), fg7 a k (fun h => h.elim (fun h => hh (Or.inl h)) (fun h => h.elim (fun h => hh (Or.inr (Or.inl h))) (fun h => h.elim (fun h => hh (Or.inr (Or.inr (Or.inl h)))) (fun h => h.elim (fun h => hh (Or.inr (Or.inr (Or.inr (Or.inl h))))) (fun h => h.elim (fun h => hh (Or.inr (Or.inr (Or.inr (Or.inr (Or.inl h)))))) (fun h => h.elim (fun h => hh (Or.inr (Or.inr (Or.inr (Or.inr (Or.inr (Or.inl h))))))) (fun h => hh (Or.inr (Or.inr (Or.inr (Or.inr (Or.inr (Or.inr (Or.inl h))))))))))))))]) (by intro a hh; rfl) (by omega) (by omega))
      · skip
        refine r_aload_n i_62_55 rfl ?_
        refine r_iconst i_62_56 ?_
        refine r_iload_n i_62_57 rfl ?_
        refine r_cV (as := [V (G_7 2 7), V 3]) i_62_58 rfl (by decide +kernel) (Nat.le_of_ble_eq_true rfl) (Nat.le_of_ble_eq_true rfl) (hly 2 _ rfl) rfl ?_
        refine c_56 (kind := 3) (place := G_7 2 7) hly hF hG_7 hA (by omega) (by omega) (by omega) (by omega) (fun r_20 G_21 hG_21 fg21 p21_0 => ?_)
        show Re L xs 62 61 [(0, .ref 2), (1, V (G_7 2 7)), (2, V (G_7 2 8))] [V r_20] (HP ly F G_21 A B) _
        exact r_iret i_62_61 rfl (nar_Z (by omega)) (K r_20 G_21 A hG_21 hA (by intro a k hh; rw [fg21 a k (fun h => h.elim (fun h => hh (Or.inl h)) (fun h => hh (Or.inr (Or.inl h)))), fg7 a k (fun h => h.elim (fun h => hh (Or.inl h)) (fun h => h.elim (fun h => hh (Or.inr (Or.inl h))) (fun h => h.elim (fun h => hh (Or.inr (Or.inr (Or.inl h)))) (fun h => h.elim (fun h => hh (Or.inr (Or.inr (Or.inr (Or.inl h))))) (fun h => h.elim (fun h => hh (Or.inr (Or.inr (Or.inr (Or.inr (Or.inl h)))))) (fun h => h.elim (fun h => hh (Or.inr (Or.inr (Or.inr (Or.inr (Or.inr (Or.inl h))))))) (fun h => hh (Or.inr (Or.inr (Or.inr (Or.inr (Or.inr (Or.inr (Or.inl h))))))))))))))]) (by intro a hh; rfl) (by rw [show G_21 2 6 = G_7 2 6 from by rw [fg21 2 6 (by omega)]] <;> rw [show G_21 2 7 = G_7 2 7 from by rw [fg21 2 7 (by omega)]] <;> rw [show G_21 2 8 = G_7 2 8 from by rw [fg21 2 8 (by omega)]] <;> omega) (by omega))
    · skip
      refine r_iconst i_62_27 ?_
      exact r_iret i_62_28 rfl (nar_Z (by omega)) (K 0 G_7 A hG_7 hA (by intro a k hh; rw [fg7 a k (fun h => h.elim (fun h => hh (Or.inl h)) (fun h => h.elim (fun h => hh (Or.inr (Or.inl h))) (fun h => h.elim (fun h => hh (Or.inr (Or.inr (Or.inl h)))) (fun h => h.elim (fun h => hh (Or.inr (Or.inr (Or.inr (Or.inl h))))) (fun h => h.elim (fun h => hh (Or.inr (Or.inr (Or.inr (Or.inr (Or.inl h)))))) (fun h => h.elim (fun h => hh (Or.inr (Or.inr (Or.inr (Or.inr (Or.inr (Or.inl h))))))) (fun h => hh (Or.inr (Or.inr (Or.inr (Or.inr (Or.inr (Or.inr (Or.inl h))))))))))))))]) (by intro a hh; rfl) (by omega) (by omega))
  · skip
    refine r_aload_n i_62_15 rfl ?_
    refine r_cV (as := []) i_62_16 rfl (by decide +kernel) (Nat.le_of_ble_eq_true rfl) (Nat.le_of_ble_eq_true rfl) (hly 2 _ rfl) rfl ?_
    refine c_52  hly hF hG hA  (fun r_22 G_23 hG_23 fg23 p23_0 => ?_)
    show Re L xs 62 19 [(0, .ref 2)] [V r_22] (HP ly F G_23 A B) _
    exact r_iret i_62_19 rfl (nar_Z (by omega)) (K r_22 G_23 A hG_23 hA (by intro a k hh; rw [fg23 a k (fun h => h.elim (fun h => hh (Or.inl h)) (fun h => hh (Or.inr (Or.inl h))))]) (by intro a hh; rfl) (by rw [show G_23 2 6 = G 2 6 from by rw [fg23 2 6 (by omega)]] <;> rw [show G_23 2 7 = G 2 7 from by rw [fg23 2 7 (by omega)]] <;> rw [show G_23 2 8 = G 2 8 from by rw [fg23 2 8 (by omega)]] <;> omega) (by omega))
