set_option maxHeartbeats 4000000 in
theorem c_68 {L : Nat} {xs : Nat → Int32} {ly : List LK} {F : Nat → Nat → Value} {G A : Nat → Nat → Int} {B : Nat → Nat → Int64} {Q : Option Value → AH → Prop} {day : Int} (hly : LyOk ly) (hF : RfOk F) (hG : GO G) (hA : AQ A) (in_day : inR day) (hci : CI F G A) (K : ∀ (r : Int) (F' : Nat → Nat → Value) (G' : Nat → Nat → Int) (A' : Nat → Nat → Int), (RfOk F') → (GO G') → (AQ A') → (∀ a k, ¬ ((a = 0 ∧ k = 7) ∨ (a = 0 ∧ k = 8) ∨ (a = 42 ∧ k = 8)) → F' a k = F a k) → (∀ a k, ¬ (a < 90) → G' a k = G a k) → (∀ a, ¬ (a < 91) → A' a = A a) → (CI F' G' A') → Q (some (V r)) (HP ly F' G' A' B)) : Re L xs 68 0 [(0, .ref 0), (1, V day)] [] (HP ly F G A B) Q := by
  obtain ⟨x, z, y, u, hcv⟩ := hci
  have hcv2 := hcv
  obtain ⟨⟨⟨hx, hxz⟩, ⟨hy, hyu⟩, ⟨hb, hrb⟩, ⟨hl, hsl⟩, hwq, hpcs, hrs, hln, hch, hcb, hrv⟩, hf8, hsw, hcr⟩ := hcv2
  have hz : z = 3 ∨ z = 61 := by omega
  have hu : u = 80 ∨ u = 85 := by omega
  have hq : x + 17 = 20 ∨ x + 17 = 78 ∨ x + 17 = 52 := by omega
  have hc : ∀ w : Nat, (w : Int) < G 31 8 → 1 ≤ A 32 w := fun w hw => (hcr w hw).1
  have z8 := g_31_8 hG
  refine r_iload_n i_68_0 rfl ?_
  refine r_lt0 (t := 20) i_68_1 (by decide) (by omega) (fun u_1 => ?_) (fun u_1 => ?_)
  · skip
    refine r_bipush i_68_20 (by decide) ?_
    exact r_iret i_68_22 rfl rfl (K ((-2)) F G A hF hG hA (by intro a k hh; rfl) (by intro a k hh; rfl) (by intro a hh; rfl) (by exact ⟨x, z, y, u, hcv⟩))
  · skip
    refine r_iload_n i_68_4 rfl ?_
    refine r_ldc (v := 100000) i_68_5 (by decide) ?_
    refine r_cgt (t := 20) i_68_7 (by decide) (by omega) (by omega) (fun u_2 => ?_) (fun u_2 => ?_)
    · skip
      refine r_bipush i_68_20 (by decide) ?_
      exact r_iret i_68_22 rfl rfl (K ((-2)) F G A hF hG hA (by intro a k hh; rfl) (by intro a k hh; rfl) (by intro a hh; rfl) (by exact ⟨x, z, y, u, hcv⟩))
    · skip
      refine r_aload_n i_68_10 rfl ?_
      refine r_getI i_68_11 rfl (hly 0 _ rfl) ?_
      have q_3 := g_0_5 hG
      refine r_sipush i_68_14 (by decide) ?_
      refine r_cle (t := 23) i_68_17 (by decide) (by omega) (by omega) (fun u_4 => ?_) (fun u_4 => ?_)
      · skip
        refine r_aload_n i_68_23 rfl ?_
        refine r_aload_n i_68_24 rfl ?_
        refine r_getF (v := .ref u) i_68_25 rfl (hly 0 _ rfl) hsl ?_
        refine r_aload_n i_68_28 rfl ?_
        refine r_getF (v := .ref 1) i_68_29 rfl (hly 0 _ rfl) (hF.1 0 0 1 rfl) ?_
        refine r_aload_n i_68_32 rfl ?_
        refine r_getI i_68_33 rfl (hly 0 _ rfl) ?_
        refine r_iload_n i_68_36 rfl ?_
        refine r_cV (as := [V day, V (G 0 5), .ref 1]) i_68_37 rfl (by decide +kernel) (Nat.le_of_ble_eq_true rfl) (Nat.le_of_ble_eq_true rfl) (Ly_0 hly hu) rfl ?_
        refine c_69 (y := u) (n := G 0 5) (day := day) hly hF hG hA (by omega) (by omega) (by exact hu) (by omega) (by omega) (fun r_5 G_6 A_7 hG_6 hA_7 fg_7 fa_7 p7_0 p7_1 => ?_)
        show Re L xs 68 40 [(0, .ref 0), (1, V day)] [V r_5, .ref 0] (HP ly F G_6 A_7 B) _
        refine r_putIQ i_68_40 (by decide +kernel) (hly 0 _ rfl) (fun G_8 eG_8 => ?_)
        have hG_8 : GO G_8 := by rw [eG_8]; exact gu_0_10 hG_6 (by omega) (by omega)
        refine r_aload_n i_68_43 rfl ?_
        have jn57 : ∀ (fk : Int), (0 ≤ fk ∧ fk ≤ 1) → Re L xs 68 57 [(0, .ref 0), (1, V day)] [V fk, .ref 0] (HP ly F G_8 A_7 B) Q := by
          intro fk  hfk
          refine r_putIQ i_68_57 (by decide +kernel) (hly 0 _ rfl) (fun G_9 eG_9 => ?_)
          have hG_9 : GO G_9 := by rw [eG_9]; exact gu_0_9 hG_8 (by omega) (by omega)
          refine r_aload_n i_68_60 rfl ?_
          refine r_getI i_68_61 rfl (hly 0 _ rfl) ?_
          rw [show G_9 0 10 = r_5 from by rw [eG_9, up2_n (by omega), eG_8, up2_s]]
          refine r_iconst i_68_64 ?_
          refine r_ceq (t := 70) i_68_65 (by decide) (by omega) (by omega) (fun u_10 => ?_) (fun u_10 => ?_)
          · skip
            refine r_aload_n i_68_70 rfl ?_
            refine r_getF (v := .ref y) i_68_71 rfl (hly 0 _ rfl) hl ?_
            refine r_astore_n (l' := [(0, .ref 0), (1, V day), (2, .ref y)]) i_68_74 (by decide +kernel) rfl ?_
            refine r_aload_n i_68_75 rfl ?_
            refine r_aload_n i_68_76 rfl ?_
            refine r_getF (v := .ref u) i_68_77 rfl (hly 0 _ rfl) hsl ?_
            refine r_putRQ i_68_80 (by decide +kernel) (hly 0 _ rfl) (fun F_11 eF_11 => ?_)
            have hF_11 : RfOk F_11 := by rw [eF_11]; exact RfOk.up hF rfl (by omega)
            refine r_aload_n i_68_83 rfl ?_
            refine r_aload_n i_68_84 rfl ?_
            refine r_putRQ i_68_85 (by decide +kernel) (hly 0 _ rfl) (fun F_12 eF_12 => ?_)
            have hF_12 : RfOk F_12 := by rw [eF_12]; exact RfOk.up hF_11 rfl (by omega)
            refine r_aload_n i_68_88 rfl ?_
            refine r_iconst i_68_89 ?_
            refine r_putIQ i_68_90 (by decide +kernel) (hly 0 _ rfl) (fun G_13 eG_13 => ?_)
            have hG_13 : GO G_13 := by rw [eG_13]; exact gu_0_5 hG_9 (by omega) (by omega)
            refine r_aload_n i_68_93 rfl ?_
            refine r_getF (v := .ref 27) i_68_94 rfl (hly 0 _ rfl) (hF_12.1 0 2 27 rfl) ?_
            refine r_cV (as := []) i_68_97 rfl (by decide +kernel) (Nat.le_of_ble_eq_true rfl) (Nat.le_of_ble_eq_true rfl) (hly 27 _ rfl) rfl ?_
            refine c_71  hly hF_12 hG_13 hA_7  (fun A_14 hA_14 fa_14 => ?_)
            show Re L xs 68 100 [(0, .ref 0), (1, V day), (2, .ref y)] [] (HP ly F_12 G_13 A_14 B) _
            have hcj : CJ x z u y F_12 G_13 A_14 := CJ_ln hcv (by intro a k hh; rw [eF_12, up2_n (by omega), eF_11, up2_n (by omega)]) (by rw [eF_12, up2_n (by omega), eF_11, up2_s]) (by rw [eF_12, up2_s]) (by intro a k hh; rw [eG_13, up2_n (by omega), eG_9, up2_n (by omega), eG_8, up2_n (by omega), fg_7 a k (by omega)]) (by intro a hh; rw [fa_14 a (by omega), fa_7 a (by omega)]) (lnQ_c (by rw [fa_14 (u + 2) (by omega)]) (by rw [fa_14 (u + 3) (by omega)]) (by rw [show G_13 u 5 = G_6 u 5 from by rw [eG_13, up2_n (by omega), eG_9, up2_n (by omega), eG_8, up2_n (by omega)]]) (p7_1 (by omega)))
            refine r_aload_n i_68_100 rfl ?_
            refine r_cV (as := []) i_68_101 rfl (by decide +kernel) (Nat.le_of_ble_eq_true rfl) (Nat.le_of_ble_eq_true rfl) (hly 0 _ rfl) rfl ?_
            have w_15 : G_13 y 5 = G y 5 := by rw [eG_13, up2_n (by omega), eG_9, up2_n (by omega), eG_8, up2_n (by omega), fg_7 y 5 (by omega)]
            have q_16 := Gy_0_5 hG hy
            have w_17 : G_13 27 3 = G 27 3 := by rw [eG_13, up2_n (by omega), eG_9, up2_n (by omega), eG_8, up2_n (by omega), fg_7 27 3 (by omega)]
            have q_18 := g_27_3 hG
            have w_19 : G_13 (x + 1) 2 = G (x + 1) 2 := by rw [eG_13, up2_n (by omega), eG_9, up2_n (by omega), eG_8, up2_n (by omega), fg_7 (x + 1) 2 (by omega)]
            have q_20 := Gx_1_2 hG hx
            refine c_12 (x := x) (y := u) hly hF_12 hG_13 hA_14 (by omega) (by omega) (by exact hcj.2.2.1.1) (by exact hcj.2.2.2.1.1) (by exact hcj.2.2.2.2.2.2.2.1) (by exact hcj.2.2.2.2.2.2.2.2.1) (fun F_21 G_22 A_23 hF_21 hG_22 hA_23 ff_23 fg_23 fa_23 p23_0 p23_1 p23_2 p23_3 => ?_)
            show Re L xs 68 104 [(0, .ref 0), (1, V day), (2, .ref y)] [] (HP ly F_21 G_22 A_23 B) _
            refine r_aload_n i_68_104 rfl ?_
            refine r_getF (v := .ref u) i_68_105 rfl (hly 0 _ rfl) (by rw [ff_23 0 7 (by omega), eF_12, up2_n (by omega), eF_11, up2_s]) ?_
            refine r_getI i_68_108 rfl (Ly_0 hly hu) ?_
            rw [show G_22 u 5 = G_6 u 5 from by rw [fg_23 u 5 (by omega), eG_13, up2_n (by omega), eG_9, up2_n (by omega), eG_8, up2_n (by omega)]]
            have q_24 := Gy_0_5 hG_6 hu
            exact r_iret i_68_111 rfl rfl (K (G_6 u 5) F_21 G_22 A_23 hF_21 hG_22 hA_23 (by intro a k hh; rw [ff_23 a k (fun h => hh (Or.inr (Or.inr h))), eF_12, up2_n (fun h => hh (Or.inr (Or.inl h))), eF_11, up2_n (fun h => hh (Or.inl h))]) (by intro a k hh; rw [fg_23 a k (by omega), eG_13, up2_n (by omega), eG_9, up2_n (by omega), eG_8, up2_n (by omega), fg_7 a k (by omega)]) (by intro a hh; rw [fa_23 a (by omega), fa_14 a (by omega), fa_7 a (by omega)]) (by exact CI_rf hcj ff_23 fg_23 fa_23 p23_0 p23_1 p23_2 p23_3))
          · skip
            refine r_iconst i_68_68 ?_
            exact r_iret i_68_69 rfl rfl (K ((-1)) F G_9 A_7 hF hG_9 hA_7 (by intro a k hh; rfl) (by intro a k hh; rw [eG_9, up2_n (by omega), eG_8, up2_n (by omega), fg_7 a k (by omega)]) (by intro a hh; rw [fa_7 a (by omega)]) (by exact CI_lf hcv (by intro a k hh; rw [eG_9, up2_n (by omega), eG_8, up2_n (by omega), fg_7 a k (by omega)]) (by intro a hh; rw [fa_7 a (by omega)])))
        refine r_aload_n i_68_44 rfl ?_
        refine r_getI i_68_45 rfl (hly 0 _ rfl) ?_
        rw [show G_8 0 10 = r_5 from by rw [eG_8, up2_s]]
        refine r_iconst i_68_48 ?_
        refine r_cne (t := 56) i_68_49 (by decide) (by omega) (by omega) (fun u_25 => ?_) (fun u_25 => ?_)
        · skip
          refine r_iconst i_68_56 ?_
          exact jn57 1  (by omega)
        · skip
          refine r_iconst i_68_52 ?_
          refine r_go (t := 57) i_68_53 (by decide) ?_
          exact jn57 0  (by omega)
      · skip
        refine r_bipush i_68_20 (by decide) ?_
        exact r_iret i_68_22 rfl rfl (K ((-2)) F G A hF hG hA (by intro a k hh; rfl) (by intro a k hh; rfl) (by intro a hh; rfl) (by exact ⟨x, z, y, u, hcv⟩))
set_option maxHeartbeats 4000000 in
theorem c_38 {L : Nat} {xs : Nat → Int32} {ly : List LK} {F : Nat → Nat → Value} {G A : Nat → Nat → Int} {B : Nat → Nat → Int64} {Q : Option Value → AH → Prop}  (hly : LyOk ly) (hF : RfOk F) (hG : GO G) (hA : AQ A) (hci : CI F G A) (K : ∀ (r : Int) (F' : Nat → Nat → Value) (G' : Nat → Nat → Int) (A' : Nat → Nat → Int), (RfOk F') → (GO G') → (AQ A') → (∀ a k, ¬ ((a = 0 ∧ k = 6) ∨ (a = 2 ∧ k = 2) ∨ (a = 42 ∧ k = 8)) → F' a k = F a k) → (∀ a k, ¬ (a < 90) → G' a k = G a k) → (∀ a, ¬ (a < 91) → A' a = A a) → (CI F' G' A') → Q (some (V r)) (HP ly F' G' A' B)) : Re L xs 38 0 [(0, .ref 0)] [] (HP ly F G A B) Q := by
  obtain ⟨x, z, y, u, hcv⟩ := hci
  have hcv2 := hcv
  obtain ⟨⟨⟨hx, hxz⟩, ⟨hy, hyu⟩, ⟨hb, hrb⟩, ⟨hl, hsl⟩, hwq, hpcs, hrs, hln, hch, hcb, hrv⟩, hf8, hsw, hcr⟩ := hcv2
  have hz : z = 3 ∨ z = 61 := by omega
  have hu : u = 80 ∨ u = 85 := by omega
  have hq : x + 17 = 20 ∨ x + 17 = 78 ∨ x + 17 = 52 := by omega
  have hc : ∀ w : Nat, (w : Int) < G 31 8 → 1 ≤ A 32 w := fun w hw => (hcr w hw).1
  have z8 := g_31_8 hG
  refine r_aload_n i_38_0 rfl ?_
  refine r_getF (v := .ref 2) i_38_1 rfl (hly 0 _ rfl) (hF.1 0 1 2 rfl) ?_
  refine r_aload_n i_38_4 rfl ?_
  refine r_getI i_38_5 rfl (hly 0 _ rfl) ?_
  have q_1 := g_0_5 hG
  refine r_cV (as := [V (G 0 5)]) i_38_8 rfl (by decide +kernel) (Nat.le_of_ble_eq_true rfl) (Nat.le_of_ble_eq_true rfl) (hly 2 _ rfl) rfl ?_
  have q_2 := g_2_6 hG
  have q_3 := g_2_7 hG
  have q_4 := g_2_8 hG
  refine c_39 (n := G 0 5) (x := z) hly hF hG hA (by omega) (by exact hrb) (by exact hz) (by exact hrv) (by omega) (fun r_5 G_6 A_7 hG_6 hA_7 fg_7 fa_7 p7_0 p7_1 p7_2 p7_3 => ?_)
  show Re L xs 38 11 [(0, .ref 0)] [V r_5] (HP ly F G_6 A_7 B) _
  refine r_istore_n (l' := [(0, .ref 0), (1, V r_5)]) i_38_11 (by decide +kernel) rfl ?_
  refine r_aload_n i_38_12 rfl ?_
  refine r_aload_n i_38_13 rfl ?_
  refine r_getF (v := .ref 2) i_38_14 rfl (hly 0 _ rfl) (hF.1 0 1 2 rfl) ?_
  refine r_getI i_38_17 rfl (hly 2 _ rfl) ?_
  have q_8 := g_2_0 hG_6
  refine r_putIQ i_38_20 (by decide +kernel) (hly 0 _ rfl) (fun G_9 eG_9 => ?_)
  have hG_9 : GO G_9 := by rw [eG_9]; exact gu_0_9 hG_6 (by omega) (by omega)
  refine r_aload_n i_38_23 rfl ?_
  refine r_aload_n i_38_24 rfl ?_
  refine r_getF (v := .ref 2) i_38_25 rfl (hly 0 _ rfl) (hF.1 0 1 2 rfl) ?_
  refine r_getI i_38_28 rfl (hly 2 _ rfl) ?_
  rw [show G_9 2 1 = G_6 2 1 from by rw [eG_9, up2_n (by omega)]]
  have q_10 := g_2_1 hG_6
  refine r_putIQ i_38_31 (by decide +kernel) (hly 0 _ rfl) (fun G_11 eG_11 => ?_)
  have hG_11 : GO G_11 := by rw [eG_11]; exact gu_0_10 hG_9 (by omega) (by omega)
  refine r_iload_n i_38_34 rfl ?_
  refine r_ne0 (t := 40) i_38_35 (by decide) (by omega) (fun u_12 => ?_) (fun u_12 => ?_)
  · skip
    refine r_aload_n i_38_40 rfl ?_
    refine r_getF (v := .ref x) i_38_41 rfl (hly 0 _ rfl) hb ?_
    refine r_astore_n (l' := [(0, .ref 0), (1, V r_5), (2, .ref x)]) i_38_44 (by decide +kernel) rfl ?_
    refine r_aload_n i_38_45 rfl ?_
    refine r_aload_n i_38_46 rfl ?_
    refine r_getF (v := .ref 2) i_38_47 rfl (hly 0 _ rfl) (hF.1 0 1 2 rfl) ?_
    refine r_getF (v := .ref z) i_38_50 rfl (hly 2 _ rfl) hrb ?_
    refine r_putRQ i_38_53 (by decide +kernel) (hly 0 _ rfl) (fun F_13 eF_13 => ?_)
    have hF_13 : RfOk F_13 := by rw [eF_13]; exact RfOk.up hF rfl (by omega)
    refine r_aload_n i_38_56 rfl ?_
    refine r_getF (v := .ref 2) i_38_57 rfl (hly 0 _ rfl) (hF_13.1 0 1 2 rfl) ?_
    refine r_aload_n i_38_60 rfl ?_
    refine r_putRQ i_38_61 (by decide +kernel) (hly 2 _ rfl) (fun F_14 eF_14 => ?_)
    have hF_14 : RfOk F_14 := by rw [eF_14]; exact RfOk.up hF_13 rfl (by omega)
    refine r_aload_n i_38_64 rfl ?_
    refine r_iconst i_38_65 ?_
    refine r_putIQ i_38_66 (by decide +kernel) (hly 0 _ rfl) (fun G_15 eG_15 => ?_)
    have hG_15 : GO G_15 := by rw [eG_15]; exact gu_0_5 hG_11 (by omega) (by omega)
    refine r_aload_n i_38_69 rfl ?_
    refine r_getF (v := .ref y) i_38_70 rfl (hly 0 _ rfl) (by rw [eF_14, up2_n (by omega), eF_13, up2_n (by omega)]; exact hl) ?_
    refine r_cV (as := []) i_38_73 rfl (by decide +kernel) (Nat.le_of_ble_eq_true rfl) (Nat.le_of_ble_eq_true rfl) (Ly_0 hly hy) rfl ?_
    refine c_66 (y := y) hly hF_14 hG_15 hA_7 (by exact hy) (fun G_16 hG_16 fg_16 p16_0 => ?_)
    show Re L xs 38 76 [(0, .ref 0), (1, V r_5), (2, .ref x)] [] (HP ly F_14 G_16 A_7 B) _
    refine r_aload_n i_38_76 rfl ?_
    refine r_getF (v := .ref 27) i_38_77 rfl (hly 0 _ rfl) (hF_14.1 0 2 27 rfl) ?_
    refine r_cV (as := []) i_38_80 rfl (by decide +kernel) (Nat.le_of_ble_eq_true rfl) (Nat.le_of_ble_eq_true rfl) (hly 27 _ rfl) rfl ?_
    refine c_67  hly hF_14 hG_16 hA_7  (fun G_17 hG_17 fg_17 p17_0 => ?_)
    show Re L xs 38 83 [(0, .ref 0), (1, V r_5), (2, .ref x)] [] (HP ly F_14 G_17 A_7 B) _
    have hcj : CJ z x y u F_14 G_17 A_7 := CJ_b hcv (by intro a k hh; rw [eF_14, up2_n (by omega), eF_13, up2_n (by omega)]) (by rw [eF_14, up2_n (by omega), eF_13, up2_s]) (by rw [eF_14, up2_s]) (by intro a hh; rw [fa_7 a (by omega)]) (PC_c (by rfl) p7_2) (by rw [show G_17 2 6 = G_6 2 6 from by rw [fg_17 2 6 (by omega), fg_16 2 6 (by omega), eG_15, up2_n (by omega), eG_11, up2_n (by omega), eG_9, up2_n (by omega)], show G_17 2 7 = G_6 2 7 from by rw [fg_17 2 7 (by omega), fg_16 2 7 (by omega), eG_15, up2_n (by omega), eG_11, up2_n (by omega), eG_9, up2_n (by omega)], show G_17 2 8 = G_6 2 8 from by rw [fg_17 2 8 (by omega), fg_16 2 8 (by omega), eG_15, up2_n (by omega), eG_11, up2_n (by omega), eG_9, up2_n (by omega)]]; exact p7_0) (by rw [show G_17 y 5 = G_16 y 5 from by rw [fg_17 y 5 (by omega)]]; omega) (by rw [show G_17 27 3 = G_17 27 3 from by rfl]; omega) (lz_c (by rw [show G_17 (z + 1) 2 = G_6 (z + 1) 2 from by rw [fg_17 (z + 1) 2 (by omega), fg_16 (z + 1) 2 (by omega), eG_15, up2_n (by omega), eG_11, up2_n (by omega), eG_9, up2_n (by omega)]]) (by rfl) (p7_3 (by omega)))
    refine r_aload_n i_38_83 rfl ?_
    refine r_cV (as := []) i_38_84 rfl (by decide +kernel) (Nat.le_of_ble_eq_true rfl) (Nat.le_of_ble_eq_true rfl) (hly 0 _ rfl) rfl ?_
    have w_18 : G_17 y 5 = G_16 y 5 := by rw [fg_17 y 5 (by omega)]
    have q_19 := Gy_0_5 hG_16 hy
    have q_20 := g_27_3 hG_17
    have w_21 : G_17 (x + 1) 2 = G (x + 1) 2 := by rw [fg_17 (x + 1) 2 (by omega), fg_16 (x + 1) 2 (by omega), eG_15, up2_n (by omega), eG_11, up2_n (by omega), eG_9, up2_n (by omega), fg_7 (x + 1) 2 (by omega)]
    have q_22 := Gx_1_2 hG hx
    refine c_12 (x := z) (y := y) hly hF_14 hG_17 hA_7 (by omega) (by omega) (by exact hcj.2.2.1.1) (by exact hcj.2.2.2.1.1) (by exact hcj.2.2.2.2.2.2.2.1) (by exact hcj.2.2.2.2.2.2.2.2.1) (fun F_23 G_24 A_25 hF_23 hG_24 hA_25 ff_25 fg_25 fa_25 p25_0 p25_1 p25_2 p25_3 => ?_)
    show Re L xs 38 87 [(0, .ref 0), (1, V r_5), (2, .ref x)] [] (HP ly F_23 G_24 A_25 B) _
    refine r_aload_n i_38_87 rfl ?_
    refine r_getF (v := .ref z) i_38_88 rfl (hly 0 _ rfl) (by rw [ff_25 0 6 (by omega), eF_14, up2_n (by omega), eF_13, up2_s]) ?_
    refine r_getF (v := .ref (z + 1)) i_38_91 rfl (Lx_0 hly hz) (Rx_0_0 hF_23 hz) ?_
    refine r_getI i_38_94 rfl (Lx_1 hly hz) ?_
    rw [show G_24 (z + 1) 2 = G_6 (z + 1) 2 from by rw [fg_25 (z + 1) 2 (by omega), fg_17 (z + 1) 2 (by omega), fg_16 (z + 1) 2 (by omega), eG_15, up2_n (by omega), eG_11, up2_n (by omega), eG_9, up2_n (by omega)]]
    have q_26 := Gx_1_2 hG_6 hz
    exact r_iret i_38_97 rfl rfl (K (G_6 (z + 1) 2) F_23 G_24 A_25 hF_23 hG_24 hA_25 (by intro a k hh; rw [ff_25 a k (fun h => hh (Or.inr (Or.inr h))), eF_14, up2_n (fun h => hh (Or.inr (Or.inl h))), eF_13, up2_n (fun h => hh (Or.inl h))]) (by intro a k hh; rw [fg_25 a k (by omega), fg_17 a k (by omega), fg_16 a k (by omega), eG_15, up2_n (by omega), eG_11, up2_n (by omega), eG_9, up2_n (by omega), fg_7 a k (by omega)]) (by intro a hh; rw [fa_25 a (by omega), fa_7 a (by omega)]) (by exact CI_rf hcj ff_25 fg_25 fa_25 p25_0 p25_1 p25_2 p25_3))
  · skip
    refine r_iconst i_38_38 ?_
    exact r_iret i_38_39 rfl rfl (K ((-1)) F G_11 A_7 hF hG_11 hA_7 (by intro a k hh; rfl) (by intro a k hh; rw [eG_11, up2_n (by omega), eG_9, up2_n (by omega), fg_7 a k (by omega)]) (by intro a hh; rw [fa_7 a (by omega)]) (by exact CI_bf hcv (by intro a k hh; rw [eG_11, up2_n (by omega), eG_9, up2_n (by omega), fg_7 a k (by omega)]) (by intro a hh; rw [fa_7 a (by omega)]) (PC_c (by rfl) p7_2) (by rw [show G_11 2 6 = G_6 2 6 from by rw [eG_11, up2_n (by omega), eG_9, up2_n (by omega)], show G_11 2 7 = G_6 2 7 from by rw [eG_11, up2_n (by omega), eG_9, up2_n (by omega)], show G_11 2 8 = G_6 2 8 from by rw [eG_11, up2_n (by omega), eG_9, up2_n (by omega)]]; exact p7_0)))
