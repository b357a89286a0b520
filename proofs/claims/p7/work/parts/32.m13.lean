set_option maxHeartbeats 4000000 in
theorem c_161 {L : Nat} {xs : Nat → Int32} {ly : List LK} {F : Nat → Nat → Value} {G A : Nat → Nat → Int} {B : Nat → Nat → Int64} {Q : Option Value → AH → Prop}  (hly : LyOk ly) (hF : RfOk F) (hG : GO G) (hA : AQ A) (hm : MI G A) (K : ∀ (G' : Nat → Nat → Int) (A' : Nat → Nat → Int), (GO G') → (AQ A') → (∀ a k, ¬ ((a = 90 ∧ k = 53) ∨ (a = 90 ∧ k = 56) ∨ (a = 90 ∧ k = 57) ∨ (a = 90 ∧ k = 58)) → G' a k = G a k) → (∀ a, ¬ (a = 121 ∨ a = 122 ∨ a = 123 ∨ a = 124 ∨ a = 125 ∨ a = 126 ∨ a = 128 ∨ a = 129) → A' a = A a) → (MI G' A') → (KN G' A') → Q none (HP ly F G' A' B)) : Re L xs 161 0 [(0, .ref 90)] [] (HP ly F G A B) Q := by
  have z38 := g_90_38 hG
  have z45 := g_90_45 hG
  refine r_aload_n i_161_0 rfl ?_
  refine r_getI i_161_1 rfl (hly 90 _ rfl) ?_
  have q_1 := g_90_53 hG
  refine r_eq0 (t := 8) i_161_4 (by decide) (by omega) (fun c_2 => ?_) (fun c_2 => ?_)
  · skip
    refine r_iconst i_161_8 ?_
    refine r_istore_n (l' := [(0, .ref 90), (1, V 0)]) i_161_9 (by decide +kernel) rfl ?_
    have lp10B : ∀ (nf : Nat) (p : Int) (A10 : Nat → Nat → Int), (AQ A10) → (∀ a, ¬ (a = 121 ∨ a = 122 ∨ a = 123 ∨ a = 124 ∨ a = 125 ∨ a = 126) → A10 a = A a) → (0 ≤ p ∧ p ≤ G 90 38) → (∀ q : Nat, (q : Int) < p → rdV G A10 q) → (20 - p).toNat < nf → Re L xs 161 10 [(0, .ref 90), (1, V p)] [] (HP ly F G A10 B) Q := by
      intro nf
      induction nf with
      | zero => intros; omega
      | succ nf ih10B =>
        intro p A10 hA10 fa10 hp hr hm10
        refine r_iload_n i_161_10 rfl ?_
        refine r_aload_n i_161_11 rfl ?_
        refine r_getI i_161_12 rfl (hly 90 _ rfl) ?_
        have q_3 := g_90_38 hG
        refine r_cge (t := 29) i_161_15 (by decide) (by omega) (by omega) (fun c_4 => ?_) (fun c_4 => ?_)
        · skip
          refine r_aload_n i_161_29 rfl ?_
          have jn51 : ∀ (tg : Int), (-168 ≤ tg ∧ tg ≤ 400) → Re L xs 161 51 [(0, .ref 90), (1, V p)] [V tg, .ref 90] (HP ly F G A10 B) Q := by
            intro tg  htg
            refine r_putIQ i_161_51 (by decide +kernel) (hly 90 _ rfl) (fun G_5 eG_5 => ?_)
            have hG_5 : GO G_5 := by rw [eG_5]; exact gu_90_56 hG (by omega) (by omega)
            refine r_aload_n i_161_54 rfl ?_
            refine r_iconst i_161_55 ?_
            refine r_putIQ i_161_56 (by decide +kernel) (hly 90 _ rfl) (fun G_6 eG_6 => ?_)
            have hG_6 : GO G_6 := by rw [eG_6]; exact gu_90_58 hG_5 (by omega) (by omega)
            refine r_aload_n i_161_59 rfl ?_
            refine r_cV (as := []) i_161_60 rfl (by decide +kernel) (Nat.le_of_ble_eq_true rfl) (Nat.le_of_ble_eq_true rfl) (hly 90 _ rfl) rfl ?_
            refine c_175  hly hF hG_6 hA10  (fun G_7 A_8 hG_7 hA_8 fg8 fa8 p8_0 => ?_)
            show Re L xs 161 63 [(0, .ref 90), (1, V p)] [] (HP ly F G_7 A_8 B) _
            refine r_aload_n i_161_63 rfl ?_
            refine r_iconst i_161_64 ?_
            refine r_putZQ i_161_65 (by decide +kernel) (hly 90 _ rfl) (by omega) (fun G_9 eG_9 => ?_)
            have hG_9 : GO G_9 := by rw [eG_9]; exact gu_90_53 hG_7 (by omega) (by omega)
            have hok : (dpo G_9 A_8).Ok := by rw [dpo_G (G := G_7) (by intro a k hh; rw [eG_9, up2_n (by omega)])]; exact p8_0
            have hkn : KN G_9 A_8 := ⟨by rw [eG_9, up2_n (by omega), fg8 90 58 (by omega), eG_6, up2_s], fun q hq => rdV_c (hr q (by rw [show G_9 90 38 = G 90 38 from by rw [eG_9, up2_n (by omega), fg8 90 38 (by omega), eG_6, up2_n (by omega), eG_5, up2_n (by omega)]] at hq; omega)) (by rw [eG_9, up2_n (by omega), fg8 90 32 (by omega), eG_6, up2_n (by omega), eG_5, up2_n (by omega)]) (by rw [fa8 122 (by omega)]) (by rw [fa8 125 (by omega)]) (by rw [fa8 107 (by omega)]), hok⟩
            exact r_vret i_161_68 rfl (K G_9 A_8 hG_9 hA_8 (by intro a k hh; rw [eG_9, up2_n (by omega), fg8 a k (by omega), eG_6, up2_n (by omega), eG_5, up2_n (by omega)]) (by intro a hh; rw [fa8 a (by omega), fa10 a (by omega)]) (by exact MI_kn hm (by intro a k hh; rw [eG_9, up2_n (by omega), fg8 a k (by omega), eG_6, up2_n (by omega), eG_5, up2_n (by omega)]) (by intro a hh; rw [fa8 a (by omega), fa10 a (by omega)]) hkn) (by exact hkn))
          refine r_aload_n i_161_30 rfl ?_
          refine r_getI i_161_31 rfl (hly 90 _ rfl) ?_
          have q_10 := g_90_45 hG
          refine r_iconst i_161_34 ?_
          refine r_cne (t := 42) i_161_35 (by decide) (by omega) (by omega) (fun c_11 => ?_) (fun c_11 => ?_)
          · skip
            refine r_aload_n i_161_42 rfl ?_
            refine r_getI i_161_43 rfl (hly 90 _ rfl) ?_
            refine r_aload_n i_161_46 rfl ?_
            refine r_cV (as := []) i_161_47 rfl (by decide +kernel) (Nat.le_of_ble_eq_true rfl) (Nat.le_of_ble_eq_true rfl) (hly 90 _ rfl) rfl ?_
            refine c_174  hly hF hG hA10 (by exact (MP_fr (by intro a hh; rw [fa10 a (by omega)]) ⟨hm.bk, hm.ln, hm.hd⟩).2.1) (fun r_12 p12_0 => ?_)
            show Re L xs 161 50 [(0, .ref 90), (1, V p)] [V r_12, V (G 90 45), .ref 90] (HP ly F G A10 B) _
            refine r_isub i_161_50 ?_
            exact jn51 ((G 90 45) - r_12)  (by omega)
          · skip
            refine r_iconst i_161_38 ?_
            refine r_go (t := 51) i_161_39 (by decide) ?_
            exact jn51 0  (by omega)
        · skip
          refine r_aload_n i_161_18 rfl ?_
          refine r_iload_n i_161_19 rfl ?_
          refine r_cV (as := [V p]) i_161_20 rfl (by decide +kernel) (Nat.le_of_ble_eq_true rfl) (Nat.le_of_ble_eq_true rfl) (hly 90 _ rfl) rfl ?_
          have q_13 := g_90_32 hG
          refine c_162 (p := p) hly hF hG hA10 (by omega) (by omega) (by exact MP_fr (by intro a hh; rw [fa10 a (by omega)]) ⟨hm.bk, hm.ln, hm.hd⟩) (fun A_14 hA_14 fa14 p14_0 p14_1 => ?_)
          show Re L xs 161 23 [(0, .ref 90), (1, V p)] [] (HP ly F G A_14 B) _
          refine r_iinc (l' := [(0, .ref 90), (1, V (p + 1))]) i_161_23 rfl (by decide +kernel) rfl ?_
          refine r_go (t := 10) i_161_26 (by decide) ?_
          exact ih10B (p + 1) A_14 hA_14 (by intro a hh; rw [fa14 a (by omega), fa10 a (by omega)]) (by omega) (by first | (intro q hq; exfalso; omega) | (intro q hq; exact if e : q = p.toNat then (by rw [e]; exact p14_0) else rdV_f (hr q (by omega)) p14_1 e)) (by omega)
    exact lp10B _ 0 A hA (by intro a hh; rfl) (by omega) (by first | (intro q hq; exfalso; omega) | (intro q hq; exact if e : q = p.toNat then (by rw [e]; exact zzp0) else rdV_f (hr q (by omega)) zzp1 e)) (Nat.lt_succ_self _)
  · skip
    exact r_vret i_161_7 rfl (K G A hG hA (by intro a k hh; rfl) (by intro a hh; rfl) (by exact hm) (by exact hm.kn (by omega)))
set_option maxHeartbeats 4000000 in
theorem c_133 {L : Nat} {xs : Nat → Int32} {ly : List LK} {F : Nat → Nat → Value} {G A : Nat → Nat → Int} {B : Nat → Nat → Int64} {Q : Option Value → AH → Prop}  (hly : LyOk ly) (hF : RfOk F) (hG : GO G) (hA : AQ A) (hm : MI G A) (K : ∀ (r : Int) (F' : Nat → Nat → Value) (G' : Nat → Nat → Int) (A' : Nat → Nat → Int), (RfOk F') → (GO G') → (AQ A') → (∀ a k, ¬ ((a = 90 ∧ k = 10)) → F' a k = F a k) → (∀ a k, ¬ ((a = 90 ∧ k = 4) ∨ (a = 90 ∧ k = 5) ∨ (a = 90 ∧ k = 6) ∨ (a = 90 ∧ k = 7) ∨ (a = 90 ∧ k = 8) ∨ (a = 90 ∧ k = 9) ∨ (a = 90 ∧ k = 2) ∨ (a = 90 ∧ k = 3) ∨ (a = 90 ∧ k = 32) ∨ (a = 90 ∧ k = 33) ∨ (a = 90 ∧ k = 38) ∨ (a = 90 ∧ k = 39) ∨ (a = 90 ∧ k = 41) ∨ (a = 90 ∧ k = 53) ∨ (a = 90 ∧ k = 66)) → G' a k = G a k) → (∀ a, ¬ (a = 93 ∨ a = 97 ∨ a = 98 ∨ a = 99 ∨ a = 100 ∨ a = 101 ∨ a = 107 ∨ a = 94 ∨ a = 95 ∨ a = 102 ∨ a = 103 ∨ a = 104 ∨ a = 108 ∨ a = 96 ∨ a = 105 ∨ a = 109 ∨ a = 106 ∨ a = 110 ∨ a = 111 ∨ a = 112 ∨ a = 113 ∨ a = 92 ∨ a = 127) → A' a = A a) → (MI G' A') → Q (some (V r)) (HP ly F' G' A' B)) : Re L xs 133 0 [(0, .ref 90)] [] (HP ly F G A B) Q := by
  have z32 := g_90_32 hG
  have z2 := g_90_2 hG
  have z41 := g_90_41 hG
  refine r_aload_n i_133_0 rfl ?_
  refine r_iconst i_133_1 ?_
  refine r_putIQ i_133_2 (by decide +kernel) (hly 90 _ rfl) (fun G_1 eG_1 => ?_)
  have hG_1 : GO G_1 := by rw [eG_1]; exact gu_90_4 hG (by omega) (by omega)
  refine r_aload_n i_133_5 rfl ?_
  refine r_iconst i_133_6 ?_
  refine r_putIQ i_133_7 (by decide +kernel) (hly 90 _ rfl) (fun G_2 eG_2 => ?_)
  have hG_2 : GO G_2 := by rw [eG_2]; exact gu_90_5 hG_1 (by omega) (by omega)
  refine r_aload_n i_133_10 rfl ?_
  refine r_cV (as := []) i_133_11 rfl (by decide +kernel) (Nat.le_of_ble_eq_true rfl) (Nat.le_of_ble_eq_true rfl) (hly 90 _ rfl) rfl ?_
  have w_3 : G_2 90 2 = G 90 2 := by rw [eG_2, up2_n (by omega), eG_1, up2_n (by omega)]
  have q_4 := g_90_2 hG
  refine c_134  hly hF hG_2 hA  (fun G_5 A_6 hG_5 hA_6 fg6 fa6 p6_0 => ?_)
  show Re L xs 133 14 [(0, .ref 90)] [] (HP ly F G_5 A_6 B) _
  refine r_aload_n i_133_14 rfl ?_
  refine r_iconst i_133_15 ?_
  refine r_putIQ i_133_16 (by decide +kernel) (hly 90 _ rfl) (fun G_7 eG_7 => ?_)
  have hG_7 : GO G_7 := by rw [eG_7]; exact gu_90_7 hG_5 (by omega) (by omega)
  refine r_aload_n i_133_19 rfl ?_
  refine r_iconst i_133_20 ?_
  refine r_aload_n i_133_21 rfl ?_
  refine r_getI i_133_22 rfl (hly 90 _ rfl) ?_
  rw [show G_7 90 32 = G 90 32 from by rw [eG_7, up2_n (by omega), fg6 90 32 (by omega), eG_2, up2_n (by omega), eG_1, up2_n (by omega)]]
  have q_8 := g_90_32 hG
  refine r_isub i_133_25 ?_
  refine r_putIQ i_133_26 (by decide +kernel) (hly 90 _ rfl) (fun G_9 eG_9 => ?_)
  have hG_9 : GO G_9 := by rw [eG_9]; exact gu_90_33 hG_7 (by omega) (by omega)
  refine r_aload_n i_133_29 rfl ?_
  refine r_getF (v := .ref 107) i_133_30 rfl (hly 90 _ rfl) (hF.1 90 25 107 rfl) ?_
  refine r_aload_n i_133_33 rfl ?_
  refine r_getI i_133_34 rfl (hly 90 _ rfl) ?_
  rw [show G_9 90 33 = 1 - (G 90 32) from by rw [eG_9, up2_s]]
  refine r_iconst i_133_37 ?_
  refine r_iastQ i_133_38 (hly 107 _ rfl) (by omega) (by omega) (by omega) (fun A_10 eA_10 => ?_)
  have hA_10 : AQ A_10 := by rw [eA_10]; exact au_107 hA_6 (by omega) (by omega)
  refine r_aload_n i_133_39 rfl ?_
  refine r_getF (v := .ref 108) i_133_40 rfl (hly 90 _ rfl) (hF.1 90 26 108 rfl) ?_
  refine r_aload_n i_133_43 rfl ?_
  refine r_getI i_133_44 rfl (hly 90 _ rfl) ?_
  rw [show G_9 90 33 = 1 - (G 90 32) from by rw [eG_9, up2_s]]
  refine r_iconst i_133_47 ?_
  refine r_iastQ i_133_48 (hly 108 _ rfl) (by omega) (by omega) (by omega) (fun A_11 eA_11 => ?_)
  have hA_11 : AQ A_11 := by rw [eA_11]; exact au_108 hA_10 (by omega) (by omega)
  refine r_aload_n i_133_49 rfl ?_
  refine r_getF (v := .ref 109) i_133_50 rfl (hly 90 _ rfl) (hF.1 90 27 109 rfl) ?_
  refine r_aload_n i_133_53 rfl ?_
  refine r_getI i_133_54 rfl (hly 90 _ rfl) ?_
  rw [show G_9 90 33 = 1 - (G 90 32) from by rw [eG_9, up2_s]]
  refine r_iconst i_133_57 ?_
  refine r_iastQ i_133_58 (hly 109 _ rfl) (by omega) (by omega) (by omega) (fun A_12 eA_12 => ?_)
  have hA_12 : AQ A_12 := by rw [eA_12]; exact au_109 hA_11 (by omega) (by omega)
  refine r_aload_n i_133_59 rfl ?_
  refine r_getF (v := .ref 110) i_133_60 rfl (hly 90 _ rfl) (hF.1 90 28 110 rfl) ?_
  refine r_aload_n i_133_63 rfl ?_
  refine r_getI i_133_64 rfl (hly 90 _ rfl) ?_
  rw [show G_9 90 33 = 1 - (G 90 32) from by rw [eG_9, up2_s]]
  refine r_iconst i_133_67 ?_
  refine r_iastQ i_133_68 (hly 110 _ rfl) (by omega) (by omega) (by omega) (fun A_13 eA_13 => ?_)
  have hA_13 : AQ A_13 := by rw [eA_13]; exact au_110 hA_12 (by omega) (by omega)
  refine r_aload_n i_133_69 rfl ?_
  refine r_getF (v := .ref 113) i_133_70 rfl (hly 90 _ rfl) (hF.1 90 31 113 rfl) ?_
  refine r_aload_n i_133_73 rfl ?_
  refine r_getI i_133_74 rfl (hly 90 _ rfl) ?_
  rw [show G_9 90 33 = 1 - (G 90 32) from by rw [eG_9, up2_s]]
  refine r_iconst i_133_77 ?_
  refine r_zastQ i_133_78 (hly 113 _ rfl) (by omega) (by omega) (by omega) (by omega) (fun A_14 eA_14 => ?_)
  have hA_14 : AQ A_14 := by rw [eA_14]; exact au_113 hA_13 (by omega) (by omega)
  refine r_aload_n i_133_79 rfl ?_
  refine r_getF (v := .ref 111) i_133_80 rfl (hly 90 _ rfl) (hF.1 90 29 111 rfl) ?_
  refine r_aload_n i_133_83 rfl ?_
  refine r_getI i_133_84 rfl (hly 90 _ rfl) ?_
  rw [show G_9 90 33 = 1 - (G 90 32) from by rw [eG_9, up2_s]]
  refine r_iconst i_133_87 ?_
  refine r_iastQ i_133_88 (hly 111 _ rfl) (by omega) (by omega) (by omega) (fun A_15 eA_15 => ?_)
  have hA_15 : AQ A_15 := by rw [eA_15]; exact au_111 hA_14 (by omega) (by omega)
  refine r_aload_n i_133_89 rfl ?_
  refine r_getF (v := .ref 112) i_133_90 rfl (hly 90 _ rfl) (hF.1 90 30 112 rfl) ?_
  refine r_aload_n i_133_93 rfl ?_
  refine r_getI i_133_94 rfl (hly 90 _ rfl) ?_
  rw [show G_9 90 33 = 1 - (G 90 32) from by rw [eG_9, up2_s]]
  refine r_bipush i_133_97 (by decide) ?_
  refine r_iastQ i_133_99 (hly 112 _ rfl) (by omega) (by omega) (by omega) (fun A_16 eA_16 => ?_)
  have hA_16 : AQ A_16 := by rw [eA_16]; exact au_112 hA_15 (by omega) (by omega)
  have x107_1 : A_10 107 = fun i => if i = (1 - (G 90 32)).toNat then 0 else A 107 i := by rw [eA_10, up2_f, fa6 107 (by omega)]
  have x107 : A_16 107 = fun i => if i = (1 - (G 90 32)).toNat then 0 else A 107 i := by rw [eA_16, up2_a (by omega), eA_15, up2_a (by omega), eA_14, up2_a (by omega), eA_13, up2_a (by omega), eA_12, up2_a (by omega), eA_11, up2_a (by omega), x107_1]
  have x108_1 : A_11 108 = fun i => if i = (1 - (G 90 32)).toNat then 0 else A 108 i := by rw [eA_11, up2_f, eA_10, up2_a (by omega), fa6 108 (by omega)]
  have x108 : A_16 108 = fun i => if i = (1 - (G 90 32)).toNat then 0 else A 108 i := by rw [eA_16, up2_a (by omega), eA_15, up2_a (by omega), eA_14, up2_a (by omega), eA_13, up2_a (by omega), eA_12, up2_a (by omega), x108_1]
  have x111_1 : A_15 111 = fun i => if i = (1 - (G 90 32)).toNat then 0 else A 111 i := by rw [eA_15, up2_f, eA_14, up2_a (by omega), eA_13, up2_a (by omega), eA_12, up2_a (by omega), eA_11, up2_a (by omega), eA_10, up2_a (by omega), fa6 111 (by omega)]
  have x111 : A_16 111 = fun i => if i = (1 - (G 90 32)).toNat then 0 else A 111 i := by rw [eA_16, up2_a (by omega), x111_1]
  have x112_1 : A_16 112 = fun i => if i = (1 - (G 90 32)).toNat then 50 else A 112 i := by rw [eA_16, up2_f, eA_15, up2_a (by omega), eA_14, up2_a (by omega), eA_13, up2_a (by omega), eA_12, up2_a (by omega), eA_11, up2_a (by omega), eA_10, up2_a (by omega), fa6 112 (by omega)]
  have x112 : A_16 112 = fun i => if i = (1 - (G 90 32)).toNat then 50 else A 112 i := by rw [x112_1]
  have x98 : A_16 98 = A 98 := by rw [eA_16, up2_a (by omega), eA_15, up2_a (by omega), eA_14, up2_a (by omega), eA_13, up2_a (by omega), eA_12, up2_a (by omega), eA_11, up2_a (by omega), eA_10, up2_a (by omega), fa6 98 (by omega)]
  have x99 : A_16 99 = A 99 := by rw [eA_16, up2_a (by omega), eA_15, up2_a (by omega), eA_14, up2_a (by omega), eA_13, up2_a (by omega), eA_12, up2_a (by omega), eA_11, up2_a (by omega), eA_10, up2_a (by omega), fa6 99 (by omega)]
  have x103 : A_16 103 = A 103 := by rw [eA_16, up2_a (by omega), eA_15, up2_a (by omega), eA_14, up2_a (by omega), eA_13, up2_a (by omega), eA_12, up2_a (by omega), eA_11, up2_a (by omega), eA_10, up2_a (by omega), fa6 103 (by omega)]
  have x104 : A_16 104 = A 104 := by rw [eA_16, up2_a (by omega), eA_15, up2_a (by omega), eA_14, up2_a (by omega), eA_13, up2_a (by omega), eA_12, up2_a (by omega), eA_11, up2_a (by omega), eA_10, up2_a (by omega), fa6 104 (by omega)]
  have x106 : A_16 106 = A 106 := by rw [eA_16, up2_a (by omega), eA_15, up2_a (by omega), eA_14, up2_a (by omega), eA_13, up2_a (by omega), eA_12, up2_a (by omega), eA_11, up2_a (by omega), eA_10, up2_a (by omega), fa6 106 (by omega)]
  refine r_iconst i_133_100 ?_
  refine r_istore_n (l' := [(0, .ref 90), (1, V 0)]) i_133_101 (by decide +kernel) rfl ?_
  have lp102B : ∀ (nf : Nat) (k : Int) (A102 : Nat → Nat → Int), (AQ A102) → (∀ a, ¬ (a = 106) → A102 a = A_16 a) → (0 ≤ k ∧ k ≤ 64) → (∀ j : Nat, (j : Int) < k → A102 106 (64 * (1 - G 90 32).toNat + j) = -2) → (∀ j : Nat, j < 64 → A102 106 (64 * (G 90 32).toNat + j) = A 106 (64 * (G 90 32).toNat + j)) → (64 - k).toNat < nf → Re L xs 133 102 [(0, .ref 90), (1, V k)] [] (HP ly F G_9 A102 B) Q := by
    intro nf
    induction nf with
    | zero => intros; omega
    | succ nf ih102B =>
      intro k A102 hA102 fa102 hk hc ho hm102
      refine r_iload_n i_133_102 rfl ?_
      refine r_bipush i_133_103 (by decide) ?_
      refine r_cge (t := 130) i_133_105 (by decide) (by omega) (by omega) (fun c_17 => ?_) (fun c_17 => ?_)
      · skip
        have hbk := bk_init (A := A) (A' := A102) (rb := (1 - G 90 32).toNat) (b := (G 90 32).toNat) (by omega) (by omega) (by rw [show A102 107 = A_16 107 from fa102 107 (by omega)]; exact x107) (by rw [show A102 108 = A_16 108 from fa102 108 (by omega)]; exact x108) (by rw [show A102 111 = A_16 111 from fa102 111 (by omega)]; exact x111) (by rw [show A102 112 = A_16 112 from fa102 112 (by omega)]; exact x112) (by rw [show A102 98 = A_16 98 from fa102 98 (by omega)]; exact x98) (by rw [show A102 99 = A_16 99 from fa102 99 (by omega)]; exact x99) (by rw [show A102 103 = A_16 103 from fa102 103 (by omega)]; exact x103) (by rw [show A102 104 = A_16 104 from fa102 104 (by omega)]; exact x104) (fun j hj => hc j (by omega)) ho
        refine r_aload_n i_133_130 rfl ?_
        refine r_cV (as := []) i_133_131 rfl (by decide +kernel) (Nat.le_of_ble_eq_true rfl) (Nat.le_of_ble_eq_true rfl) (hly 90 _ rfl) rfl ?_
        have w_18 : G_9 90 7 = 0 := by rw [eG_9, up2_n (by omega), eG_7, up2_s]
        have w_19 : G_9 90 3 = G_5 90 3 := by rw [eG_9, up2_n (by omega), eG_7, up2_n (by omega)]
        have q_20 := g_90_3 hG_5
        refine c_135  hly hF hG_9 hA102 (by omega) (fun F_21 G_22 hF_21 hG_22 ff22 fg22 p22_0 p22_1 p22_2 => ?_)
        show Re L xs 133 134 [(0, .ref 90), (1, V k)] [] (HP ly F_21 G_22 A102 B) _
        have lp134B : ∀ (nf : Nat) (F134 : Nat → Nat → Value) (G134 : Nat → Nat → Int) (A134 : Nat → Nat → Int), (RfOk F134) → (GO G134) → (AQ A134) → (∀ a k, ¬ ((a = 90 ∧ k = 10)) → F134 a k = F_21 a k) → (∀ a k, ¬ ((a = 90 ∧ k = 4) ∨ (a = 90 ∧ k = 5) ∨ (a = 90 ∧ k = 6) ∨ (a = 90 ∧ k = 7) ∨ (a = 90 ∧ k = 8) ∨ (a = 90 ∧ k = 9)) → G134 a k = G_22 a k) → (∀ a, ¬ (a = 93 ∨ a = 97 ∨ a = 98 ∨ a = 99 ∨ a = 100 ∨ a = 101 ∨ a = 107 ∨ a = 94 ∨ a = 95 ∨ a = 102 ∨ a = 103 ∨ a = 104 ∨ a = 108 ∨ a = 96 ∨ a = 105 ∨ a = 109 ∨ a = 106 ∨ a = 110 ∨ a = 111 ∨ a = 112 ∨ a = 113) → A134 a = A102 a) → (G134 90 6 ≤ G134 90 7 ∧ G134 90 7 ≤ G_5 90 3 ∧ (G134 90 8 = 2 → G134 90 7 - G134 90 6 ≤ 12)) → (G134 90 4 = 0 → bkV A134 (1 - G 90 32).toNat) → (bkE A A134 (G 90 32).toNat) → (G134 90 4 = 0 → G134 90 8 ≠ 0 → G134 90 6 < G134 90 7) → (12 * (G_5 90 3 - G134 90 6) + (5 - G134 90 4)).toNat < nf → Re L xs 133 134 [(0, .ref 90), (1, V k)] [] (HP ly F134 G134 A134 B) Q := by
          intro nf
          induction nf with
          | zero => intros; omega
          | succ nf ih134B =>
            intro F134 G134 A134 hF134 hG134 hA134 ff134 fg134 fa134 ht hv he hta hm134
            have jn155 : ∀ (_ : Unit), Re L xs 133 155 [(0, .ref 90), (1, V k)] [] (HP ly F134 G134 A134 B) Q := by
              intro _  
              refine r_aload_n i_133_155 rfl ?_
              refine r_cV (as := []) i_133_156 rfl (by decide +kernel) (Nat.le_of_ble_eq_true rfl) (Nat.le_of_ble_eq_true rfl) (hly 90 _ rfl) rfl ?_
              have q_23 := g_90_4 hG134
              refine c_140  hly hF134 hG134 hA134  (fun r_24 p24_0 p24_1 => ?_)
              show Re L xs 133 159 [(0, .ref 90), (1, V k)] [V r_24] (HP ly F134 G134 A134 B) _
              refine r_ne0 (t := 164) i_133_159 (by decide) (by omega) (fun c_25 => ?_) (fun c_25 => ?_)
              · skip
                refine r_aload_n i_133_164 rfl ?_
                refine r_aload_n i_133_165 rfl ?_
                refine r_getI i_133_166 rfl (hly 90 _ rfl) ?_
                rw [show G134 90 33 = 1 - (G 90 32) from by rw [fg134 90 33 (by omega), fg22 90 33 (by omega), eG_9, up2_s]]
                refine r_putIQ i_133_169 (by decide +kernel) (hly 90 _ rfl) (fun G_26 eG_26 => ?_)
                have hG_26 : GO G_26 := by rw [eG_26]; exact gu_90_32 hG134 (by omega) (by omega)
                refine r_iconst i_133_172 ?_
                refine r_istore_n (l' := [(0, .ref 90), (1, V 0)]) i_133_173 (by decide +kernel) rfl ?_
                have lp174B : ∀ (nf : Nat) (k : Int) (A174 : Nat → Nat → Int), (AQ A174) → (∀ a, ¬ (a = 127) → A174 a = A134 a) → (0 ≤ k ∧ k ≤ 80) → (∀ j : Nat, (j : Int) < k → A174 127 j = 0) → (80 - k).toNat < nf → Re L xs 133 174 [(0, .ref 90), (1, V k)] [] (HP ly F134 G_26 A174 B) Q := by
                  intro nf
                  induction nf with
                  | zero => intros; omega
                  | succ nf ih174B =>
                    intro k A174 hA174 fa174 hk hl hm174
                    refine r_iload_n i_133_174 rfl ?_
                    refine r_bipush i_133_175 (by decide) ?_
                    refine r_cge (t := 193) i_133_177 (by decide) (by omega) (by omega) (fun c_27 => ?_) (fun c_27 => ?_)
                    · skip
                      refine r_aload_n i_133_193 rfl ?_
                      refine r_iconst i_133_194 ?_
                      refine r_putIQ i_133_195 (by decide +kernel) (hly 90 _ rfl) (fun G_28 eG_28 => ?_)
                      have hG_28 : GO G_28 := by rw [eG_28]; exact gu_90_38 hG_26 (by omega) (by omega)
                      refine r_aload_n i_133_198 rfl ?_
                      refine r_iconst i_133_199 ?_
                      refine r_putIQ i_133_200 (by decide +kernel) (hly 90 _ rfl) (fun G_29 eG_29 => ?_)
                      have hG_29 : GO G_29 := by rw [eG_29]; exact gu_90_39 hG_28 (by omega) (by omega)
                      refine r_aload_n i_133_203 rfl ?_
                      refine re_nx i_133_204 rfl ?_
                      refine r_getI i_133_205 rfl (hly 90 _ rfl) ?_
                      rw [show G_29 90 41 = G 90 41 from by rw [eG_29, up2_n (by omega), eG_28, up2_n (by omega), eG_26, up2_n (by omega), fg134 90 41 (by omega), fg22 90 41 (by omega), eG_9, up2_n (by omega), eG_7, up2_n (by omega), fg6 90 41 (by omega), eG_2, up2_n (by omega), eG_1, up2_n (by omega)]]
                      have q_30 := g_90_41 hG
                      refine r_iconst i_133_208 ?_
                      refine r_iadd i_133_209 ?_
                      rw [V_norm ((G 90 41) + 1)]
                      have q_32 := n_rng ((G 90 41) + 1)
                      refine r_putIQ i_133_210 (by decide +kernel) (hly 90 _ rfl) (fun G_31 eG_31 => ?_)
                      have hG_31 : GO G_31 := by rw [eG_31]; exact gu_90_41 hG_29 (by omega) (by omega)
                      refine r_aload_n i_133_213 rfl ?_
                      refine r_iconst i_133_214 ?_
                      refine r_putIQ i_133_215 (by decide +kernel) (hly 90 _ rfl) (fun G_33 eG_33 => ?_)
                      have hG_33 : GO G_33 := by rw [eG_33]; exact gu_90_66 hG_31 (by omega) (by omega)
                      refine r_aload_n i_133_218 rfl ?_
                      refine r_iconst i_133_219 ?_
                      refine r_putZQ i_133_220 (by decide +kernel) (hly 90 _ rfl) (by omega) (fun G_34 eG_34 => ?_)
                      have hG_34 : GO G_34 := by rw [eG_34]; exact gu_90_53 hG_33 (by omega) (by omega)
                      refine r_aload_n i_133_223 rfl ?_
                      refine r_getF (v := .ref 107) i_133_224 rfl (hly 90 _ rfl) (hF134.1 90 25 107 rfl) ?_
                      refine r_aload_n i_133_227 rfl ?_
                      refine r_getI i_133_228 rfl (hly 90 _ rfl) ?_
                      rw [show G_34 90 32 = 1 - (G 90 32) from by rw [eG_34, up2_n (by omega), eG_33, up2_n (by omega), eG_31, up2_n (by omega), eG_29, up2_n (by omega), eG_28, up2_n (by omega), eG_26, up2_s]]
                      refine r_iald i_133_231 (hly 107 _ rfl) (by omega) (by omega) (by omega) ?_
                      rw [show A174 107 = A134 107 from by rw [fa174 107 (by omega)]]
                      have q_35 := a_107 hA134 ((1 - (G 90 32)).toNat)
                      exact r_iret i_133_232 rfl rfl (K (A134 107 ((1 - (G 90 32)).toNat)) F134 G_34 A174 hF134 hG_34 hA174 (by intro a k hh; rw [ff134 a k (by omega), ff22 a k (by omega)]) (by intro a k hh; rw [eG_34, up2_n (by omega), eG_33, up2_n (by omega), eG_31, up2_n (by omega), eG_29, up2_n (by omega), eG_28, up2_n (by omega), eG_26, up2_n (by omega), fg134 a k (by omega), fg22 a k (by omega), eG_9, up2_n (by omega), eG_7, up2_n (by omega), fg6 a k (by omega), eG_2, up2_n (by omega), eG_1, up2_n (by omega)]) (by intro a hh; rw [fa174 a (by omega), fa134 a (by omega), fa102 a (by omega), eA_16, up2_a (by omega), eA_15, up2_a (by omega), eA_14, up2_a (by omega), eA_13, up2_a (by omega), eA_12, up2_a (by omega), eA_11, up2_a (by omega), eA_10, up2_a (by omega), fa6 a (by omega)]) (by exact MI_bn (by rw [show G_34 90 32 = 1 - G 90 32 from by rw [eG_34, up2_n (by omega), eG_33, up2_n (by omega), eG_31, up2_n (by omega), eG_29, up2_n (by omega), eG_28, up2_n (by omega), eG_26, up2_s]]; exact bkV_E hA134 (bkE_s (by rw [fa174 98 (by omega)]) (by rw [fa174 99 (by omega)]) (by rw [fa174 107 (by omega)]) (by rw [fa174 103 (by omega)]) (by rw [fa174 104 (by omega)]) (by rw [fa174 106 (by omega)]) (by rw [fa174 108 (by omega)]) (by rw [fa174 111 (by omega)]) (by rw [fa174 112 (by omega)])) (hv (by omega))) (by rw [eG_34, up2_n (by omega), eG_33, up2_n (by omega), eG_31, up2_n (by omega), eG_29, up2_n (by omega), eG_28, up2_s]) (by rw [eG_34, up2_n (by omega), eG_33, up2_s]) (by rw [eG_34, up2_s]) (fun j hj => hl j (by omega))))
                    · skip
                      refine r_aload_n i_133_180 rfl ?_
                      refine r_getF (v := .ref 127) i_133_181 rfl (hly 90 _ rfl) (hF134.1 90 52 127 rfl) ?_
                      refine r_iload_n i_133_184 rfl ?_
                      refine r_iconst i_133_185 ?_
                      refine r_iastQ i_133_186 (hly 127 _ rfl) (by omega) (by omega) (by omega) (fun A_36 eA_36 => ?_)
                      have hA_36 : AQ A_36 := by rw [eA_36]; exact au_127 hA174 (by omega) (by omega)
                      have x127_1 : A_36 127 = fun i => if i = k.toNat then 0 else A174 127 i := by rw [eA_36, up2_f]
                      have x127 : A_36 127 = fun i => if i = k.toNat then 0 else A174 127 i := by rw [x127_1]
                      refine r_iinc (l' := [(0, .ref 90), (1, V (k + 1))]) i_133_187 rfl (by decide +kernel) rfl ?_
                      refine r_go (t := 174) i_133_190 (by decide) ?_
                      exact ih174B (k + 1) A_36 hA_36 (by intro a hh; rw [eA_36, up2_a (by omega), fa174 a (by omega)]) (by omega) (by first | (intro j hj; exfalso; omega) | (intro j hj; rw [x127]; dsimp only; exact if e : j = k.toNat then if_pos e else (by rw [if_neg e]; exact hl j (by omega)))) (by omega)
                exact lp174B _ 0 A134 hA134 (by intro a hh; rfl) (by omega) (by first | (intro j hj; exfalso; omega) | (intro j hj; rw [x127]; dsimp only; exact if e : j = k.toNat then if_pos e else (by rw [if_neg e]; exact hl j (by omega)))) (Nat.lt_succ_self _)
              · skip
                refine r_iconst i_133_162 ?_
                exact r_iret i_133_163 rfl rfl (K ((-1)) F134 G134 A134 hF134 hG134 hA134 (by intro a k hh; rw [ff134 a k (by omega), ff22 a k (by omega)]) (by intro a k hh; rw [fg134 a k (by omega), fg22 a k (by omega), eG_9, up2_n (by omega), eG_7, up2_n (by omega), fg6 a k (by omega), eG_2, up2_n (by omega), eG_1, up2_n (by omega)]) (by intro a hh; rw [fa134 a (by omega), fa102 a (by omega), eA_16, up2_a (by omega), eA_15, up2_a (by omega), eA_14, up2_a (by omega), eA_13, up2_a (by omega), eA_12, up2_a (by omega), eA_11, up2_a (by omega), eA_10, up2_a (by omega), fa6 a (by omega)]) (by exact MI_bf hm hA z32 he (by intro a k hh; rw [fg134 a k (by omega), fg22 a k (by omega), eG_9, up2_n (by omega), eG_7, up2_n (by omega), fg6 a k (by omega), eG_2, up2_n (by omega), eG_1, up2_n (by omega)]) (by intro a hh; rw [fa134 a (by omega), fa102 a (by omega), eA_16, up2_a (by omega), eA_15, up2_a (by omega), eA_14, up2_a (by omega), eA_13, up2_a (by omega), eA_12, up2_a (by omega), eA_11, up2_a (by omega), eA_10, up2_a (by omega), fa6 a (by omega)])))
            refine r_aload_n i_133_134 rfl ?_
            refine r_cV (as := []) i_133_135 rfl (by decide +kernel) (Nat.le_of_ble_eq_true rfl) (Nat.le_of_ble_eq_true rfl) (hly 90 _ rfl) rfl ?_
            have q_37 := g_90_4 hG134
            refine c_140  hly hF134 hG134 hA134  (fun r_38 p38_0 p38_1 => ?_)
            show Re L xs 133 138 [(0, .ref 90), (1, V k)] [V r_38] (HP ly F134 G134 A134 B) _
            refine r_eq0 (t := 155) i_133_138 (by decide) (by omega) (fun c_39 => ?_) (fun c_39 => ?_)
            · skip
              exact jn155 ()  
            · skip
              refine r_aload_n i_133_141 rfl ?_
              refine r_getI i_133_142 rfl (hly 90 _ rfl) ?_
              have q_40 := g_90_8 hG134
              refine r_eq0 (t := 155) i_133_145 (by decide) (by omega) (fun c_41 => ?_) (fun c_41 => ?_)
              · skip
                exact jn155 ()  
              · skip
                refine r_aload_n i_133_148 rfl ?_
                refine r_cV (as := []) i_133_149 rfl (by decide +kernel) (Nat.le_of_ble_eq_true rfl) (Nat.le_of_ble_eq_true rfl) (hly 90 _ rfl) rfl ?_
                have q_42 := g_90_6 hG134
                have q_43 := g_90_7 hG134
                have w_44 : G134 90 3 = G_5 90 3 := by rw [fg134 90 3 (by omega), fg22 90 3 (by omega), eG_9, up2_n (by omega), eG_7, up2_n (by omega)]
                have w_45 : G134 90 33 = 1 - (G 90 32) := by rw [fg134 90 33 (by omega), fg22 90 33 (by omega), eG_9, up2_s]
                refine c_141  hly hF134 hG134 hA134 (by omega) (by omega) (by omega) (fun F_46 G_47 A_48 hF_46 hG_47 hA_48 ff48 fg48 fa48 p48_0 p48_1 p48_2 p48_3 p48_4 p48_5 => ?_)
                show Re L xs 133 152 [(0, .ref 90), (1, V k)] [] (HP ly F_46 G_47 A_48 B) _
                have zg4 := g_90_4 hG_47
                refine r_go (t := 134) i_133_152 (by decide) ?_
                exact ih134B F_46 G_47 A_48 hF_46 hG_47 hA_48 (by intro a k hh; rw [ff48 a k (by omega), ff134 a k (by omega)]) (by intro a k hh; rw [fg48 a k (by omega), fg134 a k (by omega)]) (by intro a hh; rw [fa48 a (by omega), fa134 a (by omega)]) (by omega) (by first | (intro _; exact hbk.1) | (intro h0; have hh := p48_3; rw [w_45] at hh; exact hh h0 (hv (by omega)))) (by first | exact hbk.2 | (have hh := p48_4; rw [w_45] at hh; exact he.tr (hh (G 90 32).toNat (by omega) (by omega)))) (by omega) (by omega)
        exact lp134B _ F_21 G_22 A102 hF_21 hG_22 hA102 (by intro a k hh; rfl) (by intro a k hh; rfl) (by intro a hh; rfl) (by omega) (by first | (intro _; exact hbk.1) | (intro h0; have hh := p22_3; exact hh h0 (hv (by omega)))) (by first | exact hbk.2 | (have hh := p22_4; exact he.tr (hh (G 90 32).toNat (by omega) (by omega)))) (by rw [show G_22 90 4 = 0 from by rw [fg22 90 4 (by omega), eG_9, up2_n (by omega), eG_7, up2_n (by omega), fg6 90 4 (by omega), eG_2, up2_n (by omega), eG_1, up2_s]] <;> omega) (Nat.lt_succ_self _)
      · skip
        refine r_aload_n i_133_108 rfl ?_
        refine r_getF (v := .ref 106) i_133_109 rfl (hly 90 _ rfl) (hF.1 90 24 106 rfl) ?_
        refine r_bipush i_133_112 (by decide) ?_
        refine r_aload_n i_133_114 rfl ?_
        refine r_getI i_133_115 rfl (hly 90 _ rfl) ?_
        rw [show G_9 90 33 = 1 - (G 90 32) from by rw [eG_9, up2_s]]
        refine r_imul i_133_118 ?_
        refine r_iload_n i_133_119 rfl ?_
        refine r_iadd i_133_120 ?_
        refine r_bipush i_133_121 (by decide) ?_
        refine r_iastQ i_133_123 (hly 106 _ rfl) (by omega) (by omega) (by omega) (fun A_49 eA_49 => ?_)
        have hA_49 : AQ A_49 := by rw [eA_49]; exact au_106 hA102 (by omega) (by omega)
        have x106_1 : A_49 106 = fun i => if i = ((64 * (1 - (G 90 32))) + k).toNat then (-2) else A102 106 i := by rw [eA_49, up2_f]
        have x106 : A_49 106 = fun i => if i = ((64 * (1 - (G 90 32))) + k).toNat then (-2) else A102 106 i := by rw [x106_1]
        refine r_iinc (l' := [(0, .ref 90), (1, V (k + 1))]) i_133_124 rfl (by decide +kernel) rfl ?_
        refine r_go (t := 102) i_133_127 (by decide) ?_
        exact ih102B (k + 1) A_49 hA_49 (by intro a hh; rw [eA_49, up2_a (by omega), fa102 a (by omega)]) (by omega) (by first | (intro j hj; exfalso; omega) | (intro j hj; rw [x106]; dsimp only; exact if e : j = k.toNat then if_pos (by omega) else (by rw [if_neg (by omega)]; exact hc j (by omega)))) (by first | (intro j hj; rw [x106]; dsimp only; rw [if_neg (by omega)]; exact ho j hj) | (intro j hj; rw [x106])) (by omega)
  exact lp102B _ 0 A_16 hA_16 (by intro a hh; rfl) (by omega) (by first | (intro j hj; exfalso; omega) | (intro j hj; rw [x106]; dsimp only; exact if e : j = k.toNat then if_pos (by omega) else (by rw [if_neg (by omega)]; exact hc j (by omega)))) (by first | (intro j hj; rw [x106]; dsimp only; rw [if_neg (by omega)]; exact ho j hj) | (intro j hj; rw [x106])) (Nat.lt_succ_self _)
