set_option maxHeartbeats 4000000 in
theorem c_79 {L : Nat} {xs : Nat → Int32} {ly : List LK} {F : Nat → Nat → Value} {G A : Nat → Nat → Int} {B : Nat → Nat → Int64} {Q : Option Value → AH → Prop} {q : Nat} (hly : LyOk ly) (hF : RfOk F) (hG : GO G) (hA : AQ A) (hc : ∀ w : Nat, (w : Int) < G 31 8 → 1 ≤ A 32 w) (hrs : RS A) (hpcs : PCs A) (hwq : wqF F) (hsw : SWV G A) (hq : q = 20 ∨ q = 78 ∨ q = 52) (hf8 : F 42 8 = .ref q) (K : ∀ (F' : Nat → Nat → Value) (G' : Nat → Nat → Int) (A' : Nat → Nat → Int), (RfOk F') → (GO G') → (AQ A') → (∀ a k, ¬ ((a = 48 ∧ k = 4)) → F' a k = F a k) → (∀ a k, ¬ ((a = 42 ∧ k = 7) ∨ (a = 42 ∧ k = 10) ∨ (a = 42 ∧ k = 11) ∨ (a = 48 ∧ k = 9) ∨ (a = 48 ∧ k = 10) ∨ (a = 48 ∧ k = 11)) → G' a k = G a k) → (∀ a, ¬ (a = 46 ∨ a = 51 ∨ a = 53 ∨ a = 49 ∨ a = 50 ∨ a = 43 ∨ a = 54 ∨ a = 55 ∨ a = 56 ∨ a = 44) → A' a = A a) → (wqF F') → (RS A') → (SWV G' A') → (G' 42 10 = 1) → Q none (HP ly F' G' A' B)) : Re L xs 79 0 [(0, .ref 42)] [] (HP ly F G A B) Q := by
  have z8 := g_31_8 hG
  have z10 := g_42_10 hG
  refine r_aload_n i_79_0 rfl ?_
  refine r_getI i_79_1 rfl (hly 42 _ rfl) ?_
  have q_1 := g_42_10 hG
  refine r_eq0 (t := 8) i_79_4 (by decide) (by omega) (fun u_2 => ?_) (fun u_2 => ?_)
  · skip
    refine r_aload_n i_79_8 rfl ?_
    refine r_iconst i_79_9 ?_
    refine r_putZQ i_79_10 (by decide +kernel) (hly 42 _ rfl) (by omega) (fun G_3 eG_3 => ?_)
    have hG_3 : GO G_3 := by rw [eG_3]; exact gu_42_10 hG (by omega) (by omega)
    refine r_aload_n i_79_13 rfl ?_
    refine r_iconst i_79_14 ?_
    refine r_putZQ i_79_15 (by decide +kernel) (hly 42 _ rfl) (by omega) (fun G_4 eG_4 => ?_)
    have hG_4 : GO G_4 := by rw [eG_4]; exact gu_42_11 hG_3 (by omega) (by omega)
    refine r_iconst i_79_18 ?_
    refine r_istore_n (l' := [(0, .ref 42), (1, V 0)]) i_79_19 (by decide +kernel) rfl ?_
    have lp20B : ∀ (nf : Nat) (k : Int) (A20 : Nat → Nat → Int), (AQ A20) → (∀ a, ¬ (a = 46) → A20 a = A a) → (0 ≤ k ∧ k ≤ 14) → (14 - k).toNat < nf → Re L xs 79 20 [(0, .ref 42), (1, V k)] [] (HP ly F G_4 A20 B) Q := by
      intro nf
      induction nf with
      | zero => intros; omega
      | succ nf ih20B =>
        intro k A20 hA20 fa20 hk hm20
        refine r_iload_n i_79_20 rfl ?_
        refine r_bipush i_79_21 (by decide) ?_
        refine r_cge (t := 39) i_79_23 (by decide) (by omega) (by omega) (fun u_5 => ?_) (fun u_5 => ?_)
        · skip
          refine r_aload_n i_79_39 rfl ?_
          refine r_getF (v := .ref 31) i_79_40 rfl (hly 42 _ rfl) (hF.1 42 0 31 rfl) ?_
          refine r_getI i_79_43 rfl (hly 31 _ rfl) ?_
          rw [show G_4 31 8 = G 31 8 from by rw [eG_4, up2_n (by omega), eG_3, up2_n (by omega)]]
          have q_6 := g_31_8 hG
          refine r_ne0 (t := 55) i_79_46 (by decide) (by omega) (fun u_7 => ?_) (fun u_7 => ?_)
          · skip
            refine r_aload_n i_79_55 rfl ?_
            refine r_getF (v := .ref 48) i_79_56 rfl (hly 42 _ rfl) (hF.1 42 1 48 rfl) ?_
            refine r_aload_n i_79_59 rfl ?_
            refine r_getF (v := .ref q) i_79_60 rfl (hly 42 _ rfl) hf8 ?_
            refine r_aload_n i_79_63 rfl ?_
            refine r_getI i_79_64 rfl (hly 42 _ rfl) ?_
            rw [show G_4 42 9 = G 42 9 from by rw [eG_4, up2_n (by omega), eG_3, up2_n (by omega)]]
            have q_8 := g_42_9 hG
            refine r_cV (as := [V (G 42 9), .ref q]) i_79_67 rfl (by decide +kernel) (Nat.le_of_ble_eq_true rfl) (Nat.le_of_ble_eq_true rfl) (hly 48 _ rfl) rfl ?_
            have w_9 : G_4 31 8 = G 31 8 := by rw [eG_4, up2_n (by omega), eG_3, up2_n (by omega)]
            refine c_80 (q := q) (metre := G 42 9) hly hF hG_4 hA20 (by omega) (by intro j hj; rw [show G_4 31 8 = G 31 8 from by rw [eG_4, up2_n (by omega), eG_3, up2_n (by omega)]] at hj; rw [show A20 32 = A 32 from by rw [fa20 32 (by omega)]]; exact hc j hj) (by omega) (fun F_10 G_11 A_12 hF_10 hG_11 hA_12 ff_12 fg_12 fa_12 p12_0 p12_1 p12_2 => ?_)
            show Re L xs 79 70 [(0, .ref 42), (1, V k)] [] (HP ly F_10 G_11 A_12 B) _
            have hsp1 : G_11 48 9 = 1 → spV G A_12 := fun h => spV_c (by rw [eG_4, up2_n (by omega), eG_3, up2_n (by omega)]) rfl rfl (p12_1 h)
            have hks1 : 0 < G 31 8 → ksV A_12 := fun h => p12_2 (by rw [eG_4, up2_n (by omega), eG_3, up2_n (by omega)]; exact h)
            refine r_aload_n i_79_70 rfl ?_
            refine r_aload_n i_79_71 rfl ?_
            refine r_getF (v := .ref 48) i_79_72 rfl (hly 42 _ rfl) (hF_10.1 42 1 48 rfl) ?_
            refine r_iconst i_79_75 ?_
            refine r_iconst i_79_76 ?_
            refine r_aload_n i_79_77 rfl ?_
            refine r_getF (v := .ref 43) i_79_78 rfl (hly 42 _ rfl) (hF_10.1 42 3 43 rfl) ?_
            refine r_iconst i_79_81 ?_
            refine r_cV (as := [V 0, .ref 43, V ((-1)), V ((-1))]) i_79_82 rfl (by decide +kernel) (Nat.le_of_ble_eq_true rfl) (Nat.le_of_ble_eq_true rfl) (hly 48 _ rfl) rfl ?_
            have q_13 := g_48_9 hG_11
            have w_14 : G_11 31 8 = G 31 8 := by rw [fg_12 31 8 (by omega), eG_4, up2_n (by omega), eG_3, up2_n (by omega)]
            refine c_84 (word := (-1)) (reading := (-1)) (th := 43) (off := 0) (q := q) (tl := 168) hly hF_10 hG_11 hA_12 (by omega) (by omega) (by omega) (by omega) (by omega) (by omega) (by omega) (by omega) (by intro h; exact ⟨spV_c (by rw [fg_12 31 8 (by omega), eG_4, up2_n (by omega), eG_3, up2_n (by omega)]) rfl rfl (hsp1 h), fun h2 => hks1 (by rw [show G_11 31 8 = G 31 8 from by rw [fg_12 31 8 (by omega), eG_4, up2_n (by omega), eG_3, up2_n (by omega)]] at h2; exact h2)⟩) (by exact RS_c (by rw [fa_12 54 (by omega), fa20 54 (by omega)]) hrs) (by exact hq) (by exact p12_0) (by exact PC_c (by rw [fa_12 q (by omega), fa20 q (by omega)]) (PCs_q hpcs hq)) (fun r_15 G_16 A_17 hG_16 hA_17 fg_17 fa_17 p17_0 p17_1 p17_2 p17_3 => ?_)
            show Re L xs 79 85 [(0, .ref 42), (1, V k)] [V r_15, .ref 42] (HP ly F_10 G_16 A_17 B) _
            refine r_putIQ i_79_85 (by decide +kernel) (hly 42 _ rfl) (fun G_18 eG_18 => ?_)
            have hG_18 : GO G_18 := by rw [eG_18]; exact gu_42_7 hG_16 (by omega) (by omega)
            refine r_aload_n i_79_88 rfl ?_
            refine r_getI i_79_89 rfl (hly 42 _ rfl) ?_
            rw [show G_18 42 7 = r_15 from by rw [eG_18, up2_s]]
            refine r_ldc (v := 1000000) i_79_92 (by decide) ?_
            refine r_cge (t := 112) i_79_94 (by decide) (by omega) (by omega) (fun u_19 => ?_) (fun u_19 => ?_)
            · skip
              exact r_vret i_79_112 rfl (K F_10 G_18 A_17 hF_10 hG_18 hA_17 (by intro a k hh; rw [ff_12 a k (fun h => hh h)]) (by intro a k hh; rw [eG_18, up2_n (fun h => hh (Or.inl h)), fg_17 a k (fun h => h.elim (fun h => hh (Or.inr (Or.inr (Or.inr (Or.inr (Or.inl h)))))) (fun h => hh (Or.inr (Or.inr (Or.inr (Or.inr (Or.inr h))))))), fg_12 a k (fun h => hh (Or.inr (Or.inr (Or.inr (Or.inl h))))), eG_4, up2_n (fun h => hh (Or.inr (Or.inr (Or.inl h)))), eG_3, up2_n (fun h => hh (Or.inr (Or.inl h)))]) (by intro a hh; rw [fa_17 a (fun h => h.elim (fun h => hh (Or.inr (Or.inr (Or.inr (Or.inr (Or.inr (Or.inr (Or.inl h)))))))) (fun h => h.elim (fun h => hh (Or.inr (Or.inr (Or.inr (Or.inr (Or.inr (Or.inr (Or.inr (Or.inl h))))))))) (fun h => h.elim (fun h => hh (Or.inr (Or.inr (Or.inr (Or.inr (Or.inr (Or.inr (Or.inr (Or.inr (Or.inl h)))))))))) (fun h => hh (Or.inr (Or.inr (Or.inr (Or.inr (Or.inr (Or.inl h)))))))))), fa_12 a (fun h => h.elim (fun h => hh (Or.inr (Or.inl h))) (fun h => h.elim (fun h => hh (Or.inr (Or.inr (Or.inl h)))) (fun h => h.elim (fun h => hh (Or.inr (Or.inr (Or.inr (Or.inl h))))) (fun h => hh (Or.inr (Or.inr (Or.inr (Or.inr (Or.inl h))))))))), fa20 a (fun h => hh (Or.inl h))]) (by exact ⟨q, p12_0, hq⟩) (by exact RS_c (by rfl) p17_0) (by intro _ hn; exact ⟨fun ho => ⟨spV_c (by rw [eG_18, up2_n (by omega), fg_17 31 8 (by omega), fg_12 31 8 (by omega), eG_4, up2_n (by omega), eG_3, up2_n (by omega)]) (by rw [fa_17 49 (by omega)]) (by rw [fa_17 50 (by omega)]) (hsp1 (by rw [show G_18 48 9 = G_11 48 9 from by rw [eG_18, up2_n (by omega), fg_17 48 9 (by omega)]] at ho; exact ho)), ksV_c (by rw [fa_17 32 (by omega)]) (by rw [fa_17 53 (by omega)]) (by rw [fa_17 37 (by omega)]) (hks1 (by rw [show G_18 31 8 = G 31 8 from by rw [eG_18, up2_n (by omega), fg_17 31 8 (by omega), fg_12 31 8 (by omega), eG_4, up2_n (by omega), eG_3, up2_n (by omega)]] at hn; exact hn))⟩, fun hl => by rw [show G_18 42 7 = r_15 from by rw [eG_18, up2_s]] at hl ⊢; rw [show G_18 48 9 = G_11 48 9 from by rw [eG_18, up2_n (by omega), fg_17 48 9 (by omega)]]; exact ⟨p17_3 hl, p17_2 rfl hl⟩⟩) (by rw [show G_18 42 10 = 1 from by rw [eG_18, up2_n (by omega), fg_17 42 10 (by omega), fg_12 42 10 (by omega), eG_4, up2_n (by omega), eG_3, up2_s]] <;> omega))
            · skip
              refine r_aload_n i_79_97 rfl ?_
              refine r_getF (v := .ref 48) i_79_98 rfl (hly 42 _ rfl) (hF_10.1 42 1 48 rfl) ?_
              refine r_aload_n i_79_101 rfl ?_
              refine r_getI i_79_102 rfl (hly 42 _ rfl) ?_
              rw [show G_18 42 7 = r_15 from by rw [eG_18, up2_s]]
              refine r_aload_n i_79_105 rfl ?_
              refine r_getF (v := .ref 44) i_79_106 rfl (hly 42 _ rfl) (hF_10.1 42 4 44 rfl) ?_
              refine r_cV (as := [.ref 44, V r_15]) i_79_109 rfl (by decide +kernel) (Nat.le_of_ble_eq_true rfl) (Nat.le_of_ble_eq_true rfl) (hly 48 _ rfl) rfl ?_
              refine c_97 (best := r_15) (q := q) hly hF_10 hG_18 hA_17 (by omega) (by omega) (by exact spV_c (by rw [eG_18, up2_n (by omega), fg_17 31 8 (by omega), fg_12 31 8 (by omega), eG_4, up2_n (by omega), eG_3, up2_n (by omega)]) (by rw [fa_17 49 (by omega)]) (by rw [fa_17 50 (by omega)]) (hsp1 (p17_3 (by omega)))) (by exact hq) (by exact p12_0) (by exact PC_c (by rw [fa_17 q (by omega), fa_12 q (by omega), fa20 q (by omega)]) (PCs_q hpcs hq)) (fun A_20 hA_20 fa_20 => ?_)
              show Re L xs 79 112 [(0, .ref 42), (1, V k)] [] (HP ly F_10 G_18 A_20 B) _
              exact r_vret i_79_112 rfl (K F_10 G_18 A_20 hF_10 hG_18 hA_20 (by intro a k hh; rw [ff_12 a k (fun h => hh h)]) (by intro a k hh; rw [eG_18, up2_n (fun h => hh (Or.inl h)), fg_17 a k (fun h => h.elim (fun h => hh (Or.inr (Or.inr (Or.inr (Or.inr (Or.inl h)))))) (fun h => hh (Or.inr (Or.inr (Or.inr (Or.inr (Or.inr h))))))), fg_12 a k (fun h => hh (Or.inr (Or.inr (Or.inr (Or.inl h))))), eG_4, up2_n (fun h => hh (Or.inr (Or.inr (Or.inl h)))), eG_3, up2_n (fun h => hh (Or.inr (Or.inl h)))]) (by intro a hh; rw [fa_20 a (fun h => hh (Or.inr (Or.inr (Or.inr (Or.inr (Or.inr (Or.inr (Or.inr (Or.inr (Or.inr h)))))))))), fa_17 a (fun h => h.elim (fun h => hh (Or.inr (Or.inr (Or.inr (Or.inr (Or.inr (Or.inr (Or.inl h)))))))) (fun h => h.elim (fun h => hh (Or.inr (Or.inr (Or.inr (Or.inr (Or.inr (Or.inr (Or.inr (Or.inl h))))))))) (fun h => h.elim (fun h => hh (Or.inr (Or.inr (Or.inr (Or.inr (Or.inr (Or.inr (Or.inr (Or.inr (Or.inl h)))))))))) (fun h => hh (Or.inr (Or.inr (Or.inr (Or.inr (Or.inr (Or.inl h)))))))))), fa_12 a (fun h => h.elim (fun h => hh (Or.inr (Or.inl h))) (fun h => h.elim (fun h => hh (Or.inr (Or.inr (Or.inl h)))) (fun h => h.elim (fun h => hh (Or.inr (Or.inr (Or.inr (Or.inl h))))) (fun h => hh (Or.inr (Or.inr (Or.inr (Or.inr (Or.inl h))))))))), fa20 a (fun h => hh (Or.inl h))]) (by exact ⟨q, p12_0, hq⟩) (by exact RS_c (by rw [fa_20 54 (by omega)]) p17_0) (by intro _ hn; exact ⟨fun ho => ⟨spV_c (by rw [eG_18, up2_n (by omega), fg_17 31 8 (by omega), fg_12 31 8 (by omega), eG_4, up2_n (by omega), eG_3, up2_n (by omega)]) (by rw [fa_20 49 (by omega), fa_17 49 (by omega)]) (by rw [fa_20 50 (by omega), fa_17 50 (by omega)]) (hsp1 (by rw [show G_18 48 9 = G_11 48 9 from by rw [eG_18, up2_n (by omega), fg_17 48 9 (by omega)]] at ho; exact ho)), ksV_c (by rw [fa_20 32 (by omega), fa_17 32 (by omega)]) (by rw [fa_20 53 (by omega), fa_17 53 (by omega)]) (by rw [fa_20 37 (by omega), fa_17 37 (by omega)]) (hks1 (by rw [show G_18 31 8 = G 31 8 from by rw [eG_18, up2_n (by omega), fg_17 31 8 (by omega), fg_12 31 8 (by omega), eG_4, up2_n (by omega), eG_3, up2_n (by omega)]] at hn; exact hn))⟩, fun hl => by rw [show G_18 42 7 = r_15 from by rw [eG_18, up2_s]] at hl ⊢; rw [show G_18 48 9 = G_11 48 9 from by rw [eG_18, up2_n (by omega), fg_17 48 9 (by omega)]]; exact ⟨p17_3 hl, p17_2 rfl hl⟩⟩) (by rw [show G_18 42 10 = 1 from by rw [eG_18, up2_n (by omega), fg_17 42 10 (by omega), fg_12 42 10 (by omega), eG_4, up2_n (by omega), eG_3, up2_s]] <;> omega))
          · skip
            refine r_aload_n i_79_49 rfl ?_
            refine r_iconst i_79_50 ?_
            refine r_putIQ i_79_51 (by decide +kernel) (hly 42 _ rfl) (fun G_21 eG_21 => ?_)
            have hG_21 : GO G_21 := by rw [eG_21]; exact gu_42_7 hG_4 (by omega) (by omega)
            exact r_vret i_79_54 rfl (K F G_21 A20 hF hG_21 hA20 (by intro a k hh; rfl) (by intro a k hh; rw [eG_21, up2_n (fun h => hh (Or.inl h)), eG_4, up2_n (fun h => hh (Or.inr (Or.inr (Or.inl h)))), eG_3, up2_n (fun h => hh (Or.inr (Or.inl h)))]) (by intro a hh; rw [fa20 a (fun h => hh (Or.inl h))]) (by exact hwq) (by exact RS_c (by rw [fa20 54 (by omega)]) hrs) (by intro _ h; exfalso; rw [show G_21 31 8 = G 31 8 from by rw [eG_21, up2_n (by omega), eG_4, up2_n (by omega), eG_3, up2_n (by omega)]] at h; omega) (by rw [show G_21 42 10 = 1 from by rw [eG_21, up2_n (by omega), eG_4, up2_n (by omega), eG_3, up2_s]] <;> omega))
        · skip
          refine r_aload_n i_79_26 rfl ?_
          refine r_getF (v := .ref 46) i_79_27 rfl (hly 42 _ rfl) (hF.1 42 6 46 rfl) ?_
          refine r_iload_n i_79_30 rfl ?_
          refine r_iconst i_79_31 ?_
          refine r_zastQ i_79_32 (hly 46 _ rfl) (by omega) (by omega) (by omega) (by omega) (fun A_22 eA_22 => ?_)
          have hA_22 : AQ A_22 := by rw [eA_22]; exact au_46 hA20 (by omega) (by omega)
          refine r_iinc (l' := [(0, .ref 42), (1, V (k + 1))]) i_79_33 rfl (by decide +kernel) rfl ?_
          refine r_go (t := 20) i_79_36 (by decide) ?_
          exact ih20B (k + 1) A_22 hA_22 (by intro a hh; rw [eA_22, up2_a (fun h => hh h), fa20 a (fun h => hh h)]) (by omega) (by omega)
    exact lp20B _ 0 A hA (by intro a hh; rfl) (by omega) (Nat.lt_succ_self _)
  · skip
    exact r_vret i_79_7 rfl (K F G A hF hG hA (by intro a k hh; rfl) (by intro a k hh; rfl) (by intro a hh; rfl) (by exact hwq) (by exact hrs) (by exact hsw) (by omega))
set_option maxHeartbeats 4000000 in
theorem c_101 {L : Nat} {xs : Nat → Int32} {ly : List LK} {F : Nat → Nat → Value} {G A : Nat → Nat → Int} {B : Nat → Nat → Int64} {Q : Option Value → AH → Prop} {q : Nat} (hly : LyOk ly) (hF : RfOk F) (hG : GO G) (hA : AQ A) (hc : ∀ w : Nat, (w : Int) < G 31 8 → 1 ≤ A 32 w) (hrs : RS A) (hpcs : PCs A) (hwq : wqF F) (hsw : SWV G A) (hq : q = 20 ∨ q = 78 ∨ q = 52) (hf8 : F 42 8 = .ref q) (K : ∀ (r : Int) (F' : Nat → Nat → Value) (G' : Nat → Nat → Int) (A' : Nat → Nat → Int), (RfOk F') → (GO G') → (AQ A') → (∀ a k, ¬ ((a = 48 ∧ k = 4)) → F' a k = F a k) → (∀ a k, ¬ ((a = 42 ∧ k = 7) ∨ (a = 42 ∧ k = 10) ∨ (a = 42 ∧ k = 11) ∨ (a = 48 ∧ k = 9) ∨ (a = 48 ∧ k = 10) ∨ (a = 48 ∧ k = 11)) → G' a k = G a k) → (∀ a, ¬ (a = 46 ∨ a = 51 ∨ a = 53 ∨ a = 49 ∨ a = 50 ∨ a = 43 ∨ a = 54 ∨ a = 55 ∨ a = 56 ∨ a = 44) → A' a = A a) → (wqF F') → (RS A') → (SWV G' A') → (G' 42 10 = 1) → (0 ≤ r ∧ r ≤ 1) → (r = 1 ↔ G' 42 7 < 1000000) → Q (some (V r)) (HP ly F' G' A' B)) : Re L xs 101 0 [(0, .ref 42)] [] (HP ly F G A B) Q := by
  refine r_aload_n i_101_0 rfl ?_
  refine r_cV (as := []) i_101_1 rfl (by decide +kernel) (Nat.le_of_ble_eq_true rfl) (Nat.le_of_ble_eq_true rfl) (hly 42 _ rfl) rfl ?_
  have q_1 := g_31_8 hG
  refine c_79 (q := q) hly hF hG hA (by exact hc) (by exact hrs) (by exact hpcs) (by exact hwq) (by exact hsw) (by exact hq) (by exact hf8) (fun F_2 G_3 A_4 hF_2 hG_3 hA_4 ff_4 fg_4 fa_4 p4_0 p4_1 p4_2 p4_3 => ?_)
  show Re L xs 101 4 [(0, .ref 42)] [] (HP ly F_2 G_3 A_4 B) _
  refine r_aload_n i_101_4 rfl ?_
  refine r_getI i_101_5 rfl (hly 42 _ rfl) ?_
  have q_5 := g_42_7 hG_3
  refine r_ldc (v := 1000000) i_101_8 (by decide) ?_
  refine r_cge (t := 17) i_101_10 (by decide) (by omega) (by omega) (fun u_6 => ?_) (fun u_6 => ?_)
  · skip
    refine r_iconst i_101_17 ?_
    exact r_iret i_101_18 rfl (nar_Z (by omega)) (K 0 F_2 G_3 A_4 hF_2 hG_3 hA_4 (by intro a k hh; rw [ff_4 a k (fun h => hh h)]) (by intro a k hh; rw [fg_4 a k (fun h => h.elim (fun h => hh (Or.inl h)) (fun h => h.elim (fun h => hh (Or.inr (Or.inl h))) (fun h => h.elim (fun h => hh (Or.inr (Or.inr (Or.inl h)))) (fun h => h.elim (fun h => hh (Or.inr (Or.inr (Or.inr (Or.inl h))))) (fun h => h.elim (fun h => hh (Or.inr (Or.inr (Or.inr (Or.inr (Or.inl h)))))) (fun h => hh (Or.inr (Or.inr (Or.inr (Or.inr (Or.inr h)))))))))))]) (by intro a hh; rw [fa_4 a (fun h => h.elim (fun h => hh (Or.inl h)) (fun h => h.elim (fun h => hh (Or.inr (Or.inl h))) (fun h => h.elim (fun h => hh (Or.inr (Or.inr (Or.inl h)))) (fun h => h.elim (fun h => hh (Or.inr (Or.inr (Or.inr (Or.inl h))))) (fun h => h.elim (fun h => hh (Or.inr (Or.inr (Or.inr (Or.inr (Or.inl h)))))) (fun h => h.elim (fun h => hh (Or.inr (Or.inr (Or.inr (Or.inr (Or.inr (Or.inl h))))))) (fun h => h.elim (fun h => hh (Or.inr (Or.inr (Or.inr (Or.inr (Or.inr (Or.inr (Or.inl h)))))))) (fun h => h.elim (fun h => hh (Or.inr (Or.inr (Or.inr (Or.inr (Or.inr (Or.inr (Or.inr (Or.inl h))))))))) (fun h => h.elim (fun h => hh (Or.inr (Or.inr (Or.inr (Or.inr (Or.inr (Or.inr (Or.inr (Or.inr (Or.inl h)))))))))) (fun h => hh (Or.inr (Or.inr (Or.inr (Or.inr (Or.inr (Or.inr (Or.inr (Or.inr (Or.inr h)))))))))))))))))))]) (by exact p4_0) (by exact p4_1) (by exact p4_2) (by exact p4_3) (by omega) (by omega))
  · skip
    refine r_iconst i_101_13 ?_
    refine r_go (t := 18) i_101_14 (by decide) ?_
    exact r_iret i_101_18 rfl (nar_Z (by omega)) (K 1 F_2 G_3 A_4 hF_2 hG_3 hA_4 (by intro a k hh; rw [ff_4 a k (fun h => hh h)]) (by intro a k hh; rw [fg_4 a k (fun h => h.elim (fun h => hh (Or.inl h)) (fun h => h.elim (fun h => hh (Or.inr (Or.inl h))) (fun h => h.elim (fun h => hh (Or.inr (Or.inr (Or.inl h)))) (fun h => h.elim (fun h => hh (Or.inr (Or.inr (Or.inr (Or.inl h))))) (fun h => h.elim (fun h => hh (Or.inr (Or.inr (Or.inr (Or.inr (Or.inl h)))))) (fun h => hh (Or.inr (Or.inr (Or.inr (Or.inr (Or.inr h)))))))))))]) (by intro a hh; rw [fa_4 a (fun h => h.elim (fun h => hh (Or.inl h)) (fun h => h.elim (fun h => hh (Or.inr (Or.inl h))) (fun h => h.elim (fun h => hh (Or.inr (Or.inr (Or.inl h)))) (fun h => h.elim (fun h => hh (Or.inr (Or.inr (Or.inr (Or.inl h))))) (fun h => h.elim (fun h => hh (Or.inr (Or.inr (Or.inr (Or.inr (Or.inl h)))))) (fun h => h.elim (fun h => hh (Or.inr (Or.inr (Or.inr (Or.inr (Or.inr (Or.inl h))))))) (fun h => h.elim (fun h => hh (Or.inr (Or.inr (Or.inr (Or.inr (Or.inr (Or.inr (Or.inl h)))))))) (fun h => h.elim (fun h => hh (Or.inr (Or.inr (Or.inr (Or.inr (Or.inr (Or.inr (Or.inr (Or.inl h))))))))) (fun h => h.elim (fun h => hh (Or.inr (Or.inr (Or.inr (Or.inr (Or.inr (Or.inr (Or.inr (Or.inr (Or.inl h)))))))))) (fun h => hh (Or.inr (Or.inr (Or.inr (Or.inr (Or.inr (Or.inr (Or.inr (Or.inr (Or.inr h)))))))))))))))))))]) (by exact p4_0) (by exact p4_1) (by exact p4_2) (by exact p4_3) (by omega) (by omega))
set_option maxHeartbeats 4000000 in
theorem c_78 {L : Nat} {xs : Nat → Int32} {ly : List LK} {F : Nat → Nat → Value} {G A : Nat → Nat → Int} {B : Nat → Nat → Int64} {Q : Option Value → AH → Prop} {slot : Int} {q : Nat} (hly : LyOk ly) (hF : RfOk F) (hG : GO G) (hA : AQ A) (in_slot : inR slot) (hc : ∀ w : Nat, (w : Int) < G 31 8 → 1 ≤ A 32 w) (hrs : RS A) (hpcs : PCs A) (hwq : wqF F) (hsw : SWV G A) (hq : q = 20 ∨ q = 78 ∨ q = 52) (hf8 : F 42 8 = .ref q) (hsl : 0 ≤ slot ∧ slot < 168) (K : ∀ (r : Int) (F' : Nat → Nat → Value) (G' : Nat → Nat → Int) (A' : Nat → Nat → Int), (RfOk F') → (GO G') → (AQ A') → (∀ a k, ¬ ((a = 48 ∧ k = 4)) → F' a k = F a k) → (∀ a k, ¬ ((a = 42 ∧ k = 7) ∨ (a = 42 ∧ k = 10) ∨ (a = 42 ∧ k = 11) ∨ (a = 48 ∧ k = 9) ∨ (a = 48 ∧ k = 10) ∨ (a = 48 ∧ k = 11)) → G' a k = G a k) → (∀ a, ¬ (a = 46 ∨ a = 51 ∨ a = 53 ∨ a = 49 ∨ a = 50 ∨ a = 43 ∨ a = 54 ∨ a = 55 ∨ a = 56 ∨ a = 44) → A' a = A a) → (wqF F') → (RS A') → (SWV G' A') → (G' 42 10 = 1) → Q (some (V r)) (HP ly F' G' A' B)) : Re L xs 78 0 [(0, .ref 42), (1, V slot)] [] (HP ly F G A B) Q := by
  refine r_aload_n i_78_0 rfl ?_
  refine r_cV (as := []) i_78_1 rfl (by decide +kernel) (Nat.le_of_ble_eq_true rfl) (Nat.le_of_ble_eq_true rfl) (hly 42 _ rfl) rfl ?_
  have q_1 := g_31_8 hG
  refine c_79 (q := q) hly hF hG hA (by exact hc) (by exact hrs) (by exact hpcs) (by exact hwq) (by exact hsw) (by exact hq) (by exact hf8) (fun F_2 G_3 A_4 hF_2 hG_3 hA_4 ff_4 fg_4 fa_4 p4_0 p4_1 p4_2 p4_3 => ?_)
  show Re L xs 78 4 [(0, .ref 42), (1, V slot)] [] (HP ly F_2 G_3 A_4 B) _
  refine r_aload_n i_78_4 rfl ?_
  refine r_getF (v := .ref 43) i_78_5 rfl (hly 42 _ rfl) (hF_2.1 42 3 43 rfl) ?_
  refine r_iload_n i_78_8 rfl ?_
  refine r_iald i_78_9 (hly 43 _ rfl) (by omega) (by omega) (by omega) ?_
  have q_5 := a_43 hA_4 (slot.toNat)
  refine r_ldc (v := 1000000) i_78_10 (by decide) ?_
  refine r_cge (t := 24) i_78_12 (by decide) (by omega) (by omega) (fun u_6 => ?_) (fun u_6 => ?_)
  · skip
    refine r_iconst i_78_24 ?_
    exact r_iret i_78_25 rfl rfl (K ((-1)) F_2 G_3 A_4 hF_2 hG_3 hA_4 (by intro a k hh; rw [ff_4 a k (fun h => hh h)]) (by intro a k hh; rw [fg_4 a k (fun h => h.elim (fun h => hh (Or.inl h)) (fun h => h.elim (fun h => hh (Or.inr (Or.inl h))) (fun h => h.elim (fun h => hh (Or.inr (Or.inr (Or.inl h)))) (fun h => h.elim (fun h => hh (Or.inr (Or.inr (Or.inr (Or.inl h))))) (fun h => h.elim (fun h => hh (Or.inr (Or.inr (Or.inr (Or.inr (Or.inl h)))))) (fun h => hh (Or.inr (Or.inr (Or.inr (Or.inr (Or.inr h)))))))))))]) (by intro a hh; rw [fa_4 a (fun h => h.elim (fun h => hh (Or.inl h)) (fun h => h.elim (fun h => hh (Or.inr (Or.inl h))) (fun h => h.elim (fun h => hh (Or.inr (Or.inr (Or.inl h)))) (fun h => h.elim (fun h => hh (Or.inr (Or.inr (Or.inr (Or.inl h))))) (fun h => h.elim (fun h => hh (Or.inr (Or.inr (Or.inr (Or.inr (Or.inl h)))))) (fun h => h.elim (fun h => hh (Or.inr (Or.inr (Or.inr (Or.inr (Or.inr (Or.inl h))))))) (fun h => h.elim (fun h => hh (Or.inr (Or.inr (Or.inr (Or.inr (Or.inr (Or.inr (Or.inl h)))))))) (fun h => h.elim (fun h => hh (Or.inr (Or.inr (Or.inr (Or.inr (Or.inr (Or.inr (Or.inr (Or.inl h))))))))) (fun h => h.elim (fun h => hh (Or.inr (Or.inr (Or.inr (Or.inr (Or.inr (Or.inr (Or.inr (Or.inr (Or.inl h)))))))))) (fun h => hh (Or.inr (Or.inr (Or.inr (Or.inr (Or.inr (Or.inr (Or.inr (Or.inr (Or.inr h)))))))))))))))))))]) (by exact p4_0) (by exact p4_1) (by exact p4_2) (by exact p4_3))
  · skip
    refine r_aload_n i_78_15 rfl ?_
    refine r_getF (v := .ref 43) i_78_16 rfl (hly 42 _ rfl) (hF_2.1 42 3 43 rfl) ?_
    refine r_iload_n i_78_19 rfl ?_
    refine r_iald i_78_20 (hly 43 _ rfl) (by omega) (by omega) (by omega) ?_
    refine r_go (t := 25) i_78_21 (by decide) ?_
    exact r_iret i_78_25 rfl rfl (K (A_4 43 (slot.toNat)) F_2 G_3 A_4 hF_2 hG_3 hA_4 (by intro a k hh; rw [ff_4 a k (fun h => hh h)]) (by intro a k hh; rw [fg_4 a k (fun h => h.elim (fun h => hh (Or.inl h)) (fun h => h.elim (fun h => hh (Or.inr (Or.inl h))) (fun h => h.elim (fun h => hh (Or.inr (Or.inr (Or.inl h)))) (fun h => h.elim (fun h => hh (Or.inr (Or.inr (Or.inr (Or.inl h))))) (fun h => h.elim (fun h => hh (Or.inr (Or.inr (Or.inr (Or.inr (Or.inl h)))))) (fun h => hh (Or.inr (Or.inr (Or.inr (Or.inr (Or.inr h)))))))))))]) (by intro a hh; rw [fa_4 a (fun h => h.elim (fun h => hh (Or.inl h)) (fun h => h.elim (fun h => hh (Or.inr (Or.inl h))) (fun h => h.elim (fun h => hh (Or.inr (Or.inr (Or.inl h)))) (fun h => h.elim (fun h => hh (Or.inr (Or.inr (Or.inr (Or.inl h))))) (fun h => h.elim (fun h => hh (Or.inr (Or.inr (Or.inr (Or.inr (Or.inl h)))))) (fun h => h.elim (fun h => hh (Or.inr (Or.inr (Or.inr (Or.inr (Or.inr (Or.inl h))))))) (fun h => h.elim (fun h => hh (Or.inr (Or.inr (Or.inr (Or.inr (Or.inr (Or.inr (Or.inl h)))))))) (fun h => h.elim (fun h => hh (Or.inr (Or.inr (Or.inr (Or.inr (Or.inr (Or.inr (Or.inr (Or.inl h))))))))) (fun h => h.elim (fun h => hh (Or.inr (Or.inr (Or.inr (Or.inr (Or.inr (Or.inr (Or.inr (Or.inr (Or.inl h)))))))))) (fun h => hh (Or.inr (Or.inr (Or.inr (Or.inr (Or.inr (Or.inr (Or.inr (Or.inr (Or.inr h)))))))))))))))))))]) (by exact p4_0) (by exact p4_1) (by exact p4_2) (by exact p4_3))
