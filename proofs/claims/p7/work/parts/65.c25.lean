set_option maxHeartbeats 4000000 in
theorem c_105 {L : Nat} {xs : Nat → Int32} {ly : List LK} {F : Nat → Nat → Value} {G A : Nat → Nat → Int} {B : Nat → Nat → Int64} {Q : Option Value → AH → Prop} {gap : Int} (hly : LyOk ly) (hF : RfOk F) (hG : GO G) (hA : AQ A) (in_gap : inR gap) (hrs : RS A) (hpcs : PCs A) (hwq : wqF F) (hsw : SWV G A) (hso : G 42 10 = 1) (hlt : G 42 7 < 1000000) (hg : 0 ≤ gap ∧ gap ≤ 100) (hty : tyV ly F) (K : ∀ (r : Int64) (ly' : List LK) (F' : Nat → Nat → Value) (G' : Nat → Nat → Int) (A' : Nat → Nat → Int) (B' : Nat → Nat → Int64), (LyOk ly') → (RfOk F') → (GO G') → (AQ A') → (∀ a k, ¬ ((a = 57 ∧ k = 3) ∨ (a = 57 ∧ k = 4)) → F' a k = F a k) → (∀ a k, ¬ ((a = 42 ∧ k = 11) ∨ (a = 48 ∧ k = 10) ∨ (a = 48 ∧ k = 11)) → G' a k = G a k) → (∀ a, ¬ (a = 54 ∨ a = 55 ∨ a = 56 ∨ a = 43) → A' a = A a) → (RS A') → (tyV ly' F') → Q (some (.long r)) (HP ly' F' G' A' B')) : Re L xs 105 0 [(0, .ref 42), (1, V gap)] [] (HP ly F G A B) Q := by
  have z8 := g_31_8 hG
  have z7 := g_42_7 hG
  obtain ⟨q, hfq, hq⟩ := hwq
  refine r_aload_n i_105_0 rfl ?_
  refine r_getF (v := .ref 31) i_105_1 rfl (hly 42 _ rfl) (hF.1 42 0 31 rfl) ?_
  refine r_getI i_105_4 rfl (hly 31 _ rfl) ?_
  have q_1 := g_31_8 hG
  refine r_ne0 (t := 12) i_105_7 (by decide) (by omega) (fun u_2 => ?_) (fun u_2 => ?_)
  · skip
    refine r_aload_n i_105_12 rfl ?_
    refine r_getI i_105_13 rfl (hly 42 _ rfl) ?_
    have q_3 := g_42_11 hG
    refine r_ne0 (t := 50) i_105_16 (by decide) (by omega) (fun u_4 => ?_) (fun u_4 => ?_)
    · skip
      refine r_aload_n i_105_50 rfl ?_
      refine r_getF (v := .ref 57) i_105_51 rfl (hly 42 _ rfl) (hF.1 42 2 57 rfl) ?_
      refine r_getF (v := .ref 58) i_105_54 rfl (hly 57 _ rfl) (hF.1 57 2 58 rfl) ?_
      refine r_iload_n i_105_57 rfl ?_
      refine r_lald i_105_58 (hly 58 _ rfl) (by omega) (by omega) (by omega) ?_
      exact r_lret i_105_59 rfl (K (B 58 gap.toNat) ly F G A B hly hF hG hA (by intro a k hh; rfl) (by intro a k hh; rfl) (by intro a hh; rfl) (by first | exact hrs | exact zzp0) (by first | exact hty | exact zzp0))
    · skip
      have hsw1 := hsw hso (by omega)
      have hop1 := (hsw1.2 hlt).1
      have hls := (hsw1.2 hlt).2
      have hsp := (hsw1.1 hop1).1
      refine r_aload_n i_105_19 rfl ?_
      refine r_getF (v := .ref 48) i_105_20 rfl (hly 42 _ rfl) (hF.1 42 1 48 rfl) ?_
      refine r_iconst i_105_23 ?_
      refine r_iconst i_105_24 ?_
      refine r_aload_n i_105_25 rfl ?_
      refine r_getF (v := .ref 43) i_105_26 rfl (hly 42 _ rfl) (hF.1 42 3 43 rfl) ?_
      refine r_iconst i_105_29 ?_
      refine r_cV (as := [V 0, .ref 43, V ((-1)), V ((-1))]) i_105_30 rfl (by decide +kernel) (Nat.le_of_ble_eq_true rfl) (Nat.le_of_ble_eq_true rfl) (hly 48 _ rfl) rfl ?_
      have q_5 := g_48_9 hG
      refine c_84 (word := (-1)) (reading := (-1)) (th := 43) (off := 0) (q := q) (tl := 168) hly hF hG hA (by omega) (by omega) (by omega) (by omega) (by omega) (by omega) (by omega) (by omega) (by intro h; exact ⟨hsp, fun _ => (hsw1.1 h).2⟩) (by exact hrs) (by exact hq) (by exact hfq) (by exact PCs_q hpcs hq) (fun r_6 G_7 A_8 hG_7 hA_8 fg_8 fa_8 p8_0 p8_1 p8_2 p8_3 => ?_)
      show Re L xs 105 33 [(0, .ref 42), (1, V gap)] [V r_6] (HP ly F G_7 A_8 B) _
      refine re_nx i_105_33 rfl ?_
      refine r_aload_n i_105_34 rfl ?_
      refine r_getF (v := .ref 57) i_105_35 rfl (hly 42 _ rfl) (hF.1 42 2 57 rfl) ?_
      refine r_aload_n i_105_38 rfl ?_
      refine r_getI i_105_39 rfl (hly 42 _ rfl) ?_
      rw [show G_7 42 7 = G 42 7 from by rw [fg_8 42 7 (by omega)]]
      have q_9 := g_42_7 hG
      refine r_cV (as := [V (G 42 7)]) i_105_42 rfl (by decide +kernel) (Nat.le_of_ble_eq_true rfl) (Nat.le_of_ble_eq_true rfl) (hly 57 _ rfl) rfl ?_
      have w_10 : G_7 31 8 = G 31 8 := by rw [fg_8 31 8 (by omega)]
      refine c_106 (best := G 42 7) (q := q) hly hF hG_7 hA_8 (by omega) (by exact hty) (by omega) (by omega) (by exact spV_c (by rw [fg_8 31 8 (by omega)]) (by rw [fa_8 49 (by omega)]) (by rw [fa_8 50 (by omega)]) hsp) (by exact p8_0) (by exact hq) (by exact hfq) (by exact PC_c (fa_8 q (by rcases hq with h | h | h <;> rw [h] <;> decide)) (PCs_q hpcs hq)) (fun ly_11 F_12 B_13 hly_11 hF_12 ff_13 p13_0 => ?_)
      show Re L xs 105 45 [(0, .ref 42), (1, V gap)] [] (HP ly_11 F_12 G_7 A_8 B_13) _
      refine r_aload_n i_105_45 rfl ?_
      refine r_iconst i_105_46 ?_
      refine r_putZQ i_105_47 (by decide +kernel) (hly_11 42 _ rfl) (by omega) (fun G_14 eG_14 => ?_)
      have hG_14 : GO G_14 := by rw [eG_14]; exact gu_42_11 hG_7 (by omega) (by omega)
      refine r_aload_n i_105_50 rfl ?_
      refine r_getF (v := .ref 57) i_105_51 rfl (hly_11 42 _ rfl) (hF_12.1 42 2 57 rfl) ?_
      refine r_getF (v := .ref 58) i_105_54 rfl (hly_11 57 _ rfl) (hF_12.1 57 2 58 rfl) ?_
      refine r_iload_n i_105_57 rfl ?_
      refine r_lald i_105_58 (hly_11 58 _ rfl) (by omega) (by omega) (by omega) ?_
      exact r_lret i_105_59 rfl (K (B_13 58 gap.toNat) ly_11 F_12 G_14 A_8 B_13 hly_11 hF_12 hG_14 hA_8 (by intro a k hh; rw [ff_13 a k (fun h => h.elim (fun h => hh (Or.inl h)) (fun h => hh (Or.inr h)))]) (by intro a k hh; rw [eG_14, up2_n (fun h => hh (Or.inl h)), fg_8 a k (fun h => h.elim (fun h => hh (Or.inr (Or.inl h))) (fun h => hh (Or.inr (Or.inr h))))]) (by intro a hh; rw [fa_8 a (fun h => h.elim (fun h => hh (Or.inl h)) (fun h => h.elim (fun h => hh (Or.inr (Or.inl h))) (fun h => h.elim (fun h => hh (Or.inr (Or.inr (Or.inl h)))) (fun h => hh (Or.inr (Or.inr (Or.inr h)))))))]) (by first | exact hrs | exact p8_0) (by first | exact hty | exact p13_0))
  · skip
    refine r_lconst i_105_10 ?_
    show Re L xs 105 11 [(0, .ref 42), (1, V gap)] [.long (Int64.ofNat 1)] (HP ly F G A B) _
    exact r_lret i_105_11 rfl (K (Int64.ofNat 1) ly F G A B hly hF hG hA (by intro a k hh; rfl) (by intro a k hh; rfl) (by intro a hh; rfl) (by first | exact hrs | exact zzp0) (by first | exact hty | exact zzp0))
