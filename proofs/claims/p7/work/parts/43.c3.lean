set_option maxHeartbeats 4000000 in
theorem c_48 {L : Nat} {xs : Nat → Int32} {ly : List LK} {F : Nat → Nat → Value} {G A : Nat → Nat → Int} {B : Nat → Nat → Int64} {Q : Option Value → AH → Prop}  (hly : LyOk ly) (hF : RfOk F) (hG : GO G) (hA : AQ A) (htk : tkO G A) (hrv : G 2 6 = 0 → G 2 7 + G 2 8 ≤ 2000) (K : ∀ (G' : Nat → Nat → Int), (GO G') → (∀ a k, ¬ ((a = 2 ∧ k = 5) ∨ (a = 2 ∧ k = 6) ∨ (a = 2 ∧ k = 7) ∨ (a = 2 ∧ k = 8) ∨ (a = 2 ∧ k = 9)) → G' a k = G a k) → (G' 2 6 = 0 → G' 2 7 + G' 2 8 ≤ 2000) → Q none (HP ly F G' A B)) : Re L xs 48 0 [(0, .ref 2)] [] (HP ly F G A B) Q := by
  refine r_aload_n i_48_0 rfl ?_
  refine r_getI i_48_1 rfl (hly 2 _ rfl) ?_
  have q_1 := g_2_5 hG
  refine r_aload_n i_48_4 rfl ?_
  refine r_getF (v := .ref 22) i_48_5 rfl (hly 2 _ rfl) (hF.1 2 4 22 rfl) ?_
  refine r_getI i_48_8 rfl (hly 22 _ rfl) ?_
  have q_2 := g_22_4 hG
  refine r_cge (t := 88) i_48_11 (by decide) (by omega) (by omega) (fun u_3 => ?_) (fun u_3 => ?_)
  · skip
    exact r_vret i_48_88 rfl (K G hG (by intro a k hh; rfl) (by omega))
  · skip
    have z5 := g_2_5 hG
    have z4 := g_22_4 hG
    have ht0 := htk (G 2 5).toNat (by omega)
    refine r_aload_n i_48_14 rfl ?_
    refine r_aload_n i_48_15 rfl ?_
    refine r_getF (v := .ref 22) i_48_16 rfl (hly 2 _ rfl) (hF.1 2 4 22 rfl) ?_
    refine r_getF (v := .ref 23) i_48_19 rfl (hly 22 _ rfl) (hF.1 22 0 23 rfl) ?_
    refine r_aload_n i_48_22 rfl ?_
    refine r_getI i_48_23 rfl (hly 2 _ rfl) ?_
    refine r_iald i_48_26 (hly 23 _ rfl) (by omega) (by omega) (by omega) ?_
    have q_4 := a_23 hA ((G 2 5).toNat)
    refine r_putIQ i_48_27 (by decide +kernel) (hly 2 _ rfl) (fun G_5 eG_5 => ?_)
    have hG_5 : GO G_5 := by rw [eG_5]; exact gu_2_6 hG (by omega) (by omega)
    refine r_aload_n i_48_30 rfl ?_
    refine r_aload_n i_48_31 rfl ?_
    refine r_getF (v := .ref 22) i_48_32 rfl (hly 2 _ rfl) (hF.1 2 4 22 rfl) ?_
    refine r_getF (v := .ref 24) i_48_35 rfl (hly 22 _ rfl) (hF.1 22 1 24 rfl) ?_
    refine r_aload_n i_48_38 rfl ?_
    refine r_getI i_48_39 rfl (hly 2 _ rfl) ?_
    rw [show G_5 2 5 = G 2 5 from by rw [eG_5, up2_n (by omega)]]
    refine r_iald i_48_42 (hly 24 _ rfl) (by omega) (by omega) (by omega) ?_
    have q_6 := a_24 hA ((G 2 5).toNat)
    refine r_putIQ i_48_43 (by decide +kernel) (hly 2 _ rfl) (fun G_7 eG_7 => ?_)
    have hG_7 : GO G_7 := by rw [eG_7]; exact gu_2_7 hG_5 (by omega) (by omega)
    refine r_aload_n i_48_46 rfl ?_
    refine r_aload_n i_48_47 rfl ?_
    refine r_getF (v := .ref 22) i_48_48 rfl (hly 2 _ rfl) (hF.1 2 4 22 rfl) ?_
    refine r_getF (v := .ref 25) i_48_51 rfl (hly 22 _ rfl) (hF.1 22 2 25 rfl) ?_
    refine r_aload_n i_48_54 rfl ?_
    refine r_getI i_48_55 rfl (hly 2 _ rfl) ?_
    rw [show G_7 2 5 = G 2 5 from by rw [eG_7, up2_n (by omega), eG_5, up2_n (by omega)]]
    refine r_iald i_48_58 (hly 25 _ rfl) (by omega) (by omega) (by omega) ?_
    have q_8 := a_25 hA ((G 2 5).toNat)
    refine r_putIQ i_48_59 (by decide +kernel) (hly 2 _ rfl) (fun G_9 eG_9 => ?_)
    have hG_9 : GO G_9 := by rw [eG_9]; exact gu_2_8 hG_7 (by omega) (by omega)
    refine r_aload_n i_48_62 rfl ?_
    refine r_aload_n i_48_63 rfl ?_
    refine r_getF (v := .ref 22) i_48_64 rfl (hly 2 _ rfl) (hF.1 2 4 22 rfl) ?_
    refine r_getF (v := .ref 26) i_48_67 rfl (hly 22 _ rfl) (hF.1 22 3 26 rfl) ?_
    refine r_aload_n i_48_70 rfl ?_
    refine r_getI i_48_71 rfl (hly 2 _ rfl) ?_
    rw [show G_9 2 5 = G 2 5 from by rw [eG_9, up2_n (by omega), eG_7, up2_n (by omega), eG_5, up2_n (by omega)]]
    refine r_iald i_48_74 (hly 26 _ rfl) (by omega) (by omega) (by omega) ?_
    have q_10 := a_26 hA ((G 2 5).toNat)
    refine r_putIQ i_48_75 (by decide +kernel) (hly 2 _ rfl) (fun G_11 eG_11 => ?_)
    have hG_11 : GO G_11 := by rw [eG_11]; exact gu_2_9 hG_9 (by omega) (by omega)
    refine r_aload_n i_48_78 rfl ?_
    refine re_nx i_48_79 rfl ?_
    refine r_getI i_48_80 rfl (hly 2 _ rfl) ?_
    rw [show G_11 2 5 = G 2 5 from by rw [eG_11, up2_n (by omega), eG_9, up2_n (by omega), eG_7, up2_n (by omega), eG_5, up2_n (by omega)]]
    refine r_iconst i_48_83 ?_
    refine r_iadd i_48_84 ?_
    refine r_putIQ i_48_85 (by decide +kernel) (hly 2 _ rfl) (fun G_12 eG_12 => ?_)
    have hG_12 : GO G_12 := by rw [eG_12]; exact gu_2_5 hG_11 (by omega) (by omega)
    exact r_vret i_48_88 rfl (K G_12 hG_12 (by intro a k hh; rw [eG_12, up2_n (fun h => hh (Or.inl h)), eG_11, up2_n (fun h => hh (Or.inr (Or.inr (Or.inr (Or.inr h))))), eG_9, up2_n (fun h => hh (Or.inr (Or.inr (Or.inr (Or.inl h))))), eG_7, up2_n (fun h => hh (Or.inr (Or.inr (Or.inl h)))), eG_5, up2_n (fun h => hh (Or.inr (Or.inl h)))]) (by rw [show G_12 2 6 = A 23 ((G 2 5).toNat) from by rw [eG_12, up2_n (by omega), eG_11, up2_n (by omega), eG_9, up2_n (by omega), eG_7, up2_n (by omega), eG_5, up2_s]] <;> rw [show G_12 2 7 = A 24 ((G 2 5).toNat) from by rw [eG_12, up2_n (by omega), eG_11, up2_n (by omega), eG_9, up2_n (by omega), eG_7, up2_s]] <;> rw [show G_12 2 8 = A 25 ((G 2 5).toNat) from by rw [eG_12, up2_n (by omega), eG_11, up2_n (by omega), eG_9, up2_s]] <;> omega))
set_option maxHeartbeats 4000000 in
theorem c_52 {L : Nat} {xs : Nat → Int32} {ly : List LK} {F : Nat → Nat → Value} {G A : Nat → Nat → Int} {B : Nat → Nat → Int64} {Q : Option Value → AH → Prop}  (hly : LyOk ly) (hF : RfOk F) (hG : GO G) (hA : AQ A)  (K : ∀ (r : Int) (G' : Nat → Nat → Int), (GO G') → (∀ a k, ¬ ((a = 2 ∧ k = 0) ∨ (a = 2 ∧ k = 1)) → G' a k = G a k) → (r = 0) → Q (some (V r)) (HP ly F G' A B)) : Re L xs 52 0 [(0, .ref 2)] [] (HP ly F G A B) Q := by
  refine r_aload_n i_52_0 rfl ?_
  refine r_aload_n i_52_1 rfl ?_
  refine r_getI i_52_2 rfl (hly 2 _ rfl) ?_
  have q_1 := g_2_6 hG
  refine r_iconst i_52_5 ?_
  refine r_cne (t := 13) i_52_6 (by decide) (by omega) (by omega) (fun u_2 => ?_) (fun u_2 => ?_)
  · skip
    refine r_iconst i_52_13 ?_
    refine r_putIQ i_52_14 (by decide +kernel) (hly 2 _ rfl) (fun G_3 eG_3 => ?_)
    have hG_3 : GO G_3 := by rw [eG_3]; exact gu_2_0 hG (by omega) (by omega)
    refine r_aload_n i_52_17 rfl ?_
    refine r_aload_n i_52_18 rfl ?_
    refine r_getI i_52_19 rfl (hly 2 _ rfl) ?_
    rw [show G_3 2 7 = G 2 7 from by rw [eG_3, up2_n (by omega)]]
    have q_4 := g_2_7 hG
    refine r_putIQ i_52_22 (by decide +kernel) (hly 2 _ rfl) (fun G_5 eG_5 => ?_)
    have hG_5 : GO G_5 := by rw [eG_5]; exact gu_2_1 hG_3 (by omega) (by omega)
    refine r_iconst i_52_25 ?_
    exact r_iret i_52_26 rfl (nar_Z (by omega)) (K 0 G_5 hG_5 (by intro a k hh; rw [eG_5, up2_n (fun h => hh (Or.inr h)), eG_3, up2_n (fun h => hh (Or.inl h))]) (by omega))
  · skip
    refine r_iconst i_52_9 ?_
    refine r_go (t := 14) i_52_10 (by decide) ?_
    refine r_putIQ i_52_14 (by decide +kernel) (hly 2 _ rfl) (fun G_6 eG_6 => ?_)
    have hG_6 : GO G_6 := by rw [eG_6]; exact gu_2_0 hG (by omega) (by omega)
    refine r_aload_n i_52_17 rfl ?_
    refine r_aload_n i_52_18 rfl ?_
    refine r_getI i_52_19 rfl (hly 2 _ rfl) ?_
    rw [show G_6 2 7 = G 2 7 from by rw [eG_6, up2_n (by omega)]]
    have q_7 := g_2_7 hG
    refine r_putIQ i_52_22 (by decide +kernel) (hly 2 _ rfl) (fun G_8 eG_8 => ?_)
    have hG_8 : GO G_8 := by rw [eG_8]; exact gu_2_1 hG_6 (by omega) (by omega)
    refine r_iconst i_52_25 ?_
    exact r_iret i_52_26 rfl (nar_Z (by omega)) (K 0 G_8 hG_8 (by intro a k hh; rw [eG_8, up2_n (fun h => hh (Or.inr h)), eG_6, up2_n (fun h => hh (Or.inl h))]) (by omega))
set_option maxHeartbeats 4000000 in
theorem c_56 {L : Nat} {xs : Nat → Int32} {ly : List LK} {F : Nat → Nat → Value} {G A : Nat → Nat → Int} {B : Nat → Nat → Int64} {Q : Option Value → AH → Prop} {kind : Int} {place : Int} (hly : LyOk ly) (hF : RfOk F) (hG : GO G) (hA : AQ A) (in_kind : inR kind) (in_place : inR place) (hk : 0 ≤ kind ∧ kind ≤ 5) (hp : -1 ≤ place ∧ place ≤ 2000) (K : ∀ (r : Int) (G' : Nat → Nat → Int), (GO G') → (∀ a k, ¬ ((a = 2 ∧ k = 0) ∨ (a = 2 ∧ k = 1)) → G' a k = G a k) → (r = 0) → Q (some (V r)) (HP ly F G' A B)) : Re L xs 56 0 [(0, .ref 2), (1, V kind), (2, V place)] [] (HP ly F G A B) Q := by
  refine r_aload_n i_56_0 rfl ?_
  refine r_iload_n i_56_1 rfl ?_
  refine r_putIQ i_56_2 (by decide +kernel) (hly 2 _ rfl) (fun G_1 eG_1 => ?_)
  have hG_1 : GO G_1 := by rw [eG_1]; exact gu_2_0 hG (by omega) (by omega)
  refine r_aload_n i_56_5 rfl ?_
  refine r_iload_n i_56_6 rfl ?_
  refine r_putIQ i_56_7 (by decide +kernel) (hly 2 _ rfl) (fun G_2 eG_2 => ?_)
  have hG_2 : GO G_2 := by rw [eG_2]; exact gu_2_1 hG_1 (by omega) (by omega)
  refine r_iconst i_56_10 ?_
  exact r_iret i_56_11 rfl (nar_Z (by omega)) (K 0 G_2 hG_2 (by intro a k hh; rw [eG_2, up2_n (fun h => hh (Or.inr h)), eG_1, up2_n (fun h => hh (Or.inl h))]) (by omega))
set_option maxHeartbeats 4000000 in
theorem c_54 {L : Nat} {xs : Nat → Int32} {ly : List LK} {F : Nat → Nat → Value} {G A : Nat → Nat → Int} {B : Nat → Nat → Int64} {Q : Option Value → AH → Prop} {asked : Int} (hly : LyOk ly) (hF : RfOk F) (hG : GO G) (hA : AQ A) (in_asked : inR asked) (K : ∀ (r : Int) (G' : Nat → Nat → Int), (GO G') → (∀ a k, ¬ ((a = 2 ∧ k = 0) ∨ (a = 2 ∧ k = 1)) → G' a k = G a k) → (0 ≤ r ∧ r ≤ 1) → (r = 1 → G 2 6 = asked) → Q (some (V r)) (HP ly F G' A B)) : Re L xs 54 0 [(0, .ref 2), (1, V asked)] [] (HP ly F G A B) Q := by
  refine r_aload_n i_54_0 rfl ?_
  refine r_getI i_54_1 rfl (hly 2 _ rfl) ?_
  have q_1 := g_2_6 hG
  refine r_iload_n i_54_4 rfl ?_
  refine r_ceq (t := 15) i_54_5 (by decide) (by omega) (by omega) (fun u_2 => ?_) (fun u_2 => ?_)
  · skip
    refine r_iconst i_54_15 ?_
    refine r_go (t := 20) i_54_16 (by decide) ?_
    exact r_iret i_54_20 rfl (nar_Z (by omega)) (K 1 G hG (by intro a k hh; rfl) (by omega) (by omega))
  · skip
    refine r_aload_n i_54_8 rfl ?_
    refine r_cV (as := []) i_54_9 rfl (by decide +kernel) (Nat.le_of_ble_eq_true rfl) (Nat.le_of_ble_eq_true rfl) (hly 2 _ rfl) rfl ?_
    refine c_52  hly hF hG hA  (fun r_3 G_4 hG_4 fg4 p4_0 => ?_)
    show Re L xs 54 12 [(0, .ref 2), (1, V asked)] [V r_3] (HP ly F G_4 A B) _
    refine r_eq0 (t := 19) i_54_12 (by decide) (by omega) (fun u_5 => ?_) (fun u_5 => ?_)
    · skip
      refine r_iconst i_54_19 ?_
      exact r_iret i_54_20 rfl (nar_Z (by omega)) (K 0 G_4 hG_4 (by intro a k hh; rw [fg4 a k (fun h => h.elim (fun h => hh (Or.inl h)) (fun h => hh (Or.inr h)))]) (by omega) (by omega))
    · skip
      refine r_iconst i_54_15 ?_
      refine r_go (t := 20) i_54_16 (by decide) ?_
      exact r_iret i_54_20 rfl (nar_Z (by omega)) (K 1 G_4 hG_4 (by intro a k hh; rw [fg4 a k (fun h => h.elim (fun h => hh (Or.inl h)) (fun h => hh (Or.inr h)))]) (by omega) (by omega))
set_option maxHeartbeats 4000000 in
theorem c_53 {L : Nat} {xs : Nat → Int32} {ly : List LK} {F : Nat → Nat → Value} {G A : Nat → Nat → Int} {B : Nat → Nat → Int64} {Q : Option Value → AH → Prop}  (hly : LyOk ly) (hF : RfOk F) (hG : GO G) (hA : AQ A) (htk : tkO G A) (hrv : G 2 6 = 0 → G 2 7 + G 2 8 ≤ 2000) (K : ∀ (r : Int) (G' : Nat → Nat → Int), (GO G') → (∀ a k, ¬ ((a = 2 ∧ k = 0) ∨ (a = 2 ∧ k = 1) ∨ (a = 2 ∧ k = 5) ∨ (a = 2 ∧ k = 6) ∨ (a = 2 ∧ k = 7) ∨ (a = 2 ∧ k = 8) ∨ (a = 2 ∧ k = 9)) → G' a k = G a k) → (G' 2 6 = 0 → G' 2 7 + G' 2 8 ≤ 2000) → (0 ≤ r ∧ r ≤ 1) → (r = 1 → G' 2 6 = 0) → Q (some (V r)) (HP ly F G' A B)) : Re L xs 53 0 [(0, .ref 2)] [] (HP ly F G A B) Q := by
  refine r_aload_n i_53_0 rfl ?_
  refine r_cV (as := []) i_53_1 rfl (by decide +kernel) (Nat.le_of_ble_eq_true rfl) (Nat.le_of_ble_eq_true rfl) (hly 2 _ rfl) rfl ?_
  have q_1 := g_2_6 hG
  have q_2 := g_2_7 hG
  have q_3 := g_2_8 hG
  refine c_48  hly hF hG hA (by exact tkO_c (by rfl) (by rfl) (by rfl) (by rfl) htk) (by omega) (fun G_4 hG_4 fg4 p4_0 => ?_)
  show Re L xs 53 4 [(0, .ref 2)] [] (HP ly F G_4 A B) _
  refine r_aload_n i_53_4 rfl ?_
  refine r_iconst i_53_5 ?_
  refine r_cV (as := [V 0]) i_53_6 rfl (by decide +kernel) (Nat.le_of_ble_eq_true rfl) (Nat.le_of_ble_eq_true rfl) (hly 2 _ rfl) rfl ?_
  have q_5 := g_2_6 hG_4
  refine c_54 (asked := 0) hly hF hG_4 hA (by omega) (fun r_6 G_7 hG_7 fg7 p7_0 p7_1 => ?_)
  show Re L xs 53 9 [(0, .ref 2)] [V r_6] (HP ly F G_7 A B) _
  exact r_iret i_53_9 rfl (nar_Z (by omega)) (K r_6 G_7 hG_7 (by intro a k hh; rw [fg7 a k (fun h => h.elim (fun h => hh (Or.inl h)) (fun h => hh (Or.inr (Or.inl h)))), fg4 a k (fun h => h.elim (fun h => hh (Or.inr (Or.inr (Or.inl h)))) (fun h => h.elim (fun h => hh (Or.inr (Or.inr (Or.inr (Or.inl h))))) (fun h => h.elim (fun h => hh (Or.inr (Or.inr (Or.inr (Or.inr (Or.inl h)))))) (fun h => h.elim (fun h => hh (Or.inr (Or.inr (Or.inr (Or.inr (Or.inr (Or.inl h))))))) (fun h => hh (Or.inr (Or.inr (Or.inr (Or.inr (Or.inr (Or.inr h)))))))))))]) (by rw [show G_7 2 6 = G_4 2 6 from by rw [fg7 2 6 (by omega)]] <;> rw [show G_7 2 7 = G_4 2 7 from by rw [fg7 2 7 (by omega)]] <;> rw [show G_7 2 8 = G_4 2 8 from by rw [fg7 2 8 (by omega)]] <;> omega) (by omega) (by rw [show G_7 2 6 = G_4 2 6 from by rw [fg7 2 6 (by omega)]] <;> omega))
set_option maxHeartbeats 4000000 in
theorem c_61 {L : Nat} {xs : Nat → Int32} {ly : List LK} {F : Nat → Nat → Value} {G A : Nat → Nat → Int} {B : Nat → Nat → Int64} {Q : Option Value → AH → Prop}  (hly : LyOk ly) (hF : RfOk F) (hG : GO G) (hA : AQ A) (htk : tkO G A) (hrv : G 2 6 = 0 → G 2 7 + G 2 8 ≤ 2000) (K : ∀ (r : Int) (G' : Nat → Nat → Int), (GO G') → (∀ a k, ¬ ((a = 2 ∧ k = 0) ∨ (a = 2 ∧ k = 1) ∨ (a = 2 ∧ k = 5) ∨ (a = 2 ∧ k = 6) ∨ (a = 2 ∧ k = 7) ∨ (a = 2 ∧ k = 8) ∨ (a = 2 ∧ k = 9)) → G' a k = G a k) → (G' 2 6 = 0 → G' 2 7 + G' 2 8 ≤ 2000) → (0 ≤ r ∧ r ≤ 1) → Q (some (V r)) (HP ly F G' A B)) : Re L xs 61 0 [(0, .ref 2)] [] (HP ly F G A B) Q := by
  refine r_aload_n i_61_0 rfl ?_
  refine r_cV (as := []) i_61_1 rfl (by decide +kernel) (Nat.le_of_ble_eq_true rfl) (Nat.le_of_ble_eq_true rfl) (hly 2 _ rfl) rfl ?_
  have q_1 := g_2_6 hG
  have q_2 := g_2_7 hG
  have q_3 := g_2_8 hG
  refine c_48  hly hF hG hA (by exact tkO_c (by rfl) (by rfl) (by rfl) (by rfl) htk) (by omega) (fun G_4 hG_4 fg4 p4_0 => ?_)
  show Re L xs 61 4 [(0, .ref 2)] [] (HP ly F G_4 A B) _
  refine r_aload_n i_61_4 rfl ?_
  refine r_iconst i_61_5 ?_
  refine r_cV (as := [V 2]) i_61_6 rfl (by decide +kernel) (Nat.le_of_ble_eq_true rfl) (Nat.le_of_ble_eq_true rfl) (hly 2 _ rfl) rfl ?_
  have q_5 := g_2_6 hG_4
  refine c_54 (asked := 2) hly hF hG_4 hA (by omega) (fun r_6 G_7 hG_7 fg7 p7_0 p7_1 => ?_)
  show Re L xs 61 9 [(0, .ref 2)] [V r_6] (HP ly F G_7 A B) _
  exact r_iret i_61_9 rfl (nar_Z (by omega)) (K r_6 G_7 hG_7 (by intro a k hh; rw [fg7 a k (fun h => h.elim (fun h => hh (Or.inl h)) (fun h => hh (Or.inr (Or.inl h)))), fg4 a k (fun h => h.elim (fun h => hh (Or.inr (Or.inr (Or.inl h)))) (fun h => h.elim (fun h => hh (Or.inr (Or.inr (Or.inr (Or.inl h))))) (fun h => h.elim (fun h => hh (Or.inr (Or.inr (Or.inr (Or.inr (Or.inl h)))))) (fun h => h.elim (fun h => hh (Or.inr (Or.inr (Or.inr (Or.inr (Or.inr (Or.inl h))))))) (fun h => hh (Or.inr (Or.inr (Or.inr (Or.inr (Or.inr (Or.inr h)))))))))))]) (by rw [show G_7 2 6 = G_4 2 6 from by rw [fg7 2 6 (by omega)]] <;> rw [show G_7 2 7 = G_4 2 7 from by rw [fg7 2 7 (by omega)]] <;> rw [show G_7 2 8 = G_4 2 8 from by rw [fg7 2 8 (by omega)]] <;> omega) (by omega))
set_option maxHeartbeats 4000000 in
theorem c_55 {L : Nat} {xs : Nat → Int32} {ly : List LK} {F : Nat → Nat → Value} {G A : Nat → Nat → Int} {B : Nat → Nat → Int64} {Q : Option Value → AH → Prop} {most : Int} (hly : LyOk ly) (hF : RfOk F) (hG : GO G) (hA : AQ A) (in_most : inR most) (htk : tkO G A) (hrv : G 2 6 = 0 → G 2 7 + G 2 8 ≤ 2000) (K : ∀ (r : Int) (G' : Nat → Nat → Int), (GO G') → (∀ a k, ¬ ((a = 2 ∧ k = 0) ∨ (a = 2 ∧ k = 1) ∨ (a = 2 ∧ k = 5) ∨ (a = 2 ∧ k = 6) ∨ (a = 2 ∧ k = 7) ∨ (a = 2 ∧ k = 8) ∨ (a = 2 ∧ k = 9)) → G' a k = G a k) → (G' 2 6 = 0 → G' 2 7 + G' 2 8 ≤ 2000) → (0 ≤ r ∧ r ≤ 1) → (r = 1 → G' 2 9 ≤ most) → Q (some (V r)) (HP ly F G' A B)) : Re L xs 55 0 [(0, .ref 2), (1, V most)] [] (HP ly F G A B) Q := by
  refine r_aload_n i_55_0 rfl ?_
  refine r_cV (as := []) i_55_1 rfl (by decide +kernel) (Nat.le_of_ble_eq_true rfl) (Nat.le_of_ble_eq_true rfl) (hly 2 _ rfl) rfl ?_
  have q_1 := g_2_6 hG
  have q_2 := g_2_7 hG
  have q_3 := g_2_8 hG
  refine c_48  hly hF hG hA (by exact tkO_c (by rfl) (by rfl) (by rfl) (by rfl) htk) (by omega) (fun G_4 hG_4 fg4 p4_0 => ?_)
  show Re L xs 55 4 [(0, .ref 2), (1, V most)] [] (HP ly F G_4 A B) _
  refine r_aload_n i_55_4 rfl ?_
  refine r_getI i_55_5 rfl (hly 2 _ rfl) ?_
  have q_5 := g_2_6 hG_4
  refine r_iconst i_55_8 ?_
  refine r_ceq (t := 17) i_55_9 (by decide) (by omega) (by omega) (fun u_6 => ?_) (fun u_6 => ?_)
  · skip
    refine r_aload_n i_55_17 rfl ?_
    refine r_getI i_55_18 rfl (hly 2 _ rfl) ?_
    have q_7 := g_2_9 hG_4
    refine r_iload_n i_55_21 rfl ?_
    refine r_cle (t := 37) i_55_22 (by decide) (by omega) (by omega) (fun u_8 => ?_) (fun u_8 => ?_)
    · skip
      refine r_iconst i_55_37 ?_
      refine r_go (t := 42) i_55_38 (by decide) ?_
      exact r_iret i_55_42 rfl (nar_Z (by omega)) (K 1 G_4 hG_4 (by intro a k hh; rw [fg4 a k (fun h => h.elim (fun h => hh (Or.inr (Or.inr (Or.inl h)))) (fun h => h.elim (fun h => hh (Or.inr (Or.inr (Or.inr (Or.inl h))))) (fun h => h.elim (fun h => hh (Or.inr (Or.inr (Or.inr (Or.inr (Or.inl h)))))) (fun h => h.elim (fun h => hh (Or.inr (Or.inr (Or.inr (Or.inr (Or.inr (Or.inl h))))))) (fun h => hh (Or.inr (Or.inr (Or.inr (Or.inr (Or.inr (Or.inr h)))))))))))]) (by omega) (by omega) (by omega))
    · skip
      refine r_aload_n i_55_25 rfl ?_
      refine r_iconst i_55_26 ?_
      refine r_aload_n i_55_27 rfl ?_
      refine r_getI i_55_28 rfl (hly 2 _ rfl) ?_
      have q_9 := g_2_7 hG_4
      refine r_cV (as := [V (G_4 2 7), V 4]) i_55_31 rfl (by decide +kernel) (Nat.le_of_ble_eq_true rfl) (Nat.le_of_ble_eq_true rfl) (hly 2 _ rfl) rfl ?_
      refine c_56 (kind := 4) (place := G_4 2 7) hly hF hG_4 hA (by omega) (by omega) (by omega) (by omega) (fun r_10 G_11 hG_11 fg11 p11_0 => ?_)
      show Re L xs 55 34 [(0, .ref 2), (1, V most)] [V r_10] (HP ly F G_11 A B) _
      refine r_eq0 (t := 41) i_55_34 (by decide) (by omega) (fun u_12 => ?_) (fun u_12 => ?_)
      · skip
        refine r_iconst i_55_41 ?_
        exact r_iret i_55_42 rfl (nar_Z (by omega)) (K 0 G_11 hG_11 (by intro a k hh; rw [fg11 a k (fun h => h.elim (fun h => hh (Or.inl h)) (fun h => hh (Or.inr (Or.inl h)))), fg4 a k (fun h => h.elim (fun h => hh (Or.inr (Or.inr (Or.inl h)))) (fun h => h.elim (fun h => hh (Or.inr (Or.inr (Or.inr (Or.inl h))))) (fun h => h.elim (fun h => hh (Or.inr (Or.inr (Or.inr (Or.inr (Or.inl h)))))) (fun h => h.elim (fun h => hh (Or.inr (Or.inr (Or.inr (Or.inr (Or.inr (Or.inl h))))))) (fun h => hh (Or.inr (Or.inr (Or.inr (Or.inr (Or.inr (Or.inr h)))))))))))]) (by rw [show G_11 2 6 = G_4 2 6 from by rw [fg11 2 6 (by omega)]] <;> rw [show G_11 2 7 = G_4 2 7 from by rw [fg11 2 7 (by omega)]] <;> rw [show G_11 2 8 = G_4 2 8 from by rw [fg11 2 8 (by omega)]] <;> omega) (by omega) (by rw [show G_11 2 9 = G_4 2 9 from by rw [fg11 2 9 (by omega)]] <;> omega))
      · skip
        refine r_iconst i_55_37 ?_
        refine r_go (t := 42) i_55_38 (by decide) ?_
        exact r_iret i_55_42 rfl (nar_Z (by omega)) (K 1 G_11 hG_11 (by intro a k hh; rw [fg11 a k (fun h => h.elim (fun h => hh (Or.inl h)) (fun h => hh (Or.inr (Or.inl h)))), fg4 a k (fun h => h.elim (fun h => hh (Or.inr (Or.inr (Or.inl h)))) (fun h => h.elim (fun h => hh (Or.inr (Or.inr (Or.inr (Or.inl h))))) (fun h => h.elim (fun h => hh (Or.inr (Or.inr (Or.inr (Or.inr (Or.inl h)))))) (fun h => h.elim (fun h => hh (Or.inr (Or.inr (Or.inr (Or.inr (Or.inr (Or.inl h))))))) (fun h => hh (Or.inr (Or.inr (Or.inr (Or.inr (Or.inr (Or.inr h)))))))))))]) (by rw [show G_11 2 6 = G_4 2 6 from by rw [fg11 2 6 (by omega)]] <;> rw [show G_11 2 7 = G_4 2 7 from by rw [fg11 2 7 (by omega)]] <;> rw [show G_11 2 8 = G_4 2 8 from by rw [fg11 2 8 (by omega)]] <;> omega) (by omega) (by rw [show G_11 2 9 = G_4 2 9 from by rw [fg11 2 9 (by omega)]] <;> omega))
  · skip
    refine r_aload_n i_55_12 rfl ?_
    refine r_cV (as := []) i_55_13 rfl (by decide +kernel) (Nat.le_of_ble_eq_true rfl) (Nat.le_of_ble_eq_true rfl) (hly 2 _ rfl) rfl ?_
    refine c_52  hly hF hG_4 hA  (fun r_13 G_14 hG_14 fg14 p14_0 => ?_)
    show Re L xs 55 16 [(0, .ref 2), (1, V most)] [V r_13] (HP ly F G_14 A B) _
    exact r_iret i_55_16 rfl (nar_Z (by omega)) (K r_13 G_14 hG_14 (by intro a k hh; rw [fg14 a k (fun h => h.elim (fun h => hh (Or.inl h)) (fun h => hh (Or.inr (Or.inl h)))), fg4 a k (fun h => h.elim (fun h => hh (Or.inr (Or.inr (Or.inl h)))) (fun h => h.elim (fun h => hh (Or.inr (Or.inr (Or.inr (Or.inl h))))) (fun h => h.elim (fun h => hh (Or.inr (Or.inr (Or.inr (Or.inr (Or.inl h)))))) (fun h => h.elim (fun h => hh (Or.inr (Or.inr (Or.inr (Or.inr (Or.inr (Or.inl h))))))) (fun h => hh (Or.inr (Or.inr (Or.inr (Or.inr (Or.inr (Or.inr h)))))))))))]) (by rw [show G_14 2 6 = G_4 2 6 from by rw [fg14 2 6 (by omega)]] <;> rw [show G_14 2 7 = G_4 2 7 from by rw [fg14 2 7 (by omega)]] <;> rw [show G_14 2 8 = G_4 2 8 from by rw [fg14 2 8 (by omega)]] <;> omega) (by omega) (by rw [show G_14 2 9 = G_4 2 9 from by rw [fg14 2 9 (by omega)]] <;> omega))
set_option maxHeartbeats 4000000 in
theorem c_50 {L : Nat} {xs : Nat → Int32} {ly : List LK} {F : Nat → Nat → Value} {G A : Nat → Nat → Int} {B : Nat → Nat → Int64} {Q : Option Value → AH → Prop} {s : UInt32} (hly : LyOk ly) (hF : RfOk F) (hG : GO G) (hA : AQ A) (hs : s.toNat < 9) (hrv : G 2 6 = 0 → G 2 7 + G 2 8 ≤ 2000) (K : ∀ (r : Int), (0 ≤ r ∧ r ≤ 1) → Q (some (V r)) (HP ly F G A B)) : Re L xs 50 0 [(0, .ref 2), (1, .float s)] [] (HP ly F G A B) Q := by
  have z8 := g_2_8 hG
  have z7 := g_2_7 hG
  refine r_aload_n i_50_0 rfl ?_
  refine r_getI i_50_1 rfl (hly 2 _ rfl) ?_
  have q_1 := g_2_6 hG
  refine r_ne0 (t := 18) i_50_4 (by decide) (by omega) (fun u_2 => ?_) (fun u_2 => ?_)
  · skip
    refine r_iconst i_50_18 ?_
    exact r_iret i_50_19 rfl (nar_Z (by omega)) (K 0 (by omega))
  · skip
    refine r_aload_n i_50_7 rfl ?_
    refine r_getI i_50_8 rfl (hly 2 _ rfl) ?_
    have q_3 := g_2_8 hG
    refine r_aloads_n i_50_11 rfl (s_ne hs) ?_
    refine r_cT (as := []) i_50_12 rfl (by decide +kernel) (Nat.le_of_ble_eq_true rfl) (Nat.le_of_ble_eq_true rfl) hs rfl ?_
    refine c_212 (s := s) hly hF hG hA (by first | exact hs | decide) (fun r_4 p4_0 => ?_)
    show Re L xs 50 15 [(0, .ref 2), (1, .float s)] [V r_4, V (G 2 8)] (HP ly F G A B) _
    refine r_ceq (t := 20) i_50_15 (by decide) (by omega) (by omega) (fun u_5 => ?_) (fun u_5 => ?_)
    · skip
      refine r_iconst i_50_20 ?_
      refine r_istore_n (l' := [(0, .ref 2), (1, .float s), (2, V 0)]) i_50_21 (by decide +kernel) rfl ?_
      have lp22B : ∀ (nf : Nat) (k : Int), (0 ≤ k ∧ k ≤ G 2 8) → (G 2 8 - k).toNat < nf → Re L xs 50 22 [(0, .ref 2), (1, .float s), (2, V k)] [] (HP ly F G A B) Q := by
        intro nf
        induction nf with
        | zero => intros; omega
        | succ nf ih22B =>
          intro k  hk hm22
          refine r_iload_n i_50_22 rfl ?_
          refine r_aload_n i_50_23 rfl ?_
          refine r_getI i_50_24 rfl (hly 2 _ rfl) ?_
          refine r_cge (t := 57) i_50_27 (by decide) (by omega) (by omega) (fun u_6 => ?_) (fun u_6 => ?_)
          · skip
            refine r_iconst i_50_57 ?_
            exact r_iret i_50_58 rfl (nar_Z (by omega)) (K 1 (by omega))
          · skip
            refine r_aload_n i_50_30 rfl ?_
            refine r_getF (v := .ref 1) i_50_31 rfl (hly 2 _ rfl) (hF.1 2 3 1 rfl) ?_
            refine r_aload_n i_50_34 rfl ?_
            refine r_getI i_50_35 rfl (hly 2 _ rfl) ?_
            have q_7 := g_2_7 hG
            refine r_iload_n i_50_38 rfl ?_
            refine r_iadd i_50_39 ?_
            refine r_cald i_50_40 (hly 1 _ rfl) (by omega) (by omega) (by omega) ?_
            have q_8 := a_1 hA (((G 2 7) + k).toNat)
            refine r_aloads_n i_50_41 rfl (s_ne hs) ?_
            refine r_iload_n i_50_42 rfl ?_
            refine r_cT (as := [V k]) i_50_43 rfl (by decide +kernel) (Nat.le_of_ble_eq_true rfl) (Nat.le_of_ble_eq_true rfl) hs rfl ?_
            refine c_215 (s := s) (i := k) hly hF hG hA (by omega) (by first | exact hs | decide) (by omega) (fun r_9 p9_0 => ?_)
            show Re L xs 50 46 [(0, .ref 2), (1, .float s), (2, V k)] [V r_9, V (A 1 (((G 2 7) + k).toNat))] (HP ly F G A B) _
            refine r_ceq (t := 51) i_50_46 (by decide) (by omega) (by omega) (fun u_10 => ?_) (fun u_10 => ?_)
            · skip
              refine r_iinc (l' := [(0, .ref 2), (1, .float s), (2, V (k + 1))]) i_50_51 rfl (by decide +kernel) rfl ?_
              refine r_go (t := 22) i_50_54 (by decide) ?_
              exact ih22B (k + 1)  (by omega) (by omega)
            · skip
              refine r_iconst i_50_49 ?_
              exact r_iret i_50_50 rfl (nar_Z (by omega)) (K 0 (by omega))
      exact lp22B _ 0  (by omega) (Nat.lt_succ_self _)
    · skip
      refine r_iconst i_50_18 ?_
      exact r_iret i_50_19 rfl (nar_Z (by omega)) (K 0 (by omega))
set_option maxHeartbeats 4000000 in
theorem c_58 {L : Nat} {xs : Nat → Int32} {ly : List LK} {F : Nat → Nat → Value} {G A : Nat → Nat → Int} {B : Nat → Nat → Int64} {Q : Option Value → AH → Prop} {entry : Int} {x : Nat} (hly : LyOk ly) (hF : RfOk F) (hG : GO G) (hA : AQ A) (in_entry : inR entry) (hb : F 2 2 = .ref x) (hx : x = 3 ∨ x = 61) (htk : tkO G A) (hrv : G 2 6 = 0 → G 2 7 + G 2 8 ≤ 2000) (he : 0 ≤ entry ∧ entry < 80) (K : ∀ (r : Int) (G' : Nat → Nat → Int) (A' : Nat → Nat → Int), (GO G') → (AQ A') → (∀ a k, ¬ ((a = 2 ∧ k = 0) ∨ (a = 2 ∧ k = 1) ∨ (a = 2 ∧ k = 5) ∨ (a = 2 ∧ k = 6) ∨ (a = 2 ∧ k = 7) ∨ (a = 2 ∧ k = 8) ∨ (a = 2 ∧ k = 9)) → G' a k = G a k) → (∀ a, ¬ (a = x + 6 ∨ a = x + 7) → A' a = A a) → (G' 2 6 = 0 → G' 2 7 + G' 2 8 ≤ 2000) → (0 ≤ r ∧ r ≤ 1) → Q (some (V r)) (HP ly F G' A' B)) : Re L xs 58 0 [(0, .ref 2), (1, V entry)] [] (HP ly F G A B) Q := by
  refine r_aload_n i_58_0 rfl ?_
  refine r_getF (v := .ref x) i_58_1 rfl (hly 2 _ rfl) hb ?_
  refine r_getF (v := .ref (x + 6)) i_58_4 rfl (Lx_0 hly hx) (Rx_0_3 hF hx) ?_
  refine r_iload_n i_58_7 rfl ?_
  refine r_iconst i_58_8 ?_
  refine r_iastQ i_58_9 (Lx_6 hly hx) (by omega) (by omega) (by omega) (fun A_1 eA_1 => ?_)
  have hA_1 : AQ A_1 := by rw [eA_1]; exact AUx_6 hx hA (by omega) (by omega)
  refine r_aload_n i_58_10 rfl ?_
  refine r_getF (v := .ref x) i_58_11 rfl (hly 2 _ rfl) hb ?_
  refine r_getF (v := .ref (x + 7)) i_58_14 rfl (Lx_0 hly hx) (Rx_0_4 hF hx) ?_
  refine r_iload_n i_58_17 rfl ?_
  refine r_ldc (v := 100000) i_58_18 (by decide) ?_
  refine r_iastQ i_58_20 (Lx_7 hly hx) (by omega) (by omega) (by omega) (fun A_2 eA_2 => ?_)
  have hA_2 : AQ A_2 := by rw [eA_2]; exact AUx_7 hx hA_1 (by omega) (by omega)
  have jn62 : ∀ (G62 : Nat → Nat → Int) (A62 : Nat → Nat → Int), (GO G62) → (AQ A62) → (∀ a k, ¬ ((a = 2 ∧ k = 0) ∨ (a = 2 ∧ k = 1) ∨ (a = 2 ∧ k = 5) ∨ (a = 2 ∧ k = 6) ∨ (a = 2 ∧ k = 7) ∨ (a = 2 ∧ k = 8) ∨ (a = 2 ∧ k = 9)) → G62 a k = G a k) → (∀ a, ¬ (a = x + 6) → A62 a = A_2 a) → (G62 2 6 = 0 → G62 2 7 + G62 2 8 ≤ 2000) → Re L xs 58 62 [(0, .ref 2), (1, V entry)] [] (HP ly F G62 A62 B) Q := by
    intro G62 A62 hG62 hA62 fg62 fa62 hj
    have jn99 : ∀ (G99 : Nat → Nat → Int) (A99 : Nat → Nat → Int), (GO G99) → (AQ A99) → (∀ a k, ¬ ((a = 2 ∧ k = 0) ∨ (a = 2 ∧ k = 1) ∨ (a = 2 ∧ k = 5) ∨ (a = 2 ∧ k = 6) ∨ (a = 2 ∧ k = 7) ∨ (a = 2 ∧ k = 8) ∨ (a = 2 ∧ k = 9)) → G99 a k = G62 a k) → (∀ a, ¬ (a = x + 7) → A99 a = A62 a) → (G99 2 6 = 0 → G99 2 7 + G99 2 8 ≤ 2000) → Re L xs 58 99 [(0, .ref 2), (1, V entry)] [] (HP ly F G99 A99 B) Q := by
      intro G99 A99 hG99 hA99 fg99 fa99 hj2
      refine r_aload_n i_58_99 rfl ?_
      refine r_iconst i_58_100 ?_
      refine r_cV (as := [V 2]) i_58_101 rfl (by decide +kernel) (Nat.le_of_ble_eq_true rfl) (Nat.le_of_ble_eq_true rfl) (hly 2 _ rfl) rfl ?_
      have q_3 := g_2_6 hG99
      refine c_54 (asked := 2) hly hF hG99 hA99 (by omega) (fun r_4 G_5 hG_5 fg5 p5_0 p5_1 => ?_)
      show Re L xs 58 104 [(0, .ref 2), (1, V entry)] [V r_4] (HP ly F G_5 A99 B) _
      exact r_iret i_58_104 rfl (nar_Z (by omega)) (K r_4 G_5 A99 hG_5 hA99 (by intro a k hh; rw [fg5 a k (fun h => h.elim (fun h => hh (Or.inl h)) (fun h => hh (Or.inr (Or.inl h)))), fg99 a k (fun h => h.elim (fun h => hh (Or.inl h)) (fun h => h.elim (fun h => hh (Or.inr (Or.inl h))) (fun h => h.elim (fun h => hh (Or.inr (Or.inr (Or.inl h)))) (fun h => h.elim (fun h => hh (Or.inr (Or.inr (Or.inr (Or.inl h))))) (fun h => h.elim (fun h => hh (Or.inr (Or.inr (Or.inr (Or.inr (Or.inl h)))))) (fun h => h.elim (fun h => hh (Or.inr (Or.inr (Or.inr (Or.inr (Or.inr (Or.inl h))))))) (fun h => hh (Or.inr (Or.inr (Or.inr (Or.inr (Or.inr (Or.inr h))))))))))))), fg62 a k (fun h => h.elim (fun h => hh (Or.inl h)) (fun h => h.elim (fun h => hh (Or.inr (Or.inl h))) (fun h => h.elim (fun h => hh (Or.inr (Or.inr (Or.inl h)))) (fun h => h.elim (fun h => hh (Or.inr (Or.inr (Or.inr (Or.inl h))))) (fun h => h.elim (fun h => hh (Or.inr (Or.inr (Or.inr (Or.inr (Or.inl h)))))) (fun h => h.elim (fun h => hh (Or.inr (Or.inr (Or.inr (Or.inr (Or.inr (Or.inl h))))))) (fun h => hh (Or.inr (Or.inr (Or.inr (Or.inr (Or.inr (Or.inr h)))))))))))))]) (by intro a hh; rw [fa99 a (fun h => hh (Or.inr h)), fa62 a (fun h => hh (Or.inl h)), eA_2, up2_a (fun h => hh (Or.inr h)), eA_1, up2_a (fun h => hh (Or.inl h))]) (by rw [show G_5 2 6 = G99 2 6 from by rw [fg5 2 6 (by omega)]] <;> rw [show G_5 2 7 = G99 2 7 from by rw [fg5 2 7 (by omega)]] <;> rw [show G_5 2 8 = G99 2 8 from by rw [fg5 2 8 (by omega)]] <;> omega) (by omega))
    refine r_aload_n i_58_62 rfl ?_
    refine r_ldcs (s := 3) i_58_63 (by decide) ?_
    refine r_cV (as := [.float 3]) i_58_65 rfl (by decide +kernel) (Nat.le_of_ble_eq_true rfl) (Nat.le_of_ble_eq_true rfl) (hly 2 _ rfl) rfl ?_
    have q_6 := g_2_6 hG62
    have q_7 := g_2_7 hG62
    have q_8 := g_2_8 hG62
    refine c_50 (s := 3) hly hF hG62 hA62 (by decide) (by omega) (fun r_9 p9_0 => ?_)
    show Re L xs 58 68 [(0, .ref 2), (1, V entry)] [V r_9] (HP ly F G62 A62 B) _
    refine r_eq0 (t := 99) i_58_68 (by decide) (by omega) (fun u_10 => ?_) (fun u_10 => ?_)
    · skip
      exact jn99 G62 A62 hG62 hA62 (by intro a k hh; rfl) (by intro a hh; rfl) (by omega)
    · skip
      refine r_aload_n i_58_71 rfl ?_
      refine r_ldc (v := 100000) i_58_72 (by decide) ?_
      refine r_cV (as := [V 100000]) i_58_74 rfl (by decide +kernel) (Nat.le_of_ble_eq_true rfl) (Nat.le_of_ble_eq_true rfl) (hly 2 _ rfl) rfl ?_
      refine c_55 (most := 100000) hly hF hG62 hA62 (by omega) (by exact tkO_c (by rw [fg62 22 4 (by omega)]) (by rw [fa62 23 (by omega), eA_2, up2_a (by omega), eA_1, up2_a (by omega)]) (by rw [fa62 24 (by omega), eA_2, up2_a (by omega), eA_1, up2_a (by omega)]) (by rw [fa62 25 (by omega), eA_2, up2_a (by omega), eA_1, up2_a (by omega)]) htk) (by omega) (fun r_11 G_12 hG_12 fg12 p12_0 p12_1 p12_2 => ?_)
      show Re L xs 58 77 [(0, .ref 2), (1, V entry)] [V r_11] (HP ly F G_12 A62 B) _
      refine r_ne0 (t := 82) i_58_77 (by decide) (by omega) (fun u_13 => ?_) (fun u_13 => ?_)
      · skip
        refine r_aload_n i_58_82 rfl ?_
        refine r_getF (v := .ref x) i_58_83 rfl (hly 2 _ rfl) hb ?_
        refine r_getF (v := .ref (x + 7)) i_58_86 rfl (Lx_0 hly hx) (Rx_0_4 hF hx) ?_
        refine r_iload_n i_58_89 rfl ?_
        refine r_aload_n i_58_90 rfl ?_
        refine r_getI i_58_91 rfl (hly 2 _ rfl) ?_
        have q_14 := g_2_9 hG_12
        refine r_iastQ i_58_94 (Lx_7 hly hx) (by omega) (by omega) (by omega) (fun A_15 eA_15 => ?_)
        have hA_15 : AQ A_15 := by rw [eA_15]; exact AUx_7 hx hA62 (by omega) (by omega)
        refine r_aload_n i_58_95 rfl ?_
        refine r_cV (as := []) i_58_96 rfl (by decide +kernel) (Nat.le_of_ble_eq_true rfl) (Nat.le_of_ble_eq_true rfl) (hly 2 _ rfl) rfl ?_
        have q_16 := g_2_6 hG_12
        have q_17 := g_2_7 hG_12
        have q_18 := g_2_8 hG_12
        refine c_48  hly hF hG_12 hA_15 (by exact tkO_c (by rw [fg12 22 4 (by omega), fg62 22 4 (by omega)]) (by rw [eA_15, up2_a (by omega), fa62 23 (by omega), eA_2, up2_a (by omega), eA_1, up2_a (by omega)]) (by rw [eA_15, up2_a (by omega), fa62 24 (by omega), eA_2, up2_a (by omega), eA_1, up2_a (by omega)]) (by rw [eA_15, up2_a (by omega), fa62 25 (by omega), eA_2, up2_a (by omega), eA_1, up2_a (by omega)]) htk) (by omega) (fun G_19 hG_19 fg19 p19_0 => ?_)
        show Re L xs 58 99 [(0, .ref 2), (1, V entry)] [] (HP ly F G_19 A_15 B) _
        exact jn99 G_19 A_15 hG_19 hA_15 (by intro a k hh; rw [fg19 a k (fun h => h.elim (fun h => hh (Or.inr (Or.inr (Or.inl h)))) (fun h => h.elim (fun h => hh (Or.inr (Or.inr (Or.inr (Or.inl h))))) (fun h => h.elim (fun h => hh (Or.inr (Or.inr (Or.inr (Or.inr (Or.inl h)))))) (fun h => h.elim (fun h => hh (Or.inr (Or.inr (Or.inr (Or.inr (Or.inr (Or.inl h))))))) (fun h => hh (Or.inr (Or.inr (Or.inr (Or.inr (Or.inr (Or.inr h))))))))))), fg12 a k (fun h => h.elim (fun h => hh (Or.inl h)) (fun h => h.elim (fun h => hh (Or.inr (Or.inl h))) (fun h => h.elim (fun h => hh (Or.inr (Or.inr (Or.inl h)))) (fun h => h.elim (fun h => hh (Or.inr (Or.inr (Or.inr (Or.inl h))))) (fun h => h.elim (fun h => hh (Or.inr (Or.inr (Or.inr (Or.inr (Or.inl h)))))) (fun h => h.elim (fun h => hh (Or.inr (Or.inr (Or.inr (Or.inr (Or.inr (Or.inl h))))))) (fun h => hh (Or.inr (Or.inr (Or.inr (Or.inr (Or.inr (Or.inr h)))))))))))))]) (by intro a hh; rw [eA_15, up2_a (fun h => hh h)]) (by omega)
      · skip
        refine r_iconst i_58_80 ?_
        exact r_iret i_58_81 rfl (nar_Z (by omega)) (K 0 G_12 A62 hG_12 hA62 (by intro a k hh; rw [fg12 a k (fun h => h.elim (fun h => hh (Or.inl h)) (fun h => h.elim (fun h => hh (Or.inr (Or.inl h))) (fun h => h.elim (fun h => hh (Or.inr (Or.inr (Or.inl h)))) (fun h => h.elim (fun h => hh (Or.inr (Or.inr (Or.inr (Or.inl h))))) (fun h => h.elim (fun h => hh (Or.inr (Or.inr (Or.inr (Or.inr (Or.inl h)))))) (fun h => h.elim (fun h => hh (Or.inr (Or.inr (Or.inr (Or.inr (Or.inr (Or.inl h))))))) (fun h => hh (Or.inr (Or.inr (Or.inr (Or.inr (Or.inr (Or.inr h))))))))))))), fg62 a k (fun h => h.elim (fun h => hh (Or.inl h)) (fun h => h.elim (fun h => hh (Or.inr (Or.inl h))) (fun h => h.elim (fun h => hh (Or.inr (Or.inr (Or.inl h)))) (fun h => h.elim (fun h => hh (Or.inr (Or.inr (Or.inr (Or.inl h))))) (fun h => h.elim (fun h => hh (Or.inr (Or.inr (Or.inr (Or.inr (Or.inl h)))))) (fun h => h.elim (fun h => hh (Or.inr (Or.inr (Or.inr (Or.inr (Or.inr (Or.inl h))))))) (fun h => hh (Or.inr (Or.inr (Or.inr (Or.inr (Or.inr (Or.inr h)))))))))))))]) (by intro a hh; rw [fa62 a (fun h => hh (Or.inl h)), eA_2, up2_a (fun h => hh (Or.inr h)), eA_1, up2_a (fun h => hh (Or.inl h))]) (by omega) (by omega))
  refine r_aload_n i_58_21 rfl ?_
  refine r_cV (as := []) i_58_22 rfl (by decide +kernel) (Nat.le_of_ble_eq_true rfl) (Nat.le_of_ble_eq_true rfl) (hly 2 _ rfl) rfl ?_
  have q_20 := g_2_6 hG
  have q_21 := g_2_7 hG
  have q_22 := g_2_8 hG
  refine c_48  hly hF hG hA_2 (by exact tkO_c (by rfl) (by rw [eA_2, up2_a (by omega), eA_1, up2_a (by omega)]) (by rw [eA_2, up2_a (by omega), eA_1, up2_a (by omega)]) (by rw [eA_2, up2_a (by omega), eA_1, up2_a (by omega)]) htk) (by omega) (fun G_23 hG_23 fg23 p23_0 => ?_)
  show Re L xs 58 25 [(0, .ref 2), (1, V entry)] [] (HP ly F G_23 A_2 B) _
  refine r_aload_n i_58_25 rfl ?_
  refine r_ldcs (s := 2) i_58_26 (by decide) ?_
  refine r_cV (as := [.float 2]) i_58_28 rfl (by decide +kernel) (Nat.le_of_ble_eq_true rfl) (Nat.le_of_ble_eq_true rfl) (hly 2 _ rfl) rfl ?_
  have q_24 := g_2_6 hG_23
  have q_25 := g_2_7 hG_23
  have q_26 := g_2_8 hG_23
  refine c_50 (s := 2) hly hF hG_23 hA_2 (by decide) (by omega) (fun r_27 p27_0 => ?_)
  show Re L xs 58 31 [(0, .ref 2), (1, V entry)] [V r_27] (HP ly F G_23 A_2 B) _
  refine r_eq0 (t := 62) i_58_31 (by decide) (by omega) (fun u_28 => ?_) (fun u_28 => ?_)
  · skip
    exact jn62 G_23 A_2 hG_23 hA_2 (by intro a k hh; rw [fg23 a k (fun h => h.elim (fun h => hh (Or.inr (Or.inr (Or.inl h)))) (fun h => h.elim (fun h => hh (Or.inr (Or.inr (Or.inr (Or.inl h))))) (fun h => h.elim (fun h => hh (Or.inr (Or.inr (Or.inr (Or.inr (Or.inl h)))))) (fun h => h.elim (fun h => hh (Or.inr (Or.inr (Or.inr (Or.inr (Or.inr (Or.inl h))))))) (fun h => hh (Or.inr (Or.inr (Or.inr (Or.inr (Or.inr (Or.inr h)))))))))))]) (by intro a hh; rfl) (by omega)
  · skip
    refine r_aload_n i_58_34 rfl ?_
    refine r_ldc (v := 100000) i_58_35 (by decide) ?_
    refine r_cV (as := [V 100000]) i_58_37 rfl (by decide +kernel) (Nat.le_of_ble_eq_true rfl) (Nat.le_of_ble_eq_true rfl) (hly 2 _ rfl) rfl ?_
    refine c_55 (most := 100000) hly hF hG_23 hA_2 (by omega) (by exact tkO_c (by rw [fg23 22 4 (by omega)]) (by rw [eA_2, up2_a (by omega), eA_1, up2_a (by omega)]) (by rw [eA_2, up2_a (by omega), eA_1, up2_a (by omega)]) (by rw [eA_2, up2_a (by omega), eA_1, up2_a (by omega)]) htk) (by omega) (fun r_29 G_30 hG_30 fg30 p30_0 p30_1 p30_2 => ?_)
    show Re L xs 58 40 [(0, .ref 2), (1, V entry)] [V r_29] (HP ly F G_30 A_2 B) _
    refine r_ne0 (t := 45) i_58_40 (by decide) (by omega) (fun u_31 => ?_) (fun u_31 => ?_)
    · skip
      refine r_aload_n i_58_45 rfl ?_
      refine r_getF (v := .ref x) i_58_46 rfl (hly 2 _ rfl) hb ?_
      refine r_getF (v := .ref (x + 6)) i_58_49 rfl (Lx_0 hly hx) (Rx_0_3 hF hx) ?_
      refine r_iload_n i_58_52 rfl ?_
      refine r_aload_n i_58_53 rfl ?_
      refine r_getI i_58_54 rfl (hly 2 _ rfl) ?_
      have q_32 := g_2_9 hG_30
      refine r_iastQ i_58_57 (Lx_6 hly hx) (by omega) (by omega) (by omega) (fun A_33 eA_33 => ?_)
      have hA_33 : AQ A_33 := by rw [eA_33]; exact AUx_6 hx hA_2 (by omega) (by omega)
      refine r_aload_n i_58_58 rfl ?_
      refine r_cV (as := []) i_58_59 rfl (by decide +kernel) (Nat.le_of_ble_eq_true rfl) (Nat.le_of_ble_eq_true rfl) (hly 2 _ rfl) rfl ?_
      have q_34 := g_2_6 hG_30
      have q_35 := g_2_7 hG_30
      have q_36 := g_2_8 hG_30
      refine c_48  hly hF hG_30 hA_33 (by exact tkO_c (by rw [fg30 22 4 (by omega), fg23 22 4 (by omega)]) (by rw [eA_33, up2_a (by omega), eA_2, up2_a (by omega), eA_1, up2_a (by omega)]) (by rw [eA_33, up2_a (by omega), eA_2, up2_a (by omega), eA_1, up2_a (by omega)]) (by rw [eA_33, up2_a (by omega), eA_2, up2_a (by omega), eA_1, up2_a (by omega)]) htk) (by omega) (fun G_37 hG_37 fg37 p37_0 => ?_)
      show Re L xs 58 62 [(0, .ref 2), (1, V entry)] [] (HP ly F G_37 A_33 B) _
      exact jn62 G_37 A_33 hG_37 hA_33 (by intro a k hh; rw [fg37 a k (fun h => h.elim (fun h => hh (Or.inr (Or.inr (Or.inl h)))) (fun h => h.elim (fun h => hh (Or.inr (Or.inr (Or.inr (Or.inl h))))) (fun h => h.elim (fun h => hh (Or.inr (Or.inr (Or.inr (Or.inr (Or.inl h)))))) (fun h => h.elim (fun h => hh (Or.inr (Or.inr (Or.inr (Or.inr (Or.inr (Or.inl h))))))) (fun h => hh (Or.inr (Or.inr (Or.inr (Or.inr (Or.inr (Or.inr h))))))))))), fg30 a k (fun h => h.elim (fun h => hh (Or.inl h)) (fun h => h.elim (fun h => hh (Or.inr (Or.inl h))) (fun h => h.elim (fun h => hh (Or.inr (Or.inr (Or.inl h)))) (fun h => h.elim (fun h => hh (Or.inr (Or.inr (Or.inr (Or.inl h))))) (fun h => h.elim (fun h => hh (Or.inr (Or.inr (Or.inr (Or.inr (Or.inl h)))))) (fun h => h.elim (fun h => hh (Or.inr (Or.inr (Or.inr (Or.inr (Or.inr (Or.inl h))))))) (fun h => hh (Or.inr (Or.inr (Or.inr (Or.inr (Or.inr (Or.inr h))))))))))))), fg23 a k (fun h => h.elim (fun h => hh (Or.inr (Or.inr (Or.inl h)))) (fun h => h.elim (fun h => hh (Or.inr (Or.inr (Or.inr (Or.inl h))))) (fun h => h.elim (fun h => hh (Or.inr (Or.inr (Or.inr (Or.inr (Or.inl h)))))) (fun h => h.elim (fun h => hh (Or.inr (Or.inr (Or.inr (Or.inr (Or.inr (Or.inl h))))))) (fun h => hh (Or.inr (Or.inr (Or.inr (Or.inr (Or.inr (Or.inr h)))))))))))]) (by intro a hh; rw [eA_33, up2_a (fun h => hh h)]) (by omega)
    · skip
      refine r_iconst i_58_43 ?_
      exact r_iret i_58_44 rfl (nar_Z (by omega)) (K 0 G_30 A_2 hG_30 hA_2 (by intro a k hh; rw [fg30 a k (fun h => h.elim (fun h => hh (Or.inl h)) (fun h => h.elim (fun h => hh (Or.inr (Or.inl h))) (fun h => h.elim (fun h => hh (Or.inr (Or.inr (Or.inl h)))) (fun h => h.elim (fun h => hh (Or.inr (Or.inr (Or.inr (Or.inl h))))) (fun h => h.elim (fun h => hh (Or.inr (Or.inr (Or.inr (Or.inr (Or.inl h)))))) (fun h => h.elim (fun h => hh (Or.inr (Or.inr (Or.inr (Or.inr (Or.inr (Or.inl h))))))) (fun h => hh (Or.inr (Or.inr (Or.inr (Or.inr (Or.inr (Or.inr h))))))))))))), fg23 a k (fun h => h.elim (fun h => hh (Or.inr (Or.inr (Or.inl h)))) (fun h => h.elim (fun h => hh (Or.inr (Or.inr (Or.inr (Or.inl h))))) (fun h => h.elim (fun h => hh (Or.inr (Or.inr (Or.inr (Or.inr (Or.inl h)))))) (fun h => h.elim (fun h => hh (Or.inr (Or.inr (Or.inr (Or.inr (Or.inr (Or.inl h))))))) (fun h => hh (Or.inr (Or.inr (Or.inr (Or.inr (Or.inr (Or.inr h)))))))))))]) (by intro a hh; rw [eA_2, up2_a (fun h => hh (Or.inr h)), eA_1, up2_a (fun h => hh (Or.inl h))]) (by omega) (by omega))
