section BK
variable {A A' : Nat → Nat → Int} {b b2 : Nat}
theorem bkE_s (x98 : A' 98 = A 98) (x99 : A' 99 = A 99) (x107 : A' 107 = A 107) (x103 : A' 103 = A 103) (x104 : A' 104 = A 104) (x106 : A' 106 = A 106) (x108 : A' 108 = A 108) (x111 : A' 111 = A 111) (x112 : A' 112 = A 112) : bkE A A' b := by
  refine ⟨⟨by rw [x107], by rw [x108], by rw [x111], by rw [x112]⟩, fun j hj => ⟨by rw [x98], by rw [x99]⟩, fun j hj => ⟨by rw [x103], by rw [x104]⟩, fun j hj => by rw [x106]⟩
theorem bkV_e {w r1 r2 c : Int} (hw : w = 20 * (b : Int) + c) (hc : c = A 108 b) (h0 : 0 ≤ c) (h7 : r1 ≤ 7) (h99 : r2 ≤ 99) (x98 : A' 98 = A 98) (x99 : A' 99 = A 99) (x107 : A' 107 = A 107) (x103 : A' 103 = fun i => if i = w.toNat then r1 else A 103 i) (x104 : A' 104 = fun i => if i = w.toNat then r2 else A 104 i) (x106 : A' 106 = A 106) (x108 : A' 108 = fun i => if i = b then c + 1 else A 108 i) (x111 : A' 111 = A 111) (x112 : A' 112 = A 112) (h : bkV A b) : bkV A' b := by
  obtain ⟨g1, g2, g3, g4, g5⟩ := h
  refine ⟨by rw [x107, x98, x99]; exact g1, fun j hj => ?_, by rw [x106]; exact g3, by rw [x111]; exact g4, by rw [x112]; exact g5⟩
  rw [x108] at hj
  rw [x103, x104]
  dsimp only at hj ⊢
  rw [if_pos rfl] at hj
  by_cases e : 20 * b + j = w.toNat
  · rw [if_pos e, if_pos e]
    exact ⟨h7, h99⟩
  · rw [if_neg e, if_neg e]
    exact g2 j (by omega)
theorem bkE_e {w r1 r2 c : Int} (hb : b2 ≤ 1) (hbb : b ≤ 1) (hn : ¬ b2 = b) (hw : w = 20 * (b : Int) + c) (h0 : 0 ≤ c ∧ c < 20) (x98 : A' 98 = A 98) (x99 : A' 99 = A 99) (x107 : A' 107 = A 107) (x103 : A' 103 = fun i => if i = w.toNat then r1 else A 103 i) (x104 : A' 104 = fun i => if i = w.toNat then r2 else A 104 i) (x106 : A' 106 = A 106) (x108 : A' 108 = fun i => if i = b then c + 1 else A 108 i) (x111 : A' 111 = A 111) (x112 : A' 112 = A 112) : bkE A A' b2 := by
  refine ⟨⟨by rw [x107], ?_, by rw [x111], by rw [x112]⟩, fun j hj => ⟨by rw [x98], by rw [x99]⟩, fun j hj => ?_, fun j hj => by rw [x106]⟩
  · rw [x108]
    exact if_neg hn
  · rw [x103, x104]
    exact ⟨if_neg (by omega), if_neg (by omega)⟩
theorem bkV_p {w r1 : Int} (h99 : r1 ≤ 99) (h0 : 0 ≤ w) (x98 : A' 98 = A 98) (x99 : A' 99 = A 99) (x107 : A' 107 = A 107) (x103 : A' 103 = A 103) (x104 : A' 104 = A 104) (x106 : A' 106 = fun i => if i = w.toNat then r1 else A 106 i) (x108 : A' 108 = A 108) (x111 : A' 111 = A 111) (x112 : A' 112 = A 112) (h : bkV A b) : bkV A' b := by
  obtain ⟨g1, g2, g3, g4, g5⟩ := h
  refine ⟨by rw [x107, x98, x99]; exact g1, by rw [x108, x103, x104]; exact g2, fun j hj => ?_, by rw [x111]; exact g4, by rw [x112]; exact g5⟩
  rw [x106]
  dsimp only
  by_cases e : 64 * b + j = w.toNat
  · rw [if_pos e]
    exact h99
  · rw [if_neg e]
    exact g3 j hj
theorem bkE_p {w r1 : Int} (hb : b2 ≤ 1) (hbb : b ≤ 1) (hn : ¬ b2 = b) (h0 : 64 * (b : Int) ≤ w ∧ w < 64 * (b : Int) + 64) (x98 : A' 98 = A 98) (x99 : A' 99 = A 99) (x107 : A' 107 = A 107) (x103 : A' 103 = A 103) (x104 : A' 104 = A 104) (x106 : A' 106 = fun i => if i = w.toNat then r1 else A 106 i) (x108 : A' 108 = A 108) (x111 : A' 111 = A 111) (x112 : A' 112 = A 112) : bkE A A' b2 := by
  refine ⟨⟨by rw [x107], by rw [x108], by rw [x111], by rw [x112]⟩, fun j hj => ⟨by rw [x98], by rw [x99]⟩, fun j hj => ⟨by rw [x103], by rw [x104]⟩, fun j hj => ?_⟩
  rw [x106]
  exact if_neg (by omega)
theorem bkV_b {r1 r2 : Int} (h7 : r1 ≤ 7) (h99 : r2 ≤ 99) (x98 : A' 98 = A 98) (x99 : A' 99 = A 99) (x107 : A' 107 = A 107) (x103 : A' 103 = A 103) (x104 : A' 104 = A 104) (x106 : A' 106 = A 106) (x108 : A' 108 = A 108) (x111 : A' 111 = fun i => if i = b then r1 else A 111 i) (x112 : A' 112 = fun i => if i = b then r2 else A 112 i) (h : bkV A b) : bkV A' b := by
  obtain ⟨g1, g2, g3, g4, g5⟩ := h
  refine ⟨by rw [x107, x98, x99]; exact g1, by rw [x108, x103, x104]; exact g2, by rw [x106]; exact g3, ?_, ?_⟩
  · rw [x111]
    dsimp only
    rw [if_pos rfl]
    exact h7
  · rw [x112]
    dsimp only
    rw [if_pos rfl]
    exact h99
theorem bkE_b {r1 r2 : Int} (hn : ¬ b2 = b) (x98 : A' 98 = A 98) (x99 : A' 99 = A 99) (x107 : A' 107 = A 107) (x103 : A' 103 = A 103) (x104 : A' 104 = A 104) (x106 : A' 106 = A 106) (x108 : A' 108 = A 108) (x111 : A' 111 = fun i => if i = b then r1 else A 111 i) (x112 : A' 112 = fun i => if i = b then r2 else A 112 i) : bkE A A' b2 := by
  refine ⟨⟨by rw [x107], by rw [x108], ?_, ?_⟩, fun j hj => ⟨by rw [x98], by rw [x99]⟩, fun j hj => ⟨by rw [x103], by rw [x104]⟩, fun j hj => by rw [x106]⟩
  · rw [x111]
    exact if_neg hn
  · rw [x112]
    exact if_neg hn
end BK

set_option maxHeartbeats 4000000 in
theorem c_151 {L : Nat} {xs : Nat → Int32} {ly : List LK} {F : Nat → Nat → Value} {G A : Nat → Nat → Int} {B : Nat → Nat → Int64} {Q : Option Value → AH → Prop}  (hly : LyOk ly) (hF : RfOk F) (hG : GO G) (hA : AQ A) (ht : G 90 6 ≤ G 90 7 ∧ G 90 7 ≤ G 90 3 ∧ (G 90 8 = 2 → G 90 7 - G 90 6 ≤ 12)) (hw : A 108 (G 90 33).toNat < 20) (K : ∀ (F' : Nat → Nat → Value) (G' : Nat → Nat → Int) (A' : Nat → Nat → Int), (RfOk F') → (GO G') → (AQ A') → (∀ a k, ¬ ((a = 90 ∧ k = 10)) → F' a k = F a k) → (∀ a k, ¬ ((a = 90 ∧ k = 4) ∨ (a = 90 ∧ k = 5) ∨ (a = 90 ∧ k = 6) ∨ (a = 90 ∧ k = 7) ∨ (a = 90 ∧ k = 8) ∨ (a = 90 ∧ k = 9)) → G' a k = G a k) → (∀ a, ¬ (a = 94 ∨ a = 95 ∨ a = 102 ∨ a = 103 ∨ a = 104 ∨ a = 108) → A' a = A a) → (G' 90 6 ≤ G' 90 7 ∧ G' 90 7 ≤ G 90 3 ∧ (G' 90 8 = 2 → G' 90 7 - G' 90 6 ≤ 12)) → (G 90 6 ≤ G' 90 6) → ((G 90 4 ≠ 0 → G' 90 4 ≠ 0)) → (G' 90 4 = 0 → bkV A (G 90 33).toNat → bkV A' (G 90 33).toNat) → (∀ b, b ≤ 1 → ¬ b = (G 90 33).toNat → bkE A A' b) → Q none (HP ly F' G' A' B)) : Re L xs 151 0 [(0, .ref 90)] [] (HP ly F G A B) Q := by
  have z33 := g_90_33 hG
  have zw := a_108 hA (G 90 33).toNat
  refine r_aload_n i_151_0 rfl ?_
  refine r_cV (as := []) i_151_1 rfl (by decide +kernel) (Nat.le_of_ble_eq_true rfl) (Nat.le_of_ble_eq_true rfl) (hly 90 _ rfl) rfl ?_
  have q_1 := g_90_8 hG
  have q_2 := g_90_4 hG
  refine c_146  hly hF hG hA  (fun G_3 hG_3 fg3 p3_0 p3_1 => ?_)
  show Re L xs 151 4 [(0, .ref 90)] [] (HP ly F G_3 A B) _
  refine r_aload_n i_151_4 rfl ?_
  refine r_cV (as := []) i_151_5 rfl (by decide +kernel) (Nat.le_of_ble_eq_true rfl) (Nat.le_of_ble_eq_true rfl) (hly 90 _ rfl) rfl ?_
  have q_4 := g_90_4 hG_3
  refine c_140  hly hF hG_3 hA  (fun r_5 p5_0 p5_1 => ?_)
  show Re L xs 151 8 [(0, .ref 90)] [V r_5] (HP ly F G_3 A B) _
  refine r_ne0 (t := 12) i_151_8 (by decide) (by omega) (fun c_6 => ?_) (fun c_6 => ?_)
  · skip
    refine r_bipush i_151_12 (by decide) ?_
    refine r_aload_n i_151_14 rfl ?_
    refine r_getI i_151_15 rfl (hly 90 _ rfl) ?_
    rw [show G_3 90 33 = G 90 33 from by rw [fg3 90 33 (by omega)]]
    have q_7 := g_90_33 hG
    refine r_imul i_151_18 ?_
    refine r_aload_n i_151_19 rfl ?_
    refine r_getF (v := .ref 108) i_151_20 rfl (hly 90 _ rfl) (hF.1 90 26 108 rfl) ?_
    refine r_aload_n i_151_23 rfl ?_
    refine r_getI i_151_24 rfl (hly 90 _ rfl) ?_
    rw [show G_3 90 33 = G 90 33 from by rw [fg3 90 33 (by omega)]]
    refine r_iald i_151_27 (hly 108 _ rfl) (by omega) (by omega) (by omega) ?_
    have q_8 := a_108 hA ((G 90 33).toNat)
    refine r_iadd i_151_28 ?_
    refine r_istore_n (l' := [(0, .ref 90), (1, V ((20 * (G 90 33)) + (A 108 ((G 90 33).toNat))))]) i_151_29 (by decide +kernel) rfl ?_
    refine r_aload_n i_151_30 rfl ?_
    refine r_getF (v := .ref 102) i_151_31 rfl (hly 90 _ rfl) (hF.1 90 20 102 rfl) ?_
    refine r_iload_n i_151_34 rfl ?_
    refine r_aload_n i_151_35 rfl ?_
    refine r_aload_n i_151_36 rfl ?_
    refine r_getF (v := .ref 94) i_151_37 rfl (hly 90 _ rfl) (hF.1 90 12 94 rfl) ?_
    refine r_iload_n i_151_40 rfl ?_
    refine r_cV (as := [V ((20 * (G 90 33)) + (A 108 ((G 90 33).toNat))), .ref 94]) i_151_41 rfl (by decide +kernel) (Nat.le_of_ble_eq_true rfl) (Nat.le_of_ble_eq_true rfl) (hly 90 _ rfl) rfl ?_
    have w_9 : G_3 90 6 = G 90 6 := by rw [fg3 90 6 (by omega)]
    have q_10 := g_90_6 hG
    have w_11 : G_3 90 7 = G 90 7 := by rw [fg3 90 7 (by omega)]
    have q_12 := g_90_7 hG
    have w_13 : G_3 90 3 = G 90 3 := by rw [fg3 90 3 (by omega)]
    have q_14 := g_90_3 hG
    have w_15 : G_3 90 8 = G 90 8 := by rw [fg3 90 8 (by omega)]
    refine c_147 (row := 94) (spot := (20 * (G 90 33)) + (A 108 ((G 90 33).toNat))) (cap := 480) hly hF hG_3 hA (by omega) (by omega) (by omega) (by omega) (by omega) (fun r_16 F_17 G_18 A_19 hF_17 hG_18 hA_19 ff19 fg19 fa19 p19_0 p19_1 p19_2 p19_3 => ?_)
    show Re L xs 151 44 [(0, .ref 90), (1, V ((20 * (G 90 33)) + (A 108 ((G 90 33).toNat))))] [V r_16, V ((20 * (G 90 33)) + (A 108 ((G 90 33).toNat))), .ref 102] (HP ly F_17 G_18 A_19 B) _
    refine r_iastQ i_151_44 (hly 102 _ rfl) (by omega) (by omega) (by omega) (fun A_20 eA_20 => ?_)
    have hA_20 : AQ A_20 := by rw [eA_20]; exact au_102 hA_19 (by omega) (by omega)
    refine r_aload_n i_151_45 rfl ?_
    refine r_cV (as := []) i_151_46 rfl (by decide +kernel) (Nat.le_of_ble_eq_true rfl) (Nat.le_of_ble_eq_true rfl) (hly 90 _ rfl) rfl ?_
    have q_21 := g_90_8 hG_18
    have w_22 : G_18 90 4 = G_3 90 4 := by rw [fg19 90 4 (by omega)]
    refine c_146  hly hF_17 hG_18 hA_20  (fun G_23 hG_23 fg23 p23_0 p23_1 => ?_)
    show Re L xs 151 49 [(0, .ref 90), (1, V ((20 * (G 90 33)) + (A 108 ((G 90 33).toNat))))] [] (HP ly F_17 G_23 A_20 B) _
    refine r_aload_n i_151_49 rfl ?_
    refine r_cV (as := []) i_151_50 rfl (by decide +kernel) (Nat.le_of_ble_eq_true rfl) (Nat.le_of_ble_eq_true rfl) (hly 90 _ rfl) rfl ?_
    have q_24 := g_90_4 hG_23
    refine c_140  hly hF_17 hG_23 hA_20  (fun r_25 p25_0 p25_1 => ?_)
    show Re L xs 151 53 [(0, .ref 90), (1, V ((20 * (G 90 33)) + (A 108 ((G 90 33).toNat))))] [V r_25] (HP ly F_17 G_23 A_20 B) _
    refine r_ne0 (t := 57) i_151_53 (by decide) (by omega) (fun c_26 => ?_) (fun c_26 => ?_)
    · skip
      refine r_aload_n i_151_57 rfl ?_
      refine r_getI i_151_58 rfl (hly 90 _ rfl) ?_
      rw [show G_23 90 6 = G_18 90 6 from by rw [fg23 90 6 (by omega)]]
      have q_27 := g_90_6 hG_18
      refine r_istore_n (l' := [(0, .ref 90), (1, V ((20 * (G 90 33)) + (A 108 ((G 90 33).toNat)))), (2, V (G_18 90 6))]) i_151_61 (by decide +kernel) rfl ?_
      refine r_aload_n i_151_62 rfl ?_
      refine r_aload_n i_151_63 rfl ?_
      refine r_getF (v := .ref 95) i_151_64 rfl (hly 90 _ rfl) (hF_17.1 90 13 95 rfl) ?_
      refine r_iload_n i_151_67 rfl ?_
      refine r_cV (as := [V ((20 * (G 90 33)) + (A 108 ((G 90 33).toNat))), .ref 95]) i_151_68 rfl (by decide +kernel) (Nat.le_of_ble_eq_true rfl) (Nat.le_of_ble_eq_true rfl) (hly 90 _ rfl) rfl ?_
      have w_28 : G_23 90 6 = G_18 90 6 := by rw [fg23 90 6 (by omega)]
      have w_29 : G_23 90 7 = G_18 90 7 := by rw [fg23 90 7 (by omega)]
      have q_30 := g_90_7 hG_18
      have w_31 : G_23 90 3 = G 90 3 := by rw [fg23 90 3 (by omega), fg19 90 3 (by omega), fg3 90 3 (by omega)]
      have w_32 : G_23 90 8 = G_18 90 8 := by rw [fg23 90 8 (by omega)]
      refine c_147 (row := 95) (spot := (20 * (G 90 33)) + (A 108 ((G 90 33).toNat))) (cap := 480) hly hF_17 hG_23 hA_20 (by omega) (by omega) (by omega) (by omega) (by omega) (fun r_33 F_34 G_35 A_36 hF_34 hG_35 hA_36 ff36 fg36 fa36 p36_0 p36_1 p36_2 p36_3 => ?_)
      show Re L xs 151 71 [(0, .ref 90), (1, V ((20 * (G 90 33)) + (A 108 ((G 90 33).toNat)))), (2, V (G_18 90 6))] [V r_33] (HP ly F_34 G_35 A_36 B) _
      refine r_istore_n (l' := [(0, .ref 90), (1, V ((20 * (G 90 33)) + (A 108 ((G 90 33).toNat)))), (2, V (G_18 90 6)), (3, V r_33)]) i_151_71 (by decide +kernel) rfl ?_
      have jn106 : ∀ (G106 : Nat → Nat → Int), (GO G106) → (∀ a k, ¬ ((a = 90 ∧ k = 4) ∨ (a = 90 ∧ k = 5)) → G106 a k = G_35 a k) → (G106 90 4 = 0 → G_23 90 4 = 0) → Re L xs 151 106 [(0, .ref 90), (1, V ((20 * (G 90 33)) + (A 108 ((G 90 33).toNat)))), (2, V (G_18 90 6)), (3, V r_33)] [] (HP ly F_34 G106 A_36 B) Q := by
        intro G106 hG106 fg106 hj
        refine r_aload_n i_151_106 rfl ?_
        refine r_getF (v := .ref 103) i_151_107 rfl (hly 90 _ rfl) (hF_34.1 90 21 103 rfl) ?_
        refine r_iload_n i_151_110 rfl ?_
        refine r_aload_n i_151_111 rfl ?_
        refine r_bipush i_151_112 (by decide) ?_
        refine r_cV (as := [V 7]) i_151_114 rfl (by decide +kernel) (Nat.le_of_ble_eq_true rfl) (Nat.le_of_ble_eq_true rfl) (hly 90 _ rfl) rfl ?_
        have w_37 : G106 90 6 = G_35 90 6 := by rw [fg106 90 6 (by omega)]
        have q_38 := g_90_6 hG_35
        have w_39 : G106 90 7 = G_35 90 7 := by rw [fg106 90 7 (by omega)]
        have q_40 := g_90_7 hG_35
        have w_41 : G106 90 3 = G 90 3 := by rw [fg106 90 3 (by omega), fg36 90 3 (by omega), fg23 90 3 (by omega), fg19 90 3 (by omega), fg3 90 3 (by omega)]
        have w_42 : G106 90 8 = G_35 90 8 := by rw [fg106 90 8 (by omega)]
        have q_43 := g_90_8 hG_35
        have q_44 := g_90_4 hG106
        refine c_148 (most := 7) hly hF_34 hG106 hA_36 (by omega) (by omega) (fun r_45 F_46 G_47 hF_46 hG_47 ff47 fg47 p47_0 p47_1 p47_2 p47_3 p47_4 => ?_)
        show Re L xs 151 117 [(0, .ref 90), (1, V ((20 * (G 90 33)) + (A 108 ((G 90 33).toNat)))), (2, V (G_18 90 6)), (3, V r_33)] [V r_45, V ((20 * (G 90 33)) + (A 108 ((G 90 33).toNat))), .ref 103] (HP ly F_46 G_47 A_36 B) _
        refine r_iastQ i_151_117 (hly 103 _ rfl) (by omega) (by omega) (by omega) (fun A_48 eA_48 => ?_)
        have hA_48 : AQ A_48 := by rw [eA_48]; exact au_103 hA_36 (by omega) (by omega)
        refine r_aload_n i_151_118 rfl ?_
        refine r_getF (v := .ref 104) i_151_119 rfl (hly 90 _ rfl) (hF_46.1 90 22 104 rfl) ?_
        refine r_iload_n i_151_122 rfl ?_
        refine r_aload_n i_151_123 rfl ?_
        refine r_bipush i_151_124 (by decide) ?_
        refine r_cV (as := [V 99]) i_151_126 rfl (by decide +kernel) (Nat.le_of_ble_eq_true rfl) (Nat.le_of_ble_eq_true rfl) (hly 90 _ rfl) rfl ?_
        have q_49 := g_90_6 hG_47
        have q_50 := g_90_7 hG_47
        have w_51 : G_47 90 3 = G 90 3 := by rw [fg47 90 3 (by omega), fg106 90 3 (by omega), fg36 90 3 (by omega), fg23 90 3 (by omega), fg19 90 3 (by omega), fg3 90 3 (by omega)]
        have q_52 := g_90_8 hG_47
        have q_53 := g_90_4 hG_47
        refine c_148 (most := 99) hly hF_46 hG_47 hA_48 (by omega) (by omega) (fun r_54 F_55 G_56 hF_55 hG_56 ff56 fg56 p56_0 p56_1 p56_2 p56_3 p56_4 => ?_)
        show Re L xs 151 129 [(0, .ref 90), (1, V ((20 * (G 90 33)) + (A 108 ((G 90 33).toNat)))), (2, V (G_18 90 6)), (3, V r_33)] [V r_54, V ((20 * (G 90 33)) + (A 108 ((G 90 33).toNat))), .ref 104] (HP ly F_55 G_56 A_48 B) _
        refine r_iastQ i_151_129 (hly 104 _ rfl) (by omega) (by omega) (by omega) (fun A_57 eA_57 => ?_)
        have hA_57 : AQ A_57 := by rw [eA_57]; exact au_104 hA_48 (by omega) (by omega)
        refine r_aload_n i_151_130 rfl ?_
        refine r_getF (v := .ref 108) i_151_131 rfl (hly 90 _ rfl) (hF_55.1 90 26 108 rfl) ?_
        refine r_aload_n i_151_134 rfl ?_
        refine r_getI i_151_135 rfl (hly 90 _ rfl) ?_
        rw [show G_56 90 33 = G 90 33 from by rw [fg56 90 33 (by omega), fg47 90 33 (by omega), fg106 90 33 (by omega), fg36 90 33 (by omega), fg23 90 33 (by omega), fg19 90 33 (by omega), fg3 90 33 (by omega)]]
        refine re_nx i_151_138 rfl ?_
        refine r_iald i_151_139 (hly 108 _ rfl) (by omega) (by omega) (by omega) ?_
        rw [show A_57 108 = A 108 from by rw [eA_57, up2_a (by omega), eA_48, up2_a (by omega), fa36 108 (by omega), eA_20, up2_a (by omega), fa19 108 (by omega)]]
        refine r_iconst i_151_140 ?_
        refine r_iadd i_151_141 ?_
        refine r_iastQ i_151_142 (hly 108 _ rfl) (by omega) (by omega) (by omega) (fun A_58 eA_58 => ?_)
        have hA_58 : AQ A_58 := by rw [eA_58]; exact au_108 hA_57 (by omega) (by omega)
        have x98 : A_58 98 = A 98 := by rw [eA_58, up2_a (by omega), eA_57, up2_a (by omega), eA_48, up2_a (by omega), fa36 98 (by omega), eA_20, up2_a (by omega), fa19 98 (by omega)]
        have x99 : A_58 99 = A 99 := by rw [eA_58, up2_a (by omega), eA_57, up2_a (by omega), eA_48, up2_a (by omega), fa36 99 (by omega), eA_20, up2_a (by omega), fa19 99 (by omega)]
        have x107 : A_58 107 = A 107 := by rw [eA_58, up2_a (by omega), eA_57, up2_a (by omega), eA_48, up2_a (by omega), fa36 107 (by omega), eA_20, up2_a (by omega), fa19 107 (by omega)]
        have x103_1 : A_48 103 = fun i => if i = ((20 * (G 90 33)) + (A 108 ((G 90 33).toNat))).toNat then r_45 else A 103 i := by rw [eA_48, up2_f, fa36 103 (by omega), eA_20, up2_a (by omega), fa19 103 (by omega)]
        have x103 : A_58 103 = fun i => if i = ((20 * (G 90 33)) + (A 108 ((G 90 33).toNat))).toNat then r_45 else A 103 i := by rw [eA_58, up2_a (by omega), eA_57, up2_a (by omega), x103_1]
        have x104_1 : A_57 104 = fun i => if i = ((20 * (G 90 33)) + (A 108 ((G 90 33).toNat))).toNat then r_54 else A 104 i := by rw [eA_57, up2_f, eA_48, up2_a (by omega), fa36 104 (by omega), eA_20, up2_a (by omega), fa19 104 (by omega)]
        have x104 : A_58 104 = fun i => if i = ((20 * (G 90 33)) + (A 108 ((G 90 33).toNat))).toNat then r_54 else A 104 i := by rw [eA_58, up2_a (by omega), x104_1]
        have x106 : A_58 106 = A 106 := by rw [eA_58, up2_a (by omega), eA_57, up2_a (by omega), eA_48, up2_a (by omega), fa36 106 (by omega), eA_20, up2_a (by omega), fa19 106 (by omega)]
        have x108_1 : A_58 108 = fun i => if i = (G 90 33).toNat then (A 108 ((G 90 33).toNat)) + 1 else A 108 i := by rw [eA_58, up2_f, eA_57, up2_a (by omega), eA_48, up2_a (by omega), fa36 108 (by omega), eA_20, up2_a (by omega), fa19 108 (by omega)]
        have x108 : A_58 108 = fun i => if i = (G 90 33).toNat then (A 108 ((G 90 33).toNat)) + 1 else A 108 i := by rw [x108_1]
        have x111 : A_58 111 = A 111 := by rw [eA_58, up2_a (by omega), eA_57, up2_a (by omega), eA_48, up2_a (by omega), fa36 111 (by omega), eA_20, up2_a (by omega), fa19 111 (by omega)]
        have x112 : A_58 112 = A 112 := by rw [eA_58, up2_a (by omega), eA_57, up2_a (by omega), eA_48, up2_a (by omega), fa36 112 (by omega), eA_20, up2_a (by omega), fa19 112 (by omega)]
        exact r_vret i_151_143 rfl (K F_55 G_56 A_58 hF_55 hG_56 hA_58 (by intro a k hh; rw [ff56 a k (by omega), ff47 a k (by omega), ff36 a k (by omega), ff19 a k (by omega)]) (by intro a k hh; rw [fg56 a k (by omega), fg47 a k (by omega), fg106 a k (by omega), fg36 a k (by omega), fg23 a k (by omega), fg19 a k (by omega), fg3 a k (by omega)]) (by intro a hh; rw [eA_58, up2_a (by omega), eA_57, up2_a (by omega), eA_48, up2_a (by omega), fa36 a (by omega), eA_20, up2_a (by omega), fa19 a (by omega)]) (by omega) (by omega) (by omega) (by intro h0; exact bkV_e (by omega) (by omega) (by omega) (by omega) (by omega) x98 x99 x107 x103 x104 x106 x108 x111 x112) (by intro b hb hn; exact bkE_e hb (by omega) (by omega) (by omega) (by omega) x98 x99 x107 x103 x104 x106 x108 x111 x112))
      refine r_iload_n i_151_72 rfl ?_
      refine r_aload_n i_151_73 rfl ?_
      refine r_getF (v := .ref 102) i_151_74 rfl (hly 90 _ rfl) (hF_34.1 90 20 102 rfl) ?_
      refine r_iload_n i_151_77 rfl ?_
      refine r_iald i_151_78 (hly 102 _ rfl) (by omega) (by omega) (by omega) ?_
      rw [show A_36 102 = A_20 102 from by rw [fa36 102 (by omega)]]
      have q_59 := a_102 hA_20 (((20 * (G 90 33)) + (A 108 ((G 90 33).toNat))).toNat)
      refine r_cne (t := 100) i_151_79 (by decide) (by omega) (by omega) (fun c_60 => ?_) (fun c_60 => ?_)
      · skip
        refine r_aload_n i_151_100 rfl ?_
        refine r_iconst i_151_101 ?_
        refine r_iload_n i_151_102 rfl ?_
        refine r_cV (as := [V (G_18 90 6), V 5]) i_151_103 rfl (by decide +kernel) (Nat.le_of_ble_eq_true rfl) (Nat.le_of_ble_eq_true rfl) (hly 90 _ rfl) rfl ?_
        refine c_144 (kind := 5) (place := G_18 90 6) hly hF_34 hG_35 hA_36 (by omega) (by omega) (by omega) (by omega) (fun G_61 hG_61 fg61 p61_0 => ?_)
        show Re L xs 151 106 [(0, .ref 90), (1, V ((20 * (G 90 33)) + (A 108 ((G 90 33).toNat)))), (2, V (G_18 90 6)), (3, V r_33)] [] (HP ly F_34 G_61 A_36 B) _
        exact jn106 G_61 hG_61 (by intro a k hh; rw [fg61 a k (by omega)]) (by omega)
      · skip
        refine r_aload_n i_151_82 rfl ?_
        refine r_getF (v := .ref 94) i_151_83 rfl (hly 90 _ rfl) (hF_34.1 90 12 94 rfl) ?_
        refine r_iload_n i_151_86 rfl ?_
        refine r_aload_n i_151_87 rfl ?_
        refine r_getF (v := .ref 95) i_151_88 rfl (hly 90 _ rfl) (hF_34.1 90 13 95 rfl) ?_
        refine r_iload_n i_151_91 rfl ?_
        refine r_iload_n i_151_92 rfl ?_
        refine r_iconst i_151_93 ?_
        refine r_cS (as := [V 1, V r_33, V ((20 * (G 90 33)) + (A 108 ((G 90 33).toNat))), .ref 95, V ((20 * (G 90 33)) + (A 108 ((G 90 33).toNat))), .ref 94]) i_151_94 rfl (by decide +kernel) (Nat.le_of_ble_eq_true rfl) (Nat.le_of_ble_eq_true rfl) ?_
        refine c_149 (ra := 94) (p := (20 * (G 90 33)) + (A 108 ((G 90 33).toNat))) (rc := 95) (q := (20 * (G 90 33)) + (A 108 ((G 90 33).toNat))) (n := r_33) (bare := 1) (capa := 480) (capc := 480) hly hF_34 hG_35 hA_36 (by omega) (by omega) (by omega) (by omega) (by exact hly 94 _ rfl) (by exact hly 95 _ rfl) (by exact fun i => a_94 hA_36 i) (by exact fun i => a_95 hA_36 i) (by omega) (by omega) (by omega) (by omega) (fun r_62 p62_0 => ?_)
        show Re L xs 151 97 [(0, .ref 90), (1, V ((20 * (G 90 33)) + (A 108 ((G 90 33).toNat)))), (2, V (G_18 90 6)), (3, V r_33)] [V r_62] (HP ly F_34 G_35 A_36 B) _
        refine r_ne0 (t := 106) i_151_97 (by decide) (by omega) (fun c_63 => ?_) (fun c_63 => ?_)
        · skip
          exact jn106 G_35 hG_35 (by intro a k hh; rfl) (by rw [show G_35 90 4 = G_23 90 4 from by rw [fg36 90 4 (by omega)]] <;> omega)
        · skip
          refine r_aload_n i_151_100 rfl ?_
          refine r_iconst i_151_101 ?_
          refine r_iload_n i_151_102 rfl ?_
          refine r_cV (as := [V (G_18 90 6), V 5]) i_151_103 rfl (by decide +kernel) (Nat.le_of_ble_eq_true rfl) (Nat.le_of_ble_eq_true rfl) (hly 90 _ rfl) rfl ?_
          refine c_144 (kind := 5) (place := G_18 90 6) hly hF_34 hG_35 hA_36 (by omega) (by omega) (by omega) (by omega) (fun G_64 hG_64 fg64 p64_0 => ?_)
          show Re L xs 151 106 [(0, .ref 90), (1, V ((20 * (G 90 33)) + (A 108 ((G 90 33).toNat)))), (2, V (G_18 90 6)), (3, V r_33)] [] (HP ly F_34 G_64 A_36 B) _
          exact jn106 G_64 hG_64 (by intro a k hh; rw [fg64 a k (by omega)]) (by omega)
    · skip
      have x98 : A_20 98 = A 98 := by rw [eA_20, up2_a (by omega), fa19 98 (by omega)]
      have x99 : A_20 99 = A 99 := by rw [eA_20, up2_a (by omega), fa19 99 (by omega)]
      have x107 : A_20 107 = A 107 := by rw [eA_20, up2_a (by omega), fa19 107 (by omega)]
      have x103 : A_20 103 = A 103 := by rw [eA_20, up2_a (by omega), fa19 103 (by omega)]
      have x104 : A_20 104 = A 104 := by rw [eA_20, up2_a (by omega), fa19 104 (by omega)]
      have x106 : A_20 106 = A 106 := by rw [eA_20, up2_a (by omega), fa19 106 (by omega)]
      have x108 : A_20 108 = A 108 := by rw [eA_20, up2_a (by omega), fa19 108 (by omega)]
      have x111 : A_20 111 = A 111 := by rw [eA_20, up2_a (by omega), fa19 111 (by omega)]
      have x112 : A_20 112 = A 112 := by rw [eA_20, up2_a (by omega), fa19 112 (by omega)]
      exact r_vret i_151_56 rfl (K F_17 G_23 A_20 hF_17 hG_23 hA_20 (by intro a k hh; rw [ff19 a k (by omega)]) (by intro a k hh; rw [fg23 a k (by omega), fg19 a k (by omega), fg3 a k (by omega)]) (by intro a hh; rw [eA_20, up2_a (by omega), fa19 a (by omega)]) (by rw [show G_23 90 6 = G_18 90 6 from by rw [fg23 90 6 (by omega)]] <;> rw [show G_23 90 7 = G_18 90 7 from by rw [fg23 90 7 (by omega)]] <;> rw [show G_23 90 8 = G_18 90 8 from by rw [fg23 90 8 (by omega)]] <;> omega) (by rw [show G_23 90 6 = G_18 90 6 from by rw [fg23 90 6 (by omega)]] <;> omega) (by omega) (by intro h0; exfalso; omega) (by intro b hb hn; exact bkE_s x98 x99 x107 x103 x104 x106 x108 x111 x112))
  · skip
    exact r_vret i_151_11 rfl (K F G_3 A hF hG_3 hA (by intro a k hh; rfl) (by intro a k hh; rw [fg3 a k (by omega)]) (by intro a hh; rfl) (by rw [show G_3 90 6 = G 90 6 from by rw [fg3 90 6 (by omega)]] <;> rw [show G_3 90 7 = G 90 7 from by rw [fg3 90 7 (by omega)]] <;> rw [show G_3 90 8 = G 90 8 from by rw [fg3 90 8 (by omega)]] <;> omega) (by rw [show G_3 90 6 = G 90 6 from by rw [fg3 90 6 (by omega)]] <;> omega) (by omega) (by intro h0; exfalso; omega) (by intro b _ _; exact bkE_rf))
set_option maxHeartbeats 4000000 in
theorem c_152 {L : Nat} {xs : Nat → Int32} {ly : List LK} {F : Nat → Nat → Value} {G A : Nat → Nat → Int} {B : Nat → Nat → Int64} {Q : Option Value → AH → Prop}  (hly : LyOk ly) (hF : RfOk F) (hG : GO G) (hA : AQ A) (ht : G 90 6 ≤ G 90 7 ∧ G 90 7 ≤ G 90 3 ∧ (G 90 8 = 2 → G 90 7 - G 90 6 ≤ 12)) (hw : A 109 (G 90 33).toNat < 20) (K : ∀ (F' : Nat → Nat → Value) (G' : Nat → Nat → Int) (A' : Nat → Nat → Int), (RfOk F') → (GO G') → (AQ A') → (∀ a k, ¬ ((a = 90 ∧ k = 10)) → F' a k = F a k) → (∀ a k, ¬ ((a = 90 ∧ k = 4) ∨ (a = 90 ∧ k = 5) ∨ (a = 90 ∧ k = 6) ∨ (a = 90 ∧ k = 7) ∨ (a = 90 ∧ k = 8) ∨ (a = 90 ∧ k = 9)) → G' a k = G a k) → (∀ a, ¬ (a = 96 ∨ a = 105 ∨ a = 109) → A' a = A a) → (G' 90 6 ≤ G' 90 7 ∧ G' 90 7 ≤ G 90 3 ∧ (G' 90 8 = 2 → G' 90 7 - G' 90 6 ≤ 12)) → (G 90 6 ≤ G' 90 6) → ((G 90 4 ≠ 0 → G' 90 4 ≠ 0)) → (G' 90 4 = 0 → bkV A (G 90 33).toNat → bkV A' (G 90 33).toNat) → (∀ b, b ≤ 1 → ¬ b = (G 90 33).toNat → bkE A A' b) → Q none (HP ly F' G' A' B)) : Re L xs 152 0 [(0, .ref 90)] [] (HP ly F G A B) Q := by
  have z33 := g_90_33 hG
  have zw := a_109 hA (G 90 33).toNat
  refine r_aload_n i_152_0 rfl ?_
  refine r_cV (as := []) i_152_1 rfl (by decide +kernel) (Nat.le_of_ble_eq_true rfl) (Nat.le_of_ble_eq_true rfl) (hly 90 _ rfl) rfl ?_
  have q_1 := g_90_8 hG
  have q_2 := g_90_4 hG
  refine c_146  hly hF hG hA  (fun G_3 hG_3 fg3 p3_0 p3_1 => ?_)
  show Re L xs 152 4 [(0, .ref 90)] [] (HP ly F G_3 A B) _
  refine r_aload_n i_152_4 rfl ?_
  refine r_cV (as := []) i_152_5 rfl (by decide +kernel) (Nat.le_of_ble_eq_true rfl) (Nat.le_of_ble_eq_true rfl) (hly 90 _ rfl) rfl ?_
  have q_4 := g_90_4 hG_3
  refine c_140  hly hF hG_3 hA  (fun r_5 p5_0 p5_1 => ?_)
  show Re L xs 152 8 [(0, .ref 90)] [V r_5] (HP ly F G_3 A B) _
  refine r_ne0 (t := 12) i_152_8 (by decide) (by omega) (fun c_6 => ?_) (fun c_6 => ?_)
  · skip
    refine r_aload_n i_152_12 rfl ?_
    refine r_getI i_152_13 rfl (hly 90 _ rfl) ?_
    rw [show G_3 90 6 = G 90 6 from by rw [fg3 90 6 (by omega)]]
    have q_7 := g_90_6 hG
    refine r_istore_n (l' := [(0, .ref 90), (1, V (G 90 6))]) i_152_16 (by decide +kernel) rfl ?_
    refine r_bipush i_152_17 (by decide) ?_
    refine r_aload_n i_152_19 rfl ?_
    refine r_getI i_152_20 rfl (hly 90 _ rfl) ?_
    rw [show G_3 90 33 = G 90 33 from by rw [fg3 90 33 (by omega)]]
    have q_8 := g_90_33 hG
    refine r_imul i_152_23 ?_
    refine r_aload_n i_152_24 rfl ?_
    refine r_getF (v := .ref 109) i_152_25 rfl (hly 90 _ rfl) (hF.1 90 27 109 rfl) ?_
    refine r_aload_n i_152_28 rfl ?_
    refine r_getI i_152_29 rfl (hly 90 _ rfl) ?_
    rw [show G_3 90 33 = G 90 33 from by rw [fg3 90 33 (by omega)]]
    refine r_iald i_152_32 (hly 109 _ rfl) (by omega) (by omega) (by omega) ?_
    have q_9 := a_109 hA ((G 90 33).toNat)
    refine r_iadd i_152_33 ?_
    refine r_istore_n (l' := [(0, .ref 90), (1, V (G 90 6)), (2, V ((20 * (G 90 33)) + (A 109 ((G 90 33).toNat))))]) i_152_34 (by decide +kernel) rfl ?_
    refine r_aload_n i_152_35 rfl ?_
    refine r_getF (v := .ref 105) i_152_36 rfl (hly 90 _ rfl) (hF.1 90 23 105 rfl) ?_
    refine r_iload_n i_152_39 rfl ?_
    refine r_aload_n i_152_40 rfl ?_
    refine r_aload_n i_152_41 rfl ?_
    refine r_getF (v := .ref 96) i_152_42 rfl (hly 90 _ rfl) (hF.1 90 14 96 rfl) ?_
    refine r_iload_n i_152_45 rfl ?_
    refine r_cV (as := [V ((20 * (G 90 33)) + (A 109 ((G 90 33).toNat))), .ref 96]) i_152_46 rfl (by decide +kernel) (Nat.le_of_ble_eq_true rfl) (Nat.le_of_ble_eq_true rfl) (hly 90 _ rfl) rfl ?_
    have w_10 : G_3 90 6 = G 90 6 := by rw [fg3 90 6 (by omega)]
    have w_11 : G_3 90 7 = G 90 7 := by rw [fg3 90 7 (by omega)]
    have q_12 := g_90_7 hG
    have w_13 : G_3 90 3 = G 90 3 := by rw [fg3 90 3 (by omega)]
    have q_14 := g_90_3 hG
    have w_15 : G_3 90 8 = G 90 8 := by rw [fg3 90 8 (by omega)]
    refine c_147 (row := 96) (spot := (20 * (G 90 33)) + (A 109 ((G 90 33).toNat))) (cap := 480) hly hF hG_3 hA (by omega) (by omega) (by omega) (by omega) (by omega) (fun r_16 F_17 G_18 A_19 hF_17 hG_18 hA_19 ff19 fg19 fa19 p19_0 p19_1 p19_2 p19_3 => ?_)
    show Re L xs 152 49 [(0, .ref 90), (1, V (G 90 6)), (2, V ((20 * (G 90 33)) + (A 109 ((G 90 33).toNat))))] [V r_16, V ((20 * (G 90 33)) + (A 109 ((G 90 33).toNat))), .ref 105] (HP ly F_17 G_18 A_19 B) _
    refine r_iastQ i_152_49 (hly 105 _ rfl) (by omega) (by omega) (by omega) (fun A_20 eA_20 => ?_)
    have hA_20 : AQ A_20 := by rw [eA_20]; exact au_105 hA_19 (by omega) (by omega)
    refine r_bipush i_152_50 (by decide) ?_
    refine r_aload_n i_152_52 rfl ?_
    refine r_getI i_152_53 rfl (hly 90 _ rfl) ?_
    rw [show G_18 90 33 = G 90 33 from by rw [fg19 90 33 (by omega), fg3 90 33 (by omega)]]
    refine r_imul i_152_56 ?_
    refine r_istore_n (l' := [(0, .ref 90), (1, V (G 90 6)), (2, V ((20 * (G 90 33)) + (A 109 ((G 90 33).toNat)))), (3, V (20 * (G 90 33)))]) i_152_57 (by decide +kernel) rfl ?_
    have lp58B : ∀ (nf : Nat) (k : Int) (G58 : Nat → Nat → Int), (GO G58) → (∀ a k, ¬ ((a = 90 ∧ k = 4) ∨ (a = 90 ∧ k = 5)) → G58 a k = G_18 a k) → (0 ≤ k ∧ k ≤ 40) → (G58 90 4 = 0 → G_3 90 4 = 0) → (100 - k).toNat < nf → Re L xs 152 58 [(0, .ref 90), (1, V (G 90 6)), (2, V ((20 * (G 90 33)) + (A 109 ((G 90 33).toNat)))), (3, V k)] [] (HP ly F_17 G58 A_20 B) Q := by
      intro nf
      induction nf with
      | zero => intros; omega
      | succ nf ih58B =>
        intro k G58 hG58 fg58 hk hk2 hm58
        refine r_iload_n i_152_58 rfl ?_
        refine r_iload_n i_152_59 rfl ?_
        refine r_cge (t := 113) i_152_60 (by decide) (by omega) (by omega) (fun c_21 => ?_) (fun c_21 => ?_)
        · skip
          refine r_aload_n i_152_113 rfl ?_
          refine r_getF (v := .ref 109) i_152_114 rfl (hly 90 _ rfl) (hF_17.1 90 27 109 rfl) ?_
          refine r_aload_n i_152_117 rfl ?_
          refine r_getI i_152_118 rfl (hly 90 _ rfl) ?_
          rw [show G58 90 33 = G 90 33 from by rw [fg58 90 33 (by omega), fg19 90 33 (by omega), fg3 90 33 (by omega)]]
          refine re_nx i_152_121 rfl ?_
          refine r_iald i_152_122 (hly 109 _ rfl) (by omega) (by omega) (by omega) ?_
          rw [show A_20 109 = A 109 from by rw [eA_20, up2_a (by omega), fa19 109 (by omega)]]
          refine r_iconst i_152_123 ?_
          refine r_iadd i_152_124 ?_
          refine r_iastQ i_152_125 (hly 109 _ rfl) (by omega) (by omega) (by omega) (fun A_22 eA_22 => ?_)
          have hA_22 : AQ A_22 := by rw [eA_22]; exact au_109 hA_20 (by omega) (by omega)
          have x98 : A_22 98 = A 98 := by rw [eA_22, up2_a (by omega), eA_20, up2_a (by omega), fa19 98 (by omega)]
          have x99 : A_22 99 = A 99 := by rw [eA_22, up2_a (by omega), eA_20, up2_a (by omega), fa19 99 (by omega)]
          have x107 : A_22 107 = A 107 := by rw [eA_22, up2_a (by omega), eA_20, up2_a (by omega), fa19 107 (by omega)]
          have x103 : A_22 103 = A 103 := by rw [eA_22, up2_a (by omega), eA_20, up2_a (by omega), fa19 103 (by omega)]
          have x104 : A_22 104 = A 104 := by rw [eA_22, up2_a (by omega), eA_20, up2_a (by omega), fa19 104 (by omega)]
          have x106 : A_22 106 = A 106 := by rw [eA_22, up2_a (by omega), eA_20, up2_a (by omega), fa19 106 (by omega)]
          have x108 : A_22 108 = A 108 := by rw [eA_22, up2_a (by omega), eA_20, up2_a (by omega), fa19 108 (by omega)]
          have x111 : A_22 111 = A 111 := by rw [eA_22, up2_a (by omega), eA_20, up2_a (by omega), fa19 111 (by omega)]
          have x112 : A_22 112 = A 112 := by rw [eA_22, up2_a (by omega), eA_20, up2_a (by omega), fa19 112 (by omega)]
          exact r_vret i_152_126 rfl (K F_17 G58 A_22 hF_17 hG58 hA_22 (by intro a k hh; rw [ff19 a k (by omega)]) (by intro a k hh; rw [fg58 a k (by omega), fg19 a k (by omega), fg3 a k (by omega)]) (by intro a hh; rw [eA_22, up2_a (by omega), eA_20, up2_a (by omega), fa19 a (by omega)]) (by rw [show G58 90 6 = G_18 90 6 from by rw [fg58 90 6 (by omega)]] <;> rw [show G58 90 7 = G_18 90 7 from by rw [fg58 90 7 (by omega)]] <;> rw [show G58 90 8 = G_18 90 8 from by rw [fg58 90 8 (by omega)]] <;> omega) (by rw [show G58 90 6 = G_18 90 6 from by rw [fg58 90 6 (by omega)]] <;> omega) (by omega) (by intro _; exact bkV_E hA (bkE_s x98 x99 x107 x103 x104 x106 x108 x111 x112)) (by intro b hb hn; exact bkE_s x98 x99 x107 x103 x104 x106 x108 x111 x112))
        · skip
          refine r_aload_n i_152_63 rfl ?_
          refine r_getF (v := .ref 105) i_152_64 rfl (hly 90 _ rfl) (hF_17.1 90 23 105 rfl) ?_
          refine r_iload_n i_152_67 rfl ?_
          refine r_iald i_152_68 (hly 105 _ rfl) (by omega) (by omega) (by omega) ?_
          have q_23 := a_105 hA_20 (k.toNat)
          refine r_aload_n i_152_69 rfl ?_
          refine r_getF (v := .ref 105) i_152_70 rfl (hly 90 _ rfl) (hF_17.1 90 23 105 rfl) ?_
          refine r_iload_n i_152_73 rfl ?_
          refine r_iald i_152_74 (hly 105 _ rfl) (by omega) (by omega) (by omega) ?_
          have q_24 := a_105 hA_20 (((20 * (G 90 33)) + (A 109 ((G 90 33).toNat))).toNat)
          refine r_cne (t := 107) i_152_75 (by decide) (by omega) (by omega) (fun c_25 => ?_) (fun c_25 => ?_)
          · skip
            refine r_iinc (l' := [(0, .ref 90), (1, V (G 90 6)), (2, V ((20 * (G 90 33)) + (A 109 ((G 90 33).toNat)))), (3, V (k + 1))]) i_152_107 rfl (by decide +kernel) rfl ?_
            refine r_go (t := 58) i_152_110 (by decide) ?_
            exact ih58B (k + 1) G58 hG58 (by intro a k hh; rw [fg58 a k (by omega)]) (by omega) (by omega) (by omega)
          · skip
            refine r_aload_n i_152_78 rfl ?_
            refine r_getF (v := .ref 96) i_152_79 rfl (hly 90 _ rfl) (hF_17.1 90 14 96 rfl) ?_
            refine r_iload_n i_152_82 rfl ?_
            refine r_aload_n i_152_83 rfl ?_
            refine r_getF (v := .ref 96) i_152_84 rfl (hly 90 _ rfl) (hF_17.1 90 14 96 rfl) ?_
            refine r_iload_n i_152_87 rfl ?_
            refine r_aload_n i_152_88 rfl ?_
            refine r_getF (v := .ref 105) i_152_89 rfl (hly 90 _ rfl) (hF_17.1 90 23 105 rfl) ?_
            refine r_iload_n i_152_92 rfl ?_
            refine r_iald i_152_93 (hly 105 _ rfl) (by omega) (by omega) (by omega) ?_
            refine r_iconst i_152_94 ?_
            refine r_cS (as := [V 1, V (A_20 105 (((20 * (G 90 33)) + (A 109 ((G 90 33).toNat))).toNat)), V ((20 * (G 90 33)) + (A 109 ((G 90 33).toNat))), .ref 96, V k, .ref 96]) i_152_95 rfl (by decide +kernel) (Nat.le_of_ble_eq_true rfl) (Nat.le_of_ble_eq_true rfl) ?_
            refine c_149 (ra := 96) (p := k) (rc := 96) (q := (20 * (G 90 33)) + (A 109 ((G 90 33).toNat))) (n := A_20 105 (((20 * (G 90 33)) + (A 109 ((G 90 33).toNat))).toNat)) (bare := 1) (capa := 480) (capc := 480) hly hF_17 hG58 hA_20 (by omega) (by omega) (by omega) (by omega) (by exact hly 96 _ rfl) (by exact hly 96 _ rfl) (by exact fun i => a_96 hA_20 i) (by exact fun i => a_96 hA_20 i) (by omega) (by omega) (by omega) (by omega) (fun r_26 p26_0 => ?_)
            show Re L xs 152 98 [(0, .ref 90), (1, V (G 90 6)), (2, V ((20 * (G 90 33)) + (A 109 ((G 90 33).toNat)))), (3, V k)] [V r_26] (HP ly F_17 G58 A_20 B) _
            refine r_eq0 (t := 107) i_152_98 (by decide) (by omega) (fun c_27 => ?_) (fun c_27 => ?_)
            · skip
              refine r_iinc (l' := [(0, .ref 90), (1, V (G 90 6)), (2, V ((20 * (G 90 33)) + (A 109 ((G 90 33).toNat)))), (3, V (k + 1))]) i_152_107 rfl (by decide +kernel) rfl ?_
              refine r_go (t := 58) i_152_110 (by decide) ?_
              exact ih58B (k + 1) G58 hG58 (by intro a k hh; rw [fg58 a k (by omega)]) (by omega) (by omega) (by omega)
            · skip
              refine r_aload_n i_152_101 rfl ?_
              refine r_iconst i_152_102 ?_
              refine r_iload_n i_152_103 rfl ?_
              refine r_cV (as := [V (G 90 6), V 3]) i_152_104 rfl (by decide +kernel) (Nat.le_of_ble_eq_true rfl) (Nat.le_of_ble_eq_true rfl) (hly 90 _ rfl) rfl ?_
              refine c_144 (kind := 3) (place := G 90 6) hly hF_17 hG58 hA_20 (by omega) (by omega) (by omega) (by omega) (fun G_28 hG_28 fg28 p28_0 => ?_)
              show Re L xs 152 107 [(0, .ref 90), (1, V (G 90 6)), (2, V ((20 * (G 90 33)) + (A 109 ((G 90 33).toNat)))), (3, V k)] [] (HP ly F_17 G_28 A_20 B) _
              refine r_iinc (l' := [(0, .ref 90), (1, V (G 90 6)), (2, V ((20 * (G 90 33)) + (A 109 ((G 90 33).toNat)))), (3, V (k + 1))]) i_152_107 rfl (by decide +kernel) rfl ?_
              refine r_go (t := 58) i_152_110 (by decide) ?_
              exact ih58B (k + 1) G_28 hG_28 (by intro a k hh; rw [fg28 a k (by omega), fg58 a k (by omega)]) (by omega) (by omega) (by omega)
    exact lp58B _ (20 * (G 90 33)) G_18 hG_18 (by intro a k hh; rfl) (by omega) (by rw [show G_18 90 4 = G_3 90 4 from by rw [fg19 90 4 (by omega)]] <;> omega) (Nat.lt_succ_self _)
  · skip
    exact r_vret i_152_11 rfl (K F G_3 A hF hG_3 hA (by intro a k hh; rfl) (by intro a k hh; rw [fg3 a k (by omega)]) (by intro a hh; rfl) (by rw [show G_3 90 6 = G 90 6 from by rw [fg3 90 6 (by omega)]] <;> rw [show G_3 90 7 = G 90 7 from by rw [fg3 90 7 (by omega)]] <;> rw [show G_3 90 8 = G 90 8 from by rw [fg3 90 8 (by omega)]] <;> omega) (by rw [show G_3 90 6 = G 90 6 from by rw [fg3 90 6 (by omega)]] <;> omega) (by omega) (by intro h0; exfalso; omega) (by intro b _ _; exact bkE_rf))
set_option maxHeartbeats 4000000 in
theorem c_153 {L : Nat} {xs : Nat → Int32} {ly : List LK} {F : Nat → Nat → Value} {G A : Nat → Nat → Int} {B : Nat → Nat → Int64} {Q : Option Value → AH → Prop} {pair : Int} (hly : LyOk ly) (hF : RfOk F) (hG : GO G) (hA : AQ A) (in_pair : inR pair) (ht : G 90 6 ≤ G 90 7 ∧ G 90 7 ≤ G 90 3 ∧ (G 90 8 = 2 → G 90 7 - G 90 6 ≤ 12)) (hw : A 110 (G 90 33).toNat < 40) (hp : pair = 0 ∨ pair = 1) (K : ∀ (F' : Nat → Nat → Value) (G' : Nat → Nat → Int) (A' : Nat → Nat → Int), (RfOk F') → (GO G') → (AQ A') → (∀ a k, ¬ ((a = 90 ∧ k = 10)) → F' a k = F a k) → (∀ a k, ¬ ((a = 90 ∧ k = 4) ∨ (a = 90 ∧ k = 5) ∨ (a = 90 ∧ k = 6) ∨ (a = 90 ∧ k = 7) ∨ (a = 90 ∧ k = 8) ∨ (a = 90 ∧ k = 9)) → G' a k = G a k) → (∀ a, ¬ (a = 106 ∨ a = 110) → A' a = A a) → (G' 90 6 ≤ G' 90 7 ∧ G' 90 7 ≤ G 90 3 ∧ (G' 90 8 = 2 → G' 90 7 - G' 90 6 ≤ 12)) → (G 90 6 ≤ G' 90 6) → ((G 90 4 ≠ 0 → G' 90 4 ≠ 0)) → (G' 90 4 = 0 → bkV A (G 90 33).toNat → bkV A' (G 90 33).toNat) → (∀ b, b ≤ 1 → ¬ b = (G 90 33).toNat → bkE A A' b) → Q none (HP ly F' G' A' B)) : Re L xs 153 0 [(0, .ref 90), (1, V pair)] [] (HP ly F G A B) Q := by
  have z33 := g_90_33 hG
  have zw := a_110 hA (G 90 33).toNat
  have z6 := g_90_6 hG
  refine r_aload_n i_153_0 rfl ?_
  refine r_getI i_153_1 rfl (hly 90 _ rfl) ?_
  have q_1 := g_90_6 hG
  refine r_istore_n (l' := [(0, .ref 90), (1, V pair), (2, V (G 90 6))]) i_153_4 (by decide +kernel) rfl ?_
  refine r_aload_n i_153_5 rfl ?_
  refine r_bipush i_153_6 (by decide) ?_
  refine r_cV (as := [V 7]) i_153_8 rfl (by decide +kernel) (Nat.le_of_ble_eq_true rfl) (Nat.le_of_ble_eq_true rfl) (hly 90 _ rfl) rfl ?_
  have q_2 := g_90_7 hG
  have q_3 := g_90_3 hG
  have q_4 := g_90_8 hG
  have q_5 := g_90_4 hG
  refine c_148 (most := 7) hly hF hG hA (by omega) (by omega) (fun r_6 F_7 G_8 hF_7 hG_8 ff8 fg8 p8_0 p8_1 p8_2 p8_3 p8_4 => ?_)
  show Re L xs 153 11 [(0, .ref 90), (1, V pair), (2, V (G 90 6))] [V r_6] (HP ly F_7 G_8 A B) _
  refine r_istore_n (l' := [(0, .ref 90), (1, V pair), (2, V (G 90 6)), (3, V r_6)]) i_153_11 (by decide +kernel) rfl ?_
  refine r_aload_n i_153_12 rfl ?_
  refine r_bipush i_153_13 (by decide) ?_
  refine r_cV (as := [V 7]) i_153_15 rfl (by decide +kernel) (Nat.le_of_ble_eq_true rfl) (Nat.le_of_ble_eq_true rfl) (hly 90 _ rfl) rfl ?_
  have q_9 := g_90_6 hG_8
  have q_10 := g_90_7 hG_8
  have w_11 : G_8 90 3 = G 90 3 := by rw [fg8 90 3 (by omega)]
  have q_12 := g_90_8 hG_8
  have q_13 := g_90_4 hG_8
  refine c_148 (most := 7) hly hF_7 hG_8 hA (by omega) (by omega) (fun r_14 F_15 G_16 hF_15 hG_16 ff16 fg16 p16_0 p16_1 p16_2 p16_3 p16_4 => ?_)
  show Re L xs 153 18 [(0, .ref 90), (1, V pair), (2, V (G 90 6)), (3, V r_6)] [V r_14] (HP ly F_15 G_16 A B) _
  refine r_istore (l' := [(0, .ref 90), (1, V pair), (2, V (G 90 6)), (3, V r_6), (4, V r_14)]) i_153_18 (by decide +kernel) rfl ?_
  refine r_bipush i_153_20 (by decide) ?_
  refine r_aload_n i_153_22 rfl ?_
  refine r_getI i_153_23 rfl (hly 90 _ rfl) ?_
  rw [show G_16 90 33 = G 90 33 from by rw [fg16 90 33 (by omega), fg8 90 33 (by omega)]]
  have q_17 := g_90_33 hG
  refine r_imul i_153_26 ?_
  refine r_bipush i_153_27 (by decide) ?_
  refine r_iload_n i_153_29 rfl ?_
  refine r_imul i_153_30 ?_
  refine r_iadd i_153_31 ?_
  refine r_iload i_153_32 rfl ?_
  refine r_iadd i_153_34 ?_
  refine r_istore (l' := [(0, .ref 90), (1, V pair), (2, V (G 90 6)), (3, V r_6), (4, V r_14), (5, V (((64 * (G 90 33)) + (8 * r_6)) + r_14))]) i_153_35 (by decide +kernel) rfl ?_
  have jn62 : ∀ (G62 : Nat → Nat → Int), (GO G62) → (∀ a k, ¬ ((a = 90 ∧ k = 4) ∨ (a = 90 ∧ k = 5)) → G62 a k = G_16 a k) → (G62 90 4 = 0 → G_16 90 4 = 0) → Re L xs 153 62 [(0, .ref 90), (1, V pair), (2, V (G 90 6)), (3, V r_6), (4, V r_14), (5, V (((64 * (G 90 33)) + (8 * r_6)) + r_14))] [] (HP ly F_15 G62 A B) Q := by
    intro G62 hG62 fg62 hj
    have jn76 : ∀ (cost : Int) (F76 : Nat → Nat → Value) (G76 : Nat → Nat → Int), (RfOk F76) → (GO G76) → (∀ a k, ¬ ((a = 90 ∧ k = 10)) → F76 a k = F_15 a k) → (∀ a k, ¬ ((a = 90 ∧ k = 4) ∨ (a = 90 ∧ k = 5) ∨ (a = 90 ∧ k = 6) ∨ (a = 90 ∧ k = 7) ∨ (a = 90 ∧ k = 8) ∨ (a = 90 ∧ k = 9)) → G76 a k = G62 a k) → (G76 90 6 ≤ G76 90 7 ∧ G76 90 7 ≤ G 90 3 ∧ (G76 90 8 = 2 → G76 90 7 - G76 90 6 ≤ 12)) → (G76 90 4 = 0 → G62 90 4 = 0) → (G_16 90 6 ≤ G76 90 6) → (-1 ≤ cost ∧ cost ≤ 999999) → (G76 90 4 = 0 → cost ≤ 99) → Re L xs 153 76 [(0, .ref 90), (1, V pair), (2, V (G 90 6)), (3, V r_6), (4, V r_14), (5, V (((64 * (G 90 33)) + (8 * r_6)) + r_14))] [V cost] (HP ly F76 G76 A B) Q := by
      intro cost F76 G76 hF76 hG76 ff76 fg76 hj2 hj3 hj4 hj5 hj6
      refine r_istore (l' := [(0, .ref 90), (1, V pair), (2, V (G 90 6)), (3, V r_6), (4, V r_14), (5, V (((64 * (G 90 33)) + (8 * r_6)) + r_14)), (6, V cost)]) i_153_76 (by decide +kernel) rfl ?_
      refine r_aload_n i_153_78 rfl ?_
      refine r_cV (as := []) i_153_79 rfl (by decide +kernel) (Nat.le_of_ble_eq_true rfl) (Nat.le_of_ble_eq_true rfl) (hly 90 _ rfl) rfl ?_
      have q_18 := g_90_4 hG76
      refine c_140  hly hF76 hG76 hA  (fun r_19 p19_0 p19_1 => ?_)
      show Re L xs 153 82 [(0, .ref 90), (1, V pair), (2, V (G 90 6)), (3, V r_6), (4, V r_14), (5, V (((64 * (G 90 33)) + (8 * r_6)) + r_14)), (6, V cost)] [V r_19] (HP ly F76 G76 A B) _
      refine r_ne0 (t := 86) i_153_82 (by decide) (by omega) (fun c_20 => ?_) (fun c_20 => ?_)
      · skip
        refine r_aload_n i_153_86 rfl ?_
        refine r_getF (v := .ref 106) i_153_87 rfl (hly 90 _ rfl) (hF76.1 90 24 106 rfl) ?_
        refine r_iload i_153_90 rfl ?_
        refine r_iload i_153_92 rfl ?_
        refine r_iastQ i_153_94 (hly 106 _ rfl) (by omega) (by omega) (by omega) (fun A_21 eA_21 => ?_)
        have hA_21 : AQ A_21 := by rw [eA_21]; exact au_106 hA (by omega) (by omega)
        refine r_aload_n i_153_95 rfl ?_
        refine r_getF (v := .ref 110) i_153_96 rfl (hly 90 _ rfl) (hF76.1 90 28 110 rfl) ?_
        refine r_aload_n i_153_99 rfl ?_
        refine r_getI i_153_100 rfl (hly 90 _ rfl) ?_
        rw [show G76 90 33 = G 90 33 from by rw [fg76 90 33 (by omega), fg62 90 33 (by omega), fg16 90 33 (by omega), fg8 90 33 (by omega)]]
        refine re_nx i_153_103 rfl ?_
        refine r_iald i_153_104 (hly 110 _ rfl) (by omega) (by omega) (by omega) ?_
        rw [show A_21 110 = A 110 from by rw [eA_21, up2_a (by omega)]]
        have q_22 := a_110 hA ((G 90 33).toNat)
        refine r_iconst i_153_105 ?_
        refine r_iadd i_153_106 ?_
        refine r_iastQ i_153_107 (hly 110 _ rfl) (by omega) (by omega) (by omega) (fun A_23 eA_23 => ?_)
        have hA_23 : AQ A_23 := by rw [eA_23]; exact au_110 hA_21 (by omega) (by omega)
        have x98 : A_23 98 = A 98 := by rw [eA_23, up2_a (by omega), eA_21, up2_a (by omega)]
        have x99 : A_23 99 = A 99 := by rw [eA_23, up2_a (by omega), eA_21, up2_a (by omega)]
        have x107 : A_23 107 = A 107 := by rw [eA_23, up2_a (by omega), eA_21, up2_a (by omega)]
        have x103 : A_23 103 = A 103 := by rw [eA_23, up2_a (by omega), eA_21, up2_a (by omega)]
        have x104 : A_23 104 = A 104 := by rw [eA_23, up2_a (by omega), eA_21, up2_a (by omega)]
        have x106_1 : A_21 106 = fun i => if i = (((64 * (G 90 33)) + (8 * r_6)) + r_14).toNat then cost else A 106 i := by rw [eA_21, up2_f]
        have x106 : A_23 106 = fun i => if i = (((64 * (G 90 33)) + (8 * r_6)) + r_14).toNat then cost else A 106 i := by rw [eA_23, up2_a (by omega), x106_1]
        have x108 : A_23 108 = A 108 := by rw [eA_23, up2_a (by omega), eA_21, up2_a (by omega)]
        have x111 : A_23 111 = A 111 := by rw [eA_23, up2_a (by omega), eA_21, up2_a (by omega)]
        have x112 : A_23 112 = A 112 := by rw [eA_23, up2_a (by omega), eA_21, up2_a (by omega)]
        exact r_vret i_153_108 rfl (K F76 G76 A_23 hF76 hG76 hA_23 (by intro a k hh; rw [ff76 a k (by omega), ff16 a k (by omega), ff8 a k (by omega)]) (by intro a k hh; rw [fg76 a k (by omega), fg62 a k (by omega), fg16 a k (by omega), fg8 a k (by omega)]) (by intro a hh; rw [eA_23, up2_a (by omega), eA_21, up2_a (by omega)]) (by omega) (by omega) (by omega) (by intro h0; exact bkV_p (by omega) (by omega) x98 x99 x107 x103 x104 x106 x108 x111 x112) (by intro b hb hn; exact bkE_p (b := (G 90 33).toNat) hb (by omega) (by omega) (by omega) x98 x99 x107 x103 x104 x106 x108 x111 x112))
      · skip
        exact r_vret i_153_85 rfl (K F76 G76 A hF76 hG76 hA (by intro a k hh; rw [ff76 a k (by omega), ff16 a k (by omega), ff8 a k (by omega)]) (by intro a k hh; rw [fg76 a k (by omega), fg62 a k (by omega), fg16 a k (by omega), fg8 a k (by omega)]) (by intro a hh; rfl) (by omega) (by omega) (by omega) (by intro h0; exfalso; omega) (by intro b _ _; exact bkE_rf))
    refine r_iload_n i_153_62 rfl ?_
    refine r_eq0 (t := 75) i_153_63 (by decide) (by omega) (fun c_24 => ?_) (fun c_24 => ?_)
    · skip
      refine r_iconst i_153_75 ?_
      exact jn76 ((-1)) F_15 G62 hF_15 hG62 (by intro a k hh; rfl) (by intro a k hh; rfl) (by rw [show G62 90 6 = G_16 90 6 from by rw [fg62 90 6 (by omega)]] <;> rw [show G62 90 7 = G_16 90 7 from by rw [fg62 90 7 (by omega)]] <;> rw [show G62 90 8 = G_16 90 8 from by rw [fg62 90 8 (by omega)]] <;> omega) (by omega) (by rw [show G62 90 6 = G_16 90 6 from by rw [fg62 90 6 (by omega)]] <;> omega) (by omega) (by omega)
    · skip
      refine r_aload_n i_153_66 rfl ?_
      refine r_bipush i_153_67 (by decide) ?_
      refine r_cV (as := [V 99]) i_153_69 rfl (by decide +kernel) (Nat.le_of_ble_eq_true rfl) (Nat.le_of_ble_eq_true rfl) (hly 90 _ rfl) rfl ?_
      have w_25 : G62 90 6 = G_16 90 6 := by rw [fg62 90 6 (by omega)]
      have q_26 := g_90_6 hG_16
      have w_27 : G62 90 7 = G_16 90 7 := by rw [fg62 90 7 (by omega)]
      have q_28 := g_90_7 hG_16
      have w_29 : G62 90 3 = G 90 3 := by rw [fg62 90 3 (by omega), fg16 90 3 (by omega), fg8 90 3 (by omega)]
      have w_30 : G62 90 8 = G_16 90 8 := by rw [fg62 90 8 (by omega)]
      have q_31 := g_90_8 hG_16
      have q_32 := g_90_4 hG62
      refine c_148 (most := 99) hly hF_15 hG62 hA (by omega) (by omega) (fun r_33 F_34 G_35 hF_34 hG_35 ff35 fg35 p35_0 p35_1 p35_2 p35_3 p35_4 => ?_)
      show Re L xs 153 72 [(0, .ref 90), (1, V pair), (2, V (G 90 6)), (3, V r_6), (4, V r_14), (5, V (((64 * (G 90 33)) + (8 * r_6)) + r_14))] [V r_33] (HP ly F_34 G_35 A B) _
      refine r_go (t := 76) i_153_72 (by decide) ?_
      exact jn76 r_33 F_34 G_35 hF_34 hG_35 (by intro a k hh; rw [ff35 a k (by omega)]) (by intro a k hh; rw [fg35 a k (by omega)]) (by omega) (by omega) (by omega) (by omega) (by omega)
  refine r_aload_n i_153_37 rfl ?_
  refine r_cV (as := []) i_153_38 rfl (by decide +kernel) (Nat.le_of_ble_eq_true rfl) (Nat.le_of_ble_eq_true rfl) (hly 90 _ rfl) rfl ?_
  have q_36 := g_90_4 hG_16
  refine c_140  hly hF_15 hG_16 hA  (fun r_37 p37_0 p37_1 => ?_)
  show Re L xs 153 41 [(0, .ref 90), (1, V pair), (2, V (G 90 6)), (3, V r_6), (4, V r_14), (5, V (((64 * (G 90 33)) + (8 * r_6)) + r_14))] [V r_37] (HP ly F_15 G_16 A B) _
  refine r_eq0 (t := 62) i_153_41 (by decide) (by omega) (fun c_38 => ?_) (fun c_38 => ?_)
  · skip
    exact jn62 G_16 hG_16 (by intro a k hh; rfl) (by omega)
  · skip
    refine r_aload_n i_153_44 rfl ?_
    refine r_getF (v := .ref 106) i_153_45 rfl (hly 90 _ rfl) (hF_15.1 90 24 106 rfl) ?_
    refine r_iload i_153_48 rfl ?_
    refine r_iald i_153_50 (hly 106 _ rfl) (by omega) (by omega) (by omega) ?_
    have q_39 := a_106 hA ((((64 * (G 90 33)) + (8 * r_6)) + r_14).toNat)
    refine r_bipush i_153_51 (by decide) ?_
    refine r_ceq (t := 62) i_153_53 (by decide) (by omega) (by omega) (fun c_40 => ?_) (fun c_40 => ?_)
    · skip
      exact jn62 G_16 hG_16 (by intro a k hh; rfl) (by omega)
    · skip
      refine r_aload_n i_153_56 rfl ?_
      refine r_iconst i_153_57 ?_
      refine r_iload_n i_153_58 rfl ?_
      refine r_cV (as := [V (G 90 6), V 3]) i_153_59 rfl (by decide +kernel) (Nat.le_of_ble_eq_true rfl) (Nat.le_of_ble_eq_true rfl) (hly 90 _ rfl) rfl ?_
      refine c_144 (kind := 3) (place := G 90 6) hly hF_15 hG_16 hA (by omega) (by omega) (by omega) (by omega) (fun G_41 hG_41 fg41 p41_0 => ?_)
      show Re L xs 153 62 [(0, .ref 90), (1, V pair), (2, V (G 90 6)), (3, V r_6), (4, V r_14), (5, V (((64 * (G 90 33)) + (8 * r_6)) + r_14))] [] (HP ly F_15 G_41 A B) _
      exact jn62 G_41 hG_41 (by intro a k hh; rw [fg41 a k (by omega)]) (by omega)
set_option maxHeartbeats 4000000 in
theorem c_154 {L : Nat} {xs : Nat → Int32} {ly : List LK} {F : Nat → Nat → Value} {G A : Nat → Nat → Int} {B : Nat → Nat → Int64} {Q : Option Value → AH → Prop}  (hly : LyOk ly) (hF : RfOk F) (hG : GO G) (hA : AQ A) (ht : G 90 6 ≤ G 90 7 ∧ G 90 7 ≤ G 90 3 ∧ (G 90 8 = 2 → G 90 7 - G 90 6 ≤ 12)) (K : ∀ (F' : Nat → Nat → Value) (G' : Nat → Nat → Int) (A' : Nat → Nat → Int), (RfOk F') → (GO G') → (AQ A') → (∀ a k, ¬ ((a = 90 ∧ k = 10)) → F' a k = F a k) → (∀ a k, ¬ ((a = 90 ∧ k = 4) ∨ (a = 90 ∧ k = 5) ∨ (a = 90 ∧ k = 6) ∨ (a = 90 ∧ k = 7) ∨ (a = 90 ∧ k = 8) ∨ (a = 90 ∧ k = 9)) → G' a k = G a k) → (∀ a, ¬ (a = 111 ∨ a = 112 ∨ a = 113) → A' a = A a) → (G' 90 6 ≤ G' 90 7 ∧ G' 90 7 ≤ G 90 3 ∧ (G' 90 8 = 2 → G' 90 7 - G' 90 6 ≤ 12)) → (G 90 6 ≤ G' 90 6) → ((G 90 4 ≠ 0 → G' 90 4 ≠ 0)) → (G' 90 4 = 0 → bkV A (G 90 33).toNat → bkV A' (G 90 33).toNat) → (∀ b, b ≤ 1 → ¬ b = (G 90 33).toNat → bkE A A' b) → Q none (HP ly F' G' A' B)) : Re L xs 154 0 [(0, .ref 90)] [] (HP ly F G A B) Q := by
  have z33 := g_90_33 hG
  refine r_aload_n i_154_0 rfl ?_
  refine r_getF (v := .ref 113) i_154_1 rfl (hly 90 _ rfl) (hF.1 90 31 113 rfl) ?_
  refine r_aload_n i_154_4 rfl ?_
  refine r_getI i_154_5 rfl (hly 90 _ rfl) ?_
  have q_1 := g_90_33 hG
  refine r_iconst i_154_8 ?_
  refine r_zastQ i_154_9 (hly 113 _ rfl) (by omega) (by omega) (by omega) (by omega) (fun A_2 eA_2 => ?_)
  have hA_2 : AQ A_2 := by rw [eA_2]; exact au_113 hA (by omega) (by omega)
  refine r_aload_n i_154_10 rfl ?_
  refine r_getF (v := .ref 111) i_154_11 rfl (hly 90 _ rfl) (hF.1 90 29 111 rfl) ?_
  refine r_aload_n i_154_14 rfl ?_
  refine r_getI i_154_15 rfl (hly 90 _ rfl) ?_
  refine r_aload_n i_154_18 rfl ?_
  refine r_bipush i_154_19 (by decide) ?_
  refine r_cV (as := [V 7]) i_154_21 rfl (by decide +kernel) (Nat.le_of_ble_eq_true rfl) (Nat.le_of_ble_eq_true rfl) (hly 90 _ rfl) rfl ?_
  have q_3 := g_90_6 hG
  have q_4 := g_90_7 hG
  have q_5 := g_90_3 hG
  have q_6 := g_90_8 hG
  have q_7 := g_90_4 hG
  refine c_148 (most := 7) hly hF hG hA_2 (by omega) (by omega) (fun r_8 F_9 G_10 hF_9 hG_10 ff10 fg10 p10_0 p10_1 p10_2 p10_3 p10_4 => ?_)
  show Re L xs 154 24 [(0, .ref 90)] [V r_8, V (G 90 33), .ref 111] (HP ly F_9 G_10 A_2 B) _
  refine r_iastQ i_154_24 (hly 111 _ rfl) (by omega) (by omega) (by omega) (fun A_11 eA_11 => ?_)
  have hA_11 : AQ A_11 := by rw [eA_11]; exact au_111 hA_2 (by omega) (by omega)
  refine r_aload_n i_154_25 rfl ?_
  refine r_getF (v := .ref 112) i_154_26 rfl (hly 90 _ rfl) (hF_9.1 90 30 112 rfl) ?_
  refine r_aload_n i_154_29 rfl ?_
  refine r_getI i_154_30 rfl (hly 90 _ rfl) ?_
  rw [show G_10 90 33 = G 90 33 from by rw [fg10 90 33 (by omega)]]
  refine r_aload_n i_154_33 rfl ?_
  refine r_bipush i_154_34 (by decide) ?_
  refine r_cV (as := [V 99]) i_154_36 rfl (by decide +kernel) (Nat.le_of_ble_eq_true rfl) (Nat.le_of_ble_eq_true rfl) (hly 90 _ rfl) rfl ?_
  have q_12 := g_90_6 hG_10
  have q_13 := g_90_7 hG_10
  have w_14 : G_10 90 3 = G 90 3 := by rw [fg10 90 3 (by omega)]
  have q_15 := g_90_8 hG_10
  have q_16 := g_90_4 hG_10
  refine c_148 (most := 99) hly hF_9 hG_10 hA_11 (by omega) (by omega) (fun r_17 F_18 G_19 hF_18 hG_19 ff19 fg19 p19_0 p19_1 p19_2 p19_3 p19_4 => ?_)
  show Re L xs 154 39 [(0, .ref 90)] [V r_17, V (G 90 33), .ref 112] (HP ly F_18 G_19 A_11 B) _
  refine r_iastQ i_154_39 (hly 112 _ rfl) (by omega) (by omega) (by omega) (fun A_20 eA_20 => ?_)
  have hA_20 : AQ A_20 := by rw [eA_20]; exact au_112 hA_11 (by omega) (by omega)
  have x98 : A_20 98 = A 98 := by rw [eA_20, up2_a (by omega), eA_11, up2_a (by omega), eA_2, up2_a (by omega)]
  have x99 : A_20 99 = A 99 := by rw [eA_20, up2_a (by omega), eA_11, up2_a (by omega), eA_2, up2_a (by omega)]
  have x107 : A_20 107 = A 107 := by rw [eA_20, up2_a (by omega), eA_11, up2_a (by omega), eA_2, up2_a (by omega)]
  have x103 : A_20 103 = A 103 := by rw [eA_20, up2_a (by omega), eA_11, up2_a (by omega), eA_2, up2_a (by omega)]
  have x104 : A_20 104 = A 104 := by rw [eA_20, up2_a (by omega), eA_11, up2_a (by omega), eA_2, up2_a (by omega)]
  have x106 : A_20 106 = A 106 := by rw [eA_20, up2_a (by omega), eA_11, up2_a (by omega), eA_2, up2_a (by omega)]
  have x108 : A_20 108 = A 108 := by rw [eA_20, up2_a (by omega), eA_11, up2_a (by omega), eA_2, up2_a (by omega)]
  have x111_1 : A_11 111 = fun i => if i = (G 90 33).toNat then r_8 else A 111 i := by rw [eA_11, up2_f, eA_2, up2_a (by omega)]
  have x111 : A_20 111 = fun i => if i = (G 90 33).toNat then r_8 else A 111 i := by rw [eA_20, up2_a (by omega), x111_1]
  have x112_1 : A_20 112 = fun i => if i = (G 90 33).toNat then r_17 else A 112 i := by rw [eA_20, up2_f, eA_11, up2_a (by omega), eA_2, up2_a (by omega)]
  have x112 : A_20 112 = fun i => if i = (G 90 33).toNat then r_17 else A 112 i := by rw [x112_1]
  exact r_vret i_154_40 rfl (K F_18 G_19 A_20 hF_18 hG_19 hA_20 (by intro a k hh; rw [ff19 a k (by omega), ff10 a k (by omega)]) (by intro a k hh; rw [fg19 a k (by omega), fg10 a k (by omega)]) (by intro a hh; rw [eA_20, up2_a (by omega), eA_11, up2_a (by omega), eA_2, up2_a (by omega)]) (by omega) (by omega) (by omega) (by intro h0; exact bkV_b (by omega) (by omega) x98 x99 x107 x103 x104 x106 x108 x111 x112) (by intro b hb hn; exact bkE_b hn x98 x99 x107 x103 x104 x106 x108 x111 x112))
