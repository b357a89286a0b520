set_option maxHeartbeats 4000000 in
theorem c_123 {L : Nat} {xs : Nat → Int32} {ly : List LK} {F : Nat → Nat → Value} {G A : Nat → Nat → Int} {B : Nat → Nat → Int64} {Q : Option Value → AH → Prop} {word : Int} {reading : Int} (hly : LyOk ly) (hF : RfOk F) (hG : GO G) (hA : AQ A) (in_word : inR word) (in_reading : inR reading) (hci : CI F G A) (K : ∀ (r : Int) (F' : Nat → Nat → Value) (G' : Nat → Nat → Int) (A' : Nat → Nat → Int), (RfOk F') → (GO G') → (AQ A') → (∀ a k, ¬ ((a = 42 ∧ k = 8)) → F' a k = F a k) → (∀ a k, ¬ (a < 90) → G' a k = G a k) → (∀ a, ¬ (a < 91) → A' a = A a) → (CI F' G' A') → Q (some (V r)) (HP ly F' G' A' B)) : Re L xs 123 0 [(0, .ref 0), (1, V word), (2, V reading)] [] (HP ly F G A B) Q := by
  obtain ⟨x, z, y, u, hcv⟩ := hci
  have hcv2 := hcv
  obtain ⟨⟨⟨hx, hxz⟩, ⟨hy, hyu⟩, ⟨hb, hrb⟩, ⟨hl, hsl⟩, hwq, hpcs, hrs, hln, hch, hcb, hrv⟩, hf8, hsw, hcr⟩ := hcv2
  have hz : z = 3 ∨ z = 61 := by omega
  have hu : u = 80 ∨ u = 85 := by omega
  have hq : x + 17 = 20 ∨ x + 17 = 78 ∨ x + 17 = 52 := by omega
  have hc : ∀ w : Nat, (w : Int) < G 31 8 → 1 ≤ A 32 w := fun w hw => (hcr w hw).1
  have z8 := g_31_8 hG
  have z32 := a_32 hA word.toNat
  refine r_aload_n i_123_0 rfl ?_
  refine r_getF (v := .ref 31) i_123_1 rfl (hly 0 _ rfl) (hF.1 0 3 31 rfl) ?_
  refine r_iload_n i_123_4 rfl ?_
  refine r_iload_n i_123_5 rfl ?_
  refine r_cV (as := [V reading, V word]) i_123_6 rfl (by decide +kernel) (Nat.le_of_ble_eq_true rfl) (Nat.le_of_ble_eq_true rfl) (hly 31 _ rfl) rfl ?_
  have q_1 := g_31_8 hG
  refine c_77 (word := word) (reading := reading) hly hF hG hA (by omega) (by omega) (fun r_2 p2_0 => ?_)
  show Re L xs 123 9 [(0, .ref 0), (1, V word), (2, V reading)] [V r_2] (HP ly F G A B) _
  refine r_istore_n (l' := [(0, .ref 0), (1, V word), (2, V reading), (3, V r_2)]) i_123_9 (by decide +kernel) rfl ?_
  refine r_iload_n i_123_10 rfl ?_
  refine r_iconst i_123_11 ?_
  refine r_ceq (t := 40) i_123_12 (by decide) (by omega) (by omega) (fun u_3 => ?_) (fun u_3 => ?_)
  · skip
    refine r_iconst i_123_40 ?_
    exact r_iret i_123_41 rfl rfl (K ((-1)) F G A hF hG hA (by intro a k hh; rfl) (by intro a k hh; rfl) (by intro a hh; rfl) (by exact ⟨x, z, y, u, hcv⟩))
  · skip
    refine r_aload_n i_123_15 rfl ?_
    refine r_getF (v := .ref 31) i_123_16 rfl (hly 0 _ rfl) (hF.1 0 3 31 rfl) ?_
    refine r_getF (v := .ref 40) i_123_19 rfl (hly 31 _ rfl) (hF.1 31 6 40 rfl) ?_
    refine r_iload_n i_123_22 rfl ?_
    refine r_iald i_123_23 (hly 40 _ rfl) (by omega) (by omega) (by omega) ?_
    have q_4 := a_40 hA (r_2.toNat)
    refine r_iconst i_123_24 ?_
    refine r_ceq (t := 40) i_123_25 (by decide) (by omega) (by omega) (fun u_5 => ?_) (fun u_5 => ?_)
    · skip
      refine r_iconst i_123_40 ?_
      exact r_iret i_123_41 rfl rfl (K ((-1)) F G A hF hG hA (by intro a k hh; rfl) (by intro a k hh; rfl) (by intro a hh; rfl) (by exact ⟨x, z, y, u, hcv⟩))
    · skip
      refine r_aload_n i_123_28 rfl ?_
      refine r_getF (v := .ref 27) i_123_29 rfl (hly 0 _ rfl) (hF.1 0 2 27 rfl) ?_
      refine r_getI i_123_32 rfl (hly 27 _ rfl) ?_
      have q_6 := g_27_3 hG
      refine r_bipush i_123_35 (by decide) ?_
      refine r_clt (t := 42) i_123_37 (by decide) (by omega) (by omega) (fun u_7 => ?_) (fun u_7 => ?_)
      · skip
        refine r_aload_n i_123_42 rfl ?_
        refine r_getF (v := .ref 31) i_123_43 rfl (hly 0 _ rfl) (hF.1 0 3 31 rfl) ?_
        refine r_getF (v := .ref 40) i_123_46 rfl (hly 31 _ rfl) (hF.1 31 6 40 rfl) ?_
        refine r_iload_n i_123_49 rfl ?_
        refine r_iald i_123_50 (hly 40 _ rfl) (by omega) (by omega) (by omega) ?_
        refine r_istore (l' := [(0, .ref 0), (1, V word), (2, V reading), (3, V r_2), (4, V (A 40 (r_2.toNat)))]) i_123_51 (by decide +kernel) rfl ?_
        have hent := (hcr word.toNat (by omega)).2 reading.toNat (by omega)
        rw [show 12 * word.toNat + reading.toNat = r_2.toNat from by omega] at hent
        have hle := cb_le (e := (A 40 (r_2.toNat))) hcb (by omega) (by omega) (by omega)
        refine r_aload_n i_123_53 rfl ?_
        refine r_getF (v := .ref x) i_123_54 rfl (hly 0 _ rfl) hb ?_
        refine r_getF (v := .ref (x + 8)) i_123_57 rfl (Lx_0 hly hx) (Rx_0_5 hF hx) ?_
        refine r_iload i_123_60 rfl ?_
        refine re_nx i_123_62 rfl ?_
        refine r_iald i_123_63 (Lx_8 hly hx) (by omega) (by omega) (by omega) ?_
        have q_8 := Ax_8 hA hx ((A 40 (r_2.toNat)).toNat)
        refine r_iconst i_123_64 ?_
        refine r_iadd i_123_65 ?_
        refine r_iastQ i_123_66 (Lx_8 hly hx) (by omega) (by omega) (by omega) (fun A_9 eA_9 => ?_)
        have hA_9 : AQ A_9 := by rw [eA_9]; exact AUx_8 hx hA (by omega) (by omega)
        have xx8_1 : A_9 (x + 8) = fun i => if i = (A 40 (r_2.toNat)).toNat then (A (x + 8) ((A 40 (r_2.toNat)).toNat)) + 1 else A (x + 8) i := by rw [eA_9, up2_f]
        have xx8 : A_9 (x + 8) = fun i => if i = (A 40 (r_2.toNat)).toNat then (A (x + 8) ((A 40 (r_2.toNat)).toNat)) + 1 else A (x + 8) i := by rw [xx8_1]
        refine r_aload_n i_123_67 rfl ?_
        refine r_getF (v := .ref 27) i_123_68 rfl (hly 0 _ rfl) (hF.1 0 2 27 rfl) ?_
        refine r_iload_n i_123_71 rfl ?_
        refine r_iload i_123_72 rfl ?_
        refine r_cV (as := [V (A 40 (r_2.toNat)), V word]) i_123_74 rfl (by decide +kernel) (Nat.le_of_ble_eq_true rfl) (Nat.le_of_ble_eq_true rfl) (hly 27 _ rfl) rfl ?_
        refine c_124 (word := word) (entry := A 40 (r_2.toNat)) hly hF hG hA_9 (by omega) (by omega) (by omega) (by omega) (by omega) (fun r_10 G_11 A_12 hG_11 hA_12 fg_12 fa_12 p12_0 p12_1 p12_2 p12_3 => ?_)
        show Re L xs 123 77 [(0, .ref 0), (1, V word), (2, V reading), (3, V r_2), (4, V (A 40 (r_2.toNat)))] [V r_10] (HP ly F G_11 A_12 B) _
        refine r_istore (l' := [(0, .ref 0), (1, V word), (2, V reading), (3, V r_2), (4, V (A 40 (r_2.toNat))), (5, V r_10)]) i_123_77 (by decide +kernel) rfl ?_
        have hcj : CJ x z y u F G_11 A_12 := CJ_st (e := (A 40 (r_2.toNat))) (n := G 27 3) hcv (by omega) (by omega) (by omega) rfl (by intro a k hh; rw [fg_12 a k (by omega)]) (by rw [p12_1]) (by rw [show A_12 (x + 8) = A_9 (x + 8) from by rw [fa_12 (x + 8) (by omega)]]; exact xx8) (by have h29 := p12_2; rw [show A_9 29 = A 29 from by rw [eA_9, up2_a (by omega)]] at h29; exact h29) (by have h30 := p12_3; rw [show A_9 30 = A 30 from by rw [eA_9, up2_a (by omega)]] at h30; exact h30) (by intro a hh; rw [fa_12 a (by omega), eA_9, up2_a (by omega)])
        refine r_aload_n i_123_79 rfl ?_
        refine r_cV (as := []) i_123_80 rfl (by decide +kernel) (Nat.le_of_ble_eq_true rfl) (Nat.le_of_ble_eq_true rfl) (hly 0 _ rfl) rfl ?_
        have w_13 : G_11 y 5 = G y 5 := by rw [fg_12 y 5 (by omega)]
        have q_14 := Gy_0_5 hG hy
        have q_15 := g_27_3 hG_11
        have w_16 : G_11 (x + 1) 2 = G (x + 1) 2 := by rw [fg_12 (x + 1) 2 (by omega)]
        have q_17 := Gx_1_2 hG hx
        refine c_12 (x := x) (y := y) hly hF hG_11 hA_12 (by omega) (by omega) (by exact hcj.2.2.1.1) (by exact hcj.2.2.2.1.1) (by exact hcj.2.2.2.2.2.2.2.1) (by exact hcj.2.2.2.2.2.2.2.2.1) (fun F_18 G_19 A_20 hF_18 hG_19 hA_20 ff_20 fg_20 fa_20 p20_0 p20_1 p20_2 p20_3 => ?_)
        show Re L xs 123 83 [(0, .ref 0), (1, V word), (2, V reading), (3, V r_2), (4, V (A 40 (r_2.toNat))), (5, V r_10)] [] (HP ly F_18 G_19 A_20 B) _
        refine r_iload i_123_83 rfl ?_
        exact r_iret i_123_85 rfl rfl (K r_10 F_18 G_19 A_20 hF_18 hG_19 hA_20 (by intro a k hh; rw [ff_20 a k (fun h => hh h)]) (by intro a k hh; rw [fg_20 a k (by omega), fg_12 a k (by omega)]) (by intro a hh; rw [fa_20 a (by omega), fa_12 a (by omega), eA_9, up2_a (by omega)]) (by exact CI_rf hcj ff_20 fg_20 fa_20 p20_0 p20_1 p20_2 p20_3))
      · skip
        refine r_iconst i_123_40 ?_
        exact r_iret i_123_41 rfl rfl (K ((-1)) F G A hF hG hA (by intro a k hh; rfl) (by intro a k hh; rfl) (by intro a hh; rfl) (by exact ⟨x, z, y, u, hcv⟩))
set_option maxHeartbeats 4000000 in
theorem c_125 {L : Nat} {xs : Nat → Int32} {ly : List LK} {F : Nat → Nat → Value} {G A : Nat → Nat → Int} {B : Nat → Nat → Int64} {Q : Option Value → AH → Prop} {hand : Int} (hly : LyOk ly) (hF : RfOk F) (hG : GO G) (hA : AQ A) (in_hand : inR hand) (hci : CI F G A) (K : ∀ (r : Int) (F' : Nat → Nat → Value) (G' : Nat → Nat → Int) (A' : Nat → Nat → Int), (RfOk F') → (GO G') → (AQ A') → (∀ a k, ¬ ((a = 42 ∧ k = 8)) → F' a k = F a k) → (∀ a k, ¬ (a < 90) → G' a k = G a k) → (∀ a, ¬ (a < 91) → A' a = A a) → (CI F' G' A') → Q (some (V r)) (HP ly F' G' A' B)) : Re L xs 125 0 [(0, .ref 0), (1, V hand)] [] (HP ly F G A B) Q := by
  obtain ⟨x, z, y, u, hcv⟩ := hci
  have hcv2 := hcv
  obtain ⟨⟨⟨hx, hxz⟩, ⟨hy, hyu⟩, ⟨hb, hrb⟩, ⟨hl, hsl⟩, hwq, hpcs, hrs, hln, hch, hcb, hrv⟩, hf8, hsw, hcr⟩ := hcv2
  have hz : z = 3 ∨ z = 61 := by omega
  have hu : u = 80 ∨ u = 85 := by omega
  have hq : x + 17 = 20 ∨ x + 17 = 78 ∨ x + 17 = 52 := by omega
  have hc : ∀ w : Nat, (w : Int) < G 31 8 → 1 ≤ A 32 w := fun w hw => (hcr w hw).1
  have z8 := g_31_8 hG
  refine r_aload_n i_125_0 rfl ?_
  refine r_getF (v := .ref 27) i_125_1 rfl (hly 0 _ rfl) (hF.1 0 2 27 rfl) ?_
  refine r_iload_n i_125_4 rfl ?_
  refine r_cV (as := [V hand]) i_125_5 rfl (by decide +kernel) (Nat.le_of_ble_eq_true rfl) (Nat.le_of_ble_eq_true rfl) (hly 27 _ rfl) rfl ?_
  have q_1 := g_27_3 hG
  refine c_126 (hand := hand) hly hF hG hA (by omega) (fun r_2 p2_0 p2_1 => ?_)
  show Re L xs 125 8 [(0, .ref 0), (1, V hand)] [V r_2] (HP ly F G A B) _
  refine r_ne0 (t := 13) i_125_8 (by decide) (by omega) (fun u_3 => ?_) (fun u_3 => ?_)
  · skip
    refine r_aload_n i_125_13 rfl ?_
    refine r_getF (v := .ref 27) i_125_14 rfl (hly 0 _ rfl) (hF.1 0 2 27 rfl) ?_
    refine r_getF (v := .ref 30) i_125_17 rfl (hly 27 _ rfl) (hF.1 27 2 30 rfl) ?_
    refine r_iload_n i_125_20 rfl ?_
    refine r_iconst i_125_21 ?_
    refine r_zastQ i_125_22 (hly 30 _ rfl) (by omega) (by omega) (by omega) (by omega) (fun A_4 eA_4 => ?_)
    have hA_4 : AQ A_4 := by rw [eA_4]; exact au_30 hA (by omega) (by omega)
    have hst := p2_1 (by omega)
    have hlp := cb_pos (j := hand) hA hcb hch (by omega) (by omega) (by omega)
    refine r_aload_n i_125_23 rfl ?_
    refine r_getF (v := .ref x) i_125_24 rfl (hly 0 _ rfl) hb ?_
    refine r_getF (v := .ref (x + 8)) i_125_27 rfl (Lx_0 hly hx) (Rx_0_5 hF hx) ?_
    refine r_aload_n i_125_30 rfl ?_
    refine r_getF (v := .ref 27) i_125_31 rfl (hly 0 _ rfl) (hF.1 0 2 27 rfl) ?_
    refine r_getF (v := .ref 29) i_125_34 rfl (hly 27 _ rfl) (hF.1 27 1 29 rfl) ?_
    refine r_iload_n i_125_37 rfl ?_
    refine r_iald i_125_38 (hly 29 _ rfl) (by omega) (by omega) (by omega) ?_
    rw [show A_4 29 = A 29 from by rw [eA_4, up2_a (by omega)]]
    have q_5 := a_29 hA (hand.toNat)
    refine re_nx i_125_39 rfl ?_
    refine r_iald i_125_40 (Lx_8 hly hx) (by omega) (by omega) (by omega) ?_
    rw [show A_4 (x + 8) = A (x + 8) from by rw [eA_4, up2_a (by omega)]]
    have q_6 := Ax_8 hA hx ((A 29 (hand.toNat)).toNat)
    refine r_iconst i_125_41 ?_
    refine r_isub i_125_42 ?_
    refine r_iastQ i_125_43 (Lx_8 hly hx) (by omega) (by omega) (by omega) (fun A_7 eA_7 => ?_)
    have hA_7 : AQ A_7 := by rw [eA_7]; exact AUx_8 hx hA_4 (by omega) (by omega)
    have x30_1 : A_4 30 = fun i => if i = hand.toNat then 1 else A 30 i := by rw [eA_4, up2_f]
    have x30 : A_7 30 = fun i => if i = hand.toNat then 1 else A 30 i := by rw [eA_7, up2_a (by omega), x30_1]
    have xx8_1 : A_7 (x + 8) = fun i => if i = (A 29 (hand.toNat)).toNat then (A (x + 8) ((A 29 (hand.toNat)).toNat)) - 1 else A (x + 8) i := by rw [eA_7, up2_f, eA_4, up2_a (by omega)]
    have xx8 : A_7 (x + 8) = fun i => if i = (A 29 (hand.toNat)).toNat then (A (x + 8) ((A 29 (hand.toNat)).toNat)) - 1 else A (x + 8) i := by rw [xx8_1]
    have hcj : CJ x z y u F G A_7 := CJ_bk (j := hand) hcv hA (by omega) (by omega) (by omega) x30 xx8 (by intro a hh; rw [eA_7, up2_a (by omega), eA_4, up2_a (by omega)])
    refine r_aload_n i_125_44 rfl ?_
    refine r_cV (as := []) i_125_45 rfl (by decide +kernel) (Nat.le_of_ble_eq_true rfl) (Nat.le_of_ble_eq_true rfl) (hly 0 _ rfl) rfl ?_
    have q_8 := Gy_0_5 hG hy
    have q_9 := Gx_1_2 hG hx
    refine c_12 (x := x) (y := y) hly hF hG hA_7 (by omega) (by omega) (by exact hcj.2.2.1.1) (by exact hcj.2.2.2.1.1) (by exact hcj.2.2.2.2.2.2.2.1) (by exact hcj.2.2.2.2.2.2.2.2.1) (fun F_10 G_11 A_12 hF_10 hG_11 hA_12 ff_12 fg_12 fa_12 p12_0 p12_1 p12_2 p12_3 => ?_)
    show Re L xs 125 48 [(0, .ref 0), (1, V hand)] [] (HP ly F_10 G_11 A_12 B) _
    refine r_iconst i_125_48 ?_
    exact r_iret i_125_49 rfl (nar_Z (by omega)) (K 1 F_10 G_11 A_12 hF_10 hG_11 hA_12 (by intro a k hh; rw [ff_12 a k (fun h => hh h)]) (by intro a k hh; rw [fg_12 a k (by omega)]) (by intro a hh; rw [fa_12 a (by omega), eA_7, up2_a (by omega), eA_4, up2_a (by omega)]) (by exact CI_rf hcj ff_12 fg_12 fa_12 p12_0 p12_1 p12_2 p12_3))
  · skip
    refine r_iconst i_125_11 ?_
    exact r_iret i_125_12 rfl (nar_Z (by omega)) (K 0 F G A hF hG hA (by intro a k hh; rfl) (by intro a k hh; rfl) (by intro a hh; rfl) (by exact ⟨x, z, y, u, hcv⟩))
