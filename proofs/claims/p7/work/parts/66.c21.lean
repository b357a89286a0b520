set_option maxHeartbeats 4000000 in
theorem c_36 {L : Nat} {xs : Nat → Int32} {ly : List LK} {F : Nat → Nat → Value} {G A : Nat → Nat → Int} {B : Nat → Nat → Int64} {Q : Option Value → AH → Prop} {number : Int} (hly : LyOk ly) (hF : RfOk F) (hG : GO G) (hA : AQ A) (in_number : inR number) (K : ∀ (G' : Nat → Nat → Int) (A' : Nat → Nat → Int), (GO G') → (AQ A') → (∀ a k, ¬ ((a = 0 ∧ k = 5)) → G' a k = G a k) → (∀ a, ¬ (a = 1) → A' a = A a) → Q none (HP ly F G' A' B)) : Re L xs 36 0 [(0, .ref 0), (1, V number)] [] (HP ly F G A B) Q := by
  refine r_bipush i_36_0 (by decide) ?_
  refine r_istore_n (l' := [(0, .ref 0), (1, V number), (2, V 24)]) i_36_2 (by decide +kernel) rfl ?_
  have lp3B : ∀ (nf : Nat) (sh : Int) (G3 : Nat → Nat → Int) (A3 : Nat → Nat → Int), (GO G3) → (AQ A3) → (∀ a k, ¬ ((a = 0 ∧ k = 5)) → G3 a k = G a k) → (∀ a, ¬ (a = 1) → A3 a = A a) → (-8 ≤ sh ∧ sh ≤ 24) → (sh + 8).toNat < nf → Re L xs 36 3 [(0, .ref 0), (1, V number), (2, V sh)] [] (HP ly F G3 A3 B) Q := by
    intro nf
    induction nf with
    | zero => intros; omega
    | succ nf ih3B =>
      intro sh G3 A3 hG3 hA3 fg3 fa3 hs hm3
      refine r_iload_n i_36_3 rfl ?_
      refine r_lt0 (t := 50) i_36_4 (by decide) (by omega) (fun u_1 => ?_) (fun u_1 => ?_)
      · skip
        exact r_vret i_36_50 rfl (K G3 A3 hG3 hA3 (by intro a k hh; rw [fg3 a k (fun h => hh h)]) (by intro a hh; rw [fa3 a (fun h => hh h)]))
      · skip
        refine r_aload_n i_36_7 rfl ?_
        refine r_getI i_36_8 rfl (hly 0 _ rfl) ?_
        have q_2 := g_0_5 hG3
        refine r_sipush i_36_11 (by decide) ?_
        refine r_cge (t := 50) i_36_14 (by decide) (by omega) (by omega) (fun u_3 => ?_) (fun u_3 => ?_)
        · skip
          exact r_vret i_36_50 rfl (K G3 A3 hG3 hA3 (by intro a k hh; rw [fg3 a k (fun h => hh h)]) (by intro a hh; rw [fa3 a (fun h => hh h)]))
        · skip
          refine r_aload_n i_36_17 rfl ?_
          refine r_getF (v := .ref 1) i_36_18 rfl (hly 0 _ rfl) (hF.1 0 0 1 rfl) ?_
          refine r_aload_n i_36_21 rfl ?_
          refine r_getI i_36_22 rfl (hly 0 _ rfl) ?_
          refine r_iload_n i_36_25 rfl ?_
          refine r_iload_n i_36_26 rfl ?_
          refine r_bin (z := ((Int32.ofInt number).toUInt32 >>> ((Int32.ofInt sh).toUInt32 &&& Int32.toUInt32 31)).toInt32.toInt) i_36_27 rfl (oI_of _) ?_
          refine r_sipush i_36_28 (by decide) ?_
          refine r_bin (z := (((Int32.ofInt number).toUInt32 >>> ((Int32.ofInt sh).toUInt32 &&& Int32.toUInt32 31)).toInt32.toInt) % 256) i_36_31 rfl (and255 _) ?_
          refine r_un (z := (((Int32.ofInt number).toUInt32 >>> ((Int32.ofInt sh).toUInt32 &&& Int32.toUInt32 31)).toInt32.toInt) % 256) i_36_32 rfl (i2cV (by omega) (by omega)) ?_
          refine r_castQ i_36_33 (hly 1 _ rfl) (by omega) (by omega) (by omega) (by omega) (fun A_4 eA_4 => ?_)
          have hA_4 : AQ A_4 := by rw [eA_4]; exact au_1 hA3 (by omega) (by omega)
          refine r_aload_n i_36_34 rfl ?_
          refine re_nx i_36_35 rfl ?_
          refine r_getI i_36_36 rfl (hly 0 _ rfl) ?_
          refine r_iconst i_36_39 ?_
          refine r_iadd i_36_40 ?_
          refine r_putIQ i_36_41 (by decide +kernel) (hly 0 _ rfl) (fun G_5 eG_5 => ?_)
          have hG_5 : GO G_5 := by rw [eG_5]; exact gu_0_5 hG3 (by omega) (by omega)
          refine r_iinc (l' := [(0, .ref 0), (1, V number), (2, V (sh + (-8)))]) i_36_44 rfl (by decide +kernel) rfl ?_
          refine r_go (t := 3) i_36_47 (by decide) ?_
          exact ih3B (sh + (-8)) G_5 A_4 hG_5 hA_4 (by intro a k hh; rw [eG_5, up2_n (fun h => hh h), fg3 a k (fun h => hh h)]) (by intro a hh; rw [eA_4, up2_a (fun h => hh h), fa3 a (fun h => hh h)]) (by omega) (by omega)
  exact lp3B _ 24 G A hG hA (by intro a k hh; rfl) (by intro a hh; rfl) (by omega) (Nat.lt_succ_self _)
set_option maxHeartbeats 4000000 in
theorem c_35 {L : Nat} {xs : Nat → Int32} {ly : List LK} {F : Nat → Nat → Value} {G A : Nat → Nat → Int} {B : Nat → Nat → Int64} {Q : Option Value → AH → Prop} {a1 : Int} {b1 : Int} {c1 : Int} {d1 : Int} {e1 : Int} (hly : LyOk ly) (hF : RfOk F) (hG : GO G) (hA : AQ A) (in_a1 : inR a1) (in_b1 : inR b1) (in_c1 : inR c1) (in_d1 : inR d1) (in_e1 : inR e1) (hci : CI F G A) (K : ∀ (r : Int) (G' : Nat → Nat → Int) (A' : Nat → Nat → Int), (GO G') → (AQ A') → (∀ a k, ¬ (a < 90) → G' a k = G a k) → (∀ a, ¬ (a < 91) → A' a = A a) → (CI F G' A') → Q (some (V r)) (HP ly F G' A' B)) : Re L xs 35 0 [(0, .ref 0), (1, V a1), (2, V b1), (3, V c1), (4, V d1), (5, V e1)] [] (HP ly F G A B) Q := by
  obtain ⟨x, z, y, u, hcv⟩ := hci
  have hcv2 := hcv
  obtain ⟨⟨⟨hx, hxz⟩, ⟨hy, hyu⟩, ⟨hb, hrb⟩, ⟨hl, hsl⟩, hwq, hpcs, hrs, hln, hch, hcb, hrv⟩, hf8, hsw, hcr⟩ := hcv2
  have hz : z = 3 ∨ z = 61 := by omega
  have hu : u = 80 ∨ u = 85 := by omega
  have hq : x + 17 = 20 ∨ x + 17 = 78 ∨ x + 17 = 52 := by omega
  have hc : ∀ w : Nat, (w : Int) < G 31 8 → 1 ≤ A 32 w := fun w hw => (hcr w hw).1
  have z8 := g_31_8 hG
  refine r_aload_n i_35_0 rfl ?_
  refine r_getI i_35_1 rfl (hly 0 _ rfl) ?_
  have q_1 := g_0_5 hG
  refine r_bipush i_35_4 (by decide) ?_
  refine r_iadd i_35_6 ?_
  refine r_sipush i_35_7 (by decide) ?_
  refine r_cle (t := 15) i_35_10 (by decide) (by omega) (by omega) (fun u_2 => ?_) (fun u_2 => ?_)
  · skip
    refine r_aload_n i_35_15 rfl ?_
    refine r_iload_n i_35_16 rfl ?_
    refine r_cV (as := [V a1]) i_35_17 rfl (by decide +kernel) (Nat.le_of_ble_eq_true rfl) (Nat.le_of_ble_eq_true rfl) (hly 0 _ rfl) rfl ?_
    refine c_36 (number := a1) hly hF hG hA (by omega) (fun G_3 A_4 hG_3 hA_4 fg_4 fa_4 => ?_)
    show Re L xs 35 20 [(0, .ref 0), (1, V a1), (2, V b1), (3, V c1), (4, V d1), (5, V e1)] [] (HP ly F G_3 A_4 B) _
    refine r_aload_n i_35_20 rfl ?_
    refine r_iload_n i_35_21 rfl ?_
    refine r_cV (as := [V b1]) i_35_22 rfl (by decide +kernel) (Nat.le_of_ble_eq_true rfl) (Nat.le_of_ble_eq_true rfl) (hly 0 _ rfl) rfl ?_
    refine c_36 (number := b1) hly hF hG_3 hA_4 (by omega) (fun G_5 A_6 hG_5 hA_6 fg_6 fa_6 => ?_)
    show Re L xs 35 25 [(0, .ref 0), (1, V a1), (2, V b1), (3, V c1), (4, V d1), (5, V e1)] [] (HP ly F G_5 A_6 B) _
    refine r_aload_n i_35_25 rfl ?_
    refine r_iload_n i_35_26 rfl ?_
    refine r_cV (as := [V c1]) i_35_27 rfl (by decide +kernel) (Nat.le_of_ble_eq_true rfl) (Nat.le_of_ble_eq_true rfl) (hly 0 _ rfl) rfl ?_
    refine c_36 (number := c1) hly hF hG_5 hA_6 (by omega) (fun G_7 A_8 hG_7 hA_8 fg_8 fa_8 => ?_)
    show Re L xs 35 30 [(0, .ref 0), (1, V a1), (2, V b1), (3, V c1), (4, V d1), (5, V e1)] [] (HP ly F G_7 A_8 B) _
    refine r_aload_n i_35_30 rfl ?_
    refine r_iload i_35_31 rfl ?_
    refine r_cV (as := [V d1]) i_35_33 rfl (by decide +kernel) (Nat.le_of_ble_eq_true rfl) (Nat.le_of_ble_eq_true rfl) (hly 0 _ rfl) rfl ?_
    refine c_36 (number := d1) hly hF hG_7 hA_8 (by omega) (fun G_9 A_10 hG_9 hA_10 fg_10 fa_10 => ?_)
    show Re L xs 35 36 [(0, .ref 0), (1, V a1), (2, V b1), (3, V c1), (4, V d1), (5, V e1)] [] (HP ly F G_9 A_10 B) _
    refine r_aload_n i_35_36 rfl ?_
    refine r_iload i_35_37 rfl ?_
    refine r_cV (as := [V e1]) i_35_39 rfl (by decide +kernel) (Nat.le_of_ble_eq_true rfl) (Nat.le_of_ble_eq_true rfl) (hly 0 _ rfl) rfl ?_
    refine c_36 (number := e1) hly hF hG_9 hA_10 (by omega) (fun G_11 A_12 hG_11 hA_12 fg_12 fa_12 => ?_)
    show Re L xs 35 42 [(0, .ref 0), (1, V a1), (2, V b1), (3, V c1), (4, V d1), (5, V e1)] [] (HP ly F G_11 A_12 B) _
    refine r_aload_n i_35_42 rfl ?_
    refine r_getI i_35_43 rfl (hly 0 _ rfl) ?_
    have q_13 := g_0_5 hG_11
    exact r_iret i_35_46 rfl rfl (K (G_11 0 5) G_11 A_12 hG_11 hA_12 (by intro a k hh; rw [fg_12 a k (by omega), fg_10 a k (by omega), fg_8 a k (by omega), fg_6 a k (by omega), fg_4 a k (by omega)]) (by intro a hh; rw [fa_12 a (by omega), fa_10 a (by omega), fa_8 a (by omega), fa_6 a (by omega), fa_4 a (by omega)]) (by exact CI_t hcv (fun _ _ _ => rfl) hf8 (by intro a k hh; rw [fg_12 a k (by omega), fg_10 a k (by omega), fg_8 a k (by omega), fg_6 a k (by omega), fg_4 a k (by omega)]) (.inl (by rw [fg_12 42 10 (by omega), fg_10 42 10 (by omega), fg_8 42 10 (by omega), fg_6 42 10 (by omega), fg_4 42 10 (by omega)])) (by intro a hh; rw [fa_12 a (by omega), fa_10 a (by omega), fa_8 a (by omega), fa_6 a (by omega), fa_4 a (by omega)])))
  · skip
    refine r_iconst i_35_13 ?_
    exact r_iret i_35_14 rfl rfl (K ((-1)) G A hG hA (by intro a k hh; rfl) (by intro a hh; rfl) (by exact ⟨x, z, y, u, hcv⟩))
set_option maxHeartbeats 4000000 in
theorem c_37 {L : Nat} {xs : Nat → Int32} {ly : List LK} {F : Nat → Nat → Value} {G A : Nat → Nat → Int} {B : Nat → Nat → Int64} {Q : Option Value → AH → Prop} {n : Int} (hly : LyOk ly) (hF : RfOk F) (hG : GO G) (hA : AQ A) (in_n : inR n) (hci : CI F G A) (K : ∀ (r : Int) (G' : Nat → Nat → Int), (GO G') → (∀ a k, ¬ (a < 90) → G' a k = G a k) → (CI F G' A) → Q (some (V r)) (HP ly F G' A B)) : Re L xs 37 0 [(0, .ref 0), (1, V n)] [] (HP ly F G A B) Q := by
  obtain ⟨x, z, y, u, hcv⟩ := hci
  have hcv2 := hcv
  obtain ⟨⟨⟨hx, hxz⟩, ⟨hy, hyu⟩, ⟨hb, hrb⟩, ⟨hl, hsl⟩, hwq, hpcs, hrs, hln, hch, hcb, hrv⟩, hf8, hsw, hcr⟩ := hcv2
  have hz : z = 3 ∨ z = 61 := by omega
  have hu : u = 80 ∨ u = 85 := by omega
  have hq : x + 17 = 20 ∨ x + 17 = 78 ∨ x + 17 = 52 := by omega
  have hc : ∀ w : Nat, (w : Int) < G 31 8 → 1 ≤ A 32 w := fun w hw => (hcr w hw).1
  have z8 := g_31_8 hG
  refine r_iload_n i_37_0 rfl ?_
  refine r_lt0 (t := 12) i_37_1 (by decide) (by omega) (fun u_1 => ?_) (fun u_1 => ?_)
  · skip
    refine r_iconst i_37_12 ?_
    exact r_iret i_37_13 rfl rfl (K ((-1)) G hG (by intro a k hh; rfl) (by exact ⟨x, z, y, u, hcv⟩))
  · skip
    refine r_iload_n i_37_4 rfl ?_
    refine r_aload_n i_37_5 rfl ?_
    refine r_getI i_37_6 rfl (hly 0 _ rfl) ?_
    have q_2 := g_0_5 hG
    refine r_cle (t := 14) i_37_9 (by decide) (by omega) (by omega) (fun u_3 => ?_) (fun u_3 => ?_)
    · skip
      refine r_aload_n i_37_14 rfl ?_
      refine r_iload_n i_37_15 rfl ?_
      refine r_putIQ i_37_16 (by decide +kernel) (hly 0 _ rfl) (fun G_4 eG_4 => ?_)
      have hG_4 : GO G_4 := by rw [eG_4]; exact gu_0_5 hG (by omega) (by omega)
      refine r_iload_n i_37_19 rfl ?_
      exact r_iret i_37_20 rfl rfl (K n G_4 hG_4 (by intro a k hh; rw [eG_4, up2_n (by omega)]) (by exact CI_t hcv (fun _ _ _ => rfl) hf8 (by intro a k hh; rw [eG_4, up2_n (by omega)]) (.inl (by rw [eG_4, up2_n (by omega)])) (fun _ _ => rfl)))
    · skip
      refine r_iconst i_37_12 ?_
      exact r_iret i_37_13 rfl rfl (K ((-1)) G hG (by intro a k hh; rfl) (by exact ⟨x, z, y, u, hcv⟩))
set_option maxHeartbeats 4000000 in
theorem c_72 {L : Nat} {xs : Nat → Int32} {ly : List LK} {F : Nat → Nat → Value} {G A : Nat → Nat → Int} {B : Nat → Nat → Int64} {Q : Option Value → AH → Prop} {what : Int} (hly : LyOk ly) (hF : RfOk F) (hG : GO G) (hA : AQ A) (in_what : inR what) (K : ∀ (r : Int), Q (some (V r)) (HP ly F G A B)) : Re L xs 72 0 [(0, .ref 0), (1, V what)] [] (HP ly F G A B) Q := by
  refine r_iload_n i_72_0 rfl ?_
  rcases (show (¬ what = 0 ∧ ¬ what = 1) ∨ what = 0 ∨ what = 1 by omega) with u_1 | u_1 | u_1
  · refine r_look (t := 38) (off := 37) i_72_1 (by decide) (by omega) (by rw [Op.lookupswitch.offset_cons, if_neg (by omega)]; rw [Op.lookupswitch.offset_cons, if_neg (by omega)]; rfl) (by decide) ?_
    refine r_iconst i_72_38 ?_
    exact r_iret i_72_39 rfl rfl (K ((-1)))
  · refine r_look (t := 28) (off := 27) i_72_1 (by decide) (by omega) (by rw [u_1]; decide) (by decide) ?_
    refine r_aload_n i_72_28 rfl ?_
    refine r_getI i_72_29 rfl (hly 0 _ rfl) ?_
    have q_2 := g_0_9 hG
    exact r_iret i_72_32 rfl rfl (K (G 0 9))
  · refine r_look (t := 33) (off := 32) i_72_1 (by decide) (by omega) (by rw [u_1]; decide) (by decide) ?_
    refine r_aload_n i_72_33 rfl ?_
    refine r_getI i_72_34 rfl (hly 0 _ rfl) ?_
    have q_3 := g_0_10 hG
    exact r_iret i_72_37 rfl rfl (K (G 0 10))
set_option maxHeartbeats 4000000 in
theorem c_73 {L : Nat} {xs : Nat → Int32} {ly : List LK} {F : Nat → Nat → Value} {G A : Nat → Nat → Int} {B : Nat → Nat → Int64} {Q : Option Value → AH → Prop} {weight : Int} (hly : LyOk ly) (hF : RfOk F) (hG : GO G) (hA : AQ A) (in_weight : inR weight) (hci : CI F G A) (K : ∀ (r : Int) (F' : Nat → Nat → Value) (G' : Nat → Nat → Int), (RfOk F') → (GO G') → (∀ a k, ¬ ((a = 42 ∧ k = 8)) → F' a k = F a k) → (∀ a k, ¬ (a < 90) → G' a k = G a k) → (0 ≤ r ∧ r ≤ 1) → (r = 1 ↔ (-1 ≤ weight ∧ weight ≤ 400)) → (CI F' G' A) → Q (some (V r)) (HP ly F' G' A B)) : Re L xs 73 0 [(0, .ref 0), (1, V weight)] [] (HP ly F G A B) Q := by
  obtain ⟨x, z, y, u, hcv⟩ := hci
  have hcv2 := hcv
  obtain ⟨⟨⟨hx, hxz⟩, ⟨hy, hyu⟩, ⟨hb, hrb⟩, ⟨hl, hsl⟩, hwq, hpcs, hrs, hln, hch, hcb, hrv⟩, hf8, hsw, hcr⟩ := hcv2
  have hz : z = 3 ∨ z = 61 := by omega
  have hu : u = 80 ∨ u = 85 := by omega
  have hq : x + 17 = 20 ∨ x + 17 = 78 ∨ x + 17 = 52 := by omega
  have hc : ∀ w : Nat, (w : Int) < G 31 8 → 1 ≤ A 32 w := fun w hw => (hcr w hw).1
  have z8 := g_31_8 hG
  refine r_iload_n i_73_0 rfl ?_
  refine r_iconst i_73_1 ?_
  refine r_ceq (t := 18) i_73_2 (by decide) (by omega) (by omega) (fun u_1 => ?_) (fun u_1 => ?_)
  · skip
    refine r_aload_n i_73_18 rfl ?_
    refine r_iload_n i_73_19 rfl ?_
    refine r_putIQ i_73_20 (by decide +kernel) (hly 0 _ rfl) (fun G_2 eG_2 => ?_)
    have hG_2 : GO G_2 := by rw [eG_2]; exact gu_0_11 hG (by omega) (by omega)
    refine r_aload_n i_73_23 rfl ?_
    refine r_getF (v := .ref 42) i_73_24 rfl (hly 0 _ rfl) (hF.1 0 4 42 rfl) ?_
    refine r_aload_n i_73_27 rfl ?_
    refine r_getF (v := .ref x) i_73_28 rfl (hly 0 _ rfl) hb ?_
    refine r_getF (v := .ref (x + 17)) i_73_31 rfl (Lx_0 hly hx) (Rx_0_10 hF hx) ?_
    refine r_aload_n i_73_34 rfl ?_
    refine r_getI i_73_35 rfl (hly 0 _ rfl) ?_
    rw [show G_2 0 11 = weight from by rw [eG_2, up2_s]]
    refine r_cV (as := [V weight, .ref (x + 17)]) i_73_38 rfl (by decide +kernel) (Nat.le_of_ble_eq_true rfl) (Nat.le_of_ble_eq_true rfl) (hly 42 _ rfl) rfl ?_
    refine c_34 (q := x + 17) (weight := weight) hly hF hG_2 hA (by omega) (by omega) (fun F_3 G_4 hF_3 hG_4 ff_4 fg_4 p4_0 p4_1 p4_2 => ?_)
    show Re L xs 73 41 [(0, .ref 0), (1, V weight)] [] (HP ly F_3 G_4 A B) _
    refine r_iconst i_73_41 ?_
    exact r_iret i_73_42 rfl (nar_Z (by omega)) (K 1 F_3 G_4 hF_3 hG_4 (by intro a k hh; rw [ff_4 a k (fun h => hh h)]) (by intro a k hh; rw [fg_4 a k (by omega), eG_2, up2_n (by omega)]) (by omega) (by omega) (by exact CI_t hcv (by intro a k hh; rw [ff_4 a k (by omega)]) p4_0 (by intro a k hh; rw [fg_4 a k (by omega), eG_2, up2_n (by omega)]) (.inr (by rw [p4_1])) (fun _ _ => rfl)))
  · skip
    refine r_iload_n i_73_5 rfl ?_
    refine r_lt0 (t := 16) i_73_6 (by decide) (by omega) (fun u_5 => ?_) (fun u_5 => ?_)
    · skip
      refine r_iconst i_73_16 ?_
      exact r_iret i_73_17 rfl (nar_Z (by omega)) (K 0 F G hF hG (by intro a k hh; rfl) (by intro a k hh; rfl) (by omega) (by omega) (by exact ⟨x, z, y, u, hcv⟩))
    · skip
      refine r_iload_n i_73_9 rfl ?_
      refine r_sipush i_73_10 (by decide) ?_
      refine r_cle (t := 18) i_73_13 (by decide) (by omega) (by omega) (fun u_6 => ?_) (fun u_6 => ?_)
      · skip
        refine r_aload_n i_73_18 rfl ?_
        refine r_iload_n i_73_19 rfl ?_
        refine r_putIQ i_73_20 (by decide +kernel) (hly 0 _ rfl) (fun G_7 eG_7 => ?_)
        have hG_7 : GO G_7 := by rw [eG_7]; exact gu_0_11 hG (by omega) (by omega)
        refine r_aload_n i_73_23 rfl ?_
        refine r_getF (v := .ref 42) i_73_24 rfl (hly 0 _ rfl) (hF.1 0 4 42 rfl) ?_
        refine r_aload_n i_73_27 rfl ?_
        refine r_getF (v := .ref x) i_73_28 rfl (hly 0 _ rfl) hb ?_
        refine r_getF (v := .ref (x + 17)) i_73_31 rfl (Lx_0 hly hx) (Rx_0_10 hF hx) ?_
        refine r_aload_n i_73_34 rfl ?_
        refine r_getI i_73_35 rfl (hly 0 _ rfl) ?_
        rw [show G_7 0 11 = weight from by rw [eG_7, up2_s]]
        refine r_cV (as := [V weight, .ref (x + 17)]) i_73_38 rfl (by decide +kernel) (Nat.le_of_ble_eq_true rfl) (Nat.le_of_ble_eq_true rfl) (hly 42 _ rfl) rfl ?_
        refine c_34 (q := x + 17) (weight := weight) hly hF hG_7 hA (by omega) (by omega) (fun F_8 G_9 hF_8 hG_9 ff_9 fg_9 p9_0 p9_1 p9_2 => ?_)
        show Re L xs 73 41 [(0, .ref 0), (1, V weight)] [] (HP ly F_8 G_9 A B) _
        refine r_iconst i_73_41 ?_
        exact r_iret i_73_42 rfl (nar_Z (by omega)) (K 1 F_8 G_9 hF_8 hG_9 (by intro a k hh; rw [ff_9 a k (fun h => hh h)]) (by intro a k hh; rw [fg_9 a k (by omega), eG_7, up2_n (by omega)]) (by omega) (by omega) (by exact CI_t hcv (by intro a k hh; rw [ff_9 a k (by omega)]) p9_0 (by intro a k hh; rw [fg_9 a k (by omega), eG_7, up2_n (by omega)]) (.inr (by rw [p9_1])) (fun _ _ => rfl)))
      · skip
        refine r_iconst i_73_16 ?_
        exact r_iret i_73_17 rfl (nar_Z (by omega)) (K 0 F G hF hG (by intro a k hh; rfl) (by intro a k hh; rfl) (by omega) (by omega) (by exact ⟨x, z, y, u, hcv⟩))
set_option maxHeartbeats 4000000 in
theorem c_74 {L : Nat} {xs : Nat → Int32} {ly : List LK} {F : Nat → Nat → Value} {G A : Nat → Nat → Int} {B : Nat → Nat → Int64} {Q : Option Value → AH → Prop} {word : Int} (hly : LyOk ly) (hF : RfOk F) (hG : GO G) (hA : AQ A) (in_word : inR word) (K : ∀ (r : Int), Q (some (V r)) (HP ly F G A B)) : Re L xs 74 0 [(0, .ref 0), (1, V word)] [] (HP ly F G A B) Q := by
  have z8 := g_31_8 hG
  refine r_aload_n i_74_0 rfl ?_
  refine r_getF (v := .ref 31) i_74_1 rfl (hly 0 _ rfl) (hF.1 0 3 31 rfl) ?_
  refine r_iload_n i_74_4 rfl ?_
  refine r_cV (as := [V word]) i_74_5 rfl (by decide +kernel) (Nat.le_of_ble_eq_true rfl) (Nat.le_of_ble_eq_true rfl) (hly 31 _ rfl) rfl ?_
  have q_1 := g_31_8 hG
  refine c_75 (word := word) hly hF hG hA (by omega) (fun r_2 p2_0 p2_1 => ?_)
  show Re L xs 74 8 [(0, .ref 0), (1, V word)] [V r_2] (HP ly F G A B) _
  refine r_eq0 (t := 23) i_74_8 (by decide) (by omega) (fun u_3 => ?_) (fun u_3 => ?_)
  · skip
    refine r_iconst i_74_23 ?_
    exact r_iret i_74_24 rfl rfl (K ((-1)))
  · skip
    refine r_aload_n i_74_11 rfl ?_
    refine r_getF (v := .ref 31) i_74_12 rfl (hly 0 _ rfl) (hF.1 0 3 31 rfl) ?_
    refine r_getF (v := .ref 32) i_74_15 rfl (hly 31 _ rfl) (hF.1 31 0 32 rfl) ?_
    refine r_iload_n i_74_18 rfl ?_
    refine r_iald i_74_19 (hly 32 _ rfl) (by omega) (by omega) (by omega) ?_
    have q_4 := a_32 hA (word.toNat)
    refine r_go (t := 24) i_74_20 (by decide) ?_
    exact r_iret i_74_24 rfl rfl (K (A 32 (word.toNat)))
set_option maxHeartbeats 4000000 in
theorem c_99 {L : Nat} {xs : Nat → Int32} {ly : List LK} {F : Nat → Nat → Value} {G A : Nat → Nat → Int} {B : Nat → Nat → Int64} {Q : Option Value → AH → Prop} {word : Int} {reading : Int} {k : Int} (hly : LyOk ly) (hF : RfOk F) (hG : GO G) (hA : AQ A) (in_word : inR word) (in_reading : inR reading) (in_k : inR k) (K : ∀ (r : Int), Q (some (V r)) (HP ly F G A B)) : Re L xs 99 0 [(0, .ref 0), (1, V word), (2, V reading), (3, V k)] [] (HP ly F G A B) Q := by
  have z8 := g_31_8 hG
  have z32 := a_32 hA word.toNat
  refine r_aload_n i_99_0 rfl ?_
  refine r_getF (v := .ref 31) i_99_1 rfl (hly 0 _ rfl) (hF.1 0 3 31 rfl) ?_
  refine r_iload_n i_99_4 rfl ?_
  refine r_iload_n i_99_5 rfl ?_
  refine r_cV (as := [V reading, V word]) i_99_6 rfl (by decide +kernel) (Nat.le_of_ble_eq_true rfl) (Nat.le_of_ble_eq_true rfl) (hly 31 _ rfl) rfl ?_
  have q_1 := g_31_8 hG
  refine c_77 (word := word) (reading := reading) hly hF hG hA (by omega) (by omega) (fun r_2 p2_0 => ?_)
  show Re L xs 99 9 [(0, .ref 0), (1, V word), (2, V reading), (3, V k)] [V r_2] (HP ly F G A B) _
  refine r_istore (l' := [(0, .ref 0), (1, V word), (2, V reading), (3, V k), (4, V r_2)]) i_99_9 (by decide +kernel) rfl ?_
  refine r_iload i_99_11 rfl ?_
  refine r_iconst i_99_13 ?_
  refine r_ceq (t := 38) i_99_14 (by decide) (by omega) (by omega) (fun u_3 => ?_) (fun u_3 => ?_)
  · skip
    refine r_iconst i_99_38 ?_
    exact r_iret i_99_39 rfl rfl (K ((-1)))
  · skip
    refine r_iload_n i_99_17 rfl ?_
    refine r_lt0 (t := 38) i_99_18 (by decide) (by omega) (fun u_4 => ?_) (fun u_4 => ?_)
    · skip
      refine r_iconst i_99_38 ?_
      exact r_iret i_99_39 rfl rfl (K ((-1)))
    · skip
      refine r_iload_n i_99_21 rfl ?_
      refine r_aload_n i_99_22 rfl ?_
      refine r_getF (v := .ref 31) i_99_23 rfl (hly 0 _ rfl) (hF.1 0 3 31 rfl) ?_
      refine r_getF (v := .ref 34) i_99_26 rfl (hly 31 _ rfl) (hF.1 31 2 34 rfl) ?_
      refine r_getF (v := .ref 36) i_99_29 rfl (hly 34 _ rfl) (hF.1 34 1 36 rfl) ?_
      refine r_iload i_99_32 rfl ?_
      refine r_iald i_99_34 (hly 36 _ rfl) (by omega) (by omega) (by omega) ?_
      have q_5 := a_36 hA (r_2.toNat)
      refine r_clt (t := 40) i_99_35 (by decide) (by omega) (by omega) (fun u_6 => ?_) (fun u_6 => ?_)
      · skip
        refine r_aload_n i_99_40 rfl ?_
        refine r_getF (v := .ref 31) i_99_41 rfl (hly 0 _ rfl) (hF.1 0 3 31 rfl) ?_
        refine r_getF (v := .ref 34) i_99_44 rfl (hly 31 _ rfl) (hF.1 31 2 34 rfl) ?_
        refine r_iload i_99_47 rfl ?_
        refine r_iload_n i_99_49 rfl ?_
        refine r_cV (as := [V k, V r_2]) i_99_50 rfl (by decide +kernel) (Nat.le_of_ble_eq_true rfl) (Nat.le_of_ble_eq_true rfl) (hly 34 _ rfl) rfl ?_
        refine c_32 (f := 34) (index := r_2) (k := k) (cap := 168) hly hF hG hA (by omega) (by omega) (by exact Fm_s) (by omega) (by omega) (fun r_7 p7_0 => ?_)
        show Re L xs 99 53 [(0, .ref 0), (1, V word), (2, V reading), (3, V k), (4, V r_2)] [V r_7] (HP ly F G A B) _
        exact r_iret i_99_53 rfl rfl (K r_7)
      · skip
        refine r_iconst i_99_38 ?_
        exact r_iret i_99_39 rfl rfl (K ((-1)))
set_option maxHeartbeats 4000000 in
theorem c_130 {L : Nat} {xs : Nat → Int32} {ly : List LK} {F : Nat → Nat → Value} {G A : Nat → Nat → Int} {B : Nat → Nat → Int64} {Q : Option Value → AH → Prop} {k : Int} {what : Int} (hly : LyOk ly) (hF : RfOk F) (hG : GO G) (hA : AQ A) (in_k : inR k) (in_what : inR what) (hci : CI F G A) (K : ∀ (r : Int), Q (some (V r)) (HP ly F G A B)) : Re L xs 130 0 [(0, .ref 0), (1, V k), (2, V what)] [] (HP ly F G A B) Q := by
  obtain ⟨x, z, y, u, hcv⟩ := hci
  have hcv2 := hcv
  obtain ⟨⟨⟨hx, hxz⟩, ⟨hy, hyu⟩, ⟨hb, hrb⟩, ⟨hl, hsl⟩, hwq, hpcs, hrs, hln, hch, hcb, hrv⟩, hf8, hsw, hcr⟩ := hcv2
  have hz : z = 3 ∨ z = 61 := by omega
  have hu : u = 80 ∨ u = 85 := by omega
  have hq : x + 17 = 20 ∨ x + 17 = 78 ∨ x + 17 = 52 := by omega
  have hc : ∀ w : Nat, (w : Int) < G 31 8 → 1 ≤ A 32 w := fun w hw => (hcr w hw).1
  have z8 := g_31_8 hG
  refine r_iload_n i_130_0 rfl ?_
  refine r_lt0 (t := 18) i_130_1 (by decide) (by omega) (fun u_1 => ?_) (fun u_1 => ?_)
  · skip
    refine r_iconst i_130_18 ?_
    exact r_iret i_130_19 rfl rfl (K ((-1)))
  · skip
    refine r_iload_n i_130_4 rfl ?_
    refine r_aload_n i_130_5 rfl ?_
    refine r_getF (v := .ref x) i_130_6 rfl (hly 0 _ rfl) hb ?_
    refine r_getF (v := .ref (x + 1)) i_130_9 rfl (Lx_0 hly hx) (Rx_0_0 hF hx) ?_
    refine r_getI i_130_12 rfl (Lx_1 hly hx) ?_
    have q_2 := Gx_1_2 hG hx
    refine r_clt (t := 20) i_130_15 (by decide) (by omega) (by omega) (fun u_3 => ?_) (fun u_3 => ?_)
    · skip
      refine r_iload_n i_130_20 rfl ?_
      rcases (show (what < 0 ∨ 5 < what) ∨ what = 0 ∨ what = 1 ∨ what = 2 ∨ what = 3 ∨ what = 4 ∨ what = 5 by omega) with u_4 | u_4 | u_4 | u_4 | u_4 | u_4 | u_4
      · refine r_tabO (t := 123) i_130_21 (by decide) (by omega) u_4 ?_
        refine r_iconst i_130_123 ?_
        exact r_iret i_130_124 rfl rfl (K ((-1)))
      · refine r_tabI (t := 60) (off := 39) i_130_21 (by omega) (by omega) (by rw [u_4]; decide) (by decide) ?_
        refine r_aload_n i_130_60 rfl ?_
        refine r_getF (v := .ref x) i_130_61 rfl (hly 0 _ rfl) hb ?_
        refine r_getF (v := .ref (x + 4)) i_130_64 rfl (Lx_0 hly hx) (Rx_0_1 hF hx) ?_
        refine r_iload_n i_130_67 rfl ?_
        refine r_iald i_130_68 (Lx_4 hly hx) (by omega) (by omega) (by omega) ?_
        have q_5 := Ax_4 hA hx (k.toNat)
        exact r_iret i_130_69 rfl rfl (K (A (x + 4) (k.toNat)))
      · refine r_tabI (t := 70) (off := 49) i_130_21 (by omega) (by omega) (by rw [u_4]; decide) (by decide) ?_
        refine r_aload_n i_130_70 rfl ?_
        refine r_getF (v := .ref x) i_130_71 rfl (hly 0 _ rfl) hb ?_
        refine r_getF (v := .ref (x + 5)) i_130_74 rfl (Lx_0 hly hx) (Rx_0_2 hF hx) ?_
        refine r_iload_n i_130_77 rfl ?_
        refine r_iald i_130_78 (Lx_5 hly hx) (by omega) (by omega) (by omega) ?_
        have q_6 := Ax_5 hA hx (k.toNat)
        exact r_iret i_130_79 rfl rfl (K (A (x + 5) (k.toNat)))
      · refine r_tabI (t := 80) (off := 59) i_130_21 (by omega) (by omega) (by rw [u_4]; decide) (by decide) ?_
        refine r_aload_n i_130_80 rfl ?_
        refine r_getF (v := .ref x) i_130_81 rfl (hly 0 _ rfl) hb ?_
        refine r_getF (v := .ref (x + 8)) i_130_84 rfl (Lx_0 hly hx) (Rx_0_5 hF hx) ?_
        refine r_iload_n i_130_87 rfl ?_
        refine r_iald i_130_88 (Lx_8 hly hx) (by omega) (by omega) (by omega) ?_
        have q_7 := Ax_8 hA hx (k.toNat)
        exact r_iret i_130_89 rfl rfl (K (A (x + 8) (k.toNat)))
      · refine r_tabI (t := 90) (off := 69) i_130_21 (by omega) (by omega) (by rw [u_4]; decide) (by decide) ?_
        refine r_aload_n i_130_90 rfl ?_
        refine r_getF (v := .ref x) i_130_91 rfl (hly 0 _ rfl) hb ?_
        refine r_getF (v := .ref (x + 1)) i_130_94 rfl (Lx_0 hly hx) (Rx_0_0 hF hx) ?_
        refine r_getF (v := .ref (x + 3)) i_130_97 rfl (Lx_1 hly hx) (Rx_1_1 hF hx) ?_
        refine r_iload_n i_130_100 rfl ?_
        refine r_iald i_130_101 (Lx_3 hly hx) (by omega) (by omega) (by omega) ?_
        have q_8 := Ax_3 hA hx (k.toNat)
        exact r_iret i_130_102 rfl rfl (K (A (x + 3) (k.toNat)))
      · refine r_tabI (t := 103) (off := 82) i_130_21 (by omega) (by omega) (by rw [u_4]; decide) (by decide) ?_
        refine r_aload_n i_130_103 rfl ?_
        refine r_getF (v := .ref x) i_130_104 rfl (hly 0 _ rfl) hb ?_
        refine r_getF (v := .ref (x + 6)) i_130_107 rfl (Lx_0 hly hx) (Rx_0_3 hF hx) ?_
        refine r_iload_n i_130_110 rfl ?_
        refine r_iald i_130_111 (Lx_6 hly hx) (by omega) (by omega) (by omega) ?_
        have q_9 := Ax_6 hA hx (k.toNat)
        exact r_iret i_130_112 rfl rfl (K (A (x + 6) (k.toNat)))
      · refine r_tabI (t := 113) (off := 92) i_130_21 (by omega) (by omega) (by rw [u_4]; decide) (by decide) ?_
        refine r_aload_n i_130_113 rfl ?_
        refine r_getF (v := .ref x) i_130_114 rfl (hly 0 _ rfl) hb ?_
        refine r_getF (v := .ref (x + 7)) i_130_117 rfl (Lx_0 hly hx) (Rx_0_4 hF hx) ?_
        refine r_iload_n i_130_120 rfl ?_
        refine r_iald i_130_121 (Lx_7 hly hx) (by omega) (by omega) (by omega) ?_
        have q_10 := Ax_7 hA hx (k.toNat)
        exact r_iret i_130_122 rfl rfl (K (A (x + 7) (k.toNat)))
    · skip
      refine r_iconst i_130_18 ?_
      exact r_iret i_130_19 rfl rfl (K ((-1)))
set_option maxHeartbeats 4000000 in
theorem c_131 {L : Nat} {xs : Nat → Int32} {ly : List LK} {F : Nat → Nat → Value} {G A : Nat → Nat → Int} {B : Nat → Nat → Int64} {Q : Option Value → AH → Prop} {what : Int} (hly : LyOk ly) (hF : RfOk F) (hG : GO G) (hA : AQ A) (in_what : inR what) (hci : CI F G A) (K : ∀ (r : Int), Q (some (V r)) (HP ly F G A B)) : Re L xs 131 0 [(0, .ref 0), (1, V what)] [] (HP ly F G A B) Q := by
  obtain ⟨x, z, y, u, hcv⟩ := hci
  have hcv2 := hcv
  obtain ⟨⟨⟨hx, hxz⟩, ⟨hy, hyu⟩, ⟨hb, hrb⟩, ⟨hl, hsl⟩, hwq, hpcs, hrs, hln, hch, hcb, hrv⟩, hf8, hsw, hcr⟩ := hcv2
  have hz : z = 3 ∨ z = 61 := by omega
  have hu : u = 80 ∨ u = 85 := by omega
  have hq : x + 17 = 20 ∨ x + 17 = 78 ∨ x + 17 = 52 := by omega
  have hc : ∀ w : Nat, (w : Int) < G 31 8 → 1 ≤ A 32 w := fun w hw => (hcr w hw).1
  have z8 := g_31_8 hG
  refine r_iload_n i_131_0 rfl ?_
  rcases (show (what < 0 ∨ 9 < what) ∨ what = 0 ∨ what = 1 ∨ what = 2 ∨ what = 3 ∨ what = 4 ∨ what = 5 ∨ what = 6 ∨ what = 7 ∨ what = 8 ∨ what = 9 by omega) with u_1 | u_1 | u_1 | u_1 | u_1 | u_1 | u_1 | u_1 | u_1 | u_1 | u_1
  · refine r_tabO (t := 139) i_131_1 (by decide) (by omega) u_1 ?_
    refine r_iconst i_131_139 ?_
    exact r_iret i_131_140 rfl rfl (K ((-1)))
  · refine r_tabI (t := 56) (off := 55) i_131_1 (by omega) (by omega) (by rw [u_1]; decide) (by decide) ?_
    refine r_aload_n i_131_56 rfl ?_
    refine r_getF (v := .ref x) i_131_57 rfl (hly 0 _ rfl) hb ?_
    refine r_getF (v := .ref (x + 1)) i_131_60 rfl (Lx_0 hly hx) (Rx_0_0 hF hx) ?_
    refine r_getI i_131_63 rfl (Lx_1 hly hx) ?_
    have q_2 := Gx_1_2 hG hx
    exact r_iret i_131_66 rfl rfl (K (G (x + 1) 2))
  · refine r_tabI (t := 67) (off := 66) i_131_1 (by omega) (by omega) (by rw [u_1]; decide) (by decide) ?_
    refine r_aload_n i_131_67 rfl ?_
    refine r_getF (v := .ref x) i_131_68 rfl (hly 0 _ rfl) hb ?_
    refine r_getF (v := .ref (x + 9)) i_131_71 rfl (Lx_0 hly hx) (Rx_0_6 hF hx) ?_
    refine r_getI i_131_74 rfl (Lx_9 hly hx) ?_
    have q_3 := Gx_9_2 hG hx
    exact r_iret i_131_77 rfl rfl (K (G (x + 9) 2))
  · refine r_tabI (t := 78) (off := 77) i_131_1 (by omega) (by omega) (by rw [u_1]; decide) (by decide) ?_
    refine r_aload_n i_131_78 rfl ?_
    refine r_getF (v := .ref x) i_131_79 rfl (hly 0 _ rfl) hb ?_
    refine r_getF (v := .ref (x + 14)) i_131_82 rfl (Lx_0 hly hx) (Rx_0_9 hF hx) ?_
    refine r_getI i_131_85 rfl (Lx_14 hly hx) ?_
    have q_4 := Gx_14_2 hG hx
    exact r_iret i_131_88 rfl rfl (K (G (x + 14) 2))
  · refine r_tabI (t := 89) (off := 88) i_131_1 (by omega) (by omega) (by rw [u_1]; decide) (by decide) ?_
    refine r_aload_n i_131_89 rfl ?_
    refine r_getF (v := .ref x) i_131_90 rfl (hly 0 _ rfl) hb ?_
    refine r_getI i_131_93 rfl (Lx_0 hly hx) ?_
    have q_5 := Gx_0_12 hG hx
    exact r_iret i_131_96 rfl rfl (K (G x 12))
  · refine r_tabI (t := 97) (off := 96) i_131_1 (by omega) (by omega) (by rw [u_1]; decide) (by decide) ?_
    refine r_aload_n i_131_97 rfl ?_
    refine r_getF (v := .ref y) i_131_98 rfl (hly 0 _ rfl) hl ?_
    refine r_getI i_131_101 rfl (Ly_0 hly hy) ?_
    have q_6 := Gy_0_5 hG hy
    exact r_iret i_131_104 rfl rfl (K (G y 5))
  · refine r_tabI (t := 105) (off := 104) i_131_1 (by omega) (by omega) (by rw [u_1]; decide) (by decide) ?_
    refine r_aload_n i_131_105 rfl ?_
    refine r_getF (v := .ref y) i_131_106 rfl (hly 0 _ rfl) hl ?_
    refine r_getI i_131_109 rfl (Ly_0 hly hy) ?_
    have q_7 := Gy_0_4 hG hy
    exact r_iret i_131_112 rfl rfl (K (G y 4))
  · refine r_tabI (t := 113) (off := 112) i_131_1 (by omega) (by omega) (by rw [u_1]; decide) (by decide) ?_
    refine r_aload_n i_131_113 rfl ?_
    refine r_getF (v := .ref y) i_131_114 rfl (hly 0 _ rfl) hl ?_
    refine r_getI i_131_117 rfl (Ly_0 hly hy) ?_
    have q_8 := Gy_0_6 hG hy
    exact r_iret i_131_120 rfl rfl (K (G y 6))
  · refine r_tabI (t := 121) (off := 120) i_131_1 (by omega) (by omega) (by rw [u_1]; decide) (by decide) ?_
    refine r_aload_n i_131_121 rfl ?_
    refine r_getI i_131_122 rfl (hly 0 _ rfl) ?_
    have q_9 := g_0_11 hG
    exact r_iret i_131_125 rfl rfl (K (G 0 11))
  · refine r_tabI (t := 126) (off := 125) i_131_1 (by omega) (by omega) (by rw [u_1]; decide) (by decide) ?_
    refine r_aload_n i_131_126 rfl ?_
    refine r_getF (v := .ref 27) i_131_127 rfl (hly 0 _ rfl) (hF.1 0 2 27 rfl) ?_
    refine r_getI i_131_130 rfl (hly 27 _ rfl) ?_
    have q_10 := g_27_3 hG
    exact r_iret i_131_133 rfl rfl (K (G 27 3))
  · refine r_tabI (t := 134) (off := 133) i_131_1 (by omega) (by omega) (by rw [u_1]; decide) (by decide) ?_
    refine r_aload_n i_131_134 rfl ?_
    refine r_getI i_131_135 rfl (hly 0 _ rfl) ?_
    have q_11 := g_0_5 hG
    exact r_iret i_131_138 rfl rfl (K (G 0 5))
