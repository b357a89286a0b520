set_option maxHeartbeats 4000000 in
theorem c_17 {L : Nat} {xs : Nat → Int32} {ly : List LK} {F : Nat → Nat → Value} {G A : Nat → Nat → Int} {B : Nat → Nat → Int64} {Q : Option Value → AH → Prop} {x : Nat} {k : Int} (hly : LyOk ly) (hF : RfOk F) (hG : GO G) (hA : AQ A) (in_k : inR k) (hx : x = 3 ∨ x = 61) (hk : 0 ≤ k ∧ k < 80) (K : ∀ (r : Int), (0 ≤ r ∧ r ≤ 99) → Q (some (V r)) (HP ly F G A B)) : Re L xs 17 0 [(0, .ref x), (1, V k)] [] (HP ly F G A B) Q := by
  refine r_iconst i_17_0 ?_
  refine r_aload_n i_17_1 rfl ?_
  refine r_getF (v := .ref (x + 5)) i_17_2 rfl (Lx_0 hly hx) (Rx_0_2 hF hx) ?_
  refine r_iload_n i_17_5 rfl ?_
  refine r_iald i_17_6 (Lx_5 hly hx) (by omega) (by omega) (by omega) ?_
  have q_1 := Ax_5 hA hx (k.toNat)
  refine r_aload_n i_17_7 rfl ?_
  refine r_getF (v := .ref (x + 8)) i_17_8 rfl (Lx_0 hly hx) (Rx_0_5 hF hx) ?_
  refine r_iload_n i_17_11 rfl ?_
  refine r_iald i_17_12 (Lx_8 hly hx) (by omega) (by omega) (by omega) ?_
  have q_2 := Ax_8 hA hx (k.toNat)
  refine r_isub i_17_13 ?_
  refine r_max (r := (0, 0, 0)) i_17_14 (by decide +kernel) (Nat.le_of_ble_eq_true rfl) (by omega) (by omega) (fun m_3 em_3 => ?_)
  exact r_iret i_17_17 rfl rfl (K m_3 (by omega))
set_option maxHeartbeats 4000000 in
theorem c_24 {L : Nat} {xs : Nat → Int32} {ly : List LK} {F : Nat → Nat → Value} {G A : Nat → Nat → Int} {B : Nat → Nat → Int64} {Q : Option Value → AH → Prop} {x : Nat} {k : Int} {day : Int} (hly : LyOk ly) (hF : RfOk F) (hG : GO G) (hA : AQ A) (in_k : inR k) (in_day : inR day) (hx : x = 3 ∨ x = 61) (hk : 0 ≤ k ∧ k < 80) (K : ∀ (r : Int), (0 ≤ r ∧ r ≤ 1) → Q (some (V r)) (HP ly F G A B)) : Re L xs 24 0 [(0, .ref x), (1, V k), (2, V day)] [] (HP ly F G A B) Q := by
  refine r_aload_n i_24_0 rfl ?_
  refine r_getF (v := .ref (x + 6)) i_24_1 rfl (Lx_0 hly hx) (Rx_0_3 hF hx) ?_
  refine r_iload_n i_24_4 rfl ?_
  refine r_iald i_24_5 (Lx_6 hly hx) (by omega) (by omega) (by omega) ?_
  have q_1 := Ax_6 hA hx (k.toNat)
  refine r_iload_n i_24_6 rfl ?_
  refine r_cgt (t := 24) i_24_7 (by decide) (by omega) (by omega) (fun u_2 => ?_) (fun u_2 => ?_)
  · skip
    refine r_iconst i_24_24 ?_
    exact r_iret i_24_25 rfl (nar_Z (by omega)) (K 0 (by omega))
  · skip
    refine r_iload_n i_24_10 rfl ?_
    refine r_aload_n i_24_11 rfl ?_
    refine r_getF (v := .ref (x + 7)) i_24_12 rfl (Lx_0 hly hx) (Rx_0_4 hF hx) ?_
    refine r_iload_n i_24_15 rfl ?_
    refine r_iald i_24_16 (Lx_7 hly hx) (by omega) (by omega) (by omega) ?_
    have q_3 := Ax_7 hA hx (k.toNat)
    refine r_cgt (t := 24) i_24_17 (by decide) (by omega) (by omega) (fun u_4 => ?_) (fun u_4 => ?_)
    · skip
      refine r_iconst i_24_24 ?_
      exact r_iret i_24_25 rfl (nar_Z (by omega)) (K 0 (by omega))
    · skip
      refine r_iconst i_24_20 ?_
      refine r_go (t := 25) i_24_21 (by decide) ?_
      exact r_iret i_24_25 rfl (nar_Z (by omega)) (K 1 (by omega))
set_option maxHeartbeats 4000000 in
theorem c_20 {L : Nat} {xs : Nat → Int32} {ly : List LK} {F : Nat → Nat → Value} {G A : Nat → Nat → Int} {B : Nat → Nat → Int64} {Q : Option Value → AH → Prop} {x : Nat} {ta : Nat} {at' : Int} {length : Int} {tn : Nat} (hly : LyOk ly) (hF : RfOk F) (hG : GO G) (hA : AQ A) (in_at' : inR at') (in_length : inR length) (hx : x = 3 ∨ x = 61) (hlt : ly[ta]? = some (.inr (.char, tn))) (hrt : ∀ i, 0 ≤ A ta i ∧ A ta i ≤ 255) (htn : tn ≤ 5000) (hat : 0 ≤ at' ∧ at' + length ≤ tn) (hle : length ≤ 12) (K : ∀ (r : Int), (0 ≤ r ∧ r ≤ 1) → Q (some (V r)) (HP ly F G A B)) : Re L xs 20 0 [(0, .ref x), (1, .ref ta), (2, V (at')), (3, V length)] [] (HP ly F G A B) Q := by
  refine r_iconst i_20_0 ?_
  refine r_istore (l' := [(0, .ref x), (1, .ref ta), (2, V (at')), (3, V length), (4, V 0)]) i_20_1 (by decide +kernel) rfl ?_
  have lp3B : ∀ (nf : Nat) (k : Int), (0 ≤ k ∧ k ≤ 20) → (20 - k).toNat < nf → Re L xs 20 3 [(0, .ref x), (1, .ref ta), (2, V (at')), (3, V length), (4, V k)] [] (HP ly F G A B) Q := by
    intro nf
    induction nf with
    | zero => intros; omega
    | succ nf ih3B =>
      intro k  hk hm3
      refine r_iload i_20_3 rfl ?_
      refine r_aload_n i_20_5 rfl ?_
      refine r_getF (v := .ref (x + 14)) i_20_6 rfl (Lx_0 hly hx) (Rx_0_9 hF hx) ?_
      refine r_getI i_20_9 rfl (Lx_14 hly hx) ?_
      have q_1 := Gx_14_2 hG hx
      refine r_cge (t := 38) i_20_12 (by decide) (by omega) (by omega) (fun u_2 => ?_) (fun u_2 => ?_)
      · skip
        refine r_iconst i_20_38 ?_
        exact r_iret i_20_39 rfl (nar_Z (by omega)) (K 0 (by omega))
      · skip
        refine r_aload_n i_20_15 rfl ?_
        refine r_getF (v := .ref (x + 14)) i_20_16 rfl (Lx_0 hly hx) (Rx_0_9 hF hx) ?_
        refine r_iload i_20_19 rfl ?_
        refine r_aload_n i_20_21 rfl ?_
        refine r_iload_n i_20_22 rfl ?_
        refine r_iload_n i_20_23 rfl ?_
        refine r_cV (as := [V length, V (at'), .ref ta, V k]) i_20_24 rfl (by decide +kernel) (Nat.le_of_ble_eq_true rfl) (Nat.le_of_ble_eq_true rfl) (Lx_14 hly hx) rfl ?_
        refine c_21 (f := x + 14) (index := k) (ta := ta) (at' := at') (length := length) (cap := 20) (tn := tn) hly hF hG hA (by omega) (by omega) (by omega) (by exact Fm_n hx) (by omega) (by exact hlt) (by exact hrt) (by omega) (by omega) (by omega) (fun r_3 p3_0 => ?_)
        show Re L xs 20 27 [(0, .ref x), (1, .ref ta), (2, V (at')), (3, V length), (4, V k)] [V r_3] (HP ly F G A B) _
        refine r_eq0 (t := 32) i_20_27 (by decide) (by omega) (fun u_4 => ?_) (fun u_4 => ?_)
        · skip
          refine r_iinc (l' := [(0, .ref x), (1, .ref ta), (2, V (at')), (3, V length), (4, V (k + 1))]) i_20_32 rfl (by decide +kernel) rfl ?_
          refine r_go (t := 3) i_20_35 (by decide) ?_
          exact ih3B (k + 1)  (by omega) (by omega)
        · skip
          refine r_iconst i_20_30 ?_
          exact r_iret i_20_31 rfl (nar_Z (by omega)) (K 1 (by omega))
  exact lp3B _ 0  (by omega) (Nat.lt_succ_self _)
set_option maxHeartbeats 4000000 in
theorem c_57 {L : Nat} {xs : Nat → Int32} {ly : List LK} {F : Nat → Nat → Value} {G A : Nat → Nat → Int} {B : Nat → Nat → Int64} {Q : Option Value → AH → Prop} {x : Nat} {ta : Nat} {at' : Int} {length : Int} {kind : Int} {tn : Nat} (hly : LyOk ly) (hF : RfOk F) (hG : GO G) (hA : AQ A) (in_at' : inR at') (in_length : inR length) (in_kind : inR kind) (hx : x = 3 ∨ x = 61) (hlt : ly[ta]? = some (.inr (.char, tn))) (hrt : ∀ i, 0 ≤ A ta i ∧ A ta i ≤ 255) (htn : tn ≤ 5000) (hat : 0 ≤ at' ∧ at' + length ≤ tn) (hle : length ≤ 12) (K : ∀ (r : Int), (0 ≤ r ∧ r ≤ 1) → Q (some (V r)) (HP ly F G A B)) : Re L xs 57 0 [(0, .ref x), (1, .ref ta), (2, V (at')), (3, V length), (4, V kind)] [] (HP ly F G A B) Q := by
  refine r_iconst i_57_0 ?_
  refine r_istore (l' := [(0, .ref x), (1, .ref ta), (2, V (at')), (3, V length), (4, V kind), (5, V 0)]) i_57_1 (by decide +kernel) rfl ?_
  have lp3B : ∀ (nf : Nat) (k : Int), (0 ≤ k ∧ k ≤ 80) → (80 - k).toNat < nf → Re L xs 57 3 [(0, .ref x), (1, .ref ta), (2, V (at')), (3, V length), (4, V kind), (5, V k)] [] (HP ly F G A B) Q := by
    intro nf
    induction nf with
    | zero => intros; omega
    | succ nf ih3B =>
      intro k  hk hm3
      refine r_iload i_57_3 rfl ?_
      refine r_aload_n i_57_5 rfl ?_
      refine r_getF (v := .ref (x + 1)) i_57_6 rfl (Lx_0 hly hx) (Rx_0_0 hF hx) ?_
      refine r_getI i_57_9 rfl (Lx_1 hly hx) ?_
      have q_1 := Gx_1_2 hG hx
      refine r_cge (t := 50) i_57_12 (by decide) (by omega) (by omega) (fun u_2 => ?_) (fun u_2 => ?_)
      · skip
        refine r_iconst i_57_50 ?_
        exact r_iret i_57_51 rfl (nar_Z (by omega)) (K 0 (by omega))
      · skip
        refine r_aload_n i_57_15 rfl ?_
        refine r_getF (v := .ref (x + 4)) i_57_16 rfl (Lx_0 hly hx) (Rx_0_1 hF hx) ?_
        refine r_iload i_57_19 rfl ?_
        refine r_iald i_57_21 (Lx_4 hly hx) (by omega) (by omega) (by omega) ?_
        have q_3 := Ax_4 hA hx (k.toNat)
        refine r_iload i_57_22 rfl ?_
        refine r_cne (t := 44) i_57_24 (by decide) (by omega) (by omega) (fun u_4 => ?_) (fun u_4 => ?_)
        · skip
          refine r_iinc (l' := [(0, .ref x), (1, .ref ta), (2, V (at')), (3, V length), (4, V kind), (5, V (k + 1))]) i_57_44 rfl (by decide +kernel) rfl ?_
          refine r_go (t := 3) i_57_47 (by decide) ?_
          exact ih3B (k + 1)  (by omega) (by omega)
        · skip
          refine r_aload_n i_57_27 rfl ?_
          refine r_getF (v := .ref (x + 1)) i_57_28 rfl (Lx_0 hly hx) (Rx_0_0 hF hx) ?_
          refine r_iload i_57_31 rfl ?_
          refine r_aload_n i_57_33 rfl ?_
          refine r_iload_n i_57_34 rfl ?_
          refine r_iload_n i_57_35 rfl ?_
          refine r_cV (as := [V length, V (at'), .ref ta, V k]) i_57_36 rfl (by decide +kernel) (Nat.le_of_ble_eq_true rfl) (Nat.le_of_ble_eq_true rfl) (Lx_1 hly hx) rfl ?_
          refine c_29 (f := x + 1) (index := k) (ta := ta) (at' := at') (length := length) (cap := 80) (tn := tn) hly hF hG hA (by omega) (by omega) (by omega) (by exact Fm_w hx) (by omega) (by exact hlt) (by exact hrt) (by omega) (by omega) (by omega) (fun r_5 p5_0 => ?_)
          show Re L xs 57 39 [(0, .ref x), (1, .ref ta), (2, V (at')), (3, V length), (4, V kind), (5, V k)] [V r_5] (HP ly F G A B) _
          refine r_eq0 (t := 44) i_57_39 (by decide) (by omega) (fun u_6 => ?_) (fun u_6 => ?_)
          · skip
            refine r_iinc (l' := [(0, .ref x), (1, .ref ta), (2, V (at')), (3, V length), (4, V kind), (5, V (k + 1))]) i_57_44 rfl (by decide +kernel) rfl ?_
            refine r_go (t := 3) i_57_47 (by decide) ?_
            exact ih3B (k + 1)  (by omega) (by omega)
          · skip
            refine r_iconst i_57_42 ?_
            exact r_iret i_57_43 rfl (nar_Z (by omega)) (K 1 (by omega))
  exact lp3B _ 0  (by omega) (Nat.lt_succ_self _)
set_option maxHeartbeats 4000000 in
theorem c_64 {L : Nat} {xs : Nat → Int32} {ly : List LK} {F : Nat → Nat → Value} {G A : Nat → Nat → Int} {B : Nat → Nat → Int64} {Q : Option Value → AH → Prop} {x : Nat} {pair : Int} {cost : Int} (hly : LyOk ly) (hF : RfOk F) (hG : GO G) (hA : AQ A) (in_pair : inR pair) (in_cost : inR cost) (hx : x = 3 ∨ x = 61) (hp : 0 ≤ pair ∧ pair < 64) (hc : (0 ≤ cost ∧ cost ≤ 99) ∨ cost = 1000000) (hn : G x 12 < 40) (K : ∀ (G' : Nat → Nat → Int) (A' : Nat → Nat → Int), (GO G') → (AQ A') → (∀ a k, ¬ ((a = x ∧ k = 12)) → G' a k = G a k) → (∀ a, ¬ (a = x + 17 ∨ a = x + 18) → A' a = A a) → (PC A (x + 17) → PC A' (x + 17)) → Q none (HP ly F G' A' B)) : Re L xs 64 0 [(0, .ref x), (1, V pair), (2, V cost)] [] (HP ly F G A B) Q := by
  refine r_aload_n i_64_0 rfl ?_
  refine r_getF (v := .ref (x + 18)) i_64_1 rfl (Lx_0 hly hx) (Rx_0_11 hF hx) ?_
  refine r_iload_n i_64_4 rfl ?_
  refine r_iconst i_64_5 ?_
  refine r_zastQ i_64_6 (Lx_18 hly hx) (by omega) (by omega) (by omega) (by omega) (fun A_1 eA_1 => ?_)
  have hA_1 : AQ A_1 := by rw [eA_1]; exact AUx_18 hx hA (by omega) (by omega)
  refine r_aload_n i_64_7 rfl ?_
  refine r_getF (v := .ref (x + 17)) i_64_8 rfl (Lx_0 hly hx) (Rx_0_10 hF hx) ?_
  refine r_iload_n i_64_11 rfl ?_
  refine r_iload_n i_64_12 rfl ?_
  refine r_iastQ i_64_13 (Lx_17 hly hx) (by omega) (by omega) (by omega) (fun A_2 eA_2 => ?_)
  have hA_2 : AQ A_2 := by rw [eA_2]; exact AUx_17 hx hA_1 (by omega) (by omega)
  have xx17_1 : A_2 (x + 17) = fun i => if i = pair.toNat then cost else A (x + 17) i := by rw [eA_2, up2_f, eA_1, up2_a (by omega)]
  have xx17 : A_2 (x + 17) = fun i => if i = pair.toNat then cost else A (x + 17) i := by rw [xx17_1]
  refine r_aload_n i_64_14 rfl ?_
  refine re_nx i_64_15 rfl ?_
  refine r_getI i_64_16 rfl (Lx_0 hly hx) ?_
  have q_3 := Gx_0_12 hG hx
  refine r_iconst i_64_19 ?_
  refine r_iadd i_64_20 ?_
  refine r_putIQ i_64_21 (by decide +kernel) (Lx_0 hly hx) (fun G_4 eG_4 => ?_)
  have hG_4 : GO G_4 := by rw [eG_4]; exact GUx_0_12 hx hG (by omega) (by omega)
  exact r_vret i_64_24 rfl (K G_4 A_2 hG_4 hA_2 (by intro a k hh; rw [eG_4, up2_n (fun h => hh h)]) (by intro a hh; rw [eA_2, up2_a (fun h => hh (Or.inl h)), eA_1, up2_a (fun h => hh (Or.inr h))]) (by intro h; exact PC_up h xx17 (by omega)))
set_option maxHeartbeats 4000000 in
theorem c_40 {L : Nat} {xs : Nat → Int32} {ly : List LK} {F : Nat → Nat → Value} {G A : Nat → Nat → Int} {B : Nat → Nat → Int64} {Q : Option Value → AH → Prop} {x : Nat} (hly : LyOk ly) (hF : RfOk F) (hG : GO G) (hA : AQ A) (hx : x = 3 ∨ x = 61) (K : ∀ (G' : Nat → Nat → Int) (A' : Nat → Nat → Int), (GO G') → (AQ A') → (∀ a k, ¬ ((a = x + 1 ∧ k = 2) ∨ (a = x + 9 ∧ k = 2) ∨ (a = x + 14 ∧ k = 2) ∨ (a = x ∧ k = 12) ∨ (a = x ∧ k = 13) ∨ (a = x ∧ k = 14) ∨ (a = x ∧ k = 15)) → G' a k = G a k) → (∀ a, ¬ (a = x + 17 ∨ a = x + 18) → A' a = A a) → (G' (x + 1) 2 = 0) → (PC A' (x + 17)) → Q none (HP ly F G' A' B)) : Re L xs 40 0 [(0, .ref x)] [] (HP ly F G A B) Q := by
  refine r_aload_n i_40_0 rfl ?_
  refine r_getF (v := .ref (x + 1)) i_40_1 rfl (Lx_0 hly hx) (Rx_0_0 hF hx) ?_
  refine r_iconst i_40_4 ?_
  refine r_putIQ i_40_5 (by decide +kernel) (Lx_1 hly hx) (fun G_1 eG_1 => ?_)
  have hG_1 : GO G_1 := by rw [eG_1]; exact GUx_1_2 hx hG (by omega) (by omega)
  refine r_aload_n i_40_8 rfl ?_
  refine r_getF (v := .ref (x + 9)) i_40_9 rfl (Lx_0 hly hx) (Rx_0_6 hF hx) ?_
  refine r_iconst i_40_12 ?_
  refine r_putIQ i_40_13 (by decide +kernel) (Lx_9 hly hx) (fun G_2 eG_2 => ?_)
  have hG_2 : GO G_2 := by rw [eG_2]; exact GUx_9_2 hx hG_1 (by omega) (by omega)
  refine r_aload_n i_40_16 rfl ?_
  refine r_getF (v := .ref (x + 14)) i_40_17 rfl (Lx_0 hly hx) (Rx_0_9 hF hx) ?_
  refine r_iconst i_40_20 ?_
  refine r_putIQ i_40_21 (by decide +kernel) (Lx_14 hly hx) (fun G_3 eG_3 => ?_)
  have hG_3 : GO G_3 := by rw [eG_3]; exact GUx_14_2 hx hG_2 (by omega) (by omega)
  refine r_aload_n i_40_24 rfl ?_
  refine r_iconst i_40_25 ?_
  refine r_putIQ i_40_26 (by decide +kernel) (Lx_0 hly hx) (fun G_4 eG_4 => ?_)
  have hG_4 : GO G_4 := by rw [eG_4]; exact GUx_0_12 hx hG_3 (by omega) (by omega)
  refine r_aload_n i_40_29 rfl ?_
  refine r_getF (v := .ref (x + 17)) i_40_30 rfl (Lx_0 hly hx) (Rx_0_10 hF hx) ?_
  refine r_iconst i_40_33 ?_
  refine r_cS (as := [V 0, .ref (x + 17)]) i_40_34 rfl (by decide +kernel) (Nat.le_of_ble_eq_true rfl) (Nat.le_of_ble_eq_true rfl) ?_
  refine c_41 (ra := x + 17) (v := 0) (rn := 64) hly hF hG_4 hA (by omega) (by exact Lx_17 hly hx) (by omega) (by exact fun A1 i h => AUx_17 hx h (by omega) (by omega)) (fun A_5 hA_5 fa5 p5_0 => ?_)
  show Re L xs 40 37 [(0, .ref x)] [] (HP ly F G_4 A_5 B) _
  refine r_iconst i_40_37 ?_
  refine r_istore_n (l' := [(0, .ref x), (1, V 0)]) i_40_38 (by decide +kernel) rfl ?_
  have lp39B : ∀ (nf : Nat) (k : Int) (A39 : Nat → Nat → Int), (AQ A39) → (∀ a, ¬ (a = x + 18) → A39 a = A_5 a) → (0 ≤ k ∧ k ≤ 64) → (64 - k).toNat < nf → Re L xs 40 39 [(0, .ref x), (1, V k)] [] (HP ly F G_4 A39 B) Q := by
    intro nf
    induction nf with
    | zero => intros; omega
    | succ nf ih39B =>
      intro k A39 hA39 fa39 hk hm39
      refine r_iload_n i_40_39 rfl ?_
      refine r_aload_n i_40_40 rfl ?_
      refine r_getF (v := .ref (x + 18)) i_40_41 rfl (Lx_0 hly hx) (Rx_0_11 hF hx) ?_
      refine r_alen i_40_44 (Lx_18 hly hx) rfl ?_
      refine r_cge (t := 61) i_40_45 (by decide) (by omega) (by omega) (fun u_6 => ?_) (fun u_6 => ?_)
      · skip
        refine r_aload_n i_40_61 rfl ?_
        refine r_iconst i_40_62 ?_
        refine r_putZQ i_40_63 (by decide +kernel) (Lx_0 hly hx) (by omega) (fun G_7 eG_7 => ?_)
        have hG_7 : GO G_7 := by rw [eG_7]; exact GUx_0_13 hx hG_4 (by omega) (by omega)
        refine r_aload_n i_40_66 rfl ?_
        refine r_iconst i_40_67 ?_
        refine r_putIQ i_40_68 (by decide +kernel) (Lx_0 hly hx) (fun G_8 eG_8 => ?_)
        have hG_8 : GO G_8 := by rw [eG_8]; exact GUx_0_14 hx hG_7 (by omega) (by omega)
        refine r_aload_n i_40_71 rfl ?_
        refine r_bipush i_40_72 (by decide) ?_
        refine r_putIQ i_40_74 (by decide +kernel) (Lx_0 hly hx) (fun G_9 eG_9 => ?_)
        have hG_9 : GO G_9 := by rw [eG_9]; exact GUx_0_15 hx hG_8 (by omega) (by omega)
        exact r_vret i_40_77 rfl (K G_9 A39 hG_9 hA39 (by intro a k hh; rw [eG_9, up2_n (fun h => hh (Or.inr (Or.inr (Or.inr (Or.inr (Or.inr (Or.inr h))))))), eG_8, up2_n (fun h => hh (Or.inr (Or.inr (Or.inr (Or.inr (Or.inr (Or.inl h))))))), eG_7, up2_n (fun h => hh (Or.inr (Or.inr (Or.inr (Or.inr (Or.inl h)))))), eG_4, up2_n (fun h => hh (Or.inr (Or.inr (Or.inr (Or.inl h))))), eG_3, up2_n (fun h => hh (Or.inr (Or.inr (Or.inl h)))), eG_2, up2_n (fun h => hh (Or.inr (Or.inl h))), eG_1, up2_n (fun h => hh (Or.inl h))]) (by intro a hh; rw [fa39 a (fun h => hh (Or.inr h)), fa5 a (fun h => hh (Or.inl h))]) (by rw [show G_9 (x + 1) 2 = 0 from by rw [eG_9, up2_n (by omega), eG_8, up2_n (by omega), eG_7, up2_n (by omega), eG_4, up2_n (by omega), eG_3, up2_n (by omega), eG_2, up2_n (by omega), eG_1, up2_s]] <;> omega) (by exact PC_c (by rw [fa39 (x + 17) (by omega)]) (PC_0 (fun i hi => p5_0 i hi))))
      · skip
        refine r_aload_n i_40_48 rfl ?_
        refine r_getF (v := .ref (x + 18)) i_40_49 rfl (Lx_0 hly hx) (Rx_0_11 hF hx) ?_
        refine r_iload_n i_40_52 rfl ?_
        refine r_iconst i_40_53 ?_
        refine r_zastQ i_40_54 (Lx_18 hly hx) (by omega) (by omega) (by omega) (by omega) (fun A_10 eA_10 => ?_)
        have hA_10 : AQ A_10 := by rw [eA_10]; exact AUx_18 hx hA39 (by omega) (by omega)
        refine r_iinc (l' := [(0, .ref x), (1, V (k + 1))]) i_40_55 rfl (by decide +kernel) rfl ?_
        refine r_go (t := 39) i_40_58 (by decide) ?_
        exact ih39B (k + 1) A_10 hA_10 (by intro a hh; rw [eA_10, up2_a (fun h => hh h), fa39 a (fun h => hh h)]) (by omega) (by omega)
  exact lp39B _ 0 A_5 hA_5 (by intro a hh; rfl) (by omega) (Nat.lt_succ_self _)
set_option maxHeartbeats 4000000 in
theorem c_45 {L : Nat} {xs : Nat → Int32} {ly : List LK} {F : Nat → Nat → Value} {G A : Nat → Nat → Int} {B : Nat → Nat → Int64} {Q : Option Value → AH → Prop} {sort : Int} {at' : Int} {length : Int} {value : Int} (hly : LyOk ly) (hF : RfOk F) (hG : GO G) (hA : AQ A) (in_sort : inR sort) (in_at' : inR at') (in_length : inR length) (in_value : inR value) (hs : 0 ≤ sort ∧ sort ≤ 4) (ha : 0 ≤ at' ∧ at' ≤ 2000) (hl : 0 ≤ length ∧ length ≤ 12) (hv : 0 ≤ value ∧ value ≤ 999999) (hfo : sort = 0 → at' + length ≤ 2000) (htk : tkO G A) (K : ∀ (G' : Nat → Nat → Int) (A' : Nat → Nat → Int), (GO G') → (AQ A') → (∀ a k, ¬ ((a = 22 ∧ k = 4)) → G' a k = G a k) → (∀ a, ¬ (a = 23 ∨ a = 24 ∨ a = 25 ∨ a = 26) → A' a = A a) → (tkO G' A') → Q none (HP ly F G' A' B)) : Re L xs 45 0 [(0, .ref 22), (1, V sort), (2, V (at')), (3, V length), (4, V value)] [] (HP ly F G A B) Q := by
  refine r_aload_n i_45_0 rfl ?_
  refine r_getI i_45_1 rfl (hly 22 _ rfl) ?_
  have q_1 := g_22_4 hG
  refine r_sipush i_45_4 (by decide) ?_
  refine r_cgt (t := 61) i_45_7 (by decide) (by omega) (by omega) (fun u_2 => ?_) (fun u_2 => ?_)
  · skip
    exact r_vret i_45_61 rfl (K G A hG hA (by intro a k hh; rfl) (by intro a hh; rfl) (by first | exact htk | exact tkO_a (n := G 22 4) rfl (by rfl) (by omega) htk x23 x24 x25 hfo))
  · skip
    refine r_aload_n i_45_10 rfl ?_
    refine r_getF (v := .ref 23) i_45_11 rfl (hly 22 _ rfl) (hF.1 22 0 23 rfl) ?_
    refine r_aload_n i_45_14 rfl ?_
    refine r_getI i_45_15 rfl (hly 22 _ rfl) ?_
    refine r_iload_n i_45_18 rfl ?_
    refine r_iastQ i_45_19 (hly 23 _ rfl) (by omega) (by omega) (by omega) (fun A_3 eA_3 => ?_)
    have hA_3 : AQ A_3 := by rw [eA_3]; exact au_23 hA (by omega) (by omega)
    refine r_aload_n i_45_20 rfl ?_
    refine r_getF (v := .ref 24) i_45_21 rfl (hly 22 _ rfl) (hF.1 22 1 24 rfl) ?_
    refine r_aload_n i_45_24 rfl ?_
    refine r_getI i_45_25 rfl (hly 22 _ rfl) ?_
    refine r_iload_n i_45_28 rfl ?_
    refine r_iastQ i_45_29 (hly 24 _ rfl) (by omega) (by omega) (by omega) (fun A_4 eA_4 => ?_)
    have hA_4 : AQ A_4 := by rw [eA_4]; exact au_24 hA_3 (by omega) (by omega)
    refine r_aload_n i_45_30 rfl ?_
    refine r_getF (v := .ref 25) i_45_31 rfl (hly 22 _ rfl) (hF.1 22 2 25 rfl) ?_
    refine r_aload_n i_45_34 rfl ?_
    refine r_getI i_45_35 rfl (hly 22 _ rfl) ?_
    refine r_iload_n i_45_38 rfl ?_
    refine r_iastQ i_45_39 (hly 25 _ rfl) (by omega) (by omega) (by omega) (fun A_5 eA_5 => ?_)
    have hA_5 : AQ A_5 := by rw [eA_5]; exact au_25 hA_4 (by omega) (by omega)
    refine r_aload_n i_45_40 rfl ?_
    refine r_getF (v := .ref 26) i_45_41 rfl (hly 22 _ rfl) (hF.1 22 3 26 rfl) ?_
    refine r_aload_n i_45_44 rfl ?_
    refine r_getI i_45_45 rfl (hly 22 _ rfl) ?_
    refine r_iload i_45_48 rfl ?_
    refine r_iastQ i_45_50 (hly 26 _ rfl) (by omega) (by omega) (by omega) (fun A_6 eA_6 => ?_)
    have hA_6 : AQ A_6 := by rw [eA_6]; exact au_26 hA_5 (by omega) (by omega)
    have x23_1 : A_3 23 = fun i => if i = (G 22 4).toNat then sort else A 23 i := by rw [eA_3, up2_f]
    have x23 : A_6 23 = fun i => if i = (G 22 4).toNat then sort else A 23 i := by rw [eA_6, up2_a (by omega), eA_5, up2_a (by omega), eA_4, up2_a (by omega), x23_1]
    have x24_1 : A_4 24 = fun i => if i = (G 22 4).toNat then at' else A 24 i := by rw [eA_4, up2_f, eA_3, up2_a (by omega)]
    have x24 : A_6 24 = fun i => if i = (G 22 4).toNat then at' else A 24 i := by rw [eA_6, up2_a (by omega), eA_5, up2_a (by omega), x24_1]
    have x25_1 : A_5 25 = fun i => if i = (G 22 4).toNat then length else A 25 i := by rw [eA_5, up2_f, eA_4, up2_a (by omega), eA_3, up2_a (by omega)]
    have x25 : A_6 25 = fun i => if i = (G 22 4).toNat then length else A 25 i := by rw [eA_6, up2_a (by omega), x25_1]
    refine r_aload_n i_45_51 rfl ?_
    refine re_nx i_45_52 rfl ?_
    refine r_getI i_45_53 rfl (hly 22 _ rfl) ?_
    refine r_iconst i_45_56 ?_
    refine r_iadd i_45_57 ?_
    refine r_putIQ i_45_58 (by decide +kernel) (hly 22 _ rfl) (fun G_7 eG_7 => ?_)
    have hG_7 : GO G_7 := by rw [eG_7]; exact gu_22_4 hG (by omega) (by omega)
    exact r_vret i_45_61 rfl (K G_7 A_6 hG_7 hA_6 (by intro a k hh; rw [eG_7, up2_n (fun h => hh h)]) (by intro a hh; rw [eA_6, up2_a (fun h => hh (Or.inr (Or.inr (Or.inr h)))), eA_5, up2_a (fun h => hh (Or.inr (Or.inr (Or.inl h)))), eA_4, up2_a (fun h => hh (Or.inr (Or.inl h))), eA_3, up2_a (fun h => hh (Or.inl h))]) (by first | exact htk | exact tkO_a (n := G 22 4) rfl (by rw [eG_7, up2_s]) (by omega) htk x23 x24 x25 hfo))
set_option maxHeartbeats 4000000 in
theorem c_44 {L : Nat} {xs : Nat → Int32} {ly : List LK} {F : Nat → Nat → Value} {G A : Nat → Nat → Int} {B : Nat → Nat → Int64} {Q : Option Value → AH → Prop} {at' : Int} {n : Int} (hly : LyOk ly) (hF : RfOk F) (hG : GO G) (hA : AQ A) (in_at' : inR at') (in_n : inR n) (ha : 0 ≤ at' ∧ at' < n) (hn : n ≤ 2000) (htk : tkO G A) (K : ∀ (r : Int) (G' : Nat → Nat → Int) (A' : Nat → Nat → Int), (GO G') → (AQ A') → (∀ a k, ¬ ((a = 22 ∧ k = 4)) → G' a k = G a k) → (∀ a, ¬ (a = 23 ∨ a = 24 ∨ a = 25 ∨ a = 26) → A' a = A a) → (at' < r ∧ r ≤ n) → (tkO G' A') → Q (some (V r)) (HP ly F G' A' B)) : Re L xs 44 0 [(0, .ref 22), (1, .ref 1), (2, V (at')), (3, V n)] [] (HP ly F G A B) Q := by
  refine r_iload_n i_44_0 rfl ?_
  refine r_iload_n i_44_1 rfl ?_
  refine r_bipush i_44_2 (by decide) ?_
  refine r_iadd i_44_4 ?_
  refine r_min (r := (0, 0, 0)) i_44_5 (by decide +kernel) (Nat.le_of_ble_eq_true rfl) (by omega) (by omega) (fun m_1 em_1 => ?_)
  refine r_istore (l' := [(0, .ref 22), (1, .ref 1), (2, V (at')), (3, V n), (4, V m_1)]) i_44_8 (by decide +kernel) rfl ?_
  refine r_iload_n i_44_10 rfl ?_
  refine r_iconst i_44_11 ?_
  refine r_iadd i_44_12 ?_
  refine r_istore (l' := [(0, .ref 22), (1, .ref 1), (2, V (at')), (3, V n), (4, V m_1), (5, V (at' + 1))]) i_44_13 (by decide +kernel) rfl ?_
  have lp15B : ∀ (nf : Nat) (b : Int), (at' + 1 ≤ b ∧ b ≤ m_1) → (m_1 - b).toNat < nf → Re L xs 44 15 [(0, .ref 22), (1, .ref 1), (2, V (at')), (3, V n), (4, V m_1), (5, V b)] [] (HP ly F G A B) Q := by
    intro nf
    induction nf with
    | zero => intros; omega
    | succ nf ih15B =>
      intro b  hb hm15
      refine r_iload i_44_15 rfl ?_
      refine r_iload i_44_17 rfl ?_
      refine r_cge (t := 38) i_44_19 (by decide) (by omega) (by omega) (fun u_2 => ?_) (fun u_2 => ?_)
      · skip
        refine r_aload_n i_44_38 rfl ?_
        refine r_iconst i_44_39 ?_
        refine r_iload_n i_44_40 rfl ?_
        refine r_iload i_44_41 rfl ?_
        refine r_iload_n i_44_43 rfl ?_
        refine r_isub i_44_44 ?_
        refine r_iconst i_44_45 ?_
        refine r_cV (as := [V 0, V (b - at'), V (at'), V 0]) i_44_46 rfl (by decide +kernel) (Nat.le_of_ble_eq_true rfl) (Nat.le_of_ble_eq_true rfl) (hly 22 _ rfl) rfl ?_
        refine c_45 (sort := 0) (at' := at') (length := b - at') (value := 0) hly hF hG hA (by omega) (by omega) (by omega) (by omega) (by omega) (by omega) (by omega) (by omega) (by omega) (by exact htk) (fun G_3 A_4 hG_3 hA_4 fg4 fa4 p4_0 => ?_)
        show Re L xs 44 49 [(0, .ref 22), (1, .ref 1), (2, V (at')), (3, V n), (4, V m_1), (5, V b)] [] (HP ly F G_3 A_4 B) _
        refine r_iload i_44_49 rfl ?_
        exact r_iret i_44_51 rfl rfl (K b G_3 A_4 hG_3 hA_4 (by intro a k hh; rw [fg4 a k (fun h => hh h)]) (by intro a hh; rw [fa4 a (fun h => h.elim (fun h => hh (Or.inl h)) (fun h => h.elim (fun h => hh (Or.inr (Or.inl h))) (fun h => h.elim (fun h => hh (Or.inr (Or.inr (Or.inl h)))) (fun h => hh (Or.inr (Or.inr (Or.inr h)))))))]) (by omega) (by exact p4_0))
      · skip
        refine r_aload_n i_44_22 rfl ?_
        refine r_iload i_44_23 rfl ?_
        refine r_cald i_44_25 (hly 1 _ rfl) (by omega) (by omega) (by omega) ?_
        have q_5 := a_1 hA (b.toNat)
        refine r_cS (as := [V (A 1 (b.toNat))]) i_44_26 rfl (by decide +kernel) (Nat.le_of_ble_eq_true rfl) (Nat.le_of_ble_eq_true rfl) ?_
        refine c_43 (c := A 1 (b.toNat)) hly hF hG hA (by omega) (fun r_6 p6_0 => ?_)
        show Re L xs 44 29 [(0, .ref 22), (1, .ref 1), (2, V (at')), (3, V n), (4, V m_1), (5, V b)] [V r_6] (HP ly F G A B) _
        refine r_eq0 (t := 38) i_44_29 (by decide) (by omega) (fun u_7 => ?_) (fun u_7 => ?_)
        · skip
          refine r_aload_n i_44_38 rfl ?_
          refine r_iconst i_44_39 ?_
          refine r_iload_n i_44_40 rfl ?_
          refine r_iload i_44_41 rfl ?_
          refine r_iload_n i_44_43 rfl ?_
          refine r_isub i_44_44 ?_
          refine r_iconst i_44_45 ?_
          refine r_cV (as := [V 0, V (b - at'), V (at'), V 0]) i_44_46 rfl (by decide +kernel) (Nat.le_of_ble_eq_true rfl) (Nat.le_of_ble_eq_true rfl) (hly 22 _ rfl) rfl ?_
          refine c_45 (sort := 0) (at' := at') (length := b - at') (value := 0) hly hF hG hA (by omega) (by omega) (by omega) (by omega) (by omega) (by omega) (by omega) (by omega) (by omega) (by exact htk) (fun G_8 A_9 hG_8 hA_9 fg9 fa9 p9_0 => ?_)
          show Re L xs 44 49 [(0, .ref 22), (1, .ref 1), (2, V (at')), (3, V n), (4, V m_1), (5, V b)] [] (HP ly F G_8 A_9 B) _
          refine r_iload i_44_49 rfl ?_
          exact r_iret i_44_51 rfl rfl (K b G_8 A_9 hG_8 hA_9 (by intro a k hh; rw [fg9 a k (fun h => hh h)]) (by intro a hh; rw [fa9 a (fun h => h.elim (fun h => hh (Or.inl h)) (fun h => h.elim (fun h => hh (Or.inr (Or.inl h))) (fun h => h.elim (fun h => hh (Or.inr (Or.inr (Or.inl h)))) (fun h => hh (Or.inr (Or.inr (Or.inr h)))))))]) (by omega) (by exact p9_0))
        · skip
          refine r_iinc (l' := [(0, .ref 22), (1, .ref 1), (2, V (at')), (3, V n), (4, V m_1), (5, V (b + 1))]) i_44_32 rfl (by decide +kernel) rfl ?_
          refine r_go (t := 15) i_44_35 (by decide) ?_
          exact ih15B (b + 1)  (by omega) (by omega)
  exact lp15B _ (at' + 1)  (by omega) (Nat.lt_succ_self _)
set_option maxHeartbeats 4000000 in
theorem c_47 {L : Nat} {xs : Nat → Int32} {ly : List LK} {F : Nat → Nat → Value} {G A : Nat → Nat → Int} {B : Nat → Nat → Int64} {Q : Option Value → AH → Prop} {at' : Int} {n : Int} (hly : LyOk ly) (hF : RfOk F) (hG : GO G) (hA : AQ A) (in_at' : inR at') (in_n : inR n) (ha : 0 ≤ at' ∧ at' < n) (hn : n ≤ 2000) (htk : tkO G A) (K : ∀ (r : Int) (G' : Nat → Nat → Int) (A' : Nat → Nat → Int), (GO G') → (AQ A') → (∀ a k, ¬ ((a = 22 ∧ k = 4)) → G' a k = G a k) → (∀ a, ¬ (a = 23 ∨ a = 24 ∨ a = 25 ∨ a = 26) → A' a = A a) → (at' ≤ r ∧ r ≤ n) → (tkO G' A') → Q (some (V r)) (HP ly F G' A' B)) : Re L xs 47 0 [(0, .ref 22), (1, .ref 1), (2, V (at')), (3, V n)] [] (HP ly F G A B) Q := by
  refine r_iload_n i_47_0 rfl ?_
  refine r_iload_n i_47_1 rfl ?_
  refine r_bipush i_47_2 (by decide) ?_
  refine r_iadd i_47_4 ?_
  refine r_min (r := (0, 0, 0)) i_47_5 (by decide +kernel) (Nat.le_of_ble_eq_true rfl) (by omega) (by omega) (fun m_1 em_1 => ?_)
  refine r_istore (l' := [(0, .ref 22), (1, .ref 1), (2, V (at')), (3, V n), (4, V m_1)]) i_47_8 (by decide +kernel) rfl ?_
  refine r_iload_n i_47_10 rfl ?_
  refine r_istore (l' := [(0, .ref 22), (1, .ref 1), (2, V (at')), (3, V n), (4, V m_1), (5, V (at'))]) i_47_11 (by decide +kernel) rfl ?_
  refine r_iconst i_47_13 ?_
  refine r_istore (l' := [(0, .ref 22), (1, .ref 1), (2, V (at')), (3, V n), (4, V m_1), (5, V (at')), (6, V 0)]) i_47_14 (by decide +kernel) rfl ?_
  have lp16B : ∀ (nf : Nat) (b : Int) (v : Int), (at' ≤ b ∧ b ≤ m_1) → (0 ≤ v) → (b = at' + 0 → v ≤ 0) → (b = at' + 1 → v ≤ 9) → (b = at' + 2 → v ≤ 99) → (b = at' + 3 → v ≤ 999) → (b = at' + 4 → v ≤ 9999) → (b = at' + 5 → v ≤ 99999) → (b = at' + 6 → v ≤ 999999) → (m_1 - b).toNat < nf → Re L xs 47 16 [(0, .ref 22), (1, .ref 1), (2, V (at')), (3, V n), (4, V m_1), (5, V b), (6, V v)] [] (HP ly F G A B) Q := by
    intro nf
    induction nf with
    | zero => intros; omega
    | succ nf ih16B =>
      intro b v  hb hv hd0 hd1 hd2 hd3 hd4 hd5 hd6 hm16
      refine r_iload i_47_16 rfl ?_
      refine r_iload i_47_18 rfl ?_
      refine r_cge (t := 54) i_47_20 (by decide) (by omega) (by omega) (fun u_2 => ?_) (fun u_2 => ?_)
      · skip
        refine r_aload_n i_47_54 rfl ?_
        refine r_iconst i_47_55 ?_
        refine r_iload_n i_47_56 rfl ?_
        refine r_iload i_47_57 rfl ?_
        refine r_iload_n i_47_59 rfl ?_
        refine r_isub i_47_60 ?_
        refine r_iload i_47_61 rfl ?_
        refine r_cV (as := [V v, V (b - at'), V (at'), V 1]) i_47_63 rfl (by decide +kernel) (Nat.le_of_ble_eq_true rfl) (Nat.le_of_ble_eq_true rfl) (hly 22 _ rfl) rfl ?_
        refine c_45 (sort := 1) (at' := at') (length := b - at') (value := v) hly hF hG hA (by omega) (by omega) (by omega) (by omega) (by omega) (by omega) (by omega) (by omega) (by omega) (by exact htk) (fun G_3 A_4 hG_3 hA_4 fg4 fa4 p4_0 => ?_)
        show Re L xs 47 66 [(0, .ref 22), (1, .ref 1), (2, V (at')), (3, V n), (4, V m_1), (5, V b), (6, V v)] [] (HP ly F G_3 A_4 B) _
        refine r_iload i_47_66 rfl ?_
        exact r_iret i_47_68 rfl rfl (K b G_3 A_4 hG_3 hA_4 (by intro a k hh; rw [fg4 a k (fun h => hh h)]) (by intro a hh; rw [fa4 a (fun h => h.elim (fun h => hh (Or.inl h)) (fun h => h.elim (fun h => hh (Or.inr (Or.inl h))) (fun h => h.elim (fun h => hh (Or.inr (Or.inr (Or.inl h)))) (fun h => hh (Or.inr (Or.inr (Or.inr h)))))))]) (by omega) (by exact p4_0))
      · skip
        refine r_aload_n i_47_23 rfl ?_
        refine r_iload i_47_24 rfl ?_
        refine r_cald i_47_26 (hly 1 _ rfl) (by omega) (by omega) (by omega) ?_
        have q_5 := a_1 hA (b.toNat)
        refine r_cS (as := [V (A 1 (b.toNat))]) i_47_27 rfl (by decide +kernel) (Nat.le_of_ble_eq_true rfl) (Nat.le_of_ble_eq_true rfl) ?_
        refine c_46 (c := A 1 (b.toNat)) hly hF hG hA (by omega) (fun r_6 p6_0 p6_1 => ?_)
        show Re L xs 47 30 [(0, .ref 22), (1, .ref 1), (2, V (at')), (3, V n), (4, V m_1), (5, V b), (6, V v)] [V r_6] (HP ly F G A B) _
        refine r_eq0 (t := 54) i_47_30 (by decide) (by omega) (fun u_7 => ?_) (fun u_7 => ?_)
        · skip
          refine r_aload_n i_47_54 rfl ?_
          refine r_iconst i_47_55 ?_
          refine r_iload_n i_47_56 rfl ?_
          refine r_iload i_47_57 rfl ?_
          refine r_iload_n i_47_59 rfl ?_
          refine r_isub i_47_60 ?_
          refine r_iload i_47_61 rfl ?_
          refine r_cV (as := [V v, V (b - at'), V (at'), V 1]) i_47_63 rfl (by decide +kernel) (Nat.le_of_ble_eq_true rfl) (Nat.le_of_ble_eq_true rfl) (hly 22 _ rfl) rfl ?_
          refine c_45 (sort := 1) (at' := at') (length := b - at') (value := v) hly hF hG hA (by omega) (by omega) (by omega) (by omega) (by omega) (by omega) (by omega) (by omega) (by omega) (by exact htk) (fun G_8 A_9 hG_8 hA_9 fg9 fa9 p9_0 => ?_)
          show Re L xs 47 66 [(0, .ref 22), (1, .ref 1), (2, V (at')), (3, V n), (4, V m_1), (5, V b), (6, V v)] [] (HP ly F G_8 A_9 B) _
          refine r_iload i_47_66 rfl ?_
          exact r_iret i_47_68 rfl rfl (K b G_8 A_9 hG_8 hA_9 (by intro a k hh; rw [fg9 a k (fun h => hh h)]) (by intro a hh; rw [fa9 a (fun h => h.elim (fun h => hh (Or.inl h)) (fun h => h.elim (fun h => hh (Or.inr (Or.inl h))) (fun h => h.elim (fun h => hh (Or.inr (Or.inr (Or.inl h)))) (fun h => hh (Or.inr (Or.inr (Or.inr h)))))))]) (by omega) (by exact p9_0))
        · skip
          refine r_iload i_47_33 rfl ?_
          refine r_bipush i_47_35 (by decide) ?_
          refine r_imul i_47_37 ?_
          refine r_aload_n i_47_38 rfl ?_
          refine r_iload i_47_39 rfl ?_
          refine r_cald i_47_41 (hly 1 _ rfl) (by omega) (by omega) (by omega) ?_
          refine r_bipush i_47_42 (by decide) ?_
          refine r_isub i_47_44 ?_
          refine r_iadd i_47_45 ?_
          refine r_istore (l' := [(0, .ref 22), (1, .ref 1), (2, V (at')), (3, V n), (4, V m_1), (5, V b), (6, V ((v * 10) + ((A 1 (b.toNat)) - 48)))]) i_47_46 (by decide +kernel) rfl ?_
          refine r_iinc (l' := [(0, .ref 22), (1, .ref 1), (2, V (at')), (3, V n), (4, V m_1), (5, V (b + 1)), (6, V ((v * 10) + ((A 1 (b.toNat)) - 48)))]) i_47_48 rfl (by decide +kernel) rfl ?_
          refine r_go (t := 16) i_47_51 (by decide) ?_
          exact ih16B (b + 1) ((v * 10) + ((A 1 (b.toNat)) - 48))  (by omega) (by omega) (by omega) (by omega) (by omega) (by omega) (by omega) (by omega) (by omega) (by omega)
  exact lp16B _ at' 0  (by omega) (by omega) (by omega) (by omega) (by omega) (by omega) (by omega) (by omega) (by omega) (Nat.lt_succ_self _)
set_option maxHeartbeats 4000000 in
theorem c_42 {L : Nat} {xs : Nat → Int32} {ly : List LK} {F : Nat → Nat → Value} {G A : Nat → Nat → Int} {B : Nat → Nat → Int64} {Q : Option Value → AH → Prop} {n : Int} (hly : LyOk ly) (hF : RfOk F) (hG : GO G) (hA : AQ A) (in_n : inR n) (hn : 0 ≤ n ∧ n ≤ 2000) (K : ∀ (G' : Nat → Nat → Int) (A' : Nat → Nat → Int), (GO G') → (AQ A') → (∀ a k, ¬ ((a = 22 ∧ k = 4)) → G' a k = G a k) → (∀ a, ¬ (a = 23 ∨ a = 24 ∨ a = 25 ∨ a = 26) → A' a = A a) → (tkO G' A') → Q none (HP ly F G' A' B)) : Re L xs 42 0 [(0, .ref 22), (1, .ref 1), (2, V n)] [] (HP ly F G A B) Q := by
  refine r_aload_n i_42_0 rfl ?_
  refine r_iconst i_42_1 ?_
  refine r_putIQ i_42_2 (by decide +kernel) (hly 22 _ rfl) (fun G_1 eG_1 => ?_)
  have hG_1 : GO G_1 := by rw [eG_1]; exact gu_22_4 hG (by omega) (by omega)
  refine r_iconst i_42_5 ?_
  refine r_istore_n (l' := [(0, .ref 22), (1, .ref 1), (2, V n), (3, V 0)]) i_42_6 (by decide +kernel) rfl ?_
  refine r_iconst i_42_7 ?_
  refine r_istore (l' := [(0, .ref 22), (1, .ref 1), (2, V n), (3, V 0), (4, V ((-1)))]) i_42_8 (by decide +kernel) rfl ?_
  refine r_iconst i_42_10 ?_
  refine r_istore (l' := [(0, .ref 22), (1, .ref 1), (2, V n), (3, V 0), (4, V ((-1))), (5, V 0)]) i_42_11 (by decide +kernel) rfl ?_
  have lp13B : ∀ (nf : Nat) (at' : Int) (ne : Int) (st : Int) (l6 : Int) (G13 : Nat → Nat → Int) (A13 : Nat → Nat → Int), (GO G13) → (AQ A13) → (∀ a k, ¬ ((a = 22 ∧ k = 4)) → G13 a k = G_1 a k) → (∀ a, ¬ (a = 23 ∨ a = 24 ∨ a = 25 ∨ a = 26) → A13 a = A a) → (0 ≤ at' ∧ at' ≤ n) → (-1 ≤ ne ∧ ne ≤ 2000) → (0 ≤ st ∧ st ≤ n) → (tkO G13 A13) → (n - st).toNat < nf → Re L xs 42 13 [(0, .ref 22), (1, .ref 1), (2, V n), (3, V (at')), (4, V ne), (5, V st), (6, V l6)] [] (HP ly F G13 A13 B) Q := by
    intro nf
    induction nf with
    | zero => intros; omega
    | succ nf ih13B =>
      intro at' ne st l6 G13 A13 hG13 hA13 fg13 fa13 ha hne hst htk hm13
      refine r_iload i_42_13 rfl ?_
      refine r_iload_n i_42_15 rfl ?_
      refine r_cge (t := 132) i_42_16 (by decide) (by omega) (by omega) (fun u_2 => ?_) (fun u_2 => ?_)
      · skip
        refine r_aload_n i_42_132 rfl ?_
        refine r_iconst i_42_133 ?_
        refine r_iload_n i_42_134 rfl ?_
        refine r_iconst i_42_135 ?_
        refine r_iconst i_42_136 ?_
        refine r_cV (as := [V 0, V 0, V (at'), V 3]) i_42_137 rfl (by decide +kernel) (Nat.le_of_ble_eq_true rfl) (Nat.le_of_ble_eq_true rfl) (hly 22 _ rfl) rfl ?_
        refine c_45 (sort := 3) (at' := at') (length := 0) (value := 0) hly hF hG13 hA13 (by omega) (by omega) (by omega) (by omega) (by omega) (by omega) (by omega) (by omega) (by omega) (by exact htk) (fun G_3 A_4 hG_3 hA_4 fg4 fa4 p4_0 => ?_)
        show Re L xs 42 140 [(0, .ref 22), (1, .ref 1), (2, V n), (3, V (at')), (4, V ne), (5, V st), (6, V l6)] [] (HP ly F G_3 A_4 B) _
        exact r_vret i_42_140 rfl (K G_3 A_4 hG_3 hA_4 (by intro a k hh; rw [fg4 a k (fun h => hh h), fg13 a k (fun h => hh h), eG_1, up2_n (fun h => hh h)]) (by intro a hh; rw [fa4 a (fun h => h.elim (fun h => hh (Or.inl h)) (fun h => h.elim (fun h => hh (Or.inr (Or.inl h))) (fun h => h.elim (fun h => hh (Or.inr (Or.inr (Or.inl h)))) (fun h => hh (Or.inr (Or.inr (Or.inr h))))))), fa13 a (fun h => h.elim (fun h => hh (Or.inl h)) (fun h => h.elim (fun h => hh (Or.inr (Or.inl h))) (fun h => h.elim (fun h => hh (Or.inr (Or.inr (Or.inl h)))) (fun h => hh (Or.inr (Or.inr (Or.inr h)))))))]) (by exact p4_0))
      · skip
        refine r_iload_n i_42_19 rfl ?_
        refine r_iload_n i_42_20 rfl ?_
        refine r_cge (t := 132) i_42_21 (by decide) (by omega) (by omega) (fun u_5 => ?_) (fun u_5 => ?_)
        · skip
          refine r_aload_n i_42_132 rfl ?_
          refine r_iconst i_42_133 ?_
          refine r_iload_n i_42_134 rfl ?_
          refine r_iconst i_42_135 ?_
          refine r_iconst i_42_136 ?_
          refine r_cV (as := [V 0, V 0, V (at'), V 3]) i_42_137 rfl (by decide +kernel) (Nat.le_of_ble_eq_true rfl) (Nat.le_of_ble_eq_true rfl) (hly 22 _ rfl) rfl ?_
          refine c_45 (sort := 3) (at' := at') (length := 0) (value := 0) hly hF hG13 hA13 (by omega) (by omega) (by omega) (by omega) (by omega) (by omega) (by omega) (by omega) (by omega) (by exact htk) (fun G_6 A_7 hG_6 hA_7 fg7 fa7 p7_0 => ?_)
          show Re L xs 42 140 [(0, .ref 22), (1, .ref 1), (2, V n), (3, V (at')), (4, V ne), (5, V st), (6, V l6)] [] (HP ly F G_6 A_7 B) _
          exact r_vret i_42_140 rfl (K G_6 A_7 hG_6 hA_7 (by intro a k hh; rw [fg7 a k (fun h => hh h), fg13 a k (fun h => hh h), eG_1, up2_n (fun h => hh h)]) (by intro a hh; rw [fa7 a (fun h => h.elim (fun h => hh (Or.inl h)) (fun h => h.elim (fun h => hh (Or.inr (Or.inl h))) (fun h => h.elim (fun h => hh (Or.inr (Or.inr (Or.inl h)))) (fun h => hh (Or.inr (Or.inr (Or.inr h))))))), fa13 a (fun h => h.elim (fun h => hh (Or.inl h)) (fun h => h.elim (fun h => hh (Or.inr (Or.inl h))) (fun h => h.elim (fun h => hh (Or.inr (Or.inr (Or.inl h)))) (fun h => hh (Or.inr (Or.inr (Or.inr h)))))))]) (by exact p7_0))
        · skip
          refine r_aload_n i_42_24 rfl ?_
          refine r_iload_n i_42_25 rfl ?_
          refine r_cald i_42_26 (hly 1 _ rfl) (by omega) (by omega) (by omega) ?_
          rw [show A13 1 = A 1 from by rw [fa13 1 (by omega)]]
          have q_8 := a_1 hA (at'.toNat)
          refine r_istore (l' := [(0, .ref 22), (1, .ref 1), (2, V n), (3, V (at')), (4, V ne), (5, V st), (6, V (A 1 (at'.toNat)))]) i_42_27 (by decide +kernel) rfl ?_
          refine r_iload i_42_29 rfl ?_
          refine r_bipush i_42_31 (by decide) ?_
          refine r_ceq (t := 43) i_42_33 (by decide) (by omega) (by omega) (fun u_9 => ?_) (fun u_9 => ?_)
          · skip
            refine r_iinc (l' := [(0, .ref 22), (1, .ref 1), (2, V n), (3, V (at' + 1)), (4, V ne), (5, V st), (6, V (A 1 (at'.toNat)))]) i_42_43 rfl (by decide +kernel) rfl ?_
            refine r_go (t := 126) i_42_46 (by decide) ?_
            refine r_iinc (l' := [(0, .ref 22), (1, .ref 1), (2, V n), (3, V (at' + 1)), (4, V ne), (5, V (st + 1)), (6, V (A 1 (at'.toNat)))]) i_42_126 rfl (by decide +kernel) rfl ?_
            refine r_go (t := 13) i_42_129 (by decide) ?_
            exact ih13B (at' + 1) ne (st + 1) (A 1 (at'.toNat)) G13 A13 hG13 hA13 (by intro a k hh; rw [fg13 a k (fun h => hh h)]) (by intro a hh; rw [fa13 a (fun h => h.elim (fun h => hh (Or.inl h)) (fun h => h.elim (fun h => hh (Or.inr (Or.inl h))) (fun h => h.elim (fun h => hh (Or.inr (Or.inr (Or.inl h)))) (fun h => hh (Or.inr (Or.inr (Or.inr h)))))))]) (by omega) (by omega) (by omega) (by first | exact htk | exact tkO_0 (by rfl) | exact zzp1 | exact zzp1 | exact zzp0) (by omega)
          · skip
            refine r_iload i_42_36 rfl ?_
            refine r_bipush i_42_38 (by decide) ?_
            refine r_cne (t := 49) i_42_40 (by decide) (by omega) (by omega) (fun u_10 => ?_) (fun u_10 => ?_)
            · skip
              refine r_iload i_42_49 rfl ?_
              refine r_cS (as := [V (A 1 (at'.toNat))]) i_42_51 rfl (by decide +kernel) (Nat.le_of_ble_eq_true rfl) (Nat.le_of_ble_eq_true rfl) ?_
              refine c_43 (c := A 1 (at'.toNat)) hly hF hG13 hA13 (by omega) (fun r_11 p11_0 => ?_)
              show Re L xs 42 54 [(0, .ref 22), (1, .ref 1), (2, V n), (3, V (at')), (4, V ne), (5, V st), (6, V (A 1 (at'.toNat)))] [V r_11] (HP ly F G13 A13 B) _
              refine r_eq0 (t := 74) i_42_54 (by decide) (by omega) (fun u_12 => ?_) (fun u_12 => ?_)
              · skip
                refine r_iload i_42_74 rfl ?_
                refine r_cS (as := [V (A 1 (at'.toNat))]) i_42_76 rfl (by decide +kernel) (Nat.le_of_ble_eq_true rfl) (Nat.le_of_ble_eq_true rfl) ?_
                refine c_46 (c := A 1 (at'.toNat)) hly hF hG13 hA13 (by omega) (fun r_13 p13_0 p13_1 => ?_)
                show Re L xs 42 79 [(0, .ref 22), (1, .ref 1), (2, V n), (3, V (at')), (4, V ne), (5, V st), (6, V (A 1 (at'.toNat)))] [V r_13] (HP ly F G13 A13 B) _
                refine r_eq0 (t := 96) i_42_79 (by decide) (by omega) (fun u_14 => ?_) (fun u_14 => ?_)
                · skip
                  refine r_iload i_42_96 rfl ?_
                  refine r_bipush i_42_98 (by decide) ?_
                  refine r_cne (t := 117) i_42_100 (by decide) (by omega) (by omega) (fun u_15 => ?_) (fun u_15 => ?_)
                  · skip
                    refine r_aload_n i_42_117 rfl ?_
                    refine r_iconst i_42_118 ?_
                    refine r_iload_n i_42_119 rfl ?_
                    refine r_iconst i_42_120 ?_
                    refine r_iconst i_42_121 ?_
                    refine r_cV (as := [V 0, V 1, V (at'), V 4]) i_42_122 rfl (by decide +kernel) (Nat.le_of_ble_eq_true rfl) (Nat.le_of_ble_eq_true rfl) (hly 22 _ rfl) rfl ?_
                    refine c_45 (sort := 4) (at' := at') (length := 1) (value := 0) hly hF hG13 hA13 (by omega) (by omega) (by omega) (by omega) (by omega) (by omega) (by omega) (by omega) (by omega) (by exact htk) (fun G_16 A_17 hG_16 hA_17 fg17 fa17 p17_0 => ?_)
                    show Re L xs 42 125 [(0, .ref 22), (1, .ref 1), (2, V n), (3, V (at')), (4, V ne), (5, V st), (6, V (A 1 (at'.toNat)))] [] (HP ly F G_16 A_17 B) _
                    exact r_vret i_42_125 rfl (K G_16 A_17 hG_16 hA_17 (by intro a k hh; rw [fg17 a k (fun h => hh h), fg13 a k (fun h => hh h), eG_1, up2_n (fun h => hh h)]) (by intro a hh; rw [fa17 a (fun h => h.elim (fun h => hh (Or.inl h)) (fun h => h.elim (fun h => hh (Or.inr (Or.inl h))) (fun h => h.elim (fun h => hh (Or.inr (Or.inr (Or.inl h)))) (fun h => hh (Or.inr (Or.inr (Or.inr h))))))), fa13 a (fun h => h.elim (fun h => hh (Or.inl h)) (fun h => h.elim (fun h => hh (Or.inr (Or.inl h))) (fun h => h.elim (fun h => hh (Or.inr (Or.inr (Or.inl h)))) (fun h => hh (Or.inr (Or.inr (Or.inr h)))))))]) (by exact p17_0))
                  · skip
                    refine r_aload_n i_42_103 rfl ?_
                    refine r_iconst i_42_104 ?_
                    refine r_iload_n i_42_105 rfl ?_
                    refine r_iconst i_42_106 ?_
                    refine r_iconst i_42_107 ?_
                    refine r_cV (as := [V 0, V 1, V (at'), V 2]) i_42_108 rfl (by decide +kernel) (Nat.le_of_ble_eq_true rfl) (Nat.le_of_ble_eq_true rfl) (hly 22 _ rfl) rfl ?_
                    refine c_45 (sort := 2) (at' := at') (length := 1) (value := 0) hly hF hG13 hA13 (by omega) (by omega) (by omega) (by omega) (by omega) (by omega) (by omega) (by omega) (by omega) (by exact htk) (fun G_18 A_19 hG_18 hA_19 fg19 fa19 p19_0 => ?_)
                    show Re L xs 42 111 [(0, .ref 22), (1, .ref 1), (2, V n), (3, V (at')), (4, V ne), (5, V st), (6, V (A 1 (at'.toNat)))] [] (HP ly F G_18 A_19 B) _
                    refine r_iinc (l' := [(0, .ref 22), (1, .ref 1), (2, V n), (3, V (at' + 1)), (4, V ne), (5, V st), (6, V (A 1 (at'.toNat)))]) i_42_111 rfl (by decide +kernel) rfl ?_
                    refine r_go (t := 126) i_42_114 (by decide) ?_
                    refine r_iinc (l' := [(0, .ref 22), (1, .ref 1), (2, V n), (3, V (at' + 1)), (4, V ne), (5, V (st + 1)), (6, V (A 1 (at'.toNat)))]) i_42_126 rfl (by decide +kernel) rfl ?_
                    refine r_go (t := 13) i_42_129 (by decide) ?_
                    exact ih13B (at' + 1) ne (st + 1) (A 1 (at'.toNat)) G_18 A_19 hG_18 hA_19 (by intro a k hh; rw [fg19 a k (fun h => hh h), fg13 a k (fun h => hh h)]) (by intro a hh; rw [fa19 a (fun h => h.elim (fun h => hh (Or.inl h)) (fun h => h.elim (fun h => hh (Or.inr (Or.inl h))) (fun h => h.elim (fun h => hh (Or.inr (Or.inr (Or.inl h)))) (fun h => hh (Or.inr (Or.inr (Or.inr h))))))), fa13 a (fun h => h.elim (fun h => hh (Or.inl h)) (fun h => h.elim (fun h => hh (Or.inr (Or.inl h))) (fun h => h.elim (fun h => hh (Or.inr (Or.inr (Or.inl h)))) (fun h => hh (Or.inr (Or.inr (Or.inr h)))))))]) (by omega) (by omega) (by omega) (by first | exact htk | exact tkO_0 (by rfl) | exact zzp1 | exact zzp1 | exact p19_0) (by omega)
                · skip
                  refine r_aload_n i_42_82 rfl ?_
                  refine r_aload_n i_42_83 rfl ?_
                  refine r_iload_n i_42_84 rfl ?_
                  refine r_iload_n i_42_85 rfl ?_
                  refine r_cV (as := [V n, V (at'), .ref 1]) i_42_86 rfl (by decide +kernel) (Nat.le_of_ble_eq_true rfl) (Nat.le_of_ble_eq_true rfl) (hly 22 _ rfl) rfl ?_
                  refine c_47 (at' := at') (n := n) hly hF hG13 hA13 (by omega) (by omega) (by omega) (by omega) (by exact htk) (fun r_20 G_21 A_22 hG_21 hA_22 fg22 fa22 p22_0 p22_1 => ?_)
                  show Re L xs 42 89 [(0, .ref 22), (1, .ref 1), (2, V n), (3, V (at')), (4, V ne), (5, V st), (6, V (A 1 (at'.toNat)))] [V r_20] (HP ly F G_21 A_22 B) _
                  refine r_istore_n (l' := [(0, .ref 22), (1, .ref 1), (2, V n), (3, V r_20), (4, V ne), (5, V st), (6, V (A 1 (at'.toNat)))]) i_42_89 (by decide +kernel) rfl ?_
                  refine r_iload_n i_42_90 rfl ?_
                  refine r_istore (l' := [(0, .ref 22), (1, .ref 1), (2, V n), (3, V r_20), (4, V r_20), (5, V st), (6, V (A 1 (at'.toNat)))]) i_42_91 (by decide +kernel) rfl ?_
                  refine r_go (t := 126) i_42_93 (by decide) ?_
                  refine r_iinc (l' := [(0, .ref 22), (1, .ref 1), (2, V n), (3, V r_20), (4, V r_20), (5, V (st + 1)), (6, V (A 1 (at'.toNat)))]) i_42_126 rfl (by decide +kernel) rfl ?_
                  refine r_go (t := 13) i_42_129 (by decide) ?_
                  exact ih13B r_20 r_20 (st + 1) (A 1 (at'.toNat)) G_21 A_22 hG_21 hA_22 (by intro a k hh; rw [fg22 a k (fun h => hh h), fg13 a k (fun h => hh h)]) (by intro a hh; rw [fa22 a (fun h => h.elim (fun h => hh (Or.inl h)) (fun h => h.elim (fun h => hh (Or.inr (Or.inl h))) (fun h => h.elim (fun h => hh (Or.inr (Or.inr (Or.inl h)))) (fun h => hh (Or.inr (Or.inr (Or.inr h))))))), fa13 a (fun h => h.elim (fun h => hh (Or.inl h)) (fun h => h.elim (fun h => hh (Or.inr (Or.inl h))) (fun h => h.elim (fun h => hh (Or.inr (Or.inr (Or.inl h)))) (fun h => hh (Or.inr (Or.inr (Or.inr h)))))))]) (by omega) (by omega) (by omega) (by first | exact htk | exact tkO_0 (by rfl) | exact zzp1 | exact p22_1 | exact zzp0) (by omega)
              · skip
                refine r_iload_n i_42_57 rfl ?_
                refine r_iload i_42_58 rfl ?_
                refine r_ceq (t := 74) i_42_60 (by decide) (by omega) (by omega) (fun u_23 => ?_) (fun u_23 => ?_)
                · skip
                  refine r_iload i_42_74 rfl ?_
                  refine r_cS (as := [V (A 1 (at'.toNat))]) i_42_76 rfl (by decide +kernel) (Nat.le_of_ble_eq_true rfl) (Nat.le_of_ble_eq_true rfl) ?_
                  refine c_46 (c := A 1 (at'.toNat)) hly hF hG13 hA13 (by omega) (fun r_24 p24_0 p24_1 => ?_)
                  show Re L xs 42 79 [(0, .ref 22), (1, .ref 1), (2, V n), (3, V (at')), (4, V ne), (5, V st), (6, V (A 1 (at'.toNat)))] [V r_24] (HP ly F G13 A13 B) _
                  refine r_eq0 (t := 96) i_42_79 (by decide) (by omega) (fun u_25 => ?_) (fun u_25 => ?_)
                  · skip
                    refine r_iload i_42_96 rfl ?_
                    refine r_bipush i_42_98 (by decide) ?_
                    refine r_cne (t := 117) i_42_100 (by decide) (by omega) (by omega) (fun u_26 => ?_) (fun u_26 => ?_)
                    · skip
                      refine r_aload_n i_42_117 rfl ?_
                      refine r_iconst i_42_118 ?_
                      refine r_iload_n i_42_119 rfl ?_
                      refine r_iconst i_42_120 ?_
                      refine r_iconst i_42_121 ?_
                      refine r_cV (as := [V 0, V 1, V (at'), V 4]) i_42_122 rfl (by decide +kernel) (Nat.le_of_ble_eq_true rfl) (Nat.le_of_ble_eq_true rfl) (hly 22 _ rfl) rfl ?_
                      refine c_45 (sort := 4) (at' := at') (length := 1) (value := 0) hly hF hG13 hA13 (by omega) (by omega) (by omega) (by omega) (by omega) (by omega) (by omega) (by omega) (by omega) (by exact htk) (fun G_27 A_28 hG_27 hA_28 fg28 fa28 p28_0 => ?_)
                      show Re L xs 42 125 [(0, .ref 22), (1, .ref 1), (2, V n), (3, V (at')), (4, V ne), (5, V st), (6, V (A 1 (at'.toNat)))] [] (HP ly F G_27 A_28 B) _
                      exact r_vret i_42_125 rfl (K G_27 A_28 hG_27 hA_28 (by intro a k hh; rw [fg28 a k (fun h => hh h), fg13 a k (fun h => hh h), eG_1, up2_n (fun h => hh h)]) (by intro a hh; rw [fa28 a (fun h => h.elim (fun h => hh (Or.inl h)) (fun h => h.elim (fun h => hh (Or.inr (Or.inl h))) (fun h => h.elim (fun h => hh (Or.inr (Or.inr (Or.inl h)))) (fun h => hh (Or.inr (Or.inr (Or.inr h))))))), fa13 a (fun h => h.elim (fun h => hh (Or.inl h)) (fun h => h.elim (fun h => hh (Or.inr (Or.inl h))) (fun h => h.elim (fun h => hh (Or.inr (Or.inr (Or.inl h)))) (fun h => hh (Or.inr (Or.inr (Or.inr h)))))))]) (by exact p28_0))
                    · skip
                      refine r_aload_n i_42_103 rfl ?_
                      refine r_iconst i_42_104 ?_
                      refine r_iload_n i_42_105 rfl ?_
                      refine r_iconst i_42_106 ?_
                      refine r_iconst i_42_107 ?_
                      refine r_cV (as := [V 0, V 1, V (at'), V 2]) i_42_108 rfl (by decide +kernel) (Nat.le_of_ble_eq_true rfl) (Nat.le_of_ble_eq_true rfl) (hly 22 _ rfl) rfl ?_
                      refine c_45 (sort := 2) (at' := at') (length := 1) (value := 0) hly hF hG13 hA13 (by omega) (by omega) (by omega) (by omega) (by omega) (by omega) (by omega) (by omega) (by omega) (by exact htk) (fun G_29 A_30 hG_29 hA_30 fg30 fa30 p30_0 => ?_)
                      show Re L xs 42 111 [(0, .ref 22), (1, .ref 1), (2, V n), (3, V (at')), (4, V ne), (5, V st), (6, V (A 1 (at'.toNat)))] [] (HP ly F G_29 A_30 B) _
                      refine r_iinc (l' := [(0, .ref 22), (1, .ref 1), (2, V n), (3, V (at' + 1)), (4, V ne), (5, V st), (6, V (A 1 (at'.toNat)))]) i_42_111 rfl (by decide +kernel) rfl ?_
                      refine r_go (t := 126) i_42_114 (by decide) ?_
                      refine r_iinc (l' := [(0, .ref 22), (1, .ref 1), (2, V n), (3, V (at' + 1)), (4, V ne), (5, V (st + 1)), (6, V (A 1 (at'.toNat)))]) i_42_126 rfl (by decide +kernel) rfl ?_
                      refine r_go (t := 13) i_42_129 (by decide) ?_
                      exact ih13B (at' + 1) ne (st + 1) (A 1 (at'.toNat)) G_29 A_30 hG_29 hA_30 (by intro a k hh; rw [fg30 a k (fun h => hh h), fg13 a k (fun h => hh h)]) (by intro a hh; rw [fa30 a (fun h => h.elim (fun h => hh (Or.inl h)) (fun h => h.elim (fun h => hh (Or.inr (Or.inl h))) (fun h => h.elim (fun h => hh (Or.inr (Or.inr (Or.inl h)))) (fun h => hh (Or.inr (Or.inr (Or.inr h))))))), fa13 a (fun h => h.elim (fun h => hh (Or.inl h)) (fun h => h.elim (fun h => hh (Or.inr (Or.inl h))) (fun h => h.elim (fun h => hh (Or.inr (Or.inr (Or.inl h)))) (fun h => hh (Or.inr (Or.inr (Or.inr h)))))))]) (by omega) (by omega) (by omega) (by first | exact htk | exact tkO_0 (by rfl) | exact zzp1 | exact zzp1 | exact p30_0) (by omega)
                  · skip
                    refine r_aload_n i_42_82 rfl ?_
                    refine r_aload_n i_42_83 rfl ?_
                    refine r_iload_n i_42_84 rfl ?_
                    refine r_iload_n i_42_85 rfl ?_
                    refine r_cV (as := [V n, V (at'), .ref 1]) i_42_86 rfl (by decide +kernel) (Nat.le_of_ble_eq_true rfl) (Nat.le_of_ble_eq_true rfl) (hly 22 _ rfl) rfl ?_
                    refine c_47 (at' := at') (n := n) hly hF hG13 hA13 (by omega) (by omega) (by omega) (by omega) (by exact htk) (fun r_31 G_32 A_33 hG_32 hA_33 fg33 fa33 p33_0 p33_1 => ?_)
                    show Re L xs 42 89 [(0, .ref 22), (1, .ref 1), (2, V n), (3, V (at')), (4, V ne), (5, V st), (6, V (A 1 (at'.toNat)))] [V r_31] (HP ly F G_32 A_33 B) _
                    refine r_istore_n (l' := [(0, .ref 22), (1, .ref 1), (2, V n), (3, V r_31), (4, V ne), (5, V st), (6, V (A 1 (at'.toNat)))]) i_42_89 (by decide +kernel) rfl ?_
                    refine r_iload_n i_42_90 rfl ?_
                    refine r_istore (l' := [(0, .ref 22), (1, .ref 1), (2, V n), (3, V r_31), (4, V r_31), (5, V st), (6, V (A 1 (at'.toNat)))]) i_42_91 (by decide +kernel) rfl ?_
                    refine r_go (t := 126) i_42_93 (by decide) ?_
                    refine r_iinc (l' := [(0, .ref 22), (1, .ref 1), (2, V n), (3, V r_31), (4, V r_31), (5, V (st + 1)), (6, V (A 1 (at'.toNat)))]) i_42_126 rfl (by decide +kernel) rfl ?_
                    refine r_go (t := 13) i_42_129 (by decide) ?_
                    exact ih13B r_31 r_31 (st + 1) (A 1 (at'.toNat)) G_32 A_33 hG_32 hA_33 (by intro a k hh; rw [fg33 a k (fun h => hh h), fg13 a k (fun h => hh h)]) (by intro a hh; rw [fa33 a (fun h => h.elim (fun h => hh (Or.inl h)) (fun h => h.elim (fun h => hh (Or.inr (Or.inl h))) (fun h => h.elim (fun h => hh (Or.inr (Or.inr (Or.inl h)))) (fun h => hh (Or.inr (Or.inr (Or.inr h))))))), fa13 a (fun h => h.elim (fun h => hh (Or.inl h)) (fun h => h.elim (fun h => hh (Or.inr (Or.inl h))) (fun h => h.elim (fun h => hh (Or.inr (Or.inr (Or.inl h)))) (fun h => hh (Or.inr (Or.inr (Or.inr h)))))))]) (by omega) (by omega) (by omega) (by first | exact htk | exact tkO_0 (by rfl) | exact zzp1 | exact p33_1 | exact zzp0) (by omega)
                · skip
                  refine r_aload_n i_42_63 rfl ?_
                  refine r_aload_n i_42_64 rfl ?_
                  refine r_iload_n i_42_65 rfl ?_
                  refine r_iload_n i_42_66 rfl ?_
                  refine r_cV (as := [V n, V (at'), .ref 1]) i_42_67 rfl (by decide +kernel) (Nat.le_of_ble_eq_true rfl) (Nat.le_of_ble_eq_true rfl) (hly 22 _ rfl) rfl ?_
                  refine c_44 (at' := at') (n := n) hly hF hG13 hA13 (by omega) (by omega) (by omega) (by omega) (by exact htk) (fun r_34 G_35 A_36 hG_35 hA_36 fg36 fa36 p36_0 p36_1 => ?_)
                  show Re L xs 42 70 [(0, .ref 22), (1, .ref 1), (2, V n), (3, V (at')), (4, V ne), (5, V st), (6, V (A 1 (at'.toNat)))] [V r_34] (HP ly F G_35 A_36 B) _
                  refine r_istore_n (l' := [(0, .ref 22), (1, .ref 1), (2, V n), (3, V r_34), (4, V ne), (5, V st), (6, V (A 1 (at'.toNat)))]) i_42_70 (by decide +kernel) rfl ?_
                  refine r_go (t := 126) i_42_71 (by decide) ?_
                  refine r_iinc (l' := [(0, .ref 22), (1, .ref 1), (2, V n), (3, V r_34), (4, V ne), (5, V (st + 1)), (6, V (A 1 (at'.toNat)))]) i_42_126 rfl (by decide +kernel) rfl ?_
                  refine r_go (t := 13) i_42_129 (by decide) ?_
                  exact ih13B r_34 ne (st + 1) (A 1 (at'.toNat)) G_35 A_36 hG_35 hA_36 (by intro a k hh; rw [fg36 a k (fun h => hh h), fg13 a k (fun h => hh h)]) (by intro a hh; rw [fa36 a (fun h => h.elim (fun h => hh (Or.inl h)) (fun h => h.elim (fun h => hh (Or.inr (Or.inl h))) (fun h => h.elim (fun h => hh (Or.inr (Or.inr (Or.inl h)))) (fun h => hh (Or.inr (Or.inr (Or.inr h))))))), fa13 a (fun h => h.elim (fun h => hh (Or.inl h)) (fun h => h.elim (fun h => hh (Or.inr (Or.inl h))) (fun h => h.elim (fun h => hh (Or.inr (Or.inr (Or.inl h)))) (fun h => hh (Or.inr (Or.inr (Or.inr h)))))))]) (by omega) (by omega) (by omega) (by first | exact htk | exact tkO_0 (by rfl) | exact p36_1 | exact zzp1 | exact zzp0) (by omega)
            · skip
              refine r_iinc (l' := [(0, .ref 22), (1, .ref 1), (2, V n), (3, V (at' + 1)), (4, V ne), (5, V st), (6, V (A 1 (at'.toNat)))]) i_42_43 rfl (by decide +kernel) rfl ?_
              refine r_go (t := 126) i_42_46 (by decide) ?_
              refine r_iinc (l' := [(0, .ref 22), (1, .ref 1), (2, V n), (3, V (at' + 1)), (4, V ne), (5, V (st + 1)), (6, V (A 1 (at'.toNat)))]) i_42_126 rfl (by decide +kernel) rfl ?_
              refine r_go (t := 13) i_42_129 (by decide) ?_
              exact ih13B (at' + 1) ne (st + 1) (A 1 (at'.toNat)) G13 A13 hG13 hA13 (by intro a k hh; rw [fg13 a k (fun h => hh h)]) (by intro a hh; rw [fa13 a (fun h => h.elim (fun h => hh (Or.inl h)) (fun h => h.elim (fun h => hh (Or.inr (Or.inl h))) (fun h => h.elim (fun h => hh (Or.inr (Or.inr (Or.inl h)))) (fun h => hh (Or.inr (Or.inr (Or.inr h)))))))]) (by omega) (by omega) (by omega) (by first | exact htk | exact tkO_0 (by rfl) | exact zzp1 | exact zzp1 | exact zzp0) (by omega)
  have lp13A345 : ∀ (nf : Nat) (at' : Int) (ne : Int) (st : Int) (G13 : Nat → Nat → Int) (A13 : Nat → Nat → Int), (GO G13) → (AQ A13) → (∀ a k, ¬ ((a = 22 ∧ k = 4)) → G13 a k = G_1 a k) → (∀ a, ¬ (a = 23 ∨ a = 24 ∨ a = 25 ∨ a = 26) → A13 a = A a) → (0 ≤ at' ∧ at' ≤ n) → (-1 ≤ ne ∧ ne ≤ 2000) → (0 ≤ st ∧ st ≤ n) → (tkO G13 A13) → (n - st).toNat < nf → Re L xs 42 13 [(0, .ref 22), (1, .ref 1), (2, V n), (3, V (at')), (4, V ne), (5, V st)] [] (HP ly F G13 A13 B) Q := by
    intro nf
    induction nf with
    | zero => intros; omega
    | succ nf ih13A345 =>
      intro at' ne st G13 A13 hG13 hA13 fg13 fa13 ha hne hst htk hm13
      refine r_iload i_42_13 rfl ?_
      refine r_iload_n i_42_15 rfl ?_
      refine r_cge (t := 132) i_42_16 (by decide) (by omega) (by omega) (fun u_37 => ?_) (fun u_37 => ?_)
      · skip
        refine r_aload_n i_42_132 rfl ?_
        refine r_iconst i_42_133 ?_
        refine r_iload_n i_42_134 rfl ?_
        refine r_iconst i_42_135 ?_
        refine r_iconst i_42_136 ?_
        refine r_cV (as := [V 0, V 0, V (at'), V 3]) i_42_137 rfl (by decide +kernel) (Nat.le_of_ble_eq_true rfl) (Nat.le_of_ble_eq_true rfl) (hly 22 _ rfl) rfl ?_
        refine c_45 (sort := 3) (at' := at') (length := 0) (value := 0) hly hF hG13 hA13 (by omega) (by omega) (by omega) (by omega) (by omega) (by omega) (by omega) (by omega) (by omega) (by exact htk) (fun G_38 A_39 hG_38 hA_39 fg39 fa39 p39_0 => ?_)
        show Re L xs 42 140 [(0, .ref 22), (1, .ref 1), (2, V n), (3, V (at')), (4, V ne), (5, V st)] [] (HP ly F G_38 A_39 B) _
        exact r_vret i_42_140 rfl (K G_38 A_39 hG_38 hA_39 (by intro a k hh; rw [fg39 a k (fun h => hh h), fg13 a k (fun h => hh h), eG_1, up2_n (fun h => hh h)]) (by intro a hh; rw [fa39 a (fun h => h.elim (fun h => hh (Or.inl h)) (fun h => h.elim (fun h => hh (Or.inr (Or.inl h))) (fun h => h.elim (fun h => hh (Or.inr (Or.inr (Or.inl h)))) (fun h => hh (Or.inr (Or.inr (Or.inr h))))))), fa13 a (fun h => h.elim (fun h => hh (Or.inl h)) (fun h => h.elim (fun h => hh (Or.inr (Or.inl h))) (fun h => h.elim (fun h => hh (Or.inr (Or.inr (Or.inl h)))) (fun h => hh (Or.inr (Or.inr (Or.inr h)))))))]) (by exact p39_0))
      · skip
        refine r_iload_n i_42_19 rfl ?_
        refine r_iload_n i_42_20 rfl ?_
        refine r_cge (t := 132) i_42_21 (by decide) (by omega) (by omega) (fun u_40 => ?_) (fun u_40 => ?_)
        · skip
          refine r_aload_n i_42_132 rfl ?_
          refine r_iconst i_42_133 ?_
          refine r_iload_n i_42_134 rfl ?_
          refine r_iconst i_42_135 ?_
          refine r_iconst i_42_136 ?_
          refine r_cV (as := [V 0, V 0, V (at'), V 3]) i_42_137 rfl (by decide +kernel) (Nat.le_of_ble_eq_true rfl) (Nat.le_of_ble_eq_true rfl) (hly 22 _ rfl) rfl ?_
          refine c_45 (sort := 3) (at' := at') (length := 0) (value := 0) hly hF hG13 hA13 (by omega) (by omega) (by omega) (by omega) (by omega) (by omega) (by omega) (by omega) (by omega) (by exact htk) (fun G_41 A_42 hG_41 hA_42 fg42 fa42 p42_0 => ?_)
          show Re L xs 42 140 [(0, .ref 22), (1, .ref 1), (2, V n), (3, V (at')), (4, V ne), (5, V st)] [] (HP ly F G_41 A_42 B) _
          exact r_vret i_42_140 rfl (K G_41 A_42 hG_41 hA_42 (by intro a k hh; rw [fg42 a k (fun h => hh h), fg13 a k (fun h => hh h), eG_1, up2_n (fun h => hh h)]) (by intro a hh; rw [fa42 a (fun h => h.elim (fun h => hh (Or.inl h)) (fun h => h.elim (fun h => hh (Or.inr (Or.inl h))) (fun h => h.elim (fun h => hh (Or.inr (Or.inr (Or.inl h)))) (fun h => hh (Or.inr (Or.inr (Or.inr h))))))), fa13 a (fun h => h.elim (fun h => hh (Or.inl h)) (fun h => h.elim (fun h => hh (Or.inr (Or.inl h))) (fun h => h.elim (fun h => hh (Or.inr (Or.inr (Or.inl h)))) (fun h => hh (Or.inr (Or.inr (Or.inr h)))))))]) (by exact p42_0))
        · skip
          refine r_aload_n i_42_24 rfl ?_
          refine r_iload_n i_42_25 rfl ?_
          refine r_cald i_42_26 (hly 1 _ rfl) (by omega) (by omega) (by omega) ?_
          rw [show A13 1 = A 1 from by rw [fa13 1 (by omega)]]
          have q_43 := a_1 hA (at'.toNat)
          refine r_istore (l' := [(0, .ref 22), (1, .ref 1), (2, V n), (3, V (at')), (4, V ne), (5, V st), (6, V (A 1 (at'.toNat)))]) i_42_27 (by decide +kernel) rfl ?_
          refine r_iload i_42_29 rfl ?_
          refine r_bipush i_42_31 (by decide) ?_
          refine r_ceq (t := 43) i_42_33 (by decide) (by omega) (by omega) (fun u_44 => ?_) (fun u_44 => ?_)
          · skip
            refine r_iinc (l' := [(0, .ref 22), (1, .ref 1), (2, V n), (3, V (at' + 1)), (4, V ne), (5, V st), (6, V (A 1 (at'.toNat)))]) i_42_43 rfl (by decide +kernel) rfl ?_
            refine r_go (t := 126) i_42_46 (by decide) ?_
            refine r_iinc (l' := [(0, .ref 22), (1, .ref 1), (2, V n), (3, V (at' + 1)), (4, V ne), (5, V (st + 1)), (6, V (A 1 (at'.toNat)))]) i_42_126 rfl (by decide +kernel) rfl ?_
            refine r_go (t := 13) i_42_129 (by decide) ?_
            exact lp13B _ (at' + 1) ne (st + 1) (A 1 (at'.toNat)) G13 A13 hG13 hA13 (by intro a k hh; rw [fg13 a k (fun h => hh h)]) (by intro a hh; rw [fa13 a (fun h => h.elim (fun h => hh (Or.inl h)) (fun h => h.elim (fun h => hh (Or.inr (Or.inl h))) (fun h => h.elim (fun h => hh (Or.inr (Or.inr (Or.inl h)))) (fun h => hh (Or.inr (Or.inr (Or.inr h)))))))]) (by omega) (by omega) (by omega) (by first | exact htk | exact tkO_0 (by rfl) | exact zzp1 | exact zzp1 | exact zzp0) (Nat.lt_succ_self _)
          · skip
            refine r_iload i_42_36 rfl ?_
            refine r_bipush i_42_38 (by decide) ?_
            refine r_cne (t := 49) i_42_40 (by decide) (by omega) (by omega) (fun u_45 => ?_) (fun u_45 => ?_)
            · skip
              refine r_iload i_42_49 rfl ?_
              refine r_cS (as := [V (A 1 (at'.toNat))]) i_42_51 rfl (by decide +kernel) (Nat.le_of_ble_eq_true rfl) (Nat.le_of_ble_eq_true rfl) ?_
              refine c_43 (c := A 1 (at'.toNat)) hly hF hG13 hA13 (by omega) (fun r_46 p46_0 => ?_)
              show Re L xs 42 54 [(0, .ref 22), (1, .ref 1), (2, V n), (3, V (at')), (4, V ne), (5, V st), (6, V (A 1 (at'.toNat)))] [V r_46] (HP ly F G13 A13 B) _
              refine r_eq0 (t := 74) i_42_54 (by decide) (by omega) (fun u_47 => ?_) (fun u_47 => ?_)
              · skip
                refine r_iload i_42_74 rfl ?_
                refine r_cS (as := [V (A 1 (at'.toNat))]) i_42_76 rfl (by decide +kernel) (Nat.le_of_ble_eq_true rfl) (Nat.le_of_ble_eq_true rfl) ?_
                refine c_46 (c := A 1 (at'.toNat)) hly hF hG13 hA13 (by omega) (fun r_48 p48_0 p48_1 => ?_)
                show Re L xs 42 79 [(0, .ref 22), (1, .ref 1), (2, V n), (3, V (at')), (4, V ne), (5, V st), (6, V (A 1 (at'.toNat)))] [V r_48] (HP ly F G13 A13 B) _
                refine r_eq0 (t := 96) i_42_79 (by decide) (by omega) (fun u_49 => ?_) (fun u_49 => ?_)
                · skip
                  refine r_iload i_42_96 rfl ?_
                  refine r_bipush i_42_98 (by decide) ?_
                  refine r_cne (t := 117) i_42_100 (by decide) (by omega) (by omega) (fun u_50 => ?_) (fun u_50 => ?_)
                  · skip
                    refine r_aload_n i_42_117 rfl ?_
                    refine r_iconst i_42_118 ?_
                    refine r_iload_n i_42_119 rfl ?_
                    refine r_iconst i_42_120 ?_
                    refine r_iconst i_42_121 ?_
                    refine r_cV (as := [V 0, V 1, V (at'), V 4]) i_42_122 rfl (by decide +kernel) (Nat.le_of_ble_eq_true rfl) (Nat.le_of_ble_eq_true rfl) (hly 22 _ rfl) rfl ?_
                    refine c_45 (sort := 4) (at' := at') (length := 1) (value := 0) hly hF hG13 hA13 (by omega) (by omega) (by omega) (by omega) (by omega) (by omega) (by omega) (by omega) (by omega) (by exact htk) (fun G_51 A_52 hG_51 hA_52 fg52 fa52 p52_0 => ?_)
                    show Re L xs 42 125 [(0, .ref 22), (1, .ref 1), (2, V n), (3, V (at')), (4, V ne), (5, V st), (6, V (A 1 (at'.toNat)))] [] (HP ly F G_51 A_52 B) _
                    exact r_vret i_42_125 rfl (K G_51 A_52 hG_51 hA_52 (by intro a k hh; rw [fg52 a k (fun h => hh h), fg13 a k (fun h => hh h), eG_1, up2_n (fun h => hh h)]) (by intro a hh; rw [fa52 a (fun h => h.elim (fun h => hh (Or.inl h)) (fun h => h.elim (fun h => hh (Or.inr (Or.inl h))) (fun h => h.elim (fun h => hh (Or.inr (Or.inr (Or.inl h)))) (fun h => hh (Or.inr (Or.inr (Or.inr h))))))), fa13 a (fun h => h.elim (fun h => hh (Or.inl h)) (fun h => h.elim (fun h => hh (Or.inr (Or.inl h))) (fun h => h.elim (fun h => hh (Or.inr (Or.inr (Or.inl h)))) (fun h => hh (Or.inr (Or.inr (Or.inr h)))))))]) (by exact p52_0))
                  · skip
                    refine r_aload_n i_42_103 rfl ?_
                    refine r_iconst i_42_104 ?_
                    refine r_iload_n i_42_105 rfl ?_
                    refine r_iconst i_42_106 ?_
                    refine r_iconst i_42_107 ?_
                    refine r_cV (as := [V 0, V 1, V (at'), V 2]) i_42_108 rfl (by decide +kernel) (Nat.le_of_ble_eq_true rfl) (Nat.le_of_ble_eq_true rfl) (hly 22 _ rfl) rfl ?_
                    refine c_45 (sort := 2) (at' := at') (length := 1) (value := 0) hly hF hG13 hA13 (by omega) (by omega) (by omega) (by omega) (by omega) (by omega) (by omega) (by omega) (by omega) (by exact htk) (fun G_53 A_54 hG_53 hA_54 fg54 fa54 p54_0 => ?_)
                    show Re L xs 42 111 [(0, .ref 22), (1, .ref 1), (2, V n), (3, V (at')), (4, V ne), (5, V st), (6, V (A 1 (at'.toNat)))] [] (HP ly F G_53 A_54 B) _
                    refine r_iinc (l' := [(0, .ref 22), (1, .ref 1), (2, V n), (3, V (at' + 1)), (4, V ne), (5, V st), (6, V (A 1 (at'.toNat)))]) i_42_111 rfl (by decide +kernel) rfl ?_
                    refine r_go (t := 126) i_42_114 (by decide) ?_
                    refine r_iinc (l' := [(0, .ref 22), (1, .ref 1), (2, V n), (3, V (at' + 1)), (4, V ne), (5, V (st + 1)), (6, V (A 1 (at'.toNat)))]) i_42_126 rfl (by decide +kernel) rfl ?_
                    refine r_go (t := 13) i_42_129 (by decide) ?_
                    exact lp13B _ (at' + 1) ne (st + 1) (A 1 (at'.toNat)) G_53 A_54 hG_53 hA_54 (by intro a k hh; rw [fg54 a k (fun h => hh h), fg13 a k (fun h => hh h)]) (by intro a hh; rw [fa54 a (fun h => h.elim (fun h => hh (Or.inl h)) (fun h => h.elim (fun h => hh (Or.inr (Or.inl h))) (fun h => h.elim (fun h => hh (Or.inr (Or.inr (Or.inl h)))) (fun h => hh (Or.inr (Or.inr (Or.inr h))))))), fa13 a (fun h => h.elim (fun h => hh (Or.inl h)) (fun h => h.elim (fun h => hh (Or.inr (Or.inl h))) (fun h => h.elim (fun h => hh (Or.inr (Or.inr (Or.inl h)))) (fun h => hh (Or.inr (Or.inr (Or.inr h)))))))]) (by omega) (by omega) (by omega) (by first | exact htk | exact tkO_0 (by rfl) | exact zzp1 | exact zzp1 | exact p54_0) (Nat.lt_succ_self _)
                · skip
                  refine r_aload_n i_42_82 rfl ?_
                  refine r_aload_n i_42_83 rfl ?_
                  refine r_iload_n i_42_84 rfl ?_
                  refine r_iload_n i_42_85 rfl ?_
                  refine r_cV (as := [V n, V (at'), .ref 1]) i_42_86 rfl (by decide +kernel) (Nat.le_of_ble_eq_true rfl) (Nat.le_of_ble_eq_true rfl) (hly 22 _ rfl) rfl ?_
                  refine c_47 (at' := at') (n := n) hly hF hG13 hA13 (by omega) (by omega) (by omega) (by omega) (by exact htk) (fun r_55 G_56 A_57 hG_56 hA_57 fg57 fa57 p57_0 p57_1 => ?_)
                  show Re L xs 42 89 [(0, .ref 22), (1, .ref 1), (2, V n), (3, V (at')), (4, V ne), (5, V st), (6, V (A 1 (at'.toNat)))] [V r_55] (HP ly F G_56 A_57 B) _
                  refine r_istore_n (l' := [(0, .ref 22), (1, .ref 1), (2, V n), (3, V r_55), (4, V ne), (5, V st), (6, V (A 1 (at'.toNat)))]) i_42_89 (by decide +kernel) rfl ?_
                  refine r_iload_n i_42_90 rfl ?_
                  refine r_istore (l' := [(0, .ref 22), (1, .ref 1), (2, V n), (3, V r_55), (4, V r_55), (5, V st), (6, V (A 1 (at'.toNat)))]) i_42_91 (by decide +kernel) rfl ?_
                  refine r_go (t := 126) i_42_93 (by decide) ?_
                  refine r_iinc (l' := [(0, .ref 22), (1, .ref 1), (2, V n), (3, V r_55), (4, V r_55), (5, V (st + 1)), (6, V (A 1 (at'.toNat)))]) i_42_126 rfl (by decide +kernel) rfl ?_
                  refine r_go (t := 13) i_42_129 (by decide) ?_
                  exact lp13B _ r_55 r_55 (st + 1) (A 1 (at'.toNat)) G_56 A_57 hG_56 hA_57 (by intro a k hh; rw [fg57 a k (fun h => hh h), fg13 a k (fun h => hh h)]) (by intro a hh; rw [fa57 a (fun h => h.elim (fun h => hh (Or.inl h)) (fun h => h.elim (fun h => hh (Or.inr (Or.inl h))) (fun h => h.elim (fun h => hh (Or.inr (Or.inr (Or.inl h)))) (fun h => hh (Or.inr (Or.inr (Or.inr h))))))), fa13 a (fun h => h.elim (fun h => hh (Or.inl h)) (fun h => h.elim (fun h => hh (Or.inr (Or.inl h))) (fun h => h.elim (fun h => hh (Or.inr (Or.inr (Or.inl h)))) (fun h => hh (Or.inr (Or.inr (Or.inr h)))))))]) (by omega) (by omega) (by omega) (by first | exact htk | exact tkO_0 (by rfl) | exact zzp1 | exact p57_1 | exact zzp0) (Nat.lt_succ_self _)
              · skip
                refine r_iload_n i_42_57 rfl ?_
                refine r_iload i_42_58 rfl ?_
                refine r_ceq (t := 74) i_42_60 (by decide) (by omega) (by omega) (fun u_58 => ?_) (fun u_58 => ?_)
                · skip
                  refine r_iload i_42_74 rfl ?_
                  refine r_cS (as := [V (A 1 (at'.toNat))]) i_42_76 rfl (by decide +kernel) (Nat.le_of_ble_eq_true rfl) (Nat.le_of_ble_eq_true rfl) ?_
                  refine c_46 (c := A 1 (at'.toNat)) hly hF hG13 hA13 (by omega) (fun r_59 p59_0 p59_1 => ?_)
                  show Re L xs 42 79 [(0, .ref 22), (1, .ref 1), (2, V n), (3, V (at')), (4, V ne), (5, V st), (6, V (A 1 (at'.toNat)))] [V r_59] (HP ly F G13 A13 B) _
                  refine r_eq0 (t := 96) i_42_79 (by decide) (by omega) (fun u_60 => ?_) (fun u_60 => ?_)
                  · skip
                    refine r_iload i_42_96 rfl ?_
                    refine r_bipush i_42_98 (by decide) ?_
                    refine r_cne (t := 117) i_42_100 (by decide) (by omega) (by omega) (fun u_61 => ?_) (fun u_61 => ?_)
                    · skip
                      refine r_aload_n i_42_117 rfl ?_
                      refine r_iconst i_42_118 ?_
                      refine r_iload_n i_42_119 rfl ?_
                      refine r_iconst i_42_120 ?_
                      refine r_iconst i_42_121 ?_
                      refine r_cV (as := [V 0, V 1, V (at'), V 4]) i_42_122 rfl (by decide +kernel) (Nat.le_of_ble_eq_true rfl) (Nat.le_of_ble_eq_true rfl) (hly 22 _ rfl) rfl ?_
                      refine c_45 (sort := 4) (at' := at') (length := 1) (value := 0) hly hF hG13 hA13 (by omega) (by omega) (by omega) (by omega) (by omega) (by omega) (by omega) (by omega) (by omega) (by exact htk) (fun G_62 A_63 hG_62 hA_63 fg63 fa63 p63_0 => ?_)
                      show Re L xs 42 125 [(0, .ref 22), (1, .ref 1), (2, V n), (3, V (at')), (4, V ne), (5, V st), (6, V (A 1 (at'.toNat)))] [] (HP ly F G_62 A_63 B) _
                      exact r_vret i_42_125 rfl (K G_62 A_63 hG_62 hA_63 (by intro a k hh; rw [fg63 a k (fun h => hh h), fg13 a k (fun h => hh h), eG_1, up2_n (fun h => hh h)]) (by intro a hh; rw [fa63 a (fun h => h.elim (fun h => hh (Or.inl h)) (fun h => h.elim (fun h => hh (Or.inr (Or.inl h))) (fun h => h.elim (fun h => hh (Or.inr (Or.inr (Or.inl h)))) (fun h => hh (Or.inr (Or.inr (Or.inr h))))))), fa13 a (fun h => h.elim (fun h => hh (Or.inl h)) (fun h => h.elim (fun h => hh (Or.inr (Or.inl h))) (fun h => h.elim (fun h => hh (Or.inr (Or.inr (Or.inl h)))) (fun h => hh (Or.inr (Or.inr (Or.inr h)))))))]) (by exact p63_0))
                    · skip
                      refine r_aload_n i_42_103 rfl ?_
                      refine r_iconst i_42_104 ?_
                      refine r_iload_n i_42_105 rfl ?_
                      refine r_iconst i_42_106 ?_
                      refine r_iconst i_42_107 ?_
                      refine r_cV (as := [V 0, V 1, V (at'), V 2]) i_42_108 rfl (by decide +kernel) (Nat.le_of_ble_eq_true rfl) (Nat.le_of_ble_eq_true rfl) (hly 22 _ rfl) rfl ?_
                      refine c_45 (sort := 2) (at' := at') (length := 1) (value := 0) hly hF hG13 hA13 (by omega) (by omega) (by omega) (by omega) (by omega) (by omega) (by omega) (by omega) (by omega) (by exact htk) (fun G_64 A_65 hG_64 hA_65 fg65 fa65 p65_0 => ?_)
                      show Re L xs 42 111 [(0, .ref 22), (1, .ref 1), (2, V n), (3, V (at')), (4, V ne), (5, V st), (6, V (A 1 (at'.toNat)))] [] (HP ly F G_64 A_65 B) _
                      refine r_iinc (l' := [(0, .ref 22), (1, .ref 1), (2, V n), (3, V (at' + 1)), (4, V ne), (5, V st), (6, V (A 1 (at'.toNat)))]) i_42_111 rfl (by decide +kernel) rfl ?_
                      refine r_go (t := 126) i_42_114 (by decide) ?_
                      refine r_iinc (l' := [(0, .ref 22), (1, .ref 1), (2, V n), (3, V (at' + 1)), (4, V ne), (5, V (st + 1)), (6, V (A 1 (at'.toNat)))]) i_42_126 rfl (by decide +kernel) rfl ?_
                      refine r_go (t := 13) i_42_129 (by decide) ?_
                      exact lp13B _ (at' + 1) ne (st + 1) (A 1 (at'.toNat)) G_64 A_65 hG_64 hA_65 (by intro a k hh; rw [fg65 a k (fun h => hh h), fg13 a k (fun h => hh h)]) (by intro a hh; rw [fa65 a (fun h => h.elim (fun h => hh (Or.inl h)) (fun h => h.elim (fun h => hh (Or.inr (Or.inl h))) (fun h => h.elim (fun h => hh (Or.inr (Or.inr (Or.inl h)))) (fun h => hh (Or.inr (Or.inr (Or.inr h))))))), fa13 a (fun h => h.elim (fun h => hh (Or.inl h)) (fun h => h.elim (fun h => hh (Or.inr (Or.inl h))) (fun h => h.elim (fun h => hh (Or.inr (Or.inr (Or.inl h)))) (fun h => hh (Or.inr (Or.inr (Or.inr h)))))))]) (by omega) (by omega) (by omega) (by first | exact htk | exact tkO_0 (by rfl) | exact zzp1 | exact zzp1 | exact p65_0) (Nat.lt_succ_self _)
                  · skip
                    refine r_aload_n i_42_82 rfl ?_
                    refine r_aload_n i_42_83 rfl ?_
                    refine r_iload_n i_42_84 rfl ?_
                    refine r_iload_n i_42_85 rfl ?_
                    refine r_cV (as := [V n, V (at'), .ref 1]) i_42_86 rfl (by decide +kernel) (Nat.le_of_ble_eq_true rfl) (Nat.le_of_ble_eq_true rfl) (hly 22 _ rfl) rfl ?_
                    refine c_47 (at' := at') (n := n) hly hF hG13 hA13 (by omega) (by omega) (by omega) (by omega) (by exact htk) (fun r_66 G_67 A_68 hG_67 hA_68 fg68 fa68 p68_0 p68_1 => ?_)
                    show Re L xs 42 89 [(0, .ref 22), (1, .ref 1), (2, V n), (3, V (at')), (4, V ne), (5, V st), (6, V (A 1 (at'.toNat)))] [V r_66] (HP ly F G_67 A_68 B) _
                    refine r_istore_n (l' := [(0, .ref 22), (1, .ref 1), (2, V n), (3, V r_66), (4, V ne), (5, V st), (6, V (A 1 (at'.toNat)))]) i_42_89 (by decide +kernel) rfl ?_
                    refine r_iload_n i_42_90 rfl ?_
                    refine r_istore (l' := [(0, .ref 22), (1, .ref 1), (2, V n), (3, V r_66), (4, V r_66), (5, V st), (6, V (A 1 (at'.toNat)))]) i_42_91 (by decide +kernel) rfl ?_
                    refine r_go (t := 126) i_42_93 (by decide) ?_
                    refine r_iinc (l' := [(0, .ref 22), (1, .ref 1), (2, V n), (3, V r_66), (4, V r_66), (5, V (st + 1)), (6, V (A 1 (at'.toNat)))]) i_42_126 rfl (by decide +kernel) rfl ?_
                    refine r_go (t := 13) i_42_129 (by decide) ?_
                    exact lp13B _ r_66 r_66 (st + 1) (A 1 (at'.toNat)) G_67 A_68 hG_67 hA_68 (by intro a k hh; rw [fg68 a k (fun h => hh h), fg13 a k (fun h => hh h)]) (by intro a hh; rw [fa68 a (fun h => h.elim (fun h => hh (Or.inl h)) (fun h => h.elim (fun h => hh (Or.inr (Or.inl h))) (fun h => h.elim (fun h => hh (Or.inr (Or.inr (Or.inl h)))) (fun h => hh (Or.inr (Or.inr (Or.inr h))))))), fa13 a (fun h => h.elim (fun h => hh (Or.inl h)) (fun h => h.elim (fun h => hh (Or.inr (Or.inl h))) (fun h => h.elim (fun h => hh (Or.inr (Or.inr (Or.inl h)))) (fun h => hh (Or.inr (Or.inr (Or.inr h)))))))]) (by omega) (by omega) (by omega) (by first | exact htk | exact tkO_0 (by rfl) | exact zzp1 | exact p68_1 | exact zzp0) (Nat.lt_succ_self _)
                · skip
                  refine r_aload_n i_42_63 rfl ?_
                  refine r_aload_n i_42_64 rfl ?_
                  refine r_iload_n i_42_65 rfl ?_
                  refine r_iload_n i_42_66 rfl ?_
                  refine r_cV (as := [V n, V (at'), .ref 1]) i_42_67 rfl (by decide +kernel) (Nat.le_of_ble_eq_true rfl) (Nat.le_of_ble_eq_true rfl) (hly 22 _ rfl) rfl ?_
                  refine c_44 (at' := at') (n := n) hly hF hG13 hA13 (by omega) (by omega) (by omega) (by omega) (by exact htk) (fun r_69 G_70 A_71 hG_70 hA_71 fg71 fa71 p71_0 p71_1 => ?_)
                  show Re L xs 42 70 [(0, .ref 22), (1, .ref 1), (2, V n), (3, V (at')), (4, V ne), (5, V st), (6, V (A 1 (at'.toNat)))] [V r_69] (HP ly F G_70 A_71 B) _
                  refine r_istore_n (l' := [(0, .ref 22), (1, .ref 1), (2, V n), (3, V r_69), (4, V ne), (5, V st), (6, V (A 1 (at'.toNat)))]) i_42_70 (by decide +kernel) rfl ?_
                  refine r_go (t := 126) i_42_71 (by decide) ?_
                  refine r_iinc (l' := [(0, .ref 22), (1, .ref 1), (2, V n), (3, V r_69), (4, V ne), (5, V (st + 1)), (6, V (A 1 (at'.toNat)))]) i_42_126 rfl (by decide +kernel) rfl ?_
                  refine r_go (t := 13) i_42_129 (by decide) ?_
                  exact lp13B _ r_69 ne (st + 1) (A 1 (at'.toNat)) G_70 A_71 hG_70 hA_71 (by intro a k hh; rw [fg71 a k (fun h => hh h), fg13 a k (fun h => hh h)]) (by intro a hh; rw [fa71 a (fun h => h.elim (fun h => hh (Or.inl h)) (fun h => h.elim (fun h => hh (Or.inr (Or.inl h))) (fun h => h.elim (fun h => hh (Or.inr (Or.inr (Or.inl h)))) (fun h => hh (Or.inr (Or.inr (Or.inr h))))))), fa13 a (fun h => h.elim (fun h => hh (Or.inl h)) (fun h => h.elim (fun h => hh (Or.inr (Or.inl h))) (fun h => h.elim (fun h => hh (Or.inr (Or.inr (Or.inl h)))) (fun h => hh (Or.inr (Or.inr (Or.inr h)))))))]) (by omega) (by omega) (by omega) (by first | exact htk | exact tkO_0 (by rfl) | exact p71_1 | exact zzp1 | exact zzp0) (Nat.lt_succ_self _)
            · skip
              refine r_iinc (l' := [(0, .ref 22), (1, .ref 1), (2, V n), (3, V (at' + 1)), (4, V ne), (5, V st), (6, V (A 1 (at'.toNat)))]) i_42_43 rfl (by decide +kernel) rfl ?_
              refine r_go (t := 126) i_42_46 (by decide) ?_
              refine r_iinc (l' := [(0, .ref 22), (1, .ref 1), (2, V n), (3, V (at' + 1)), (4, V ne), (5, V (st + 1)), (6, V (A 1 (at'.toNat)))]) i_42_126 rfl (by decide +kernel) rfl ?_
              refine r_go (t := 13) i_42_129 (by decide) ?_
              exact lp13B _ (at' + 1) ne (st + 1) (A 1 (at'.toNat)) G13 A13 hG13 hA13 (by intro a k hh; rw [fg13 a k (fun h => hh h)]) (by intro a hh; rw [fa13 a (fun h => h.elim (fun h => hh (Or.inl h)) (fun h => h.elim (fun h => hh (Or.inr (Or.inl h))) (fun h => h.elim (fun h => hh (Or.inr (Or.inr (Or.inl h)))) (fun h => hh (Or.inr (Or.inr (Or.inr h)))))))]) (by omega) (by omega) (by omega) (by first | exact htk | exact tkO_0 (by rfl) | exact zzp1 | exact zzp1 | exact zzp0) (Nat.lt_succ_self _)
  exact lp13A345 _ 0 ((-1)) 0 G_1 A hG_1 hA (by intro a k hh; rfl) (by intro a hh; rfl) (by omega) (by omega) (by omega) (by first | exact htk | exact tkO_0 (by rw [eG_1, up2_s]) | exact zzp1 | exact zzp1 | exact zzp0) (Nat.lt_succ_self _)
