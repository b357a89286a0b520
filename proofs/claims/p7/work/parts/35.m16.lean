set_option maxHeartbeats 4000000 in
theorem c_197 {L : Nat} {xs : Nat → Int32} {ly : List LK} {F : Nat → Nat → Value} {G A : Nat → Nat → Int} {B : Nat → Nat → Int64} {Q : Option Value → AH → Prop} {p : Int} {kind : Int} {left : Int} (hly : LyOk ly) (hF : RfOk F) (hG : GO G) (hA : AQ A) (in_p : inR p) (in_kind : inR kind) (in_left : inR left) (hp : 0 ≤ p ∧ p < G 90 38) (hk : 0 ≤ kind ∧ kind ≤ 7) (hl : -1000 ≤ left ∧ left ≤ 1000) (K : ∀ (r : Int), (0 ≤ r ∧ r ≤ 1000000) → (0 ≤ left → left < 169 → r = (dpo G A).go p kind left) → Q (some (V r)) (HP ly F G A B)) : Re L xs 197 0 [(0, .ref 90), (1, V p), (2, V kind), (3, V left)] [] (HP ly F G A B) Q := by
  have z38 := g_90_38 hG
  refine r_iload_n i_197_0 rfl ?_
  refine r_aload_n i_197_1 rfl ?_
  refine r_getI i_197_2 rfl (hly 90 _ rfl) ?_
  have q_1 := g_90_38 hG
  refine r_iconst i_197_5 ?_
  refine r_isub i_197_6 ?_
  refine r_cne (t := 22) i_197_7 (by decide) (by omega) (by omega) (fun c_2 => ?_) (fun c_2 => ?_)
  · skip
    refine r_ldcw (v := 1000000) i_197_22 (by decide) ?_
    refine r_istore (l' := [(0, .ref 90), (1, V p), (2, V kind), (3, V left), (4, V 1000000)]) i_197_25 (by decide +kernel) rfl ?_
    refine r_iconst i_197_27 ?_
    refine r_istore (l' := [(0, .ref 90), (1, V p), (2, V kind), (3, V left), (4, V 1000000), (5, V 0)]) i_197_28 (by decide +kernel) rfl ?_
    have lp30B : ∀ (nf : Nat) (v : Int) (k : Int) (l6 : Int), (0 ≤ k ∧ k ≤ 8) → (v = mnf (fun k' => (dpo G A).be (p + 1) k' left + (dpo G A).pr kind k') k.toNat) → (0 ≤ v ∧ v ≤ 1000000) → (8 - k).toNat < nf → Re L xs 197 30 [(0, .ref 90), (1, V p), (2, V kind), (3, V left), (4, V v), (5, V k), (6, V l6)] [] (HP ly F G A B) Q := by
      intro nf
      induction nf with
      | zero => intros; omega
      | succ nf ih30B =>
        intro v k l6  hk5 hv hv1 hm30
        refine r_iload i_197_30 rfl ?_
        refine r_bipush i_197_32 (by decide) ?_
        refine r_cge (t := 94) i_197_34 (by decide) (by omega) (by omega) (fun c_3 => ?_) (fun c_3 => ?_)
        · skip
          refine r_iload i_197_94 rfl ?_
          exact r_iret i_197_96 rfl rfl (K v (by omega) (by intro l0 l1; unfold DP.go; rw [if_neg (show ¬ p = (dpo G A).n - 1 from by show ¬ p = G 90 38 - 1; omega)]; first | (exfalso; omega) | (rw [show (8 : Nat) = k.toNat from by omega]; exact hv)))
        · skip
          refine r_iload_n i_197_37 rfl ?_
          refine r_lt0 (t := 94) i_197_38 (by decide) (by omega) (fun c_4 => ?_) (fun c_4 => ?_)
          · skip
            refine r_iload i_197_94 rfl ?_
            exact r_iret i_197_96 rfl rfl (K v (by omega) (by intro l0 l1; unfold DP.go; rw [if_neg (show ¬ p = (dpo G A).n - 1 from by show ¬ p = G 90 38 - 1; omega)]; first | (exfalso; omega) | (rw [show (8 : Nat) = k.toNat from by omega]; exact hv)))
          · skip
            refine r_iload_n i_197_41 rfl ?_
            refine r_sipush i_197_42 (by decide) ?_
            refine r_cge (t := 94) i_197_45 (by decide) (by omega) (by omega) (fun c_5 => ?_) (fun c_5 => ?_)
            · skip
              refine r_iload i_197_94 rfl ?_
              exact r_iret i_197_96 rfl rfl (K v (by omega) (by intro l0 l1; unfold DP.go; rw [if_neg (show ¬ p = (dpo G A).n - 1 from by show ¬ p = G 90 38 - 1; omega)]; first | (exfalso; omega) | (rw [show (8 : Nat) = k.toNat from by omega]; exact hv)))
            · skip
              refine r_aload_n i_197_48 rfl ?_
              refine r_getF (v := .ref 129) i_197_49 rfl (hly 90 _ rfl) (hF.1 90 55 129 rfl) ?_
              refine r_iload_n i_197_52 rfl ?_
              refine r_iconst i_197_53 ?_
              refine r_iadd i_197_54 ?_
              refine r_iload i_197_55 rfl ?_
              refine r_iload_n i_197_57 rfl ?_
              refine r_cS (as := [V left, V k, V (p + 1)]) i_197_58 rfl (by decide +kernel) (Nat.le_of_ble_eq_true rfl) (Nat.le_of_ble_eq_true rfl) ?_
              refine c_180 (p := p + 1) (kind := k) (marks := left) hly hF hG hA (by omega) (by omega) (by omega) (fun r_6 p6_0 => ?_)
              show Re L xs 197 61 [(0, .ref 90), (1, V p), (2, V kind), (3, V left), (4, V v), (5, V k), (6, V l6)] [V r_6, .ref 129] (HP ly F G A B) _
              refine r_iald i_197_61 (hly 129 _ rfl) (by omega) (by omega) (by omega) ?_
              have q_7 := a_129 hA (r_6.toNat)
              refine r_aload_n i_197_62 rfl ?_
              refine r_iload_n i_197_63 rfl ?_
              refine r_iload i_197_64 rfl ?_
              refine r_cV (as := [V k, V kind]) i_197_66 rfl (by decide +kernel) (Nat.le_of_ble_eq_true rfl) (Nat.le_of_ble_eq_true rfl) (hly 90 _ rfl) rfl ?_
              have q_8 := g_90_32 hG
              refine c_181 (a := kind) (c := k) hly hF hG hA (by omega) (by omega) (by omega) (by omega) (fun r_9 p9_0 p9_1 => ?_)
              show Re L xs 197 69 [(0, .ref 90), (1, V p), (2, V kind), (3, V left), (4, V v), (5, V k), (6, V l6)] [V r_9, V (A 129 (r_6.toNat))] (HP ly F G A B) _
              refine r_iadd i_197_69 ?_
              refine r_istore (l' := [(0, .ref 90), (1, V p), (2, V kind), (3, V left), (4, V v), (5, V k), (6, V ((A 129 (r_6.toNat)) + r_9))]) i_197_70 (by decide +kernel) rfl ?_
              have jn86 : ∀ (v2 : Int), (v2 = if ((A 129 (r_6.toNat)) + r_9) < v then ((A 129 (r_6.toNat)) + r_9) else v) → (0 ≤ v2 ∧ v2 ≤ 1000000) → Re L xs 197 86 [(0, .ref 90), (1, V p), (2, V kind), (3, V left), (4, V v), (5, V k), (6, V ((A 129 (r_6.toNat)) + r_9))] [V v2] (HP ly F G A B) Q := by
                intro v2  hv2 hv3
                refine r_istore (l' := [(0, .ref 90), (1, V p), (2, V kind), (3, V left), (4, V v2), (5, V k), (6, V ((A 129 (r_6.toNat)) + r_9))]) i_197_86 (by decide +kernel) rfl ?_
                refine r_iinc (l' := [(0, .ref 90), (1, V p), (2, V kind), (3, V left), (4, V v2), (5, V (k + 1)), (6, V ((A 129 (r_6.toNat)) + r_9))]) i_197_88 rfl (by decide +kernel) rfl ?_
                refine r_go (t := 30) i_197_91 (by decide) ?_
                exact ih30B v2 (k + 1) ((A 129 (r_6.toNat)) + r_9)  (by omega) (by first | rfl | exact mnf_st (by omega) hv (by show A 129 (((p + 1) * 8 + k) * 169 + left).toNat + prV A (G 90 32) kind k = _; rw [← p9_0, ← p6_0]) hv2) (by omega) (by omega)
              refine r_iload i_197_72 rfl ?_
              refine r_iload i_197_74 rfl ?_
              refine r_cge (t := 84) i_197_76 (by decide) (by omega) (by omega) (fun c_10 => ?_) (fun c_10 => ?_)
              · skip
                refine r_iload i_197_84 rfl ?_
                exact jn86 v  (by first | rw [if_pos (by omega)] | rw [if_neg (by omega)]) (by omega)
              · skip
                refine r_iload i_197_79 rfl ?_
                refine r_go (t := 86) i_197_81 (by decide) ?_
                exact jn86 ((A 129 (r_6.toNat)) + r_9)  (by first | rw [if_pos (by omega)] | rw [if_neg (by omega)]) (by omega)
    have lp30A45 : ∀ (nf : Nat) (v : Int) (k : Int), (0 ≤ k ∧ k ≤ 8) → (v = mnf (fun k' => (dpo G A).be (p + 1) k' left + (dpo G A).pr kind k') k.toNat) → (0 ≤ v ∧ v ≤ 1000000) → (8 - k).toNat < nf → Re L xs 197 30 [(0, .ref 90), (1, V p), (2, V kind), (3, V left), (4, V v), (5, V k)] [] (HP ly F G A B) Q := by
      intro nf
      induction nf with
      | zero => intros; omega
      | succ nf ih30A45 =>
        intro v k  hk5 hv hv1 hm30
        refine r_iload i_197_30 rfl ?_
        refine r_bipush i_197_32 (by decide) ?_
        refine r_cge (t := 94) i_197_34 (by decide) (by omega) (by omega) (fun c_11 => ?_) (fun c_11 => ?_)
        · skip
          refine r_iload i_197_94 rfl ?_
          exact r_iret i_197_96 rfl rfl (K v (by omega) (by intro l0 l1; unfold DP.go; rw [if_neg (show ¬ p = (dpo G A).n - 1 from by show ¬ p = G 90 38 - 1; omega)]; first | (exfalso; omega) | (rw [show (8 : Nat) = k.toNat from by omega]; exact hv)))
        · skip
          refine r_iload_n i_197_37 rfl ?_
          refine r_lt0 (t := 94) i_197_38 (by decide) (by omega) (fun c_12 => ?_) (fun c_12 => ?_)
          · skip
            refine r_iload i_197_94 rfl ?_
            exact r_iret i_197_96 rfl rfl (K v (by omega) (by intro l0 l1; unfold DP.go; rw [if_neg (show ¬ p = (dpo G A).n - 1 from by show ¬ p = G 90 38 - 1; omega)]; first | (exfalso; omega) | (rw [show (8 : Nat) = k.toNat from by omega]; exact hv)))
          · skip
            refine r_iload_n i_197_41 rfl ?_
            refine r_sipush i_197_42 (by decide) ?_
            refine r_cge (t := 94) i_197_45 (by decide) (by omega) (by omega) (fun c_13 => ?_) (fun c_13 => ?_)
            · skip
              refine r_iload i_197_94 rfl ?_
              exact r_iret i_197_96 rfl rfl (K v (by omega) (by intro l0 l1; unfold DP.go; rw [if_neg (show ¬ p = (dpo G A).n - 1 from by show ¬ p = G 90 38 - 1; omega)]; first | (exfalso; omega) | (rw [show (8 : Nat) = k.toNat from by omega]; exact hv)))
            · skip
              refine r_aload_n i_197_48 rfl ?_
              refine r_getF (v := .ref 129) i_197_49 rfl (hly 90 _ rfl) (hF.1 90 55 129 rfl) ?_
              refine r_iload_n i_197_52 rfl ?_
              refine r_iconst i_197_53 ?_
              refine r_iadd i_197_54 ?_
              refine r_iload i_197_55 rfl ?_
              refine r_iload_n i_197_57 rfl ?_
              refine r_cS (as := [V left, V k, V (p + 1)]) i_197_58 rfl (by decide +kernel) (Nat.le_of_ble_eq_true rfl) (Nat.le_of_ble_eq_true rfl) ?_
              refine c_180 (p := p + 1) (kind := k) (marks := left) hly hF hG hA (by omega) (by omega) (by omega) (fun r_14 p14_0 => ?_)
              show Re L xs 197 61 [(0, .ref 90), (1, V p), (2, V kind), (3, V left), (4, V v), (5, V k)] [V r_14, .ref 129] (HP ly F G A B) _
              refine r_iald i_197_61 (hly 129 _ rfl) (by omega) (by omega) (by omega) ?_
              have q_15 := a_129 hA (r_14.toNat)
              refine r_aload_n i_197_62 rfl ?_
              refine r_iload_n i_197_63 rfl ?_
              refine r_iload i_197_64 rfl ?_
              refine r_cV (as := [V k, V kind]) i_197_66 rfl (by decide +kernel) (Nat.le_of_ble_eq_true rfl) (Nat.le_of_ble_eq_true rfl) (hly 90 _ rfl) rfl ?_
              have q_16 := g_90_32 hG
              refine c_181 (a := kind) (c := k) hly hF hG hA (by omega) (by omega) (by omega) (by omega) (fun r_17 p17_0 p17_1 => ?_)
              show Re L xs 197 69 [(0, .ref 90), (1, V p), (2, V kind), (3, V left), (4, V v), (5, V k)] [V r_17, V (A 129 (r_14.toNat))] (HP ly F G A B) _
              refine r_iadd i_197_69 ?_
              refine r_istore (l' := [(0, .ref 90), (1, V p), (2, V kind), (3, V left), (4, V v), (5, V k), (6, V ((A 129 (r_14.toNat)) + r_17))]) i_197_70 (by decide +kernel) rfl ?_
              have jn86 : ∀ (v2 : Int), (v2 = if ((A 129 (r_14.toNat)) + r_17) < v then ((A 129 (r_14.toNat)) + r_17) else v) → (0 ≤ v2 ∧ v2 ≤ 1000000) → Re L xs 197 86 [(0, .ref 90), (1, V p), (2, V kind), (3, V left), (4, V v), (5, V k), (6, V ((A 129 (r_14.toNat)) + r_17))] [V v2] (HP ly F G A B) Q := by
                intro v2  hv2 hv3
                refine r_istore (l' := [(0, .ref 90), (1, V p), (2, V kind), (3, V left), (4, V v2), (5, V k), (6, V ((A 129 (r_14.toNat)) + r_17))]) i_197_86 (by decide +kernel) rfl ?_
                refine r_iinc (l' := [(0, .ref 90), (1, V p), (2, V kind), (3, V left), (4, V v2), (5, V (k + 1)), (6, V ((A 129 (r_14.toNat)) + r_17))]) i_197_88 rfl (by decide +kernel) rfl ?_
                refine r_go (t := 30) i_197_91 (by decide) ?_
                exact lp30B _ v2 (k + 1) ((A 129 (r_14.toNat)) + r_17)  (by omega) (by first | rfl | exact mnf_st (by omega) hv (by show A 129 (((p + 1) * 8 + k) * 169 + left).toNat + prV A (G 90 32) kind k = _; rw [← p17_0, ← p14_0]) hv2) (by omega) (Nat.lt_succ_self _)
              refine r_iload i_197_72 rfl ?_
              refine r_iload i_197_74 rfl ?_
              refine r_cge (t := 84) i_197_76 (by decide) (by omega) (by omega) (fun c_18 => ?_) (fun c_18 => ?_)
              · skip
                refine r_iload i_197_84 rfl ?_
                exact jn86 v  (by first | rw [if_pos (by omega)] | rw [if_neg (by omega)]) (by omega)
              · skip
                refine r_iload i_197_79 rfl ?_
                refine r_go (t := 86) i_197_81 (by decide) ?_
                exact jn86 ((A 129 (r_14.toNat)) + r_17)  (by first | rw [if_pos (by omega)] | rw [if_neg (by omega)]) (by omega)
    exact lp30A45 _ 1000000 0  (by omega) (by first | rfl | exact mnf_st (by omega) hv (by show A 129 (((p + 1) * 8 + k) * 169 + left).toNat + prV A (G 90 32) kind k = _; rw [← zzp0, ← zzp0]) hv2) (by omega) (Nat.lt_succ_self _)
  · skip
    refine r_iload_n i_197_10 rfl ?_
    refine r_ne0 (t := 18) i_197_11 (by decide) (by omega) (fun c_19 => ?_) (fun c_19 => ?_)
    · skip
      refine r_ldcw (v := 1000000) i_197_18 (by decide) ?_
      exact r_iret i_197_21 rfl rfl (K 1000000 (by omega) (by intro l0 l1; unfold DP.go; rw [if_pos (show p = (dpo G A).n - 1 from by show p = G 90 38 - 1; omega)]; first | exact (if_pos (by omega)).symm | exact (if_neg (by omega)).symm))
    · skip
      refine r_iconst i_197_14 ?_
      refine r_go (t := 21) i_197_15 (by decide) ?_
      exact r_iret i_197_21 rfl rfl (K 0 (by omega) (by intro l0 l1; unfold DP.go; rw [if_pos (show p = (dpo G A).n - 1 from by show p = G 90 38 - 1; omega)]; first | exact (if_pos (by omega)).symm | exact (if_neg (by omega)).symm))
set_option maxHeartbeats 4000000 in
theorem c_194 {L : Nat} {xs : Nat → Int32} {ly : List LK} {F : Nat → Nat → Value} {G A : Nat → Nat → Int} {B : Nat → Nat → Int64} {Q : Option Value → AH → Prop} {layer : Int} (hly : LyOk ly) (hF : RfOk F) (hG : GO G) (hA : AQ A) (in_layer : inR layer) (hl : 0 ≤ layer ∧ layer ≤ 1) (K : ∀ (B' : Nat → Nat → Int64), Q none (HP ly F G A B')) : Re L xs 194 0 [(0, .ref 90), (1, V layer)] [] (HP ly F G A B) Q := by
  refine r_iload_n i_194_0 rfl ?_
  refine r_iconst i_194_1 ?_
  refine r_iconst i_194_2 ?_
  refine r_iconst i_194_3 ?_
  refine r_cS (as := [V 0, V 0, V 0, V layer]) i_194_4 rfl (by decide +kernel) (Nat.le_of_ble_eq_true rfl) (Nat.le_of_ble_eq_true rfl) ?_
  refine c_195 (layer := layer) (kind := 0) (marks := 0) (over := 0) hly hF hG hA (by omega) (by omega) (by omega) (by omega) (fun r_1 p1_0 => ?_)
  show Re L xs 194 7 [(0, .ref 90), (1, V layer)] [V r_1] (HP ly F G A B) _
  refine r_istore_n (l' := [(0, .ref 90), (1, V layer), (2, V r_1)]) i_194_7 (by decide +kernel) rfl ?_
  have lp8B : ∀ (nf : Nat) (k : Int) (B8 : Nat → Nat → Int64), (layer * 136552 ≤ k ∧ k ≤ layer * 136552 + 136552) → (layer * 136552 + 136552 - k).toNat < nf → Re L xs 194 8 [(0, .ref 90), (1, V layer), (2, V k)] [] (HP ly F G A B8) Q := by
    intro nf
    induction nf with
    | zero => intros; omega
    | succ nf ih8B =>
      intro k B8  hk hm8
      refine r_iload_n i_194_8 rfl ?_
      refine r_iload_n i_194_9 rfl ?_
      refine r_iconst i_194_10 ?_
      refine r_iconst i_194_11 ?_
      refine r_iconst i_194_12 ?_
      refine r_cS (as := [V 0, V 0, V 0, V layer]) i_194_13 rfl (by decide +kernel) (Nat.le_of_ble_eq_true rfl) (Nat.le_of_ble_eq_true rfl) ?_
      refine c_195 (layer := layer) (kind := 0) (marks := 0) (over := 0) hly hF hG hA (by omega) (by omega) (by omega) (by omega) (fun r_2 p2_0 => ?_)
      show Re L xs 194 16 [(0, .ref 90), (1, V layer), (2, V k)] [V r_2, V k] (HP ly F G A B8) _
      refine r_ldcw (v := 136552) i_194_16 (by decide) ?_
      refine r_iadd i_194_19 ?_
      refine r_cge (t := 36) i_194_20 (by decide) (by omega) (by omega) (fun c_3 => ?_) (fun c_3 => ?_)
      · skip
        exact r_vret i_194_36 rfl (K B8)
      · skip
        refine r_aload_n i_194_23 rfl ?_
        refine r_getF (v := .ref 131) i_194_24 rfl (hly 90 _ rfl) (hF.1 90 61 131 rfl) ?_
        refine r_iload_n i_194_27 rfl ?_
        refine r_lconst i_194_28 ?_
        show Re L xs 194 29 [(0, .ref 90), (1, V layer), (2, V k)] [.long (Int64.ofNat 0), V k, .ref 131] (HP ly F G A B8) _
        refine r_lastQ i_194_29 (hly 131 _ rfl) (by omega) (by omega) (by omega) (fun B_4 eB_4 => ?_)
        refine r_iinc (l' := [(0, .ref 90), (1, V layer), (2, V (k + 1))]) i_194_30 rfl (by decide +kernel) rfl ?_
        refine r_go (t := 8) i_194_33 (by decide) ?_
        exact ih8B (k + 1) B_4  (by omega) (by omega)
  exact lp8B _ r_1 B  (by omega) (Nat.lt_succ_self _)
set_option maxHeartbeats 4000000 in
theorem c_196 {L : Nat} {xs : Nat → Int32} {ly : List LK} {F : Nat → Nat → Value} {G A : Nat → Nat → Int} {B : Nat → Nat → Int64} {Q : Option Value → AH → Prop} {r0 : Int} {gap : Int} (hly : LyOk ly) (hF : RfOk F) (hG : GO G) (hA : AQ A) (in_r0 : inR r0) (in_gap : inR gap) (hkn : KN G A) (hn : 0 < G 90 38) (hb : G 90 57 < 1000000) (hr : 0 ≤ r0 ∧ r0 < A 122 0) (hg : 0 ≤ gap ∧ gap ≤ 100) (K : ∀ (B' : Nat → Nat → Int64), Q none (HP ly F G A B')) : Re L xs 196 0 [(0, .ref 90), (1, V r0), (2, V gap)] [] (HP ly F G A B) Q := by
  have z38 := g_90_38 hG
  have z57 := g_90_57 hG
  have z122 := a_122 hA 0
  have ht := tR hkn hn hb
  refine r_aload_n i_196_0 rfl ?_
  refine r_iload_n i_196_1 rfl ?_
  refine r_cV (as := [V r0]) i_196_2 rfl (by decide +kernel) (Nat.le_of_ble_eq_true rfl) (Nat.le_of_ble_eq_true rfl) (hly 90 _ rfl) rfl ?_
  refine c_179 (r0 := r0) hly hF hG hA (by omega) (by omega) (fun r_1 p1_0 p1_1 => ?_)
  show Re L xs 196 5 [(0, .ref 90), (1, V r0), (2, V gap)] [V r_1] (HP ly F G A B) _
  refine r_istore_n (l' := [(0, .ref 90), (1, V r0), (2, V gap), (3, V r_1)]) i_196_5 (by decide +kernel) rfl ?_
  refine r_aload_n i_196_6 rfl ?_
  refine r_getI i_196_7 rfl (hly 90 _ rfl) ?_
  have q_2 := g_90_56 hG
  refine r_iload_n i_196_10 rfl ?_
  refine r_isub i_196_11 ?_
  refine r_istore (l' := [(0, .ref 90), (1, V r0), (2, V gap), (3, V r_1), (4, V ((G 90 56) - r_1))]) i_196_12 (by decide +kernel) rfl ?_
  refine r_iload i_196_14 rfl ?_
  refine r_lt0 (t := 38) i_196_16 (by decide) (by omega) (fun c_3 => ?_) (fun c_3 => ?_)
  · skip
    exact r_vret i_196_38 rfl (K B)
  · skip
    refine r_aload_n i_196_19 rfl ?_
    refine r_iconst i_196_20 ?_
    refine r_aload_n i_196_21 rfl ?_
    refine r_getF (v := .ref 123) i_196_22 rfl (hly 90 _ rfl) (hF.1 90 48 123 rfl) ?_
    refine r_iload_n i_196_25 rfl ?_
    refine r_iald i_196_26 (hly 123 _ rfl) (by omega) (by omega) (by omega) ?_
    have q_4 := a_123 hA (r0.toNat)
    refine r_iload i_196_27 rfl ?_
    refine r_cV (as := [V ((G 90 56) - r_1), V (A 123 (r0.toNat)), V 0]) i_196_29 rfl (by decide +kernel) (Nat.le_of_ble_eq_true rfl) (Nat.le_of_ble_eq_true rfl) (hly 90 _ rfl) rfl ?_
    have q_5 := g_90_38 hG
    refine c_197 (p := 0) (kind := A 123 (r0.toNat)) (left := (G 90 56) - r_1) hly hF hG hA (by omega) (by omega) (by omega) (by omega) (by omega) (by omega) (fun r_6 p6_0 p6_1 => ?_)
    show Re L xs 196 32 [(0, .ref 90), (1, V r0), (2, V gap), (3, V r_1), (4, V ((G 90 56) - r_1))] [V r_6] (HP ly F G A B) _
    refine r_ldcw (v := 1000000) i_196_32 (by decide) ?_
    refine r_clt (t := 39) i_196_35 (by decide) (by omega) (by omega) (fun c_7 => ?_) (fun c_7 => ?_)
    · skip
      refine r_aload_n i_196_39 rfl ?_
      refine r_getF (v := .ref 124) i_196_40 rfl (hly 90 _ rfl) (hF.1 90 49 124 rfl) ?_
      refine r_iload_n i_196_43 rfl ?_
      refine r_iald i_196_44 (hly 124 _ rfl) (by omega) (by omega) (by omega) ?_
      have q_8 := a_124 hA (r0.toNat)
      refine r_aload_n i_196_45 rfl ?_
      refine r_iconst i_196_46 ?_
      refine r_aload_n i_196_47 rfl ?_
      refine r_getF (v := .ref 123) i_196_48 rfl (hly 90 _ rfl) (hF.1 90 48 123 rfl) ?_
      refine r_iload_n i_196_51 rfl ?_
      refine r_iald i_196_52 (hly 123 _ rfl) (by omega) (by omega) (by omega) ?_
      refine r_iload i_196_53 rfl ?_
      refine r_cV (as := [V ((G 90 56) - r_1), V (A 123 (r0.toNat)), V 0]) i_196_55 rfl (by decide +kernel) (Nat.le_of_ble_eq_true rfl) (Nat.le_of_ble_eq_true rfl) (hly 90 _ rfl) rfl ?_
      refine c_197 (p := 0) (kind := A 123 (r0.toNat)) (left := (G 90 56) - r_1) hly hF hG hA (by omega) (by omega) (by omega) (by omega) (by omega) (by omega) (fun r_9 p9_0 p9_1 => ?_)
      show Re L xs 196 58 [(0, .ref 90), (1, V r0), (2, V gap), (3, V r_1), (4, V ((G 90 56) - r_1))] [V r_9, V (A 124 (r0.toNat))] (HP ly F G A B) _
      refine r_iadd i_196_58 ?_
      refine r_aload_n i_196_59 rfl ?_
      refine r_getI i_196_60 rfl (hly 90 _ rfl) ?_
      have q_10 := g_90_57 hG
      refine r_isub i_196_63 ?_
      refine r_istore (l' := [(0, .ref 90), (1, V r0), (2, V gap), (3, V r_1), (4, V ((G 90 56) - r_1)), (5, V (((A 124 (r0.toNat)) + r_9) - (G 90 57)))]) i_196_64 (by decide +kernel) rfl ?_
      have hov := ov_nn hA hkn hn hb hr.1 hr.2 (by rw [← p1_0]; omega)
      rw [← p1_0, ← p9_1 (by omega) (by omega)] at hov
      refine r_iload i_196_66 rfl ?_
      refine r_iload_n i_196_68 rfl ?_
      refine r_cgt (t := 94) i_196_69 (by decide) (by omega) (by omega) (fun c_11 => ?_) (fun c_11 => ?_)
      · skip
        exact r_vret i_196_94 rfl (K B)
      · skip
        refine r_aload_n i_196_72 rfl ?_
        refine r_getF (v := .ref 131) i_196_73 rfl (hly 90 _ rfl) (hF.1 90 61 131 rfl) ?_
        refine r_iconst i_196_76 ?_
        refine r_aload_n i_196_77 rfl ?_
        refine r_getF (v := .ref 123) i_196_78 rfl (hly 90 _ rfl) (hF.1 90 48 123 rfl) ?_
        refine r_iload_n i_196_81 rfl ?_
        refine r_iald i_196_82 (hly 123 _ rfl) (by omega) (by omega) (by omega) ?_
        refine r_iload_n i_196_83 rfl ?_
        refine r_iload i_196_84 rfl ?_
        refine r_cS (as := [V (((A 124 (r0.toNat)) + r_9) - (G 90 57)), V r_1, V (A 123 (r0.toNat)), V 0]) i_196_86 rfl (by decide +kernel) (Nat.le_of_ble_eq_true rfl) (Nat.le_of_ble_eq_true rfl) ?_
        refine c_195 (layer := 0) (kind := A 123 (r0.toNat)) (marks := r_1) (over := ((A 124 (r0.toNat)) + r_9) - (G 90 57)) hly hF hG hA (by omega) (by omega) (by omega) (by omega) (fun r_12 p12_0 => ?_)
        show Re L xs 196 89 [(0, .ref 90), (1, V r0), (2, V gap), (3, V r_1), (4, V ((G 90 56) - r_1)), (5, V (((A 124 (r0.toNat)) + r_9) - (G 90 57)))] [V r_12, .ref 131] (HP ly F G A B) _
        refine re_nx i_196_89 rfl ?_
        refine r_lald i_196_90 (hly 131 _ rfl) (by omega) (by omega) (by omega) ?_
        refine r_lconst i_196_91 ?_
        show Re L xs 196 92 [(0, .ref 90), (1, V r0), (2, V gap), (3, V r_1), (4, V ((G 90 56) - r_1)), (5, V (((A 124 (r0.toNat)) + r_9) - (G 90 57)))] [.long (Int64.ofNat 1), .long (B 131 r_12.toNat), V r_12, .ref 131] (HP ly F G A B) _
        refine re_nx i_196_92 rfl ?_
        refine r_lastQ i_196_93 (hly 131 _ rfl) (by omega) (by omega) (by omega) (fun B_13 eB_13 => ?_)
        exact r_vret i_196_94 rfl (K B_13)
    · skip
      exact r_vret i_196_38 rfl (K B)
set_option maxHeartbeats 4000000 in
theorem c_198 {L : Nat} {xs : Nat → Int32} {ly : List LK} {F : Nat → Nat → Value} {G A : Nat → Nat → Int} {B : Nat → Nat → Int64} {Q : Option Value → AH → Prop} {layer : Int} {kind : Int} {m : Int} {gap : Int} (hly : LyOk ly) (hF : RfOk F) (hG : GO G) (hA : AQ A) (in_layer : inR layer) (in_kind : inR kind) (in_m : inR m) (in_gap : inR gap) (hl : 0 ≤ layer ∧ layer ≤ 1) (hk : 0 ≤ kind ∧ kind ≤ 7) (hm : 0 ≤ m ∧ m < 169) (hg : 0 ≤ gap ∧ gap ≤ 100) (K : ∀ (r : Int), (0 ≤ r ∧ r ≤ 1) → Q (some (V r)) (HP ly F G A B)) : Re L xs 198 0 [(0, .ref 90), (1, V layer), (2, V kind), (3, V m), (4, V gap)] [] (HP ly F G A B) Q := by
  refine r_iconst i_198_0 ?_
  refine r_istore (l' := [(0, .ref 90), (1, V layer), (2, V kind), (3, V m), (4, V gap), (5, V 0)]) i_198_1 (by decide +kernel) rfl ?_
  have lp3B : ∀ (nf : Nat) (o : Int), (0 ≤ o ∧ o ≤ 101) → (200 - o).toNat < nf → Re L xs 198 3 [(0, .ref 90), (1, V layer), (2, V kind), (3, V m), (4, V gap), (5, V o)] [] (HP ly F G A B) Q := by
    intro nf
    induction nf with
    | zero => intros; omega
    | succ nf ih3B =>
      intro o  ho hm3
      refine r_iload i_198_3 rfl ?_
      refine r_iload i_198_5 rfl ?_
      refine r_cgt (t := 36) i_198_7 (by decide) (by omega) (by omega) (fun c_1 => ?_) (fun c_1 => ?_)
      · skip
        refine r_iconst i_198_36 ?_
        exact r_iret i_198_37 rfl (nar_Z (by omega)) (K 0 (by omega))
      · skip
        refine r_aload_n i_198_10 rfl ?_
        refine r_getF (v := .ref 131) i_198_11 rfl (hly 90 _ rfl) (hF.1 90 61 131 rfl) ?_
        refine r_iload_n i_198_14 rfl ?_
        refine r_iload_n i_198_15 rfl ?_
        refine r_iload_n i_198_16 rfl ?_
        refine r_iload i_198_17 rfl ?_
        refine r_cS (as := [V o, V m, V kind, V layer]) i_198_19 rfl (by decide +kernel) (Nat.le_of_ble_eq_true rfl) (Nat.le_of_ble_eq_true rfl) ?_
        refine c_195 (layer := layer) (kind := kind) (marks := m) (over := o) hly hF hG hA (by omega) (by omega) (by omega) (by omega) (fun r_2 p2_0 => ?_)
        show Re L xs 198 22 [(0, .ref 90), (1, V layer), (2, V kind), (3, V m), (4, V gap), (5, V o)] [V r_2, .ref 131] (HP ly F G A B) _
        refine r_lald i_198_22 (hly 131 _ rfl) (by omega) (by omega) (by omega) ?_
        refine r_lconst i_198_23 ?_
        show Re L xs 198 24 [(0, .ref 90), (1, V layer), (2, V kind), (3, V m), (4, V gap), (5, V o)] [.long (Int64.ofNat 0), .long (B 131 r_2.toNat)] (HP ly F G A B) _
        refine re_nx i_198_24 rfl ?_
        obtain ⟨c_3, ec_3, rc_3⟩ := lcmp_I (B 131 r_2.toNat) (Int64.ofNat 0)
        rw [ec_3]
        refine r_eq0 (t := 30) i_198_25 (by decide) (by omega) (fun c_4 => ?_) (fun c_4 => ?_)
        · skip
          refine r_iinc (l' := [(0, .ref 90), (1, V layer), (2, V kind), (3, V m), (4, V gap), (5, V (o + 1))]) i_198_30 rfl (by decide +kernel) rfl ?_
          refine r_go (t := 3) i_198_33 (by decide) ?_
          exact ih3B (o + 1)  (by omega) (by omega)
        · skip
          refine r_iconst i_198_28 ?_
          exact r_iret i_198_29 rfl (nar_Z (by omega)) (K 1 (by omega))
  exact lp3B _ 0  (by omega) (Nat.lt_succ_self _)
set_option maxHeartbeats 4000000 in
theorem c_199 {L : Nat} {xs : Nat → Int32} {ly : List LK} {F : Nat → Nat → Value} {G A : Nat → Nat → Int} {B : Nat → Nat → Int64} {Q : Option Value → AH → Prop} {p : Int} {r0 : Int} {kind : Int} {m : Int} {gap : Int} (hly : LyOk ly) (hF : RfOk F) (hG : GO G) (hA : AQ A) (in_p : inR p) (in_r0 : inR r0) (in_kind : inR kind) (in_m : inR m) (in_gap : inR gap) (hkn : KN G A) (hb : G 90 57 < 1000000) (hp : 1 ≤ p ∧ p < G 90 38) (hr : 13 * p ≤ r0 ∧ r0 < 13 * p + A 122 p.toNat) (hk : 0 ≤ kind ∧ kind ≤ 7) (hm : 0 ≤ m ∧ m < 169 ∧ m ≤ G 90 56) (hg : 0 ≤ gap ∧ gap ≤ 100) (K : ∀ (B' : Nat → Nat → Int64), Q none (HP ly F G A B')) : Re L xs 199 0 [(0, .ref 90), (1, V p), (2, V r0), (3, V kind), (4, V m), (5, V gap)] [] (HP ly F G A B) Q := by
  have z38 := g_90_38 hG
  have z122 := a_122 hA p.toNat
  have ht := tR hkn (by omega) hb
  refine r_iload i_199_0 rfl ?_
  refine r_aload_n i_199_2 rfl ?_
  refine r_iload_n i_199_3 rfl ?_
  refine r_cV (as := [V r0]) i_199_4 rfl (by decide +kernel) (Nat.le_of_ble_eq_true rfl) (Nat.le_of_ble_eq_true rfl) (hly 90 _ rfl) rfl ?_
  refine c_179 (r0 := r0) hly hF hG hA (by omega) (by omega) (fun r_1 p1_0 p1_1 => ?_)
  show Re L xs 199 7 [(0, .ref 90), (1, V p), (2, V r0), (3, V kind), (4, V m), (5, V gap)] [V r_1, V m] (HP ly F G A B) _
  refine r_iadd i_199_7 ?_
  refine r_istore (l' := [(0, .ref 90), (1, V p), (2, V r0), (3, V kind), (4, V m), (5, V gap), (6, V (m + r_1))]) i_199_8 (by decide +kernel) rfl ?_
  refine r_aload_n i_199_10 rfl ?_
  refine r_iload_n i_199_11 rfl ?_
  refine r_aload_n i_199_12 rfl ?_
  refine r_getF (v := .ref 123) i_199_13 rfl (hly 90 _ rfl) (hF.1 90 48 123 rfl) ?_
  refine r_iload_n i_199_16 rfl ?_
  refine r_iald i_199_17 (hly 123 _ rfl) (by omega) (by omega) (by omega) ?_
  have q_2 := a_123 hA (r0.toNat)
  refine r_cV (as := [V (A 123 (r0.toNat)), V kind]) i_199_18 rfl (by decide +kernel) (Nat.le_of_ble_eq_true rfl) (Nat.le_of_ble_eq_true rfl) (hly 90 _ rfl) rfl ?_
  have q_3 := g_90_32 hG
  refine c_181 (a := kind) (c := A 123 (r0.toNat)) hly hF hG hA (by omega) (by omega) (by omega) (by omega) (fun r_4 p4_0 p4_1 => ?_)
  show Re L xs 199 21 [(0, .ref 90), (1, V p), (2, V r0), (3, V kind), (4, V m), (5, V gap), (6, V (m + r_1))] [V r_4] (HP ly F G A B) _
  refine r_istore (l' := [(0, .ref 90), (1, V p), (2, V r0), (3, V kind), (4, V m), (5, V gap), (6, V (m + r_1)), (7, V r_4)]) i_199_21 (by decide +kernel) rfl ?_
  refine r_aload_n i_199_23 rfl ?_
  refine r_getI i_199_24 rfl (hly 90 _ rfl) ?_
  have q_5 := g_90_56 hG
  refine r_iload i_199_27 rfl ?_
  refine r_isub i_199_29 ?_
  refine r_istore (l' := [(0, .ref 90), (1, V p), (2, V r0), (3, V kind), (4, V m), (5, V gap), (6, V (m + r_1)), (7, V r_4), (8, V ((G 90 56) - (m + r_1)))]) i_199_30 (by decide +kernel) rfl ?_
  refine r_iload i_199_32 rfl ?_
  refine r_ldcw (v := 1000000) i_199_34 (by decide) ?_
  refine r_cge (t := 72) i_199_37 (by decide) (by omega) (by omega) (fun c_6 => ?_) (fun c_6 => ?_)
  · skip
    exact r_vret i_199_72 rfl (K B)
  · skip
    refine r_iload i_199_40 rfl ?_
    refine r_lt0 (t := 72) i_199_42 (by decide) (by omega) (fun c_7 => ?_) (fun c_7 => ?_)
    · skip
      exact r_vret i_199_72 rfl (K B)
    · skip
      refine r_iload i_199_45 rfl ?_
      refine r_sipush i_199_47 (by decide) ?_
      refine r_cge (t := 72) i_199_50 (by decide) (by omega) (by omega) (fun c_8 => ?_) (fun c_8 => ?_)
      · skip
        exact r_vret i_199_72 rfl (K B)
      · skip
        refine r_aload_n i_199_53 rfl ?_
        refine r_iload_n i_199_54 rfl ?_
        refine r_aload_n i_199_55 rfl ?_
        refine r_getF (v := .ref 123) i_199_56 rfl (hly 90 _ rfl) (hF.1 90 48 123 rfl) ?_
        refine r_iload_n i_199_59 rfl ?_
        refine r_iald i_199_60 (hly 123 _ rfl) (by omega) (by omega) (by omega) ?_
        refine r_iload i_199_61 rfl ?_
        refine r_cV (as := [V ((G 90 56) - (m + r_1)), V (A 123 (r0.toNat)), V p]) i_199_63 rfl (by decide +kernel) (Nat.le_of_ble_eq_true rfl) (Nat.le_of_ble_eq_true rfl) (hly 90 _ rfl) rfl ?_
        have q_9 := g_90_38 hG
        refine c_197 (p := p) (kind := A 123 (r0.toNat)) (left := (G 90 56) - (m + r_1)) hly hF hG hA (by omega) (by omega) (by omega) (by omega) (by omega) (by omega) (fun r_10 p10_0 p10_1 => ?_)
        show Re L xs 199 66 [(0, .ref 90), (1, V p), (2, V r0), (3, V kind), (4, V m), (5, V gap), (6, V (m + r_1)), (7, V r_4), (8, V ((G 90 56) - (m + r_1)))] [V r_10] (HP ly F G A B) _
        refine r_ldcw (v := 1000000) i_199_66 (by decide) ?_
        refine r_clt (t := 73) i_199_69 (by decide) (by omega) (by omega) (fun c_11 => ?_) (fun c_11 => ?_)
        · skip
          refine r_iload i_199_73 rfl ?_
          refine r_aload_n i_199_75 rfl ?_
          refine r_getF (v := .ref 124) i_199_76 rfl (hly 90 _ rfl) (hF.1 90 49 124 rfl) ?_
          refine r_iload_n i_199_79 rfl ?_
          refine r_iald i_199_80 (hly 124 _ rfl) (by omega) (by omega) (by omega) ?_
          have q_12 := a_124 hA (r0.toNat)
          refine r_iadd i_199_81 ?_
          refine r_aload_n i_199_82 rfl ?_
          refine r_iload_n i_199_83 rfl ?_
          refine r_aload_n i_199_84 rfl ?_
          refine r_getF (v := .ref 123) i_199_85 rfl (hly 90 _ rfl) (hF.1 90 48 123 rfl) ?_
          refine r_iload_n i_199_88 rfl ?_
          refine r_iald i_199_89 (hly 123 _ rfl) (by omega) (by omega) (by omega) ?_
          refine r_iload i_199_90 rfl ?_
          refine r_cV (as := [V ((G 90 56) - (m + r_1)), V (A 123 (r0.toNat)), V p]) i_199_92 rfl (by decide +kernel) (Nat.le_of_ble_eq_true rfl) (Nat.le_of_ble_eq_true rfl) (hly 90 _ rfl) rfl ?_
          refine c_197 (p := p) (kind := A 123 (r0.toNat)) (left := (G 90 56) - (m + r_1)) hly hF hG hA (by omega) (by omega) (by omega) (by omega) (by omega) (by omega) (fun r_13 p13_0 p13_1 => ?_)
          show Re L xs 199 95 [(0, .ref 90), (1, V p), (2, V r0), (3, V kind), (4, V m), (5, V gap), (6, V (m + r_1)), (7, V r_4), (8, V ((G 90 56) - (m + r_1)))] [V r_13, V (r_4 + (A 124 (r0.toNat)))] (HP ly F G A B) _
          refine r_iadd i_199_95 ?_
          refine r_aload_n i_199_96 rfl ?_
          refine r_iload_n i_199_97 rfl ?_
          refine r_iconst i_199_98 ?_
          refine r_isub i_199_99 ?_
          refine r_iload_n i_199_100 rfl ?_
          refine r_aload_n i_199_101 rfl ?_
          refine r_getI i_199_102 rfl (hly 90 _ rfl) ?_
          refine r_iload i_199_105 rfl ?_
          refine r_isub i_199_107 ?_
          refine r_cV (as := [V ((G 90 56) - m), V kind, V (p - 1)]) i_199_108 rfl (by decide +kernel) (Nat.le_of_ble_eq_true rfl) (Nat.le_of_ble_eq_true rfl) (hly 90 _ rfl) rfl ?_
          refine c_197 (p := p - 1) (kind := kind) (left := (G 90 56) - m) hly hF hG hA (by omega) (by omega) (by omega) (by omega) (by omega) (by omega) (fun r_14 p14_0 p14_1 => ?_)
          show Re L xs 199 111 [(0, .ref 90), (1, V p), (2, V r0), (3, V kind), (4, V m), (5, V gap), (6, V (m + r_1)), (7, V r_4), (8, V ((G 90 56) - (m + r_1)))] [V r_14, V ((r_4 + (A 124 (r0.toNat))) + r_13)] (HP ly F G A B) _
          refine r_isub i_199_111 ?_
          have hmo := sp_more hA hkn hb hp.1 hp.2 hr.1 hr.2 hk.1 hk.2 hm.1 (by rw [← p1_0]; omega)
          rw [← p1_0, ← p4_0, ← p13_1 (by omega) (by omega), ← p14_1 (by omega) (by omega)] at hmo
          refine r_istore (l' := [(0, .ref 90), (1, V p), (2, V r0), (3, V kind), (4, V m), (5, V gap), (6, V (m + r_1)), (7, V r_4), (8, V ((G 90 56) - (m + r_1))), (9, V (((r_4 + (A 124 (r0.toNat))) + r_13) - r_14))]) i_199_112 (by decide +kernel) rfl ?_
          refine r_iload_n i_199_114 rfl ?_
          refine r_iconst i_199_115 ?_
          refine r_isub i_199_116 ?_
          refine r_iconst i_199_117 ?_
          refine r_bin (z := (p - 1) % 2) i_199_118 (by show (if Int32.ofInt 2 = 0 then none else _) = _; rw [if_neg (by decide)]; rfl) (irem2 (by omega) (by omega)) ?_
          refine r_iload_n i_199_119 rfl ?_
          refine r_iload i_199_120 rfl ?_
          refine r_iconst i_199_122 ?_
          refine r_cS (as := [V 0, V m, V kind, V ((p - 1) % 2)]) i_199_123 rfl (by decide +kernel) (Nat.le_of_ble_eq_true rfl) (Nat.le_of_ble_eq_true rfl) ?_
          refine c_195 (layer := (p - 1) % 2) (kind := kind) (marks := m) (over := 0) hly hF hG hA (by omega) (by omega) (by omega) (by omega) (fun r_15 p15_0 => ?_)
          show Re L xs 199 126 [(0, .ref 90), (1, V p), (2, V r0), (3, V kind), (4, V m), (5, V gap), (6, V (m + r_1)), (7, V r_4), (8, V ((G 90 56) - (m + r_1))), (9, V (((r_4 + (A 124 (r0.toNat))) + r_13) - r_14))] [V r_15] (HP ly F G A B) _
          refine r_istore (l' := [(0, .ref 90), (1, V p), (2, V r0), (3, V kind), (4, V m), (5, V gap), (6, V (m + r_1)), (7, V r_4), (8, V ((G 90 56) - (m + r_1))), (9, V (((r_4 + (A 124 (r0.toNat))) + r_13) - r_14)), (10, V r_15)]) i_199_126 (by decide +kernel) rfl ?_
          refine r_iload_n i_199_128 rfl ?_
          refine r_iconst i_199_129 ?_
          refine r_bin (z := p % 2) i_199_130 (by show (if Int32.ofInt 2 = 0 then none else _) = _; rw [if_neg (by decide)]; rfl) (irem2 (by omega) (by omega)) ?_
          refine r_aload_n i_199_131 rfl ?_
          refine r_getF (v := .ref 123) i_199_132 rfl (hly 90 _ rfl) (hF.1 90 48 123 rfl) ?_
          refine r_iload_n i_199_135 rfl ?_
          refine r_iald i_199_136 (hly 123 _ rfl) (by omega) (by omega) (by omega) ?_
          refine r_iload i_199_137 rfl ?_
          refine r_iconst i_199_139 ?_
          refine r_cS (as := [V 0, V (m + r_1), V (A 123 (r0.toNat)), V (p % 2)]) i_199_140 rfl (by decide +kernel) (Nat.le_of_ble_eq_true rfl) (Nat.le_of_ble_eq_true rfl) ?_
          refine c_195 (layer := p % 2) (kind := A 123 (r0.toNat)) (marks := m + r_1) (over := 0) hly hF hG hA (by omega) (by omega) (by omega) (by omega) (fun r_16 p16_0 => ?_)
          show Re L xs 199 143 [(0, .ref 90), (1, V p), (2, V r0), (3, V kind), (4, V m), (5, V gap), (6, V (m + r_1)), (7, V r_4), (8, V ((G 90 56) - (m + r_1))), (9, V (((r_4 + (A 124 (r0.toNat))) + r_13) - r_14)), (10, V r_15)] [V r_16] (HP ly F G A B) _
          refine r_istore (l' := [(0, .ref 90), (1, V p), (2, V r0), (3, V kind), (4, V m), (5, V gap), (6, V (m + r_1)), (7, V r_4), (8, V ((G 90 56) - (m + r_1))), (9, V (((r_4 + (A 124 (r0.toNat))) + r_13) - r_14)), (10, V r_15), (11, V r_16)]) i_199_143 (by decide +kernel) rfl ?_
          refine r_iconst i_199_145 ?_
          refine r_istore (l' := [(0, .ref 90), (1, V p), (2, V r0), (3, V kind), (4, V m), (5, V gap), (6, V (m + r_1)), (7, V r_4), (8, V ((G 90 56) - (m + r_1))), (9, V (((r_4 + (A 124 (r0.toNat))) + r_13) - r_14)), (10, V r_15), (11, V r_16), (12, V 0)]) i_199_146 (by decide +kernel) rfl ?_
          have lp148B : ∀ (nf : Nat) (o : Int) (B148 : Nat → Nat → Int64), (0 ≤ o ∧ o ≤ 101) → (200 - o).toNat < nf → Re L xs 199 148 [(0, .ref 90), (1, V p), (2, V r0), (3, V kind), (4, V m), (5, V gap), (6, V (m + r_1)), (7, V r_4), (8, V ((G 90 56) - (m + r_1))), (9, V (((r_4 + (A 124 (r0.toNat))) + r_13) - r_14)), (10, V r_15), (11, V r_16), (12, V o)] [] (HP ly F G A B148) Q := by
            intro nf
            induction nf with
            | zero => intros; omega
            | succ nf ih148B =>
              intro o B148  ho hm148
              refine r_iload i_199_148 rfl ?_
              refine r_iload i_199_150 rfl ?_
              refine r_iadd i_199_152 ?_
              refine r_iload i_199_153 rfl ?_
              refine r_cgt (t := 190) i_199_155 (by decide) (by omega) (by omega) (fun c_17 => ?_) (fun c_17 => ?_)
              · skip
                exact r_vret i_199_190 rfl (K B148)
              · skip
                refine r_aload_n i_199_158 rfl ?_
                refine r_getF (v := .ref 131) i_199_159 rfl (hly 90 _ rfl) (hF.1 90 61 131 rfl) ?_
                refine r_iload i_199_162 rfl ?_
                refine r_iload i_199_164 rfl ?_
                refine r_iadd i_199_166 ?_
                refine r_iload i_199_167 rfl ?_
                refine r_iadd i_199_169 ?_
                refine re_nx i_199_170 rfl ?_
                refine r_lald i_199_171 (hly 131 _ rfl) (by omega) (by omega) (by omega) ?_
                refine r_aload_n i_199_172 rfl ?_
                refine r_getF (v := .ref 131) i_199_173 rfl (hly 90 _ rfl) (hF.1 90 61 131 rfl) ?_
                refine r_iload i_199_176 rfl ?_
                refine r_iload i_199_178 rfl ?_
                refine r_iadd i_199_180 ?_
                refine r_lald i_199_181 (hly 131 _ rfl) (by omega) (by omega) (by omega) ?_
                refine re_nx i_199_182 rfl ?_
                refine r_lastQ i_199_183 (hly 131 _ rfl) (by omega) (by omega) (by omega) (fun B_18 eB_18 => ?_)
                refine r_iinc (l' := [(0, .ref 90), (1, V p), (2, V r0), (3, V kind), (4, V m), (5, V gap), (6, V (m + r_1)), (7, V r_4), (8, V ((G 90 56) - (m + r_1))), (9, V (((r_4 + (A 124 (r0.toNat))) + r_13) - r_14)), (10, V r_15), (11, V r_16), (12, V (o + 1))]) i_199_184 rfl (by decide +kernel) rfl ?_
                refine r_go (t := 148) i_199_187 (by decide) ?_
                exact ih148B (o + 1) B_18  (by omega) (by omega)
          exact lp148B _ 0 B  (by omega) (Nat.lt_succ_self _)
        · skip
          exact r_vret i_199_72 rfl (K B)
