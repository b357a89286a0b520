set_option maxHeartbeats 4000000 in
theorem c_178 {L : Nat} {xs : Nat → Int32} {ly : List LK} {F : Nat → Nat → Value} {G A : Nat → Nat → Int} {B : Nat → Nat → Int64} {Q : Option Value → AH → Prop} {p : Int} {r0 : Int} {m : Int} (hly : LyOk ly) (hF : RfOk F) (hG : GO G) (hA : AQ A) (in_p : inR p) (in_r0 : inR r0) (in_m : inR m) (hp : 0 ≤ p ∧ p ≤ 13) (hr : 0 ≤ r0 ∧ r0 < 182) (hm : 0 ≤ m ∧ m < 169) (K : ∀ (r : Int), (r = (dpo G A).cm p r0 m) → (0 ≤ r ∧ r ≤ 1000000) → Q (some (V r)) (HP ly F G A B)) : Re L xs 178 0 [(0, .ref 90), (1, V p), (2, V r0), (3, V m)] [] (HP ly F G A B) Q := by
  refine r_aload_n i_178_0 rfl ?_
  refine r_iload_n i_178_1 rfl ?_
  refine r_cV (as := [V r0]) i_178_2 rfl (by decide +kernel) (Nat.le_of_ble_eq_true rfl) (Nat.le_of_ble_eq_true rfl) (hly 90 _ rfl) rfl ?_
  refine c_179 (r0 := r0) hly hF hG hA (by omega) (by omega) (fun r_1 p1_0 p1_1 => ?_)
  show Re L xs 178 5 [(0, .ref 90), (1, V p), (2, V r0), (3, V m)] [V r_1] (HP ly F G A B) _
  refine r_istore (l' := [(0, .ref 90), (1, V p), (2, V r0), (3, V m), (4, V r_1)]) i_178_5 (by decide +kernel) rfl ?_
  refine r_iload_n i_178_7 rfl ?_
  refine r_iload i_178_8 rfl ?_
  refine r_cge (t := 17) i_178_10 (by decide) (by omega) (by omega) (fun c_2 => ?_) (fun c_2 => ?_)
  · skip
    refine r_iload_n i_178_17 rfl ?_
    refine r_ne0 (t := 40) i_178_18 (by decide) (by omega) (fun c_3 => ?_) (fun c_3 => ?_)
    · skip
      refine r_ldcw (v := 1000000) i_178_40 (by decide) ?_
      refine r_istore (l' := [(0, .ref 90), (1, V p), (2, V r0), (3, V m), (4, V r_1), (5, V 1000000)]) i_178_43 (by decide +kernel) rfl ?_
      refine r_iconst i_178_45 ?_
      refine r_istore (l' := [(0, .ref 90), (1, V p), (2, V r0), (3, V m), (4, V r_1), (5, V 1000000), (6, V 0)]) i_178_46 (by decide +kernel) rfl ?_
      have lp48B : ∀ (nf : Nat) (v : Int) (k : Int) (l7 : Int), (0 ≤ k ∧ k ≤ 8) → (v = mnf (fun k' => (dpo G A).ah (p - 1) k' (m - (dpo G A).M r0) + (dpo G A).pr k' ((dpo G A).K r0) + (dpo G A).C r0) k.toNat) → (0 ≤ v ∧ v ≤ 1000000) → (8 - k).toNat < nf → Re L xs 178 48 [(0, .ref 90), (1, V p), (2, V r0), (3, V m), (4, V r_1), (5, V v), (6, V k), (7, V l7)] [] (HP ly F G A B) Q := by
        intro nf
        induction nf with
        | zero => intros; omega
        | succ nf ih48B =>
          intro v k l7  hk hv hv1 hm48
          refine r_iload i_178_48 rfl ?_
          refine r_bipush i_178_50 (by decide) ?_
          refine r_cge (t := 116) i_178_52 (by decide) (by omega) (by omega) (fun c_4 => ?_) (fun c_4 => ?_)
          · skip
            refine r_iload i_178_116 rfl ?_
            exact r_iret i_178_118 rfl rfl (K v (by unfold DP.cm; rw [if_neg (by rw [← p1_0]; omega), if_neg (by omega), show (8 : Nat) = k.toNat from by omega]; exact hv) (by omega))
          · skip
            refine r_aload_n i_178_55 rfl ?_
            refine r_getF (v := .ref 128) i_178_56 rfl (hly 90 _ rfl) (hF.1 90 54 128 rfl) ?_
            refine r_iload_n i_178_59 rfl ?_
            refine r_iconst i_178_60 ?_
            refine r_isub i_178_61 ?_
            refine r_iload i_178_62 rfl ?_
            refine r_iload_n i_178_64 rfl ?_
            refine r_iload i_178_65 rfl ?_
            refine r_isub i_178_67 ?_
            refine r_cS (as := [V (m - r_1), V k, V (p - 1)]) i_178_68 rfl (by decide +kernel) (Nat.le_of_ble_eq_true rfl) (Nat.le_of_ble_eq_true rfl) ?_
            refine c_180 (p := p - 1) (kind := k) (marks := m - r_1) hly hF hG hA (by omega) (by omega) (by omega) (fun r_5 p5_0 => ?_)
            show Re L xs 178 71 [(0, .ref 90), (1, V p), (2, V r0), (3, V m), (4, V r_1), (5, V v), (6, V k), (7, V l7)] [V r_5, .ref 128] (HP ly F G A B) _
            refine r_iald i_178_71 (hly 128 _ rfl) (by omega) (by omega) (by omega) ?_
            have q_6 := a_128 hA (r_5.toNat)
            refine r_aload_n i_178_72 rfl ?_
            refine r_iload i_178_73 rfl ?_
            refine r_aload_n i_178_75 rfl ?_
            refine r_getF (v := .ref 123) i_178_76 rfl (hly 90 _ rfl) (hF.1 90 48 123 rfl) ?_
            refine r_iload_n i_178_79 rfl ?_
            refine r_iald i_178_80 (hly 123 _ rfl) (by omega) (by omega) (by omega) ?_
            have q_7 := a_123 hA (r0.toNat)
            refine r_cV (as := [V (A 123 (r0.toNat)), V k]) i_178_81 rfl (by decide +kernel) (Nat.le_of_ble_eq_true rfl) (Nat.le_of_ble_eq_true rfl) (hly 90 _ rfl) rfl ?_
            have q_8 := g_90_32 hG
            refine c_181 (a := k) (c := A 123 (r0.toNat)) hly hF hG hA (by omega) (by omega) (by omega) (by omega) (fun r_9 p9_0 p9_1 => ?_)
            show Re L xs 178 84 [(0, .ref 90), (1, V p), (2, V r0), (3, V m), (4, V r_1), (5, V v), (6, V k), (7, V l7)] [V r_9, V (A 128 (r_5.toNat))] (HP ly F G A B) _
            refine r_iadd i_178_84 ?_
            refine r_aload_n i_178_85 rfl ?_
            refine r_getF (v := .ref 124) i_178_86 rfl (hly 90 _ rfl) (hF.1 90 49 124 rfl) ?_
            refine r_iload_n i_178_89 rfl ?_
            refine r_iald i_178_90 (hly 124 _ rfl) (by omega) (by omega) (by omega) ?_
            have q_10 := a_124 hA (r0.toNat)
            refine r_iadd i_178_91 ?_
            refine r_istore (l' := [(0, .ref 90), (1, V p), (2, V r0), (3, V m), (4, V r_1), (5, V v), (6, V k), (7, V (((A 128 (r_5.toNat)) + r_9) + (A 124 (r0.toNat))))]) i_178_92 (by decide +kernel) rfl ?_
            have jn108 : ∀ (v2 : Int), (v2 = if (((A 128 (r_5.toNat)) + r_9) + (A 124 (r0.toNat))) < v then (((A 128 (r_5.toNat)) + r_9) + (A 124 (r0.toNat))) else v) → (0 ≤ v2 ∧ v2 ≤ 1000000) → Re L xs 178 108 [(0, .ref 90), (1, V p), (2, V r0), (3, V m), (4, V r_1), (5, V v), (6, V k), (7, V (((A 128 (r_5.toNat)) + r_9) + (A 124 (r0.toNat))))] [V v2] (HP ly F G A B) Q := by
              intro v2  hv2 hv3
              refine r_istore (l' := [(0, .ref 90), (1, V p), (2, V r0), (3, V m), (4, V r_1), (5, V v2), (6, V k), (7, V (((A 128 (r_5.toNat)) + r_9) + (A 124 (r0.toNat))))]) i_178_108 (by decide +kernel) rfl ?_
              refine r_iinc (l' := [(0, .ref 90), (1, V p), (2, V r0), (3, V m), (4, V r_1), (5, V v2), (6, V (k + 1)), (7, V (((A 128 (r_5.toNat)) + r_9) + (A 124 (r0.toNat))))]) i_178_110 rfl (by decide +kernel) rfl ?_
              refine r_go (t := 48) i_178_113 (by decide) ?_
              exact ih48B v2 (k + 1) (((A 128 (r_5.toNat)) + r_9) + (A 124 (r0.toNat)))  (by omega) (by first | rfl | exact mnf_st (by omega) hv (by show A 128 (((p - 1) * 8 + k) * 169 + (m - (dpo G A).M r0)).toNat + prV A (G 90 32) k (A 123 r0.toNat) + A 124 r0.toNat = _; rw [← p9_0, ← p1_0, ← p5_0]) hv2) (by omega) (by omega)
            refine r_iload i_178_94 rfl ?_
            refine r_iload i_178_96 rfl ?_
            refine r_cge (t := 106) i_178_98 (by decide) (by omega) (by omega) (fun c_11 => ?_) (fun c_11 => ?_)
            · skip
              refine r_iload i_178_106 rfl ?_
              exact jn108 v  (by first | rw [if_pos (by omega)] | rw [if_neg (by omega)]) (by omega)
            · skip
              refine r_iload i_178_101 rfl ?_
              refine r_go (t := 108) i_178_103 (by decide) ?_
              exact jn108 (((A 128 (r_5.toNat)) + r_9) + (A 124 (r0.toNat)))  (by first | rw [if_pos (by omega)] | rw [if_neg (by omega)]) (by omega)
      have lp48A56 : ∀ (nf : Nat) (v : Int) (k : Int), (0 ≤ k ∧ k ≤ 8) → (v = mnf (fun k' => (dpo G A).ah (p - 1) k' (m - (dpo G A).M r0) + (dpo G A).pr k' ((dpo G A).K r0) + (dpo G A).C r0) k.toNat) → (0 ≤ v ∧ v ≤ 1000000) → (8 - k).toNat < nf → Re L xs 178 48 [(0, .ref 90), (1, V p), (2, V r0), (3, V m), (4, V r_1), (5, V v), (6, V k)] [] (HP ly F G A B) Q := by
        intro nf
        induction nf with
        | zero => intros; omega
        | succ nf ih48A56 =>
          intro v k  hk hv hv1 hm48
          refine r_iload i_178_48 rfl ?_
          refine r_bipush i_178_50 (by decide) ?_
          refine r_cge (t := 116) i_178_52 (by decide) (by omega) (by omega) (fun c_12 => ?_) (fun c_12 => ?_)
          · skip
            refine r_iload i_178_116 rfl ?_
            exact r_iret i_178_118 rfl rfl (K v (by unfold DP.cm; rw [if_neg (by rw [← p1_0]; omega), if_neg (by omega), show (8 : Nat) = k.toNat from by omega]; exact hv) (by omega))
          · skip
            refine r_aload_n i_178_55 rfl ?_
            refine r_getF (v := .ref 128) i_178_56 rfl (hly 90 _ rfl) (hF.1 90 54 128 rfl) ?_
            refine r_iload_n i_178_59 rfl ?_
            refine r_iconst i_178_60 ?_
            refine r_isub i_178_61 ?_
            refine r_iload i_178_62 rfl ?_
            refine r_iload_n i_178_64 rfl ?_
            refine r_iload i_178_65 rfl ?_
            refine r_isub i_178_67 ?_
            refine r_cS (as := [V (m - r_1), V k, V (p - 1)]) i_178_68 rfl (by decide +kernel) (Nat.le_of_ble_eq_true rfl) (Nat.le_of_ble_eq_true rfl) ?_
            refine c_180 (p := p - 1) (kind := k) (marks := m - r_1) hly hF hG hA (by omega) (by omega) (by omega) (fun r_13 p13_0 => ?_)
            show Re L xs 178 71 [(0, .ref 90), (1, V p), (2, V r0), (3, V m), (4, V r_1), (5, V v), (6, V k)] [V r_13, .ref 128] (HP ly F G A B) _
            refine r_iald i_178_71 (hly 128 _ rfl) (by omega) (by omega) (by omega) ?_
            have q_14 := a_128 hA (r_13.toNat)
            refine r_aload_n i_178_72 rfl ?_
            refine r_iload i_178_73 rfl ?_
            refine r_aload_n i_178_75 rfl ?_
            refine r_getF (v := .ref 123) i_178_76 rfl (hly 90 _ rfl) (hF.1 90 48 123 rfl) ?_
            refine r_iload_n i_178_79 rfl ?_
            refine r_iald i_178_80 (hly 123 _ rfl) (by omega) (by omega) (by omega) ?_
            have q_15 := a_123 hA (r0.toNat)
            refine r_cV (as := [V (A 123 (r0.toNat)), V k]) i_178_81 rfl (by decide +kernel) (Nat.le_of_ble_eq_true rfl) (Nat.le_of_ble_eq_true rfl) (hly 90 _ rfl) rfl ?_
            have q_16 := g_90_32 hG
            refine c_181 (a := k) (c := A 123 (r0.toNat)) hly hF hG hA (by omega) (by omega) (by omega) (by omega) (fun r_17 p17_0 p17_1 => ?_)
            show Re L xs 178 84 [(0, .ref 90), (1, V p), (2, V r0), (3, V m), (4, V r_1), (5, V v), (6, V k)] [V r_17, V (A 128 (r_13.toNat))] (HP ly F G A B) _
            refine r_iadd i_178_84 ?_
            refine r_aload_n i_178_85 rfl ?_
            refine r_getF (v := .ref 124) i_178_86 rfl (hly 90 _ rfl) (hF.1 90 49 124 rfl) ?_
            refine r_iload_n i_178_89 rfl ?_
            refine r_iald i_178_90 (hly 124 _ rfl) (by omega) (by omega) (by omega) ?_
            have q_18 := a_124 hA (r0.toNat)
            refine r_iadd i_178_91 ?_
            refine r_istore (l' := [(0, .ref 90), (1, V p), (2, V r0), (3, V m), (4, V r_1), (5, V v), (6, V k), (7, V (((A 128 (r_13.toNat)) + r_17) + (A 124 (r0.toNat))))]) i_178_92 (by decide +kernel) rfl ?_
            have jn108 : ∀ (v2 : Int), (v2 = if (((A 128 (r_13.toNat)) + r_17) + (A 124 (r0.toNat))) < v then (((A 128 (r_13.toNat)) + r_17) + (A 124 (r0.toNat))) else v) → (0 ≤ v2 ∧ v2 ≤ 1000000) → Re L xs 178 108 [(0, .ref 90), (1, V p), (2, V r0), (3, V m), (4, V r_1), (5, V v), (6, V k), (7, V (((A 128 (r_13.toNat)) + r_17) + (A 124 (r0.toNat))))] [V v2] (HP ly F G A B) Q := by
              intro v2  hv2 hv3
              refine r_istore (l' := [(0, .ref 90), (1, V p), (2, V r0), (3, V m), (4, V r_1), (5, V v2), (6, V k), (7, V (((A 128 (r_13.toNat)) + r_17) + (A 124 (r0.toNat))))]) i_178_108 (by decide +kernel) rfl ?_
              refine r_iinc (l' := [(0, .ref 90), (1, V p), (2, V r0), (3, V m), (4, V r_1), (5, V v2), (6, V (k + 1)), (7, V (((A 128 (r_13.toNat)) + r_17) + (A 124 (r0.toNat))))]) i_178_110 rfl (by decide +kernel) rfl ?_
              refine r_go (t := 48) i_178_113 (by decide) ?_
              exact lp48B _ v2 (k + 1) (((A 128 (r_13.toNat)) + r_17) + (A 124 (r0.toNat)))  (by omega) (by first | rfl | exact mnf_st (by omega) hv (by show A 128 (((p - 1) * 8 + k) * 169 + (m - (dpo G A).M r0)).toNat + prV A (G 90 32) k (A 123 r0.toNat) + A 124 r0.toNat = _; rw [← p17_0, ← p1_0, ← p13_0]) hv2) (by omega) (Nat.lt_succ_self _)
            refine r_iload i_178_94 rfl ?_
            refine r_iload i_178_96 rfl ?_
            refine r_cge (t := 106) i_178_98 (by decide) (by omega) (by omega) (fun c_19 => ?_) (fun c_19 => ?_)
            · skip
              refine r_iload i_178_106 rfl ?_
              exact jn108 v  (by first | rw [if_pos (by omega)] | rw [if_neg (by omega)]) (by omega)
            · skip
              refine r_iload i_178_101 rfl ?_
              refine r_go (t := 108) i_178_103 (by decide) ?_
              exact jn108 (((A 128 (r_13.toNat)) + r_17) + (A 124 (r0.toNat)))  (by first | rw [if_pos (by omega)] | rw [if_neg (by omega)]) (by omega)
      exact lp48A56 _ 1000000 0  (by omega) (by first | rfl | exact mnf_st (by omega) hv (by show A 128 (((p - 1) * 8 + k) * 169 + (m - (dpo G A).M r0)).toNat + prV A (G 90 32) k (A 123 r0.toNat) + A 124 r0.toNat = _; rw [← zzp0, ← p1_0, ← zzp0]) hv2) (by omega) (Nat.lt_succ_self _)
    · skip
      refine r_iload_n i_178_21 rfl ?_
      refine r_iload i_178_22 rfl ?_
      refine r_cne (t := 36) i_178_24 (by decide) (by omega) (by omega) (fun c_20 => ?_) (fun c_20 => ?_)
      · skip
        refine r_ldcw (v := 1000000) i_178_36 (by decide) ?_
        exact r_iret i_178_39 rfl rfl (K 1000000 (by unfold DP.cm; rw [if_neg (by rw [← p1_0]; omega), if_pos (by omega)]; first | exact (if_pos (by rw [← p1_0]; omega)).symm | exact (if_neg (by rw [← p1_0]; omega)).symm) (by omega))
      · skip
        refine r_aload_n i_178_27 rfl ?_
        refine r_getF (v := .ref 124) i_178_28 rfl (hly 90 _ rfl) (hF.1 90 49 124 rfl) ?_
        refine r_iload_n i_178_31 rfl ?_
        refine r_iald i_178_32 (hly 124 _ rfl) (by omega) (by omega) (by omega) ?_
        have q_21 := a_124 hA (r0.toNat)
        refine r_go (t := 39) i_178_33 (by decide) ?_
        exact r_iret i_178_39 rfl rfl (K (A 124 (r0.toNat)) (by unfold DP.cm; rw [if_neg (by rw [← p1_0]; omega), if_pos (by omega)]; first | exact (if_pos (by rw [← p1_0]; omega)).symm | exact (if_neg (by rw [← p1_0]; omega)).symm) (by omega))
  · skip
    refine r_ldcw (v := 1000000) i_178_13 (by decide) ?_
    exact r_iret i_178_16 rfl rfl (K 1000000 (by unfold DP.cm; rw [if_pos (by rw [← p1_0]; omega)]) (by omega))
set_option maxHeartbeats 4000000 in
theorem c_183 {L : Nat} {xs : Nat → Int32} {ly : List LK} {F : Nat → Nat → Value} {G A : Nat → Nat → Int} {B : Nat → Nat → Int64} {Q : Option Value → AH → Prop} {p : Int} {r0 : Int} {m : Int} (hly : LyOk ly) (hF : RfOk F) (hG : GO G) (hA : AQ A) (in_p : inR p) (in_r0 : inR r0) (in_m : inR m) (hp : 0 ≤ p ∧ p < G 90 38) (hr : 0 ≤ r0 ∧ r0 < 182) (hm : 0 ≤ m ∧ m < 169) (K : ∀ (r : Int), (r = (dpo G A).go p (A 123 r0.toNat) m) → (0 ≤ r ∧ r ≤ 1000000) → Q (some (V r)) (HP ly F G A B)) : Re L xs 183 0 [(0, .ref 90), (1, V p), (2, V r0), (3, V m)] [] (HP ly F G A B) Q := by
  have z38 := g_90_38 hG
  refine r_iload_n i_183_0 rfl ?_
  refine r_aload_n i_183_1 rfl ?_
  refine r_getI i_183_2 rfl (hly 90 _ rfl) ?_
  have q_1 := g_90_38 hG
  refine r_iconst i_183_5 ?_
  refine r_isub i_183_6 ?_
  refine r_cne (t := 22) i_183_7 (by decide) (by omega) (by omega) (fun c_2 => ?_) (fun c_2 => ?_)
  · skip
    refine r_ldcw (v := 1000000) i_183_22 (by decide) ?_
    refine r_istore (l' := [(0, .ref 90), (1, V p), (2, V r0), (3, V m), (4, V 1000000)]) i_183_25 (by decide +kernel) rfl ?_
    refine r_iconst i_183_27 ?_
    refine r_istore (l' := [(0, .ref 90), (1, V p), (2, V r0), (3, V m), (4, V 1000000), (5, V 0)]) i_183_28 (by decide +kernel) rfl ?_
    have lp30B : ∀ (nf : Nat) (v : Int) (k : Int) (l6 : Int), (0 ≤ k ∧ k ≤ 8) → (v = mnf (fun k' => (dpo G A).be (p + 1) k' m + (dpo G A).pr (A 123 r0.toNat) k') k.toNat) → (0 ≤ v ∧ v ≤ 1000000) → (8 - k).toNat < nf → Re L xs 183 30 [(0, .ref 90), (1, V p), (2, V r0), (3, V m), (4, V v), (5, V k), (6, V l6)] [] (HP ly F G A B) Q := by
      intro nf
      induction nf with
      | zero => intros; omega
      | succ nf ih30B =>
        intro v k l6  hk hv hv1 hm30
        refine r_iload i_183_30 rfl ?_
        refine r_bipush i_183_32 (by decide) ?_
        refine r_cge (t := 88) i_183_34 (by decide) (by omega) (by omega) (fun c_3 => ?_) (fun c_3 => ?_)
        · skip
          refine r_iload i_183_88 rfl ?_
          exact r_iret i_183_90 rfl rfl (K v (by unfold DP.go; rw [if_neg (show ¬ p = (dpo G A).n - 1 from by show ¬ p = G 90 38 - 1; omega), show (8 : Nat) = k.toNat from by omega]; exact hv) (by omega))
        · skip
          refine r_aload_n i_183_37 rfl ?_
          refine r_getF (v := .ref 129) i_183_38 rfl (hly 90 _ rfl) (hF.1 90 55 129 rfl) ?_
          refine r_iload_n i_183_41 rfl ?_
          refine r_iconst i_183_42 ?_
          refine r_iadd i_183_43 ?_
          refine r_iload i_183_44 rfl ?_
          refine r_iload_n i_183_46 rfl ?_
          refine r_cS (as := [V m, V k, V (p + 1)]) i_183_47 rfl (by decide +kernel) (Nat.le_of_ble_eq_true rfl) (Nat.le_of_ble_eq_true rfl) ?_
          refine c_180 (p := p + 1) (kind := k) (marks := m) hly hF hG hA (by omega) (by omega) (by omega) (fun r_4 p4_0 => ?_)
          show Re L xs 183 50 [(0, .ref 90), (1, V p), (2, V r0), (3, V m), (4, V v), (5, V k), (6, V l6)] [V r_4, .ref 129] (HP ly F G A B) _
          refine r_iald i_183_50 (hly 129 _ rfl) (by omega) (by omega) (by omega) ?_
          have q_5 := a_129 hA (r_4.toNat)
          refine r_aload_n i_183_51 rfl ?_
          refine r_aload_n i_183_52 rfl ?_
          refine r_getF (v := .ref 123) i_183_53 rfl (hly 90 _ rfl) (hF.1 90 48 123 rfl) ?_
          refine r_iload_n i_183_56 rfl ?_
          refine r_iald i_183_57 (hly 123 _ rfl) (by omega) (by omega) (by omega) ?_
          have q_6 := a_123 hA (r0.toNat)
          refine r_iload i_183_58 rfl ?_
          refine r_cV (as := [V k, V (A 123 (r0.toNat))]) i_183_60 rfl (by decide +kernel) (Nat.le_of_ble_eq_true rfl) (Nat.le_of_ble_eq_true rfl) (hly 90 _ rfl) rfl ?_
          have q_7 := g_90_32 hG
          refine c_181 (a := A 123 (r0.toNat)) (c := k) hly hF hG hA (by omega) (by omega) (by omega) (by omega) (fun r_8 p8_0 p8_1 => ?_)
          show Re L xs 183 63 [(0, .ref 90), (1, V p), (2, V r0), (3, V m), (4, V v), (5, V k), (6, V l6)] [V r_8, V (A 129 (r_4.toNat))] (HP ly F G A B) _
          refine r_iadd i_183_63 ?_
          refine r_istore (l' := [(0, .ref 90), (1, V p), (2, V r0), (3, V m), (4, V v), (5, V k), (6, V ((A 129 (r_4.toNat)) + r_8))]) i_183_64 (by decide +kernel) rfl ?_
          have jn80 : ∀ (v2 : Int), (v2 = if ((A 129 (r_4.toNat)) + r_8) < v then ((A 129 (r_4.toNat)) + r_8) else v) → (0 ≤ v2 ∧ v2 ≤ 1000000) → Re L xs 183 80 [(0, .ref 90), (1, V p), (2, V r0), (3, V m), (4, V v), (5, V k), (6, V ((A 129 (r_4.toNat)) + r_8))] [V v2] (HP ly F G A B) Q := by
            intro v2  hv2 hv3
            refine r_istore (l' := [(0, .ref 90), (1, V p), (2, V r0), (3, V m), (4, V v2), (5, V k), (6, V ((A 129 (r_4.toNat)) + r_8))]) i_183_80 (by decide +kernel) rfl ?_
            refine r_iinc (l' := [(0, .ref 90), (1, V p), (2, V r0), (3, V m), (4, V v2), (5, V (k + 1)), (6, V ((A 129 (r_4.toNat)) + r_8))]) i_183_82 rfl (by decide +kernel) rfl ?_
            refine r_go (t := 30) i_183_85 (by decide) ?_
            exact ih30B v2 (k + 1) ((A 129 (r_4.toNat)) + r_8)  (by omega) (by first | rfl | exact mnf_st (by omega) hv (by show A 129 (((p + 1) * 8 + k) * 169 + m).toNat + prV A (G 90 32) (A 123 r0.toNat) k = _; rw [← p8_0, ← p4_0]) hv2) (by omega) (by omega)
          refine r_iload i_183_66 rfl ?_
          refine r_iload i_183_68 rfl ?_
          refine r_cge (t := 78) i_183_70 (by decide) (by omega) (by omega) (fun c_9 => ?_) (fun c_9 => ?_)
          · skip
            refine r_iload i_183_78 rfl ?_
            exact jn80 v  (by first | rw [if_pos (by omega)] | rw [if_neg (by omega)]) (by omega)
          · skip
            refine r_iload i_183_73 rfl ?_
            refine r_go (t := 80) i_183_75 (by decide) ?_
            exact jn80 ((A 129 (r_4.toNat)) + r_8)  (by first | rw [if_pos (by omega)] | rw [if_neg (by omega)]) (by omega)
    have lp30A45 : ∀ (nf : Nat) (v : Int) (k : Int), (0 ≤ k ∧ k ≤ 8) → (v = mnf (fun k' => (dpo G A).be (p + 1) k' m + (dpo G A).pr (A 123 r0.toNat) k') k.toNat) → (0 ≤ v ∧ v ≤ 1000000) → (8 - k).toNat < nf → Re L xs 183 30 [(0, .ref 90), (1, V p), (2, V r0), (3, V m), (4, V v), (5, V k)] [] (HP ly F G A B) Q := by
      intro nf
      induction nf with
      | zero => intros; omega
      | succ nf ih30A45 =>
        intro v k  hk hv hv1 hm30
        refine r_iload i_183_30 rfl ?_
        refine r_bipush i_183_32 (by decide) ?_
        refine r_cge (t := 88) i_183_34 (by decide) (by omega) (by omega) (fun c_10 => ?_) (fun c_10 => ?_)
        · skip
          refine r_iload i_183_88 rfl ?_
          exact r_iret i_183_90 rfl rfl (K v (by unfold DP.go; rw [if_neg (show ¬ p = (dpo G A).n - 1 from by show ¬ p = G 90 38 - 1; omega), show (8 : Nat) = k.toNat from by omega]; exact hv) (by omega))
        · skip
          refine r_aload_n i_183_37 rfl ?_
          refine r_getF (v := .ref 129) i_183_38 rfl (hly 90 _ rfl) (hF.1 90 55 129 rfl) ?_
          refine r_iload_n i_183_41 rfl ?_
          refine r_iconst i_183_42 ?_
          refine r_iadd i_183_43 ?_
          refine r_iload i_183_44 rfl ?_
          refine r_iload_n i_183_46 rfl ?_
          refine r_cS (as := [V m, V k, V (p + 1)]) i_183_47 rfl (by decide +kernel) (Nat.le_of_ble_eq_true rfl) (Nat.le_of_ble_eq_true rfl) ?_
          refine c_180 (p := p + 1) (kind := k) (marks := m) hly hF hG hA (by omega) (by omega) (by omega) (fun r_11 p11_0 => ?_)
          show Re L xs 183 50 [(0, .ref 90), (1, V p), (2, V r0), (3, V m), (4, V v), (5, V k)] [V r_11, .ref 129] (HP ly F G A B) _
          refine r_iald i_183_50 (hly 129 _ rfl) (by omega) (by omega) (by omega) ?_
          have q_12 := a_129 hA (r_11.toNat)
          refine r_aload_n i_183_51 rfl ?_
          refine r_aload_n i_183_52 rfl ?_
          refine r_getF (v := .ref 123) i_183_53 rfl (hly 90 _ rfl) (hF.1 90 48 123 rfl) ?_
          refine r_iload_n i_183_56 rfl ?_
          refine r_iald i_183_57 (hly 123 _ rfl) (by omega) (by omega) (by omega) ?_
          have q_13 := a_123 hA (r0.toNat)
          refine r_iload i_183_58 rfl ?_
          refine r_cV (as := [V k, V (A 123 (r0.toNat))]) i_183_60 rfl (by decide +kernel) (Nat.le_of_ble_eq_true rfl) (Nat.le_of_ble_eq_true rfl) (hly 90 _ rfl) rfl ?_
          have q_14 := g_90_32 hG
          refine c_181 (a := A 123 (r0.toNat)) (c := k) hly hF hG hA (by omega) (by omega) (by omega) (by omega) (fun r_15 p15_0 p15_1 => ?_)
          show Re L xs 183 63 [(0, .ref 90), (1, V p), (2, V r0), (3, V m), (4, V v), (5, V k)] [V r_15, V (A 129 (r_11.toNat))] (HP ly F G A B) _
          refine r_iadd i_183_63 ?_
          refine r_istore (l' := [(0, .ref 90), (1, V p), (2, V r0), (3, V m), (4, V v), (5, V k), (6, V ((A 129 (r_11.toNat)) + r_15))]) i_183_64 (by decide +kernel) rfl ?_
          have jn80 : ∀ (v2 : Int), (v2 = if ((A 129 (r_11.toNat)) + r_15) < v then ((A 129 (r_11.toNat)) + r_15) else v) → (0 ≤ v2 ∧ v2 ≤ 1000000) → Re L xs 183 80 [(0, .ref 90), (1, V p), (2, V r0), (3, V m), (4, V v), (5, V k), (6, V ((A 129 (r_11.toNat)) + r_15))] [V v2] (HP ly F G A B) Q := by
            intro v2  hv2 hv3
            refine r_istore (l' := [(0, .ref 90), (1, V p), (2, V r0), (3, V m), (4, V v2), (5, V k), (6, V ((A 129 (r_11.toNat)) + r_15))]) i_183_80 (by decide +kernel) rfl ?_
            refine r_iinc (l' := [(0, .ref 90), (1, V p), (2, V r0), (3, V m), (4, V v2), (5, V (k + 1)), (6, V ((A 129 (r_11.toNat)) + r_15))]) i_183_82 rfl (by decide +kernel) rfl ?_
            refine r_go (t := 30) i_183_85 (by decide) ?_
            exact lp30B _ v2 (k + 1) ((A 129 (r_11.toNat)) + r_15)  (by omega) (by first | rfl | exact mnf_st (by omega) hv (by show A 129 (((p + 1) * 8 + k) * 169 + m).toNat + prV A (G 90 32) (A 123 r0.toNat) k = _; rw [← p15_0, ← p11_0]) hv2) (by omega) (Nat.lt_succ_self _)
          refine r_iload i_183_66 rfl ?_
          refine r_iload i_183_68 rfl ?_
          refine r_cge (t := 78) i_183_70 (by decide) (by omega) (by omega) (fun c_16 => ?_) (fun c_16 => ?_)
          · skip
            refine r_iload i_183_78 rfl ?_
            exact jn80 v  (by first | rw [if_pos (by omega)] | rw [if_neg (by omega)]) (by omega)
          · skip
            refine r_iload i_183_73 rfl ?_
            refine r_go (t := 80) i_183_75 (by decide) ?_
            exact jn80 ((A 129 (r_11.toNat)) + r_15)  (by first | rw [if_pos (by omega)] | rw [if_neg (by omega)]) (by omega)
    exact lp30A45 _ 1000000 0  (by omega) (by first | rfl | exact mnf_st (by omega) hv (by show A 129 (((p + 1) * 8 + k) * 169 + m).toNat + prV A (G 90 32) (A 123 r0.toNat) k = _; rw [← zzp0, ← zzp0]) hv2) (by omega) (Nat.lt_succ_self _)
  · skip
    refine r_iload_n i_183_10 rfl ?_
    refine r_ne0 (t := 18) i_183_11 (by decide) (by omega) (fun c_17 => ?_) (fun c_17 => ?_)
    · skip
      refine r_ldcw (v := 1000000) i_183_18 (by decide) ?_
      exact r_iret i_183_21 rfl rfl (K 1000000 (by unfold DP.go; rw [if_pos (show p = (dpo G A).n - 1 from by show p = G 90 38 - 1; omega)]; first | exact (if_pos (by omega)).symm | exact (if_neg (by omega)).symm) (by omega))
    · skip
      refine r_iconst i_183_14 ?_
      refine r_go (t := 21) i_183_15 (by decide) ?_
      exact r_iret i_183_21 rfl rfl (K 0 (by unfold DP.go; rw [if_pos (show p = (dpo G A).n - 1 from by show p = G 90 38 - 1; omega)]; first | exact (if_pos (by omega)).symm | exact (if_neg (by omega)).symm) (by omega))
set_option maxHeartbeats 4000000 in
theorem c_177 {L : Nat} {xs : Nat → Int32} {ly : List LK} {F : Nat → Nat → Value} {G A : Nat → Nat → Int} {B : Nat → Nat → Int64} {Q : Option Value → AH → Prop} {p : Int} {r0 : Int} (hly : LyOk ly) (hF : RfOk F) (hG : GO G) (hA : AQ A) (in_p : inR p) (in_r0 : inR r0) (hp : 0 ≤ p ∧ p ≤ 13) (hr : 0 ≤ r0 ∧ r0 < 182) (K : ∀ (A' : Nat → Nat → Int), (AQ A') → (∀ a, ¬ (a = 128) → A' a = A a) → (gaQ A A' 128 ((p * 8 + A 123 r0.toNat) * 169) 0 169 (fun m => (dpo G A).cm p r0 m)) → Q none (HP ly F G A' B)) : Re L xs 177 0 [(0, .ref 90), (1, V p), (2, V r0)] [] (HP ly F G A B) Q := by
  have z123 := a_123 hA r0.toNat
  refine r_iconst i_177_0 ?_
  refine r_istore_n (l' := [(0, .ref 90), (1, V p), (2, V r0), (3, V 0)]) i_177_1 (by decide +kernel) rfl ?_
  have lp2B : ∀ (nf : Nat) (m : Int) (l4 : Int) (l5 : Int) (A2 : Nat → Nat → Int), (AQ A2) → (∀ a, ¬ (a = 128) → A2 a = A a) → (0 ≤ m ∧ m ≤ 169) → (gaQ A A2 128 ((p * 8 + A 123 r0.toNat) * 169) 0 m (fun m => (dpo G A).cm p r0 m)) → (169 - m).toNat < nf → Re L xs 177 2 [(0, .ref 90), (1, V p), (2, V r0), (3, V m), (4, V l4), (5, V l5)] [] (HP ly F G A2 B) Q := by
    intro nf
    induction nf with
    | zero => intros; omega
    | succ nf ih2B =>
      intro m l4 l5 A2 hA2 fa2 hm hq hm2
      refine r_iload_n i_177_2 rfl ?_
      refine r_sipush i_177_3 (by decide) ?_
      refine r_cge (t := 68) i_177_6 (by decide) (by omega) (by omega) (fun c_1 => ?_) (fun c_1 => ?_)
      · skip
        exact r_vret i_177_68 rfl (K A2 hA2 (by intro a hh; rw [fa2 a (by omega)]) (by rw [show m = 169 from by omega] at hq; exact hq))
      · skip
        refine r_aload_n i_177_9 rfl ?_
        refine r_iload_n i_177_10 rfl ?_
        refine r_iload_n i_177_11 rfl ?_
        refine r_iload_n i_177_12 rfl ?_
        refine r_cV (as := [V m, V r0, V p]) i_177_13 rfl (by decide +kernel) (Nat.le_of_ble_eq_true rfl) (Nat.le_of_ble_eq_true rfl) (hly 90 _ rfl) rfl ?_
        refine c_178 (p := p) (r0 := r0) (m := m) hly hF hG hA2 (by omega) (by omega) (by omega) (by omega) (by omega) (by omega) (fun r_2 p2_0 p2_1 => ?_)
        show Re L xs 177 16 [(0, .ref 90), (1, V p), (2, V r0), (3, V m), (4, V l4), (5, V l5)] [V r_2] (HP ly F G A2 B) _
        refine r_istore (l' := [(0, .ref 90), (1, V p), (2, V r0), (3, V m), (4, V r_2), (5, V l5)]) i_177_16 (by decide +kernel) rfl ?_
        refine r_iload_n i_177_18 rfl ?_
        refine r_aload_n i_177_19 rfl ?_
        refine r_getF (v := .ref 123) i_177_20 rfl (hly 90 _ rfl) (hF.1 90 48 123 rfl) ?_
        refine r_iload_n i_177_23 rfl ?_
        refine r_iald i_177_24 (hly 123 _ rfl) (by omega) (by omega) (by omega) ?_
        rw [show A2 123 = A 123 from by rw [fa2 123 (by omega)]]
        have q_3 := a_123 hA (r0.toNat)
        refine r_iload_n i_177_25 rfl ?_
        refine r_cS (as := [V m, V (A 123 (r0.toNat)), V p]) i_177_26 rfl (by decide +kernel) (Nat.le_of_ble_eq_true rfl) (Nat.le_of_ble_eq_true rfl) ?_
        refine c_180 (p := p) (kind := A 123 (r0.toNat)) (marks := m) hly hF hG hA2 (by omega) (by omega) (by omega) (fun r_4 p4_0 => ?_)
        show Re L xs 177 29 [(0, .ref 90), (1, V p), (2, V r0), (3, V m), (4, V r_2), (5, V l5)] [V r_4] (HP ly F G A2 B) _
        refine r_istore (l' := [(0, .ref 90), (1, V p), (2, V r0), (3, V m), (4, V r_2), (5, V r_4)]) i_177_29 (by decide +kernel) rfl ?_
        refine r_aload_n i_177_31 rfl ?_
        refine r_getF (v := .ref 128) i_177_32 rfl (hly 90 _ rfl) (hF.1 90 54 128 rfl) ?_
        refine r_iload i_177_35 rfl ?_
        have jn61 : ∀ (v2 : Int), (v2 = if r_2 < A2 128 r_4.toNat then r_2 else A2 128 r_4.toNat) → (0 ≤ v2 ∧ v2 ≤ 1000000) → Re L xs 177 61 [(0, .ref 90), (1, V p), (2, V r0), (3, V m), (4, V r_2), (5, V r_4)] [V v2, V r_4, .ref 128] (HP ly F G A2 B) Q := by
          intro v2  hv2 hv3
          refine r_iastQ i_177_61 (hly 128 _ rfl) (by omega) (by omega) (by omega) (fun A_5 eA_5 => ?_)
          have hA_5 : AQ A_5 := by rw [eA_5]; exact au_128 hA2 (by omega) (by omega)
          have x128_1 : A_5 128 = fun i => if i = r_4.toNat then v2 else A2 128 i := by rw [eA_5, up2_f]
          have x128 : A_5 128 = fun i => if i = r_4.toNat then v2 else A2 128 i := by rw [x128_1]
          refine r_iinc (l' := [(0, .ref 90), (1, V p), (2, V r0), (3, V (m + 1)), (4, V r_2), (5, V r_4)]) i_177_62 rfl (by decide +kernel) rfl ?_
          refine r_go (t := 2) i_177_65 (by decide) ?_
          exact ih2B (m + 1) r_2 r_4 A_5 hA_5 (by intro a hh; rw [eA_5, up2_a (by omega), fa2 a (by omega)]) (by omega) (by first | exact gaQ_0 _ (Int.le_refl _) | (rw [p4_0] at x128 hv2; have hcm : (dpo G A2).cm p r0 m = (dpo G A).cm p r0 m := cm_fr hA (fun a h => fa2 a (by omega)) (by omega) (by omega) (fun i hi => hq.2 i (by omega)); rw [p2_0, hcm] at hv2; exact gaQ_s hq (by omega) (by omega) x128 hv2)) (by omega)
        refine r_iload i_177_37 rfl ?_
        refine r_aload_n i_177_39 rfl ?_
        refine r_getF (v := .ref 128) i_177_40 rfl (hly 90 _ rfl) (hF.1 90 54 128 rfl) ?_
        refine r_iload i_177_43 rfl ?_
        refine r_iald i_177_45 (hly 128 _ rfl) (by omega) (by omega) (by omega) ?_
        have q_6 := a_128 hA2 (r_4.toNat)
        refine r_cge (t := 54) i_177_46 (by decide) (by omega) (by omega) (fun c_7 => ?_) (fun c_7 => ?_)
        · skip
          refine r_aload_n i_177_54 rfl ?_
          refine r_getF (v := .ref 128) i_177_55 rfl (hly 90 _ rfl) (hF.1 90 54 128 rfl) ?_
          refine r_iload i_177_58 rfl ?_
          refine r_iald i_177_60 (hly 128 _ rfl) (by omega) (by omega) (by omega) ?_
          exact jn61 (A2 128 (r_4.toNat))  (by first | rw [if_pos (by omega)] | rw [if_neg (by omega)]) (by omega)
        · skip
          refine r_iload i_177_49 rfl ?_
          refine r_go (t := 61) i_177_51 (by decide) ?_
          exact jn61 r_2  (by first | rw [if_pos (by omega)] | rw [if_neg (by omega)]) (by omega)
  have lp2A3 : ∀ (nf : Nat) (m : Int) (A2 : Nat → Nat → Int), (AQ A2) → (∀ a, ¬ (a = 128) → A2 a = A a) → (0 ≤ m ∧ m ≤ 169) → (gaQ A A2 128 ((p * 8 + A 123 r0.toNat) * 169) 0 m (fun m => (dpo G A).cm p r0 m)) → (169 - m).toNat < nf → Re L xs 177 2 [(0, .ref 90), (1, V p), (2, V r0), (3, V m)] [] (HP ly F G A2 B) Q := by
    intro nf
    induction nf with
    | zero => intros; omega
    | succ nf ih2A3 =>
      intro m A2 hA2 fa2 hm hq hm2
      refine r_iload_n i_177_2 rfl ?_
      refine r_sipush i_177_3 (by decide) ?_
      refine r_cge (t := 68) i_177_6 (by decide) (by omega) (by omega) (fun c_8 => ?_) (fun c_8 => ?_)
      · skip
        exact r_vret i_177_68 rfl (K A2 hA2 (by intro a hh; rw [fa2 a (by omega)]) (by rw [show m = 169 from by omega] at hq; exact hq))
      · skip
        refine r_aload_n i_177_9 rfl ?_
        refine r_iload_n i_177_10 rfl ?_
        refine r_iload_n i_177_11 rfl ?_
        refine r_iload_n i_177_12 rfl ?_
        refine r_cV (as := [V m, V r0, V p]) i_177_13 rfl (by decide +kernel) (Nat.le_of_ble_eq_true rfl) (Nat.le_of_ble_eq_true rfl) (hly 90 _ rfl) rfl ?_
        refine c_178 (p := p) (r0 := r0) (m := m) hly hF hG hA2 (by omega) (by omega) (by omega) (by omega) (by omega) (by omega) (fun r_9 p9_0 p9_1 => ?_)
        show Re L xs 177 16 [(0, .ref 90), (1, V p), (2, V r0), (3, V m)] [V r_9] (HP ly F G A2 B) _
        refine r_istore (l' := [(0, .ref 90), (1, V p), (2, V r0), (3, V m), (4, V r_9)]) i_177_16 (by decide +kernel) rfl ?_
        refine r_iload_n i_177_18 rfl ?_
        refine r_aload_n i_177_19 rfl ?_
        refine r_getF (v := .ref 123) i_177_20 rfl (hly 90 _ rfl) (hF.1 90 48 123 rfl) ?_
        refine r_iload_n i_177_23 rfl ?_
        refine r_iald i_177_24 (hly 123 _ rfl) (by omega) (by omega) (by omega) ?_
        rw [show A2 123 = A 123 from by rw [fa2 123 (by omega)]]
        have q_10 := a_123 hA (r0.toNat)
        refine r_iload_n i_177_25 rfl ?_
        refine r_cS (as := [V m, V (A 123 (r0.toNat)), V p]) i_177_26 rfl (by decide +kernel) (Nat.le_of_ble_eq_true rfl) (Nat.le_of_ble_eq_true rfl) ?_
        refine c_180 (p := p) (kind := A 123 (r0.toNat)) (marks := m) hly hF hG hA2 (by omega) (by omega) (by omega) (fun r_11 p11_0 => ?_)
        show Re L xs 177 29 [(0, .ref 90), (1, V p), (2, V r0), (3, V m), (4, V r_9)] [V r_11] (HP ly F G A2 B) _
        refine r_istore (l' := [(0, .ref 90), (1, V p), (2, V r0), (3, V m), (4, V r_9), (5, V r_11)]) i_177_29 (by decide +kernel) rfl ?_
        refine r_aload_n i_177_31 rfl ?_
        refine r_getF (v := .ref 128) i_177_32 rfl (hly 90 _ rfl) (hF.1 90 54 128 rfl) ?_
        refine r_iload i_177_35 rfl ?_
        have jn61 : ∀ (v2 : Int), (v2 = if r_9 < A2 128 r_11.toNat then r_9 else A2 128 r_11.toNat) → (0 ≤ v2 ∧ v2 ≤ 1000000) → Re L xs 177 61 [(0, .ref 90), (1, V p), (2, V r0), (3, V m), (4, V r_9), (5, V r_11)] [V v2, V r_11, .ref 128] (HP ly F G A2 B) Q := by
          intro v2  hv2 hv3
          refine r_iastQ i_177_61 (hly 128 _ rfl) (by omega) (by omega) (by omega) (fun A_12 eA_12 => ?_)
          have hA_12 : AQ A_12 := by rw [eA_12]; exact au_128 hA2 (by omega) (by omega)
          have x128_1 : A_12 128 = fun i => if i = r_11.toNat then v2 else A2 128 i := by rw [eA_12, up2_f]
          have x128 : A_12 128 = fun i => if i = r_11.toNat then v2 else A2 128 i := by rw [x128_1]
          refine r_iinc (l' := [(0, .ref 90), (1, V p), (2, V r0), (3, V (m + 1)), (4, V r_9), (5, V r_11)]) i_177_62 rfl (by decide +kernel) rfl ?_
          refine r_go (t := 2) i_177_65 (by decide) ?_
          exact lp2B _ (m + 1) r_9 r_11 A_12 hA_12 (by intro a hh; rw [eA_12, up2_a (by omega), fa2 a (by omega)]) (by omega) (by first | exact gaQ_0 _ (Int.le_refl _) | (rw [p11_0] at x128 hv2; have hcm : (dpo G A2).cm p r0 m = (dpo G A).cm p r0 m := cm_fr hA (fun a h => fa2 a (by omega)) (by omega) (by omega) (fun i hi => hq.2 i (by omega)); rw [p9_0, hcm] at hv2; exact gaQ_s hq (by omega) (by omega) x128 hv2)) (Nat.lt_succ_self _)
        refine r_iload i_177_37 rfl ?_
        refine r_aload_n i_177_39 rfl ?_
        refine r_getF (v := .ref 128) i_177_40 rfl (hly 90 _ rfl) (hF.1 90 54 128 rfl) ?_
        refine r_iload i_177_43 rfl ?_
        refine r_iald i_177_45 (hly 128 _ rfl) (by omega) (by omega) (by omega) ?_
        have q_13 := a_128 hA2 (r_11.toNat)
        refine r_cge (t := 54) i_177_46 (by decide) (by omega) (by omega) (fun c_14 => ?_) (fun c_14 => ?_)
        · skip
          refine r_aload_n i_177_54 rfl ?_
          refine r_getF (v := .ref 128) i_177_55 rfl (hly 90 _ rfl) (hF.1 90 54 128 rfl) ?_
          refine r_iload i_177_58 rfl ?_
          refine r_iald i_177_60 (hly 128 _ rfl) (by omega) (by omega) (by omega) ?_
          exact jn61 (A2 128 (r_11.toNat))  (by first | rw [if_pos (by omega)] | rw [if_neg (by omega)]) (by omega)
        · skip
          refine r_iload i_177_49 rfl ?_
          refine r_go (t := 61) i_177_51 (by decide) ?_
          exact jn61 r_9  (by first | rw [if_pos (by omega)] | rw [if_neg (by omega)]) (by omega)
  exact lp2A3 _ 0 A hA (by intro a hh; rfl) (by omega) (by first | exact gaQ_0 _ (Int.le_refl _) | (rw [zzp0] at x128 hv2; have hcm : (dpo G A2).cm p r0 m = (dpo G A).cm p r0 m := cm_fr hA (fun a h => fa2 a (by omega)) (by omega) (by omega) (fun i hi => hq.2 i (by omega)); rw [zzp0, hcm] at hv2; exact gaQ_s hq (by omega) (by omega) x128 hv2)) (Nat.lt_succ_self _)
set_option maxHeartbeats 4000000 in
theorem c_182 {L : Nat} {xs : Nat → Int32} {ly : List LK} {F : Nat → Nat → Value} {G A : Nat → Nat → Int} {B : Nat → Nat → Int64} {Q : Option Value → AH → Prop} {p : Int} {r0 : Int} (hly : LyOk ly) (hF : RfOk F) (hG : GO G) (hA : AQ A) (in_p : inR p) (in_r0 : inR r0) (hp : 0 ≤ p ∧ p < G 90 38) (hr : 0 ≤ r0 ∧ r0 < 182) (K : ∀ (A' : Nat → Nat → Int), (AQ A') → (∀ a, ¬ (a = 129) → A' a = A a) → (gaQ A A' 129 ((p * 8 + A 123 r0.toNat) * 169) ((dpo G A).M r0) 169 (fun m => (dpo G A).go p (A 123 r0.toNat) (m - (dpo G A).M r0) + A 124 r0.toNat)) → Q none (HP ly F G A' B)) : Re L xs 182 0 [(0, .ref 90), (1, V p), (2, V r0)] [] (HP ly F G A B) Q := by
  have z123 := a_123 hA r0.toNat
  have z38 := g_90_38 hG
  refine r_aload_n i_182_0 rfl ?_
  refine r_iload_n i_182_1 rfl ?_
  refine r_cV (as := [V r0]) i_182_2 rfl (by decide +kernel) (Nat.le_of_ble_eq_true rfl) (Nat.le_of_ble_eq_true rfl) (hly 90 _ rfl) rfl ?_
  refine c_179 (r0 := r0) hly hF hG hA (by omega) (by omega) (fun r_1 p1_0 p1_1 => ?_)
  show Re L xs 182 5 [(0, .ref 90), (1, V p), (2, V r0)] [V r_1] (HP ly F G A B) _
  refine r_istore_n (l' := [(0, .ref 90), (1, V p), (2, V r0), (3, V r_1)]) i_182_5 (by decide +kernel) rfl ?_
  refine r_iload_n i_182_6 rfl ?_
  refine r_istore (l' := [(0, .ref 90), (1, V p), (2, V r0), (3, V r_1), (4, V r_1)]) i_182_7 (by decide +kernel) rfl ?_
  have lp9B : ∀ (nf : Nat) (m : Int) (l5 : Int) (l6 : Int) (A9 : Nat → Nat → Int), (AQ A9) → (∀ a, ¬ (a = 129) → A9 a = A a) → (r_1 ≤ m ∧ m ≤ 169) → (gaQ A A9 129 ((p * 8 + A 123 r0.toNat) * 169) ((dpo G A).M r0) m (fun m => (dpo G A).go p (A 123 r0.toNat) (m - (dpo G A).M r0) + A 124 r0.toNat)) → (169 - m).toNat < nf → Re L xs 182 9 [(0, .ref 90), (1, V p), (2, V r0), (3, V r_1), (4, V m), (5, V l5), (6, V l6)] [] (HP ly F G A9 B) Q := by
    intro nf
    induction nf with
    | zero => intros; omega
    | succ nf ih9B =>
      intro m l5 l6 A9 hA9 fa9 hm hq hm9
      refine r_iload i_182_9 rfl ?_
      refine r_sipush i_182_11 (by decide) ?_
      refine r_cge (t := 87) i_182_14 (by decide) (by omega) (by omega) (fun c_2 => ?_) (fun c_2 => ?_)
      · skip
        exact r_vret i_182_87 rfl (K A9 hA9 (by intro a hh; rw [fa9 a (by omega)]) (by rw [show m = 169 from by omega] at hq; exact hq))
      · skip
        refine r_aload_n i_182_17 rfl ?_
        refine r_iload_n i_182_18 rfl ?_
        refine r_iload_n i_182_19 rfl ?_
        refine r_iload i_182_20 rfl ?_
        refine r_iload_n i_182_22 rfl ?_
        refine r_isub i_182_23 ?_
        refine r_cV (as := [V (m - r_1), V r0, V p]) i_182_24 rfl (by decide +kernel) (Nat.le_of_ble_eq_true rfl) (Nat.le_of_ble_eq_true rfl) (hly 90 _ rfl) rfl ?_
        have q_3 := g_90_38 hG
        refine c_183 (p := p) (r0 := r0) (m := m - r_1) hly hF hG hA9 (by omega) (by omega) (by omega) (by omega) (by omega) (by omega) (fun r_4 p4_0 p4_1 => ?_)
        show Re L xs 182 27 [(0, .ref 90), (1, V p), (2, V r0), (3, V r_1), (4, V m), (5, V l5), (6, V l6)] [V r_4] (HP ly F G A9 B) _
        refine r_aload_n i_182_27 rfl ?_
        refine r_getF (v := .ref 124) i_182_28 rfl (hly 90 _ rfl) (hF.1 90 49 124 rfl) ?_
        refine r_iload_n i_182_31 rfl ?_
        refine r_iald i_182_32 (hly 124 _ rfl) (by omega) (by omega) (by omega) ?_
        rw [show A9 124 = A 124 from by rw [fa9 124 (by omega)]]
        have q_5 := a_124 hA (r0.toNat)
        refine r_iadd i_182_33 ?_
        refine r_istore (l' := [(0, .ref 90), (1, V p), (2, V r0), (3, V r_1), (4, V m), (5, V (r_4 + (A 124 (r0.toNat)))), (6, V l6)]) i_182_34 (by decide +kernel) rfl ?_
        refine r_iload_n i_182_36 rfl ?_
        refine r_aload_n i_182_37 rfl ?_
        refine r_getF (v := .ref 123) i_182_38 rfl (hly 90 _ rfl) (hF.1 90 48 123 rfl) ?_
        refine r_iload_n i_182_41 rfl ?_
        refine r_iald i_182_42 (hly 123 _ rfl) (by omega) (by omega) (by omega) ?_
        rw [show A9 123 = A 123 from by rw [fa9 123 (by omega)]]
        have q_6 := a_123 hA (r0.toNat)
        refine r_iload i_182_43 rfl ?_
        refine r_cS (as := [V m, V (A 123 (r0.toNat)), V p]) i_182_45 rfl (by decide +kernel) (Nat.le_of_ble_eq_true rfl) (Nat.le_of_ble_eq_true rfl) ?_
        refine c_180 (p := p) (kind := A 123 (r0.toNat)) (marks := m) hly hF hG hA9 (by omega) (by omega) (by omega) (fun r_7 p7_0 => ?_)
        show Re L xs 182 48 [(0, .ref 90), (1, V p), (2, V r0), (3, V r_1), (4, V m), (5, V (r_4 + (A 124 (r0.toNat)))), (6, V l6)] [V r_7] (HP ly F G A9 B) _
        refine r_istore (l' := [(0, .ref 90), (1, V p), (2, V r0), (3, V r_1), (4, V m), (5, V (r_4 + (A 124 (r0.toNat)))), (6, V r_7)]) i_182_48 (by decide +kernel) rfl ?_
        refine r_aload_n i_182_50 rfl ?_
        refine r_getF (v := .ref 129) i_182_51 rfl (hly 90 _ rfl) (hF.1 90 55 129 rfl) ?_
        refine r_iload i_182_54 rfl ?_
        have jn80 : ∀ (v2 : Int), (v2 = if (r_4 + (A 124 (r0.toNat))) < A9 129 r_7.toNat then (r_4 + (A 124 (r0.toNat))) else A9 129 r_7.toNat) → (0 ≤ v2 ∧ v2 ≤ 1000000) → Re L xs 182 80 [(0, .ref 90), (1, V p), (2, V r0), (3, V r_1), (4, V m), (5, V (r_4 + (A 124 (r0.toNat)))), (6, V r_7)] [V v2, V r_7, .ref 129] (HP ly F G A9 B) Q := by
          intro v2  hv2 hv3
          refine r_iastQ i_182_80 (hly 129 _ rfl) (by omega) (by omega) (by omega) (fun A_8 eA_8 => ?_)
          have hA_8 : AQ A_8 := by rw [eA_8]; exact au_129 hA9 (by omega) (by omega)
          have x129_1 : A_8 129 = fun i => if i = r_7.toNat then v2 else A9 129 i := by rw [eA_8, up2_f]
          have x129 : A_8 129 = fun i => if i = r_7.toNat then v2 else A9 129 i := by rw [x129_1]
          refine r_iinc (l' := [(0, .ref 90), (1, V p), (2, V r0), (3, V r_1), (4, V (m + 1)), (5, V (r_4 + (A 124 (r0.toNat)))), (6, V r_7)]) i_182_81 rfl (by decide +kernel) rfl ?_
          refine r_go (t := 9) i_182_84 (by decide) ?_
          exact ih9B (m + 1) (r_4 + (A 124 (r0.toNat))) r_7 A_8 hA_8 (by intro a hh; rw [eA_8, up2_a (by omega), fa9 a (by omega)]) (by omega) (by first | exact gaQ_0 _ (by rw [← p1_0]; exact Int.le_refl _) | (rw [p7_0] at x129 hv2; have hcm : (dpo G A9).go p (A 123 r0.toNat) (m - r_1) = (dpo G A).go p (A 123 r0.toNat) (m - r_1) := go_fr (fun a h => fa9 a (by omega)) (by omega) (by omega) (by omega) (fun i hi => hq.2 i (by omega)); rw [p4_0, fa9 123 (by decide), hcm, p1_0] at hv2; exact gaQ_s hq (by rw [← p1_0]; omega) (by rw [← p1_0]; omega) x129 hv2)) (by omega)
        refine r_iload i_182_56 rfl ?_
        refine r_aload_n i_182_58 rfl ?_
        refine r_getF (v := .ref 129) i_182_59 rfl (hly 90 _ rfl) (hF.1 90 55 129 rfl) ?_
        refine r_iload i_182_62 rfl ?_
        refine r_iald i_182_64 (hly 129 _ rfl) (by omega) (by omega) (by omega) ?_
        have q_9 := a_129 hA9 (r_7.toNat)
        refine r_cge (t := 73) i_182_65 (by decide) (by omega) (by omega) (fun c_10 => ?_) (fun c_10 => ?_)
        · skip
          refine r_aload_n i_182_73 rfl ?_
          refine r_getF (v := .ref 129) i_182_74 rfl (hly 90 _ rfl) (hF.1 90 55 129 rfl) ?_
          refine r_iload i_182_77 rfl ?_
          refine r_iald i_182_79 (hly 129 _ rfl) (by omega) (by omega) (by omega) ?_
          exact jn80 (A9 129 (r_7.toNat))  (by first | rw [if_pos (by omega)] | rw [if_neg (by omega)]) (by omega)
        · skip
          refine r_iload i_182_68 rfl ?_
          refine r_go (t := 80) i_182_70 (by decide) ?_
          exact jn80 (r_4 + (A 124 (r0.toNat)))  (by first | rw [if_pos (by omega)] | rw [if_neg (by omega)]) (by omega)
  have lp9A4 : ∀ (nf : Nat) (m : Int) (A9 : Nat → Nat → Int), (AQ A9) → (∀ a, ¬ (a = 129) → A9 a = A a) → (r_1 ≤ m ∧ m ≤ 169) → (gaQ A A9 129 ((p * 8 + A 123 r0.toNat) * 169) ((dpo G A).M r0) m (fun m => (dpo G A).go p (A 123 r0.toNat) (m - (dpo G A).M r0) + A 124 r0.toNat)) → (169 - m).toNat < nf → Re L xs 182 9 [(0, .ref 90), (1, V p), (2, V r0), (3, V r_1), (4, V m)] [] (HP ly F G A9 B) Q := by
    intro nf
    induction nf with
    | zero => intros; omega
    | succ nf ih9A4 =>
      intro m A9 hA9 fa9 hm hq hm9
      refine r_iload i_182_9 rfl ?_
      refine r_sipush i_182_11 (by decide) ?_
      refine r_cge (t := 87) i_182_14 (by decide) (by omega) (by omega) (fun c_11 => ?_) (fun c_11 => ?_)
      · skip
        exact r_vret i_182_87 rfl (K A9 hA9 (by intro a hh; rw [fa9 a (by omega)]) (by rw [show m = 169 from by omega] at hq; exact hq))
      · skip
        refine r_aload_n i_182_17 rfl ?_
        refine r_iload_n i_182_18 rfl ?_
        refine r_iload_n i_182_19 rfl ?_
        refine r_iload i_182_20 rfl ?_
        refine r_iload_n i_182_22 rfl ?_
        refine r_isub i_182_23 ?_
        refine r_cV (as := [V (m - r_1), V r0, V p]) i_182_24 rfl (by decide +kernel) (Nat.le_of_ble_eq_true rfl) (Nat.le_of_ble_eq_true rfl) (hly 90 _ rfl) rfl ?_
        have q_12 := g_90_38 hG
        refine c_183 (p := p) (r0 := r0) (m := m - r_1) hly hF hG hA9 (by omega) (by omega) (by omega) (by omega) (by omega) (by omega) (fun r_13 p13_0 p13_1 => ?_)
        show Re L xs 182 27 [(0, .ref 90), (1, V p), (2, V r0), (3, V r_1), (4, V m)] [V r_13] (HP ly F G A9 B) _
        refine r_aload_n i_182_27 rfl ?_
        refine r_getF (v := .ref 124) i_182_28 rfl (hly 90 _ rfl) (hF.1 90 49 124 rfl) ?_
        refine r_iload_n i_182_31 rfl ?_
        refine r_iald i_182_32 (hly 124 _ rfl) (by omega) (by omega) (by omega) ?_
        rw [show A9 124 = A 124 from by rw [fa9 124 (by omega)]]
        have q_14 := a_124 hA (r0.toNat)
        refine r_iadd i_182_33 ?_
        refine r_istore (l' := [(0, .ref 90), (1, V p), (2, V r0), (3, V r_1), (4, V m), (5, V (r_13 + (A 124 (r0.toNat))))]) i_182_34 (by decide +kernel) rfl ?_
        refine r_iload_n i_182_36 rfl ?_
        refine r_aload_n i_182_37 rfl ?_
        refine r_getF (v := .ref 123) i_182_38 rfl (hly 90 _ rfl) (hF.1 90 48 123 rfl) ?_
        refine r_iload_n i_182_41 rfl ?_
        refine r_iald i_182_42 (hly 123 _ rfl) (by omega) (by omega) (by omega) ?_
        rw [show A9 123 = A 123 from by rw [fa9 123 (by omega)]]
        have q_15 := a_123 hA (r0.toNat)
        refine r_iload i_182_43 rfl ?_
        refine r_cS (as := [V m, V (A 123 (r0.toNat)), V p]) i_182_45 rfl (by decide +kernel) (Nat.le_of_ble_eq_true rfl) (Nat.le_of_ble_eq_true rfl) ?_
        refine c_180 (p := p) (kind := A 123 (r0.toNat)) (marks := m) hly hF hG hA9 (by omega) (by omega) (by omega) (fun r_16 p16_0 => ?_)
        show Re L xs 182 48 [(0, .ref 90), (1, V p), (2, V r0), (3, V r_1), (4, V m), (5, V (r_13 + (A 124 (r0.toNat))))] [V r_16] (HP ly F G A9 B) _
        refine r_istore (l' := [(0, .ref 90), (1, V p), (2, V r0), (3, V r_1), (4, V m), (5, V (r_13 + (A 124 (r0.toNat)))), (6, V r_16)]) i_182_48 (by decide +kernel) rfl ?_
        refine r_aload_n i_182_50 rfl ?_
        refine r_getF (v := .ref 129) i_182_51 rfl (hly 90 _ rfl) (hF.1 90 55 129 rfl) ?_
        refine r_iload i_182_54 rfl ?_
        have jn80 : ∀ (v2 : Int), (v2 = if (r_13 + (A 124 (r0.toNat))) < A9 129 r_16.toNat then (r_13 + (A 124 (r0.toNat))) else A9 129 r_16.toNat) → (0 ≤ v2 ∧ v2 ≤ 1000000) → Re L xs 182 80 [(0, .ref 90), (1, V p), (2, V r0), (3, V r_1), (4, V m), (5, V (r_13 + (A 124 (r0.toNat)))), (6, V r_16)] [V v2, V r_16, .ref 129] (HP ly F G A9 B) Q := by
          intro v2  hv2 hv3
          refine r_iastQ i_182_80 (hly 129 _ rfl) (by omega) (by omega) (by omega) (fun A_17 eA_17 => ?_)
          have hA_17 : AQ A_17 := by rw [eA_17]; exact au_129 hA9 (by omega) (by omega)
          have x129_1 : A_17 129 = fun i => if i = r_16.toNat then v2 else A9 129 i := by rw [eA_17, up2_f]
          have x129 : A_17 129 = fun i => if i = r_16.toNat then v2 else A9 129 i := by rw [x129_1]
          refine r_iinc (l' := [(0, .ref 90), (1, V p), (2, V r0), (3, V r_1), (4, V (m + 1)), (5, V (r_13 + (A 124 (r0.toNat)))), (6, V r_16)]) i_182_81 rfl (by decide +kernel) rfl ?_
          refine r_go (t := 9) i_182_84 (by decide) ?_
          exact lp9B _ (m + 1) (r_13 + (A 124 (r0.toNat))) r_16 A_17 hA_17 (by intro a hh; rw [eA_17, up2_a (by omega), fa9 a (by omega)]) (by omega) (by first | exact gaQ_0 _ (by rw [← p1_0]; exact Int.le_refl _) | (rw [p16_0] at x129 hv2; have hcm : (dpo G A9).go p (A 123 r0.toNat) (m - r_1) = (dpo G A).go p (A 123 r0.toNat) (m - r_1) := go_fr (fun a h => fa9 a (by omega)) (by omega) (by omega) (by omega) (fun i hi => hq.2 i (by omega)); rw [p13_0, fa9 123 (by decide), hcm, p1_0] at hv2; exact gaQ_s hq (by rw [← p1_0]; omega) (by rw [← p1_0]; omega) x129 hv2)) (Nat.lt_succ_self _)
        refine r_iload i_182_56 rfl ?_
        refine r_aload_n i_182_58 rfl ?_
        refine r_getF (v := .ref 129) i_182_59 rfl (hly 90 _ rfl) (hF.1 90 55 129 rfl) ?_
        refine r_iload i_182_62 rfl ?_
        refine r_iald i_182_64 (hly 129 _ rfl) (by omega) (by omega) (by omega) ?_
        have q_18 := a_129 hA9 (r_16.toNat)
        refine r_cge (t := 73) i_182_65 (by decide) (by omega) (by omega) (fun c_19 => ?_) (fun c_19 => ?_)
        · skip
          refine r_aload_n i_182_73 rfl ?_
          refine r_getF (v := .ref 129) i_182_74 rfl (hly 90 _ rfl) (hF.1 90 55 129 rfl) ?_
          refine r_iload i_182_77 rfl ?_
          refine r_iald i_182_79 (hly 129 _ rfl) (by omega) (by omega) (by omega) ?_
          exact jn80 (A9 129 (r_16.toNat))  (by first | rw [if_pos (by omega)] | rw [if_neg (by omega)]) (by omega)
        · skip
          refine r_iload i_182_68 rfl ?_
          refine r_go (t := 80) i_182_70 (by decide) ?_
          exact jn80 (r_13 + (A 124 (r0.toNat)))  (by first | rw [if_pos (by omega)] | rw [if_neg (by omega)]) (by omega)
  exact lp9A4 _ r_1 A hA (by intro a hh; rfl) (by omega) (by first | exact gaQ_0 _ (by rw [← p1_0]; exact Int.le_refl _) | (rw [zzp0] at x129 hv2; have hcm : (dpo G A9).go p (A 123 r0.toNat) (m - r_1) = (dpo G A).go p (A 123 r0.toNat) (m - r_1) := go_fr (fun a h => fa9 a (by omega)) (by omega) (by omega) (by omega) (fun i hi => hq.2 i (by omega)); rw [zzp0, fa9 123 (by decide), hcm, p1_0] at hv2; exact gaQ_s hq (by rw [← p1_0]; omega) (by rw [← p1_0]; omega) x129 hv2)) (Nat.lt_succ_self _)
