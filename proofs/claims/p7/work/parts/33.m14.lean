set_option maxHeartbeats 4000000 in
theorem c_159 {L : Nat} {xs : Nat → Int32} {ly : List LK} {F : Nat → Nat → Value} {G A : Nat → Nat → Int} {B : Nat → Nat → Int64} {Q : Option Value → AH → Prop} {p : Int} (hly : LyOk ly) (hF : RfOk F) (hG : GO G) (hA : AQ A) (in_p : inR p) (hm : MI G A) (K : ∀ (r : Int) (G' : Nat → Nat → Int) (A' : Nat → Nat → Int), (GO G') → (AQ A') → (∀ a k, ¬ ((a = 90 ∧ k = 53) ∨ (a = 90 ∧ k = 56) ∨ (a = 90 ∧ k = 57) ∨ (a = 90 ∧ k = 58)) → G' a k = G a k) → (∀ a, ¬ (a = 121 ∨ a = 122 ∨ a = 123 ∨ a = 124 ∨ a = 125 ∨ a = 126 ∨ a = 128 ∨ a = 129) → A' a = A a) → (MI G' A') → Q (some (V r)) (HP ly F G' A' B)) : Re L xs 159 0 [(0, .ref 90), (1, V p)] [] (HP ly F G A B) Q := by
  have z38 := g_90_38 hG
  refine r_aload_n i_159_0 rfl ?_
  refine r_iload_n i_159_1 rfl ?_
  refine r_cV (as := [V p]) i_159_2 rfl (by decide +kernel) (Nat.le_of_ble_eq_true rfl) (Nat.le_of_ble_eq_true rfl) (hly 90 _ rfl) rfl ?_
  have q_1 := g_90_38 hG
  refine c_160 (p := p) hly hF hG hA (by omega) (fun r_2 p2_0 p2_1 => ?_)
  show Re L xs 159 5 [(0, .ref 90), (1, V p)] [V r_2] (HP ly F G A B) _
  refine r_ne0 (t := 10) i_159_5 (by decide) (by omega) (fun c_3 => ?_) (fun c_3 => ?_)
  · skip
    refine r_aload_n i_159_10 rfl ?_
    refine r_cV (as := []) i_159_11 rfl (by decide +kernel) (Nat.le_of_ble_eq_true rfl) (Nat.le_of_ble_eq_true rfl) (hly 90 _ rfl) rfl ?_
    refine c_161  hly hF hG hA (by omega) (fun G_4 A_5 hG_4 hA_5 fg5 fa5 p5_0 p5_1 => ?_)
    show Re L xs 159 14 [(0, .ref 90), (1, V p)] [] (HP ly F G_4 A_5 B) _
    refine r_aload_n i_159_14 rfl ?_
    refine r_getF (v := .ref 122) i_159_15 rfl (hly 90 _ rfl) (hF.1 90 47 122 rfl) ?_
    refine r_iload_n i_159_18 rfl ?_
    refine r_iald i_159_19 (hly 122 _ rfl) (by omega) (by omega) (by omega) ?_
    have q_6 := a_122 hA_5 (p.toNat)
    exact r_iret i_159_20 rfl rfl (K (A_5 122 (p.toNat)) G_4 A_5 hG_4 hA_5 (by intro a k hh; rw [fg5 a k (by omega)]) (by intro a hh; rw [fa5 a (by omega)]) (by exact p5_0))
  · skip
    refine r_iconst i_159_8 ?_
    exact r_iret i_159_9 rfl rfl (K ((-1)) G A hG hA (by intro a k hh; rfl) (by intro a hh; rfl) (by exact hm))
set_option maxHeartbeats 4000000 in
theorem c_185 {L : Nat} {xs : Nat → Int32} {ly : List LK} {F : Nat → Nat → Value} {G A : Nat → Nat → Int} {B : Nat → Nat → Int64} {Q : Option Value → AH → Prop} {p : Int} {r0 : Int} (hly : LyOk ly) (hF : RfOk F) (hG : GO G) (hA : AQ A) (in_p : inR p) (in_r0 : inR r0) (hm : MI G A) (K : ∀ (r : Int) (G' : Nat → Nat → Int) (A' : Nat → Nat → Int), (GO G') → (AQ A') → (∀ a k, ¬ ((a = 90 ∧ k = 53) ∨ (a = 90 ∧ k = 56) ∨ (a = 90 ∧ k = 57) ∨ (a = 90 ∧ k = 58)) → G' a k = G a k) → (∀ a, ¬ (a = 121 ∨ a = 122 ∨ a = 123 ∨ a = 124 ∨ a = 125 ∨ a = 126 ∨ a = 128 ∨ a = 129) → A' a = A a) → (MI G' A') → (0 ≤ r ∧ r ≤ 1) → (r = 1 → 0 ≤ p ∧ p < G 90 38 ∧ 0 ≤ r0 ∧ r0 < A' 122 p.toNat) → (r = 1 → KN G' A') → Q (some (V r)) (HP ly F G' A' B)) : Re L xs 185 0 [(0, .ref 90), (1, V p), (2, V r0)] [] (HP ly F G A B) Q := by
  have z38 := g_90_38 hG
  refine r_aload_n i_185_0 rfl ?_
  refine r_iload_n i_185_1 rfl ?_
  refine r_cV (as := [V p]) i_185_2 rfl (by decide +kernel) (Nat.le_of_ble_eq_true rfl) (Nat.le_of_ble_eq_true rfl) (hly 90 _ rfl) rfl ?_
  have q_1 := g_90_38 hG
  refine c_160 (p := p) hly hF hG hA (by omega) (fun r_2 p2_0 p2_1 => ?_)
  show Re L xs 185 5 [(0, .ref 90), (1, V p), (2, V r0)] [V r_2] (HP ly F G A B) _
  refine r_ne0 (t := 10) i_185_5 (by decide) (by omega) (fun c_3 => ?_) (fun c_3 => ?_)
  · skip
    refine r_aload_n i_185_10 rfl ?_
    refine r_cV (as := []) i_185_11 rfl (by decide +kernel) (Nat.le_of_ble_eq_true rfl) (Nat.le_of_ble_eq_true rfl) (hly 90 _ rfl) rfl ?_
    refine c_161  hly hF hG hA (by omega) (fun G_4 A_5 hG_4 hA_5 fg5 fa5 p5_0 p5_1 => ?_)
    show Re L xs 185 14 [(0, .ref 90), (1, V p), (2, V r0)] [] (HP ly F G_4 A_5 B) _
    have jn33 : ∀ (b : Int), (0 ≤ b ∧ b ≤ 1) → (b = 1 → 0 ≤ r0 ∧ r0 < A_5 122 p.toNat) → Re L xs 185 33 [(0, .ref 90), (1, V p), (2, V r0)] [V b] (HP ly F G_4 A_5 B) Q := by
      intro b  hb hb1
      exact r_iret i_185_33 rfl (nar_Z (by omega)) (K b G_4 A_5 hG_4 hA_5 (by intro a k hh; rw [fg5 a k (by omega)]) (by intro a hh; rw [fa5 a (by omega)]) (by exact p5_0) (by omega) (by intro h; exact ⟨by omega, by omega, (hb1 h).1, (hb1 h).2⟩) (by intro _; exact p5_1))
    refine r_iload_n i_185_14 rfl ?_
    refine r_lt0 (t := 32) i_185_15 (by decide) (by omega) (fun c_6 => ?_) (fun c_6 => ?_)
    · skip
      refine r_iconst i_185_32 ?_
      exact jn33 0  (by omega) (by omega)
    · skip
      refine r_iload_n i_185_18 rfl ?_
      refine r_aload_n i_185_19 rfl ?_
      refine r_getF (v := .ref 122) i_185_20 rfl (hly 90 _ rfl) (hF.1 90 47 122 rfl) ?_
      refine r_iload_n i_185_23 rfl ?_
      refine r_iald i_185_24 (hly 122 _ rfl) (by omega) (by omega) (by omega) ?_
      have q_7 := a_122 hA_5 (p.toNat)
      refine r_cge (t := 32) i_185_25 (by decide) (by omega) (by omega) (fun c_8 => ?_) (fun c_8 => ?_)
      · skip
        refine r_iconst i_185_32 ?_
        exact jn33 0  (by omega) (by omega)
      · skip
        refine r_iconst i_185_28 ?_
        refine r_go (t := 33) i_185_29 (by decide) ?_
        exact jn33 1  (by omega) (by omega)
  · skip
    refine r_iconst i_185_8 ?_
    exact r_iret i_185_9 rfl (nar_Z (by omega)) (K 0 G A hG hA (by intro a k hh; rfl) (by intro a hh; rfl) (by exact hm) (by omega) (by intro h; exfalso; omega) (by intro h; exfalso; omega))
set_option maxHeartbeats 4000000 in
theorem c_186 {L : Nat} {xs : Nat → Int32} {ly : List LK} {F : Nat → Nat → Value} {G A : Nat → Nat → Int} {B : Nat → Nat → Int64} {Q : Option Value → AH → Prop} {r0 : Int} {n : Int} (hly : LyOk ly) (hF : RfOk F) (hG : GO G) (hA : AQ A) (in_r0 : inR r0) (in_n : inR n) (hr : 0 ≤ r0 ∧ r0 < 182) (hn : 0 ≤ n ∧ n ≤ 12) (K : ∀ (r : Int), (0 ≤ r ∧ r ≤ 24) → Q (some (V r)) (HP ly F G A B)) : Re L xs 186 0 [(0, .ref 90), (1, V r0), (2, V n)] [] (HP ly F G A B) Q := by
  refine r_iconst i_186_0 ?_
  refine r_istore_n (l' := [(0, .ref 90), (1, V r0), (2, V n), (3, V 0)]) i_186_1 (by decide +kernel) rfl ?_
  refine r_iconst i_186_2 ?_
  refine r_istore (l' := [(0, .ref 90), (1, V r0), (2, V n), (3, V 0), (4, V 0)]) i_186_3 (by decide +kernel) rfl ?_
  have lp5B : ∀ (nf : Nat) (v : Int) (k : Int), (0 ≤ k ∧ k ≤ n) → (0 ≤ v ∧ v ≤ k) → (n - k).toNat < nf → Re L xs 186 5 [(0, .ref 90), (1, V r0), (2, V n), (3, V v), (4, V k)] [] (HP ly F G A B) Q := by
    intro nf
    induction nf with
    | zero => intros; omega
    | succ nf ih5B =>
      intro v k  hk hv hm5
      refine r_iload i_186_5 rfl ?_
      refine r_iload_n i_186_7 rfl ?_
      refine r_cge (t := 46) i_186_8 (by decide) (by omega) (by omega) (fun c_1 => ?_) (fun c_1 => ?_)
      · skip
        refine r_iload_n i_186_46 rfl ?_
        refine r_aload_n i_186_47 rfl ?_
        refine r_getF (v := .ref 126) i_186_48 rfl (hly 90 _ rfl) (hF.1 90 51 126 rfl) ?_
        refine r_iload_n i_186_51 rfl ?_
        refine r_iald i_186_52 (hly 126 _ rfl) (by omega) (by omega) (by omega) ?_
        have q_2 := a_126 hA (r0.toNat)
        refine r_iadd i_186_53 ?_
        exact r_iret i_186_54 rfl rfl (K (v + (A 126 (r0.toNat))) (by omega))
      · skip
        refine r_iload_n i_186_11 rfl ?_
        have jn38 : ∀ (b : Int), (0 ≤ b ∧ b ≤ 1) → Re L xs 186 38 [(0, .ref 90), (1, V r0), (2, V n), (3, V v), (4, V k)] [V b, V v] (HP ly F G A B) Q := by
          intro b  hb
          refine r_iadd i_186_38 ?_
          refine r_istore_n (l' := [(0, .ref 90), (1, V r0), (2, V n), (3, V (v + b)), (4, V k)]) i_186_39 (by decide +kernel) rfl ?_
          refine r_iinc (l' := [(0, .ref 90), (1, V r0), (2, V n), (3, V (v + b)), (4, V (k + 1))]) i_186_40 rfl (by decide +kernel) rfl ?_
          refine r_go (t := 5) i_186_43 (by decide) ?_
          exact ih5B (v + b) (k + 1)  (by omega) (by omega) (by omega)
        refine r_aload_n i_186_12 rfl ?_
        refine r_getF (v := .ref 121) i_186_13 rfl (hly 90 _ rfl) (hF.1 90 46 121 rfl) ?_
        refine r_bipush i_186_16 (by decide) ?_
        refine r_iload_n i_186_18 rfl ?_
        refine r_imul i_186_19 ?_
        refine r_iload i_186_20 rfl ?_
        refine r_iadd i_186_22 ?_
        refine r_bald i_186_23 (hly 121 _ rfl) (by omega) (by omega) (by omega) ?_
        have q_3 := a_121 hA (((12 * r0) + k).toNat)
        refine r_cS (as := [V (A 121 (((12 * r0) + k).toNat))]) i_186_24 rfl (by decide +kernel) (Nat.le_of_ble_eq_true rfl) (Nat.le_of_ble_eq_true rfl) ?_
        refine c_150 (c := A 121 (((12 * r0) + k).toNat)) hly hF hG hA (by omega) (by omega) (fun r_4 p4_0 => ?_)
        show Re L xs 186 27 [(0, .ref 90), (1, V r0), (2, V n), (3, V v), (4, V k)] [V r_4, V v] (HP ly F G A B) _
        refine r_cS (as := [V r_4]) i_186_27 rfl (by decide +kernel) (Nat.le_of_ble_eq_true rfl) (Nat.le_of_ble_eq_true rfl) ?_
        refine c_168 (c := r_4) hly hF hG hA (by omega) (fun r_5 p5_0 => ?_)
        show Re L xs 186 30 [(0, .ref 90), (1, V r0), (2, V n), (3, V v), (4, V k)] [V r_5, V v] (HP ly F G A B) _
        refine r_eq0 (t := 37) i_186_30 (by decide) (by omega) (fun c_6 => ?_) (fun c_6 => ?_)
        · skip
          refine r_iconst i_186_37 ?_
          exact jn38 0  (by omega)
        · skip
          refine r_iconst i_186_33 ?_
          refine r_go (t := 38) i_186_34 (by decide) ?_
          exact jn38 1  (by omega)
  exact lp5B _ 0 0  (by omega) (by omega) (Nat.lt_succ_self _)
set_option maxHeartbeats 4000000 in
theorem c_187 {L : Nat} {xs : Nat → Int32} {ly : List LK} {F : Nat → Nat → Value} {G A : Nat → Nat → Int} {B : Nat → Nat → Int64} {Q : Option Value → AH → Prop} {p : Int} {r0 : Int} (hly : LyOk ly) (hF : RfOk F) (hG : GO G) (hA : AQ A) (in_p : inR p) (in_r0 : inR r0) (hp : 0 ≤ p ∧ p < G 90 38) (hr : 0 ≤ r0 ∧ r0 < 182) (K : ∀ (r : Int), (0 ≤ r ∧ r ≤ 1000000) → ((¬ p = G 90 58 ∨ r0 = 13 * p + G 90 59) → ∀ m, 0 ≤ m → m ≤ G 90 56 → m < 169 → G 90 56 - m < 169 → r ≤ (dpo G A).cm p r0 m + (dpo G A).go p (A 123 r0.toNat) (G 90 56 - m)) → Q (some (V r)) (HP ly F G A B)) : Re L xs 187 0 [(0, .ref 90), (1, V p), (2, V r0)] [] (HP ly F G A B) Q := by
  have z38 := g_90_38 hG
  have z56 := g_90_56 hG
  refine r_ldcw (v := 1000000) i_187_0 (by decide) ?_
  refine r_istore_n (l' := [(0, .ref 90), (1, V p), (2, V r0), (3, V 1000000)]) i_187_3 (by decide +kernel) rfl ?_
  refine r_aload_n i_187_4 rfl ?_
  refine r_iload_n i_187_5 rfl ?_
  refine r_iload_n i_187_6 rfl ?_
  refine r_cV (as := [V r0, V p]) i_187_7 rfl (by decide +kernel) (Nat.le_of_ble_eq_true rfl) (Nat.le_of_ble_eq_true rfl) (hly 90 _ rfl) rfl ?_
  have q_1 := g_90_58 hG
  have q_2 := g_90_59 hG
  refine c_176 (p := p) (r0 := r0) hly hF hG hA (by omega) (by omega) (by omega) (by omega) (fun r_3 p3_0 p3_1 => ?_)
  show Re L xs 187 10 [(0, .ref 90), (1, V p), (2, V r0), (3, V 1000000)] [V r_3] (HP ly F G A B) _
  refine r_ne0 (t := 15) i_187_10 (by decide) (by omega) (fun c_4 => ?_) (fun c_4 => ?_)
  · skip
    refine r_iconst i_187_15 ?_
    refine r_istore (l' := [(0, .ref 90), (1, V p), (2, V r0), (3, V 1000000), (4, V 0)]) i_187_16 (by decide +kernel) rfl ?_
    have lp18B : ∀ (nf : Nat) (v : Int) (m : Int) (l5 : Int), (0 ≤ m ∧ m ≤ 169) → (0 ≤ v ∧ v ≤ 1000000) → (∀ m', 0 ≤ m' → m' < m → G 90 56 - m' < 169 → v ≤ (dpo G A).cm p r0 m' + (dpo G A).go p (A 123 r0.toNat) (G 90 56 - m')) → (169 - m).toNat < nf → Re L xs 187 18 [(0, .ref 90), (1, V p), (2, V r0), (3, V v), (4, V m), (5, V l5)] [] (HP ly F G A B) Q := by
      intro nf
      induction nf with
      | zero => intros; omega
      | succ nf ih18B =>
        intro v m l5  hk hv1 hv hm18
        refine r_iload i_187_18 rfl ?_
        refine r_aload_n i_187_20 rfl ?_
        refine r_getI i_187_21 rfl (hly 90 _ rfl) ?_
        have q_5 := g_90_56 hG
        refine r_cgt (t := 94) i_187_24 (by decide) (by omega) (by omega) (fun c_6 => ?_) (fun c_6 => ?_)
        · skip
          refine r_iload_n i_187_94 rfl ?_
          exact r_iret i_187_95 rfl rfl (K v (by omega) (by intro _ m0 h0 h1 h2 h3; exact hv m0 h0 (by omega) h3))
        · skip
          refine r_iload i_187_27 rfl ?_
          refine r_sipush i_187_29 (by decide) ?_
          refine r_cge (t := 94) i_187_32 (by decide) (by omega) (by omega) (fun c_7 => ?_) (fun c_7 => ?_)
          · skip
            refine r_iload_n i_187_94 rfl ?_
            exact r_iret i_187_95 rfl rfl (K v (by omega) (by intro _ m0 h0 h1 h2 h3; exact hv m0 h0 (by omega) h3))
          · skip
            refine r_aload_n i_187_35 rfl ?_
            refine r_getI i_187_36 rfl (hly 90 _ rfl) ?_
            refine r_iload i_187_39 rfl ?_
            refine r_isub i_187_41 ?_
            refine r_sipush i_187_42 (by decide) ?_
            refine r_clt (t := 51) i_187_45 (by decide) (by omega) (by omega) (fun c_8 => ?_) (fun c_8 => ?_)
            · skip
              refine r_aload_n i_187_51 rfl ?_
              refine r_iload_n i_187_52 rfl ?_
              refine r_iload_n i_187_53 rfl ?_
              refine r_iload i_187_54 rfl ?_
              refine r_cV (as := [V m, V r0, V p]) i_187_56 rfl (by decide +kernel) (Nat.le_of_ble_eq_true rfl) (Nat.le_of_ble_eq_true rfl) (hly 90 _ rfl) rfl ?_
              refine c_178 (p := p) (r0 := r0) (m := m) hly hF hG hA (by omega) (by omega) (by omega) (by omega) (by omega) (by omega) (fun r_9 p9_0 p9_1 => ?_)
              show Re L xs 187 59 [(0, .ref 90), (1, V p), (2, V r0), (3, V v), (4, V m), (5, V l5)] [V r_9] (HP ly F G A B) _
              refine r_aload_n i_187_59 rfl ?_
              refine r_iload_n i_187_60 rfl ?_
              refine r_iload_n i_187_61 rfl ?_
              refine r_aload_n i_187_62 rfl ?_
              refine r_getI i_187_63 rfl (hly 90 _ rfl) ?_
              refine r_iload i_187_66 rfl ?_
              refine r_isub i_187_68 ?_
              refine r_cV (as := [V ((G 90 56) - m), V r0, V p]) i_187_69 rfl (by decide +kernel) (Nat.le_of_ble_eq_true rfl) (Nat.le_of_ble_eq_true rfl) (hly 90 _ rfl) rfl ?_
              have q_10 := g_90_38 hG
              refine c_183 (p := p) (r0 := r0) (m := (G 90 56) - m) hly hF hG hA (by omega) (by omega) (by omega) (by omega) (by omega) (by omega) (fun r_11 p11_0 p11_1 => ?_)
              show Re L xs 187 72 [(0, .ref 90), (1, V p), (2, V r0), (3, V v), (4, V m), (5, V l5)] [V r_11, V r_9] (HP ly F G A B) _
              refine r_iadd i_187_72 ?_
              refine r_istore (l' := [(0, .ref 90), (1, V p), (2, V r0), (3, V v), (4, V m), (5, V (r_9 + r_11))]) i_187_73 (by decide +kernel) rfl ?_
              have jn87 : ∀ (v2 : Int), (v2 ≤ v ∧ v2 ≤ (r_9 + r_11) ∧ 0 ≤ v2) → Re L xs 187 87 [(0, .ref 90), (1, V p), (2, V r0), (3, V v), (4, V m), (5, V (r_9 + r_11))] [V v2] (HP ly F G A B) Q := by
                intro v2  hv2
                refine r_istore_n (l' := [(0, .ref 90), (1, V p), (2, V r0), (3, V v2), (4, V m), (5, V (r_9 + r_11))]) i_187_87 (by decide +kernel) rfl ?_
                refine r_iinc (l' := [(0, .ref 90), (1, V p), (2, V r0), (3, V v2), (4, V (m + 1)), (5, V (r_9 + r_11))]) i_187_88 rfl (by decide +kernel) rfl ?_
                refine r_go (t := 18) i_187_91 (by decide) ?_
                exact ih18B v2 (m + 1) (r_9 + r_11)  (by omega) (by omega) (by first | (intro m' h0 h1; exfalso; omega) | (intro m' h0 h1 h2; exact if e : m' = m then (by first | (exfalso; omega) | (rw [e, ← p9_0, ← p11_0]; omega)) else (by have hh := hv m' h0 (by omega) h2; omega))) (by omega)
              refine r_iload i_187_75 rfl ?_
              refine r_iload_n i_187_77 rfl ?_
              refine r_cge (t := 86) i_187_78 (by decide) (by omega) (by omega) (fun c_12 => ?_) (fun c_12 => ?_)
              · skip
                refine r_iload_n i_187_86 rfl ?_
                exact jn87 v  (by omega)
              · skip
                refine r_iload i_187_81 rfl ?_
                refine r_go (t := 87) i_187_83 (by decide) ?_
                exact jn87 (r_9 + r_11)  (by omega)
            · skip
              refine r_go (t := 88) i_187_48 (by decide) ?_
              refine r_iinc (l' := [(0, .ref 90), (1, V p), (2, V r0), (3, V v), (4, V (m + 1)), (5, V l5)]) i_187_88 rfl (by decide +kernel) rfl ?_
              refine r_go (t := 18) i_187_91 (by decide) ?_
              exact ih18B v (m + 1) l5  (by omega) (by omega) (by first | (intro m' h0 h1; exfalso; omega) | (intro m' h0 h1 h2; exact if e : m' = m then (by first | (exfalso; omega) | (rw [e, ← zzp0, ← zzp0]; omega)) else (by have hh := hv m' h0 (by omega) h2; omega))) (by omega)
    have lp18A34 : ∀ (nf : Nat) (v : Int) (m : Int), (0 ≤ m ∧ m ≤ 169) → (0 ≤ v ∧ v ≤ 1000000) → (∀ m', 0 ≤ m' → m' < m → G 90 56 - m' < 169 → v ≤ (dpo G A).cm p r0 m' + (dpo G A).go p (A 123 r0.toNat) (G 90 56 - m')) → (169 - m).toNat < nf → Re L xs 187 18 [(0, .ref 90), (1, V p), (2, V r0), (3, V v), (4, V m)] [] (HP ly F G A B) Q := by
      intro nf
      induction nf with
      | zero => intros; omega
      | succ nf ih18A34 =>
        intro v m  hk hv1 hv hm18
        refine r_iload i_187_18 rfl ?_
        refine r_aload_n i_187_20 rfl ?_
        refine r_getI i_187_21 rfl (hly 90 _ rfl) ?_
        have q_13 := g_90_56 hG
        refine r_cgt (t := 94) i_187_24 (by decide) (by omega) (by omega) (fun c_14 => ?_) (fun c_14 => ?_)
        · skip
          refine r_iload_n i_187_94 rfl ?_
          exact r_iret i_187_95 rfl rfl (K v (by omega) (by intro _ m0 h0 h1 h2 h3; exact hv m0 h0 (by omega) h3))
        · skip
          refine r_iload i_187_27 rfl ?_
          refine r_sipush i_187_29 (by decide) ?_
          refine r_cge (t := 94) i_187_32 (by decide) (by omega) (by omega) (fun c_15 => ?_) (fun c_15 => ?_)
          · skip
            refine r_iload_n i_187_94 rfl ?_
            exact r_iret i_187_95 rfl rfl (K v (by omega) (by intro _ m0 h0 h1 h2 h3; exact hv m0 h0 (by omega) h3))
          · skip
            refine r_aload_n i_187_35 rfl ?_
            refine r_getI i_187_36 rfl (hly 90 _ rfl) ?_
            refine r_iload i_187_39 rfl ?_
            refine r_isub i_187_41 ?_
            refine r_sipush i_187_42 (by decide) ?_
            refine r_clt (t := 51) i_187_45 (by decide) (by omega) (by omega) (fun c_16 => ?_) (fun c_16 => ?_)
            · skip
              refine r_aload_n i_187_51 rfl ?_
              refine r_iload_n i_187_52 rfl ?_
              refine r_iload_n i_187_53 rfl ?_
              refine r_iload i_187_54 rfl ?_
              refine r_cV (as := [V m, V r0, V p]) i_187_56 rfl (by decide +kernel) (Nat.le_of_ble_eq_true rfl) (Nat.le_of_ble_eq_true rfl) (hly 90 _ rfl) rfl ?_
              refine c_178 (p := p) (r0 := r0) (m := m) hly hF hG hA (by omega) (by omega) (by omega) (by omega) (by omega) (by omega) (fun r_17 p17_0 p17_1 => ?_)
              show Re L xs 187 59 [(0, .ref 90), (1, V p), (2, V r0), (3, V v), (4, V m)] [V r_17] (HP ly F G A B) _
              refine r_aload_n i_187_59 rfl ?_
              refine r_iload_n i_187_60 rfl ?_
              refine r_iload_n i_187_61 rfl ?_
              refine r_aload_n i_187_62 rfl ?_
              refine r_getI i_187_63 rfl (hly 90 _ rfl) ?_
              refine r_iload i_187_66 rfl ?_
              refine r_isub i_187_68 ?_
              refine r_cV (as := [V ((G 90 56) - m), V r0, V p]) i_187_69 rfl (by decide +kernel) (Nat.le_of_ble_eq_true rfl) (Nat.le_of_ble_eq_true rfl) (hly 90 _ rfl) rfl ?_
              have q_18 := g_90_38 hG
              refine c_183 (p := p) (r0 := r0) (m := (G 90 56) - m) hly hF hG hA (by omega) (by omega) (by omega) (by omega) (by omega) (by omega) (fun r_19 p19_0 p19_1 => ?_)
              show Re L xs 187 72 [(0, .ref 90), (1, V p), (2, V r0), (3, V v), (4, V m)] [V r_19, V r_17] (HP ly F G A B) _
              refine r_iadd i_187_72 ?_
              refine r_istore (l' := [(0, .ref 90), (1, V p), (2, V r0), (3, V v), (4, V m), (5, V (r_17 + r_19))]) i_187_73 (by decide +kernel) rfl ?_
              have jn87 : ∀ (v2 : Int), (v2 ≤ v ∧ v2 ≤ (r_17 + r_19) ∧ 0 ≤ v2) → Re L xs 187 87 [(0, .ref 90), (1, V p), (2, V r0), (3, V v), (4, V m), (5, V (r_17 + r_19))] [V v2] (HP ly F G A B) Q := by
                intro v2  hv2
                refine r_istore_n (l' := [(0, .ref 90), (1, V p), (2, V r0), (3, V v2), (4, V m), (5, V (r_17 + r_19))]) i_187_87 (by decide +kernel) rfl ?_
                refine r_iinc (l' := [(0, .ref 90), (1, V p), (2, V r0), (3, V v2), (4, V (m + 1)), (5, V (r_17 + r_19))]) i_187_88 rfl (by decide +kernel) rfl ?_
                refine r_go (t := 18) i_187_91 (by decide) ?_
                exact lp18B _ v2 (m + 1) (r_17 + r_19)  (by omega) (by omega) (by first | (intro m' h0 h1; exfalso; omega) | (intro m' h0 h1 h2; exact if e : m' = m then (by first | (exfalso; omega) | (rw [e, ← p17_0, ← p19_0]; omega)) else (by have hh := hv m' h0 (by omega) h2; omega))) (Nat.lt_succ_self _)
              refine r_iload i_187_75 rfl ?_
              refine r_iload_n i_187_77 rfl ?_
              refine r_cge (t := 86) i_187_78 (by decide) (by omega) (by omega) (fun c_20 => ?_) (fun c_20 => ?_)
              · skip
                refine r_iload_n i_187_86 rfl ?_
                exact jn87 v  (by omega)
              · skip
                refine r_iload i_187_81 rfl ?_
                refine r_go (t := 87) i_187_83 (by decide) ?_
                exact jn87 (r_17 + r_19)  (by omega)
            · skip
              refine r_go (t := 88) i_187_48 (by decide) ?_
              refine r_iinc (l' := [(0, .ref 90), (1, V p), (2, V r0), (3, V v), (4, V (m + 1))]) i_187_88 rfl (by decide +kernel) rfl ?_
              refine r_go (t := 18) i_187_91 (by decide) ?_
              exact ih18A34 v (m + 1)  (by omega) (by omega) (by first | (intro m' h0 h1; exfalso; omega) | (intro m' h0 h1 h2; exact if e : m' = m then (by first | (exfalso; omega) | (rw [e, ← zzp0, ← zzp0]; omega)) else (by have hh := hv m' h0 (by omega) h2; omega))) (by omega)
    exact lp18A34 _ 1000000 0  (by omega) (by omega) (by first | (intro m' h0 h1; exfalso; omega) | (intro m' h0 h1 h2; exact if e : m' = m then (by first | (exfalso; omega) | (rw [e, ← zzp0, ← zzp0]; omega)) else (by have hh := hv m' h0 (by omega) h2; omega))) (Nat.lt_succ_self _)
  · skip
    refine r_iload_n i_187_13 rfl ?_
    exact r_iret i_187_14 rfl rfl (K 1000000 (by omega) (by intro h; exfalso; omega))
set_option maxHeartbeats 4000000 in
theorem c_184 {L : Nat} {xs : Nat → Int32} {ly : List LK} {F : Nat → Nat → Value} {G A : Nat → Nat → Int} {B : Nat → Nat → Int64} {Q : Option Value → AH → Prop} {p : Int} {r0 : Int} {what : Int} (hly : LyOk ly) (hF : RfOk F) (hG : GO G) (hA : AQ A) (in_p : inR p) (in_r0 : inR r0) (in_what : inR what) (hm : MI G A) (K : ∀ (r : Int) (G' : Nat → Nat → Int) (A' : Nat → Nat → Int), (GO G') → (AQ A') → (∀ a k, ¬ ((a = 90 ∧ k = 53) ∨ (a = 90 ∧ k = 56) ∨ (a = 90 ∧ k = 57) ∨ (a = 90 ∧ k = 58)) → G' a k = G a k) → (∀ a, ¬ (a = 121 ∨ a = 122 ∨ a = 123 ∨ a = 124 ∨ a = 125 ∨ a = 126 ∨ a = 128 ∨ a = 129) → A' a = A a) → (MI G' A') → Q (some (V r)) (HP ly F G' A' B)) : Re L xs 184 0 [(0, .ref 90), (1, V p), (2, V r0), (3, V what)] [] (HP ly F G A B) Q := by
  have z38 := g_90_38 hG
  refine r_aload_n i_184_0 rfl ?_
  refine r_iload_n i_184_1 rfl ?_
  refine r_iload_n i_184_2 rfl ?_
  refine r_cV (as := [V r0, V p]) i_184_3 rfl (by decide +kernel) (Nat.le_of_ble_eq_true rfl) (Nat.le_of_ble_eq_true rfl) (hly 90 _ rfl) rfl ?_
  have q_1 := g_90_38 hG
  refine c_185 (p := p) (r0 := r0) hly hF hG hA (by omega) (by omega) (by omega) (fun r_2 G_3 A_4 hG_3 hA_4 fg4 fa4 p4_0 p4_1 p4_2 p4_3 => ?_)
  show Re L xs 184 6 [(0, .ref 90), (1, V p), (2, V r0), (3, V what)] [V r_2] (HP ly F G_3 A_4 B) _
  refine r_ne0 (t := 11) i_184_6 (by decide) (by omega) (fun c_5 => ?_) (fun c_5 => ?_)
  · skip
    have hpr := p4_2 (by omega)
    have z122 := a_122 hA_4 p.toNat
    refine r_bipush i_184_11 (by decide) ?_
    refine r_iload_n i_184_13 rfl ?_
    refine r_imul i_184_14 ?_
    refine r_iload_n i_184_15 rfl ?_
    refine r_iadd i_184_16 ?_
    refine r_istore (l' := [(0, .ref 90), (1, V p), (2, V r0), (3, V what), (4, V ((13 * p) + r0))]) i_184_17 (by decide +kernel) rfl ?_
    refine r_iload_n i_184_19 rfl ?_
    rcases (show (what < 0 ∨ 5 < what) ∨ what = 0 ∨ what = 1 ∨ what = 2 ∨ what = 3 ∨ what = 4 ∨ what = 5 by omega) with c_6 | c_6 | c_6 | c_6 | c_6 | c_6 | c_6
    · refine r_tabO (t := 129) i_184_20 (by decide) (by omega) c_6 ?_
      refine r_iconst i_184_129 ?_
      exact r_iret i_184_130 rfl rfl (K ((-1)) G_3 A_4 hG_3 hA_4 (by intro a k hh; rw [fg4 a k (by omega)]) (by intro a hh; rw [fa4 a (by omega)]) (by exact p4_0))
    · refine r_tabI (t := 60) (off := 40) i_184_20 (by omega) (by omega) (by rw [c_6]; decide) (by decide) ?_
      refine r_aload_n i_184_60 rfl ?_
      refine r_getF (v := .ref 123) i_184_61 rfl (hly 90 _ rfl) (hF.1 90 48 123 rfl) ?_
      refine r_iload i_184_64 rfl ?_
      refine r_iald i_184_66 (hly 123 _ rfl) (by omega) (by omega) (by omega) ?_
      have q_7 := a_123 hA_4 (((13 * p) + r0).toNat)
      exact r_iret i_184_67 rfl rfl (K (A_4 123 (((13 * p) + r0).toNat)) G_3 A_4 hG_3 hA_4 (by intro a k hh; rw [fg4 a k (by omega)]) (by intro a hh; rw [fa4 a (by omega)]) (by exact p4_0))
    · refine r_tabI (t := 68) (off := 48) i_184_20 (by omega) (by omega) (by rw [c_6]; decide) (by decide) ?_
      refine r_aload_n i_184_68 rfl ?_
      refine r_getF (v := .ref 124) i_184_69 rfl (hly 90 _ rfl) (hF.1 90 49 124 rfl) ?_
      refine r_iload i_184_72 rfl ?_
      refine r_iald i_184_74 (hly 124 _ rfl) (by omega) (by omega) (by omega) ?_
      have q_8 := a_124 hA_4 (((13 * p) + r0).toNat)
      exact r_iret i_184_75 rfl rfl (K (A_4 124 (((13 * p) + r0).toNat)) G_3 A_4 hG_3 hA_4 (by intro a k hh; rw [fg4 a k (by omega)]) (by intro a hh; rw [fa4 a (by omega)]) (by exact p4_0))
    · refine r_tabI (t := 76) (off := 56) i_184_20 (by omega) (by omega) (by rw [c_6]; decide) (by decide) ?_
      refine r_aload_n i_184_76 rfl ?_
      refine r_iload i_184_77 rfl ?_
      refine r_aload_n i_184_79 rfl ?_
      refine r_getF (v := .ref 116) i_184_80 rfl (hly 90 _ rfl) (hF.1 90 36 116 rfl) ?_
      refine r_iload_n i_184_83 rfl ?_
      refine r_iald i_184_84 (hly 116 _ rfl) (by omega) (by omega) (by omega) ?_
      rw [show A_4 116 = A 116 from by rw [fa4 116 (by omega)]]
      have q_9 := a_116 hA (p.toNat)
      refine r_cV (as := [V (A 116 (p.toNat)), V ((13 * p) + r0)]) i_184_85 rfl (by decide +kernel) (Nat.le_of_ble_eq_true rfl) (Nat.le_of_ble_eq_true rfl) (hly 90 _ rfl) rfl ?_
      refine c_186 (r0 := (13 * p) + r0) (n := A 116 (p.toNat)) hly hF hG_3 hA_4 (by omega) (by omega) (by omega) (by omega) (fun r_10 p10_0 => ?_)
      show Re L xs 184 88 [(0, .ref 90), (1, V p), (2, V r0), (3, V what), (4, V ((13 * p) + r0))] [V r_10] (HP ly F G_3 A_4 B) _
      exact r_iret i_184_88 rfl rfl (K r_10 G_3 A_4 hG_3 hA_4 (by intro a k hh; rw [fg4 a k (by omega)]) (by intro a hh; rw [fa4 a (by omega)]) (by exact p4_0))
    · refine r_tabI (t := 89) (off := 69) i_184_20 (by omega) (by omega) (by rw [c_6]; decide) (by decide) ?_
      refine r_aload_n i_184_89 rfl ?_
      refine r_getF (v := .ref 116) i_184_90 rfl (hly 90 _ rfl) (hF.1 90 36 116 rfl) ?_
      refine r_iload_n i_184_93 rfl ?_
      refine r_iald i_184_94 (hly 116 _ rfl) (by omega) (by omega) (by omega) ?_
      rw [show A_4 116 = A 116 from by rw [fa4 116 (by omega)]]
      have q_11 := a_116 hA (p.toNat)
      exact r_iret i_184_95 rfl rfl (K (A 116 (p.toNat)) G_3 A_4 hG_3 hA_4 (by intro a k hh; rw [fg4 a k (by omega)]) (by intro a hh; rw [fa4 a (by omega)]) (by exact p4_0))
    · refine r_tabI (t := 96) (off := 76) i_184_20 (by omega) (by omega) (by rw [c_6]; decide) (by decide) ?_
      refine r_aload_n i_184_96 rfl ?_
      refine r_getF (v := .ref 125) i_184_97 rfl (hly 90 _ rfl) (hF.1 90 50 125 rfl) ?_
      refine r_iload i_184_100 rfl ?_
      refine r_iald i_184_102 (hly 125 _ rfl) (by omega) (by omega) (by omega) ?_
      have q_12 := a_125 hA_4 (((13 * p) + r0).toNat)
      exact r_iret i_184_103 rfl rfl (K (A_4 125 (((13 * p) + r0).toNat)) G_3 A_4 hG_3 hA_4 (by intro a k hh; rw [fg4 a k (by omega)]) (by intro a hh; rw [fa4 a (by omega)]) (by exact p4_0))
    · refine r_tabI (t := 104) (off := 84) i_184_20 (by omega) (by omega) (by rw [c_6]; decide) (by decide) ?_
      refine r_aload_n i_184_104 rfl ?_
      refine r_iload_n i_184_105 rfl ?_
      refine r_iload i_184_106 rfl ?_
      refine r_cV (as := [V ((13 * p) + r0), V p]) i_184_108 rfl (by decide +kernel) (Nat.le_of_ble_eq_true rfl) (Nat.le_of_ble_eq_true rfl) (hly 90 _ rfl) rfl ?_
      have w_13 : G_3 90 38 = G 90 38 := by rw [fg4 90 38 (by omega)]
      have q_14 := g_90_58 hG_3
      have w_15 : G_3 90 59 = G 90 59 := by rw [fg4 90 59 (by omega)]
      have q_16 := g_90_59 hG
      have q_17 := g_90_56 hG_3
      refine c_187 (p := p) (r0 := (13 * p) + r0) hly hF hG_3 hA_4 (by omega) (by omega) (by omega) (by omega) (fun r_18 p18_0 p18_1 => ?_)
      show Re L xs 184 111 [(0, .ref 90), (1, V p), (2, V r0), (3, V what), (4, V ((13 * p) + r0))] [V r_18] (HP ly F G_3 A_4 B) _
      refine r_ldcw (v := 1000000) i_184_111 (by decide) ?_
      refine r_cge (t := 127) i_184_114 (by decide) (by omega) (by omega) (fun c_19 => ?_) (fun c_19 => ?_)
      · skip
        refine r_iconst i_184_127 ?_
        exact r_iret i_184_128 rfl rfl (K ((-1)) G_3 A_4 hG_3 hA_4 (by intro a k hh; rw [fg4 a k (by omega)]) (by intro a hh; rw [fa4 a (by omega)]) (by exact p4_0))
      · skip
        refine r_aload_n i_184_117 rfl ?_
        refine r_iload_n i_184_118 rfl ?_
        refine r_iload i_184_119 rfl ?_
        refine r_cV (as := [V ((13 * p) + r0), V p]) i_184_121 rfl (by decide +kernel) (Nat.le_of_ble_eq_true rfl) (Nat.le_of_ble_eq_true rfl) (hly 90 _ rfl) rfl ?_
        refine c_187 (p := p) (r0 := (13 * p) + r0) hly hF hG_3 hA_4 (by omega) (by omega) (by omega) (by omega) (fun r_20 p20_0 p20_1 => ?_)
        show Re L xs 184 124 [(0, .ref 90), (1, V p), (2, V r0), (3, V what), (4, V ((13 * p) + r0))] [V r_20] (HP ly F G_3 A_4 B) _
        refine r_go (t := 128) i_184_124 (by decide) ?_
        exact r_iret i_184_128 rfl rfl (K r_20 G_3 A_4 hG_3 hA_4 (by intro a k hh; rw [fg4 a k (by omega)]) (by intro a hh; rw [fa4 a (by omega)]) (by exact p4_0))
  · skip
    refine r_iconst i_184_9 ?_
    exact r_iret i_184_10 rfl rfl (K ((-1)) G_3 A_4 hG_3 hA_4 (by intro a k hh; rw [fg4 a k (by omega)]) (by intro a hh; rw [fa4 a (by omega)]) (by exact p4_0))
set_option maxHeartbeats 4000000 in
theorem c_188 {L : Nat} {xs : Nat → Int32} {ly : List LK} {F : Nat → Nat → Value} {G A : Nat → Nat → Int} {B : Nat → Nat → Int64} {Q : Option Value → AH → Prop} {p : Int} {r0 : Int} {k : Int} (hly : LyOk ly) (hF : RfOk F) (hG : GO G) (hA : AQ A) (in_p : inR p) (in_r0 : inR r0) (in_k : inR k) (hm : MI G A) (K : ∀ (r : Int) (G' : Nat → Nat → Int) (A' : Nat → Nat → Int), (GO G') → (AQ A') → (∀ a k, ¬ ((a = 90 ∧ k = 53) ∨ (a = 90 ∧ k = 56) ∨ (a = 90 ∧ k = 57) ∨ (a = 90 ∧ k = 58)) → G' a k = G a k) → (∀ a, ¬ (a = 121 ∨ a = 122 ∨ a = 123 ∨ a = 124 ∨ a = 125 ∨ a = 126 ∨ a = 128 ∨ a = 129) → A' a = A a) → (MI G' A') → Q (some (V r)) (HP ly F G' A' B)) : Re L xs 188 0 [(0, .ref 90), (1, V p), (2, V r0), (3, V k)] [] (HP ly F G A B) Q := by
  have z38 := g_90_38 hG
  refine r_aload_n i_188_0 rfl ?_
  refine r_iload_n i_188_1 rfl ?_
  refine r_iload_n i_188_2 rfl ?_
  refine r_cV (as := [V r0, V p]) i_188_3 rfl (by decide +kernel) (Nat.le_of_ble_eq_true rfl) (Nat.le_of_ble_eq_true rfl) (hly 90 _ rfl) rfl ?_
  have q_1 := g_90_38 hG
  refine c_185 (p := p) (r0 := r0) hly hF hG hA (by omega) (by omega) (by omega) (fun r_2 G_3 A_4 hG_3 hA_4 fg4 fa4 p4_0 p4_1 p4_2 p4_3 => ?_)
  show Re L xs 188 6 [(0, .ref 90), (1, V p), (2, V r0), (3, V k)] [V r_2] (HP ly F G_3 A_4 B) _
  refine r_eq0 (t := 23) i_188_6 (by decide) (by omega) (fun c_5 => ?_) (fun c_5 => ?_)
  · skip
    refine r_iconst i_188_23 ?_
    refine r_go (t := 43) i_188_24 (by decide) ?_
    exact r_iret i_188_43 rfl rfl (K ((-1)) G_3 A_4 hG_3 hA_4 (by intro a k hh; rw [fg4 a k (by omega)]) (by intro a hh; rw [fa4 a (by omega)]) (by exact p4_0))
  · skip
    have hpr := p4_2 (by omega)
    have z122 := a_122 hA_4 p.toNat
    refine r_iload_n i_188_9 rfl ?_
    refine r_lt0 (t := 23) i_188_10 (by decide) (by omega) (fun c_6 => ?_) (fun c_6 => ?_)
    · skip
      refine r_iconst i_188_23 ?_
      refine r_go (t := 43) i_188_24 (by decide) ?_
      exact r_iret i_188_43 rfl rfl (K ((-1)) G_3 A_4 hG_3 hA_4 (by intro a k hh; rw [fg4 a k (by omega)]) (by intro a hh; rw [fa4 a (by omega)]) (by exact p4_0))
    · skip
      refine r_iload_n i_188_13 rfl ?_
      refine r_aload_n i_188_14 rfl ?_
      refine r_getF (v := .ref 116) i_188_15 rfl (hly 90 _ rfl) (hF.1 90 36 116 rfl) ?_
      refine r_iload_n i_188_18 rfl ?_
      refine r_iald i_188_19 (hly 116 _ rfl) (by omega) (by omega) (by omega) ?_
      rw [show A_4 116 = A 116 from by rw [fa4 116 (by omega)]]
      have q_7 := a_116 hA (p.toNat)
      refine r_clt (t := 27) i_188_20 (by decide) (by omega) (by omega) (fun c_8 => ?_) (fun c_8 => ?_)
      · skip
        refine r_aload_n i_188_27 rfl ?_
        refine r_getF (v := .ref 121) i_188_28 rfl (hly 90 _ rfl) (hF.1 90 46 121 rfl) ?_
        refine r_bipush i_188_31 (by decide) ?_
        refine r_bipush i_188_33 (by decide) ?_
        refine r_iload_n i_188_35 rfl ?_
        refine r_imul i_188_36 ?_
        refine r_iload_n i_188_37 rfl ?_
        refine r_iadd i_188_38 ?_
        refine r_imul i_188_39 ?_
        refine r_iload_n i_188_40 rfl ?_
        refine r_iadd i_188_41 ?_
        refine r_bald i_188_42 (hly 121 _ rfl) (by omega) (by omega) (by omega) ?_
        have q_9 := a_121 hA_4 (((12 * ((13 * p) + r0)) + k).toNat)
        exact r_iret i_188_43 rfl rfl (K (A_4 121 (((12 * ((13 * p) + r0)) + k).toNat)) G_3 A_4 hG_3 hA_4 (by intro a k hh; rw [fg4 a k (by omega)]) (by intro a hh; rw [fa4 a (by omega)]) (by exact p4_0))
      · skip
        refine r_iconst i_188_23 ?_
        refine r_go (t := 43) i_188_24 (by decide) ?_
        exact r_iret i_188_43 rfl rfl (K ((-1)) G_3 A_4 hG_3 hA_4 (by intro a k hh; rw [fg4 a k (by omega)]) (by intro a hh; rw [fa4 a (by omega)]) (by exact p4_0))
set_option maxHeartbeats 4000000 in
theorem c_189 {L : Nat} {xs : Nat → Int32} {ly : List LK} {F : Nat → Nat → Value} {G A : Nat → Nat → Int} {B : Nat → Nat → Int64} {Q : Option Value → AH → Prop}  (hly : LyOk ly) (hF : RfOk F) (hG : GO G) (hA : AQ A) (hm : MI G A) (K : ∀ (r : Int) (G' : Nat → Nat → Int) (A' : Nat → Nat → Int), (GO G') → (AQ A') → (∀ a k, ¬ ((a = 90 ∧ k = 53) ∨ (a = 90 ∧ k = 56) ∨ (a = 90 ∧ k = 57) ∨ (a = 90 ∧ k = 58)) → G' a k = G a k) → (∀ a, ¬ (a = 121 ∨ a = 122 ∨ a = 123 ∨ a = 124 ∨ a = 125 ∨ a = 126 ∨ a = 128 ∨ a = 129) → A' a = A a) → (MI G' A') → (KN G' A') → ((r = -2 ∧ G' 90 57 = 1000000) ∨ (0 ≤ r ∧ r = G' 90 57 ∧ G' 90 57 < 1000000)) → Q (some (V r)) (HP ly F G' A' B)) : Re L xs 189 0 [(0, .ref 90)] [] (HP ly F G A B) Q := by
  refine r_aload_n i_189_0 rfl ?_
  refine r_cV (as := []) i_189_1 rfl (by decide +kernel) (Nat.le_of_ble_eq_true rfl) (Nat.le_of_ble_eq_true rfl) (hly 90 _ rfl) rfl ?_
  refine c_161  hly hF hG hA (by omega) (fun G_1 A_2 hG_1 hA_2 fg2 fa2 p2_0 p2_1 => ?_)
  show Re L xs 189 4 [(0, .ref 90)] [] (HP ly F G_1 A_2 B) _
  refine r_aload_n i_189_4 rfl ?_
  refine r_getI i_189_5 rfl (hly 90 _ rfl) ?_
  have q_3 := g_90_57 hG_1
  refine r_ldcw (v := 1000000) i_189_8 (by decide) ?_
  refine r_cge (t := 21) i_189_11 (by decide) (by omega) (by omega) (fun c_4 => ?_) (fun c_4 => ?_)
  · skip
    refine r_bipush i_189_21 (by decide) ?_
    exact r_iret i_189_23 rfl rfl (K ((-2)) G_1 A_2 hG_1 hA_2 (by intro a k hh; rw [fg2 a k (by omega)]) (by intro a hh; rw [fa2 a (by omega)]) (by exact p2_0) (by exact p2_1) (by omega))
  · skip
    refine r_aload_n i_189_14 rfl ?_
    refine r_getI i_189_15 rfl (hly 90 _ rfl) ?_
    refine r_go (t := 23) i_189_18 (by decide) ?_
    exact r_iret i_189_23 rfl rfl (K (G_1 90 57) G_1 A_2 hG_1 hA_2 (by intro a k hh; rw [fg2 a k (by omega)]) (by intro a hh; rw [fa2 a (by omega)]) (by exact p2_0) (by exact p2_1) (by omega))
