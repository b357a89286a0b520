theorem and255 (z : Int) : Int32.ofInt z &&& Int32.ofInt 255 = Int32.ofInt (z % 256) := by
  rw [pk_and (Int32.ofInt z) (m := Int32.ofInt 255) 8 (by decide)]
  show Int32.ofNat _ = _
  rw [← Int32.ofInt_eq_ofNat]
  congr 1
  have e : (Int32.ofInt z).toBitVec.toNat = (z % 4294967296).toNat := by
    show (BitVec.ofInt 32 z).toNat = _
    rw [BitVec.toNat_ofInt]
    rfl
  rw [e]
  omega

set_option maxHeartbeats 4000000 in
theorem c_138 {L : Nat} {xs : Nat → Int32} {ly : List LK} {F : Nat → Nat → Value} {G A : Nat → Nat → Int} {B : Nat → Nat → Int64} {Q : Option Value → AH → Prop} {c : Int} (hly : LyOk ly) (hF : RfOk F) (hG : GO G) (hA : AQ A) (in_c : inR c) (K : ∀ (r : Int), (0 ≤ r ∧ r ≤ 1) → (r = 1 ↔ (65 ≤ c ∧ c ≤ 90)) → Q (some (V r)) (HP ly F G A B)) : Re L xs 138 0 [(0, V c)] [] (HP ly F G A B) Q := by
  refine r_iload_n i_138_0 rfl ?_
  refine r_bipush i_138_1 (by decide) ?_
  refine r_clt (t := 16) i_138_3 (by decide) (by omega) (by omega) (fun c_1 => ?_) (fun c_1 => ?_)
  · skip
    refine r_iconst i_138_16 ?_
    exact r_iret i_138_17 rfl (nar_Z (by omega)) (K 0 (by omega) (by omega))
  · skip
    refine r_iload_n i_138_6 rfl ?_
    refine r_bipush i_138_7 (by decide) ?_
    refine r_cgt (t := 16) i_138_9 (by decide) (by omega) (by omega) (fun c_2 => ?_) (fun c_2 => ?_)
    · skip
      refine r_iconst i_138_16 ?_
      exact r_iret i_138_17 rfl (nar_Z (by omega)) (K 0 (by omega) (by omega))
    · skip
      refine r_iconst i_138_12 ?_
      refine r_go (t := 17) i_138_13 (by decide) ?_
      exact r_iret i_138_17 rfl (nar_Z (by omega)) (K 1 (by omega) (by omega))
set_option maxHeartbeats 4000000 in
theorem c_137 {L : Nat} {xs : Nat → Int32} {ly : List LK} {F : Nat → Nat → Value} {G A : Nat → Nat → Int} {B : Nat → Nat → Int64} {Q : Option Value → AH → Prop} {c : Int} (hly : LyOk ly) (hF : RfOk F) (hG : GO G) (hA : AQ A) (in_c : inR c) (K : ∀ (r : Int), (0 ≤ r ∧ r ≤ 1) → (r = 1 ↔ ((97 ≤ c ∧ c ≤ 122) ∨ (65 ≤ c ∧ c ≤ 90))) → Q (some (V r)) (HP ly F G A B)) : Re L xs 137 0 [(0, V c)] [] (HP ly F G A B) Q := by
  refine r_iload_n i_137_0 rfl ?_
  refine r_bipush i_137_1 (by decide) ?_
  refine r_clt (t := 12) i_137_3 (by decide) (by omega) (by omega) (fun c_1 => ?_) (fun c_1 => ?_)
  · skip
    refine r_iload_n i_137_12 rfl ?_
    refine r_cS (as := [V c]) i_137_13 rfl (by decide +kernel) (Nat.le_of_ble_eq_true rfl) (Nat.le_of_ble_eq_true rfl) ?_
    refine c_138 (c := c) hly hF hG hA (by omega) (fun r_2 p2_0 p2_1 => ?_)
    show Re L xs 137 16 [(0, V c)] [V r_2] (HP ly F G A B) _
    refine r_eq0 (t := 23) i_137_16 (by decide) (by omega) (fun c_3 => ?_) (fun c_3 => ?_)
    · skip
      refine r_iconst i_137_23 ?_
      exact r_iret i_137_24 rfl (nar_Z (by omega)) (K 0 (by omega) (by omega))
    · skip
      refine r_iconst i_137_19 ?_
      refine r_go (t := 24) i_137_20 (by decide) ?_
      exact r_iret i_137_24 rfl (nar_Z (by omega)) (K 1 (by omega) (by omega))
  · skip
    refine r_iload_n i_137_6 rfl ?_
    refine r_bipush i_137_7 (by decide) ?_
    refine r_cle (t := 19) i_137_9 (by decide) (by omega) (by omega) (fun c_4 => ?_) (fun c_4 => ?_)
    · skip
      refine r_iconst i_137_19 ?_
      refine r_go (t := 24) i_137_20 (by decide) ?_
      exact r_iret i_137_24 rfl (nar_Z (by omega)) (K 1 (by omega) (by omega))
    · skip
      refine r_iload_n i_137_12 rfl ?_
      refine r_cS (as := [V c]) i_137_13 rfl (by decide +kernel) (Nat.le_of_ble_eq_true rfl) (Nat.le_of_ble_eq_true rfl) ?_
      refine c_138 (c := c) hly hF hG hA (by omega) (fun r_5 p5_0 p5_1 => ?_)
      show Re L xs 137 16 [(0, V c)] [V r_5] (HP ly F G A B) _
      refine r_eq0 (t := 23) i_137_16 (by decide) (by omega) (fun c_6 => ?_) (fun c_6 => ?_)
      · skip
        refine r_iconst i_137_23 ?_
        exact r_iret i_137_24 rfl (nar_Z (by omega)) (K 0 (by omega) (by omega))
      · skip
        refine r_iconst i_137_19 ?_
        refine r_go (t := 24) i_137_20 (by decide) ?_
        exact r_iret i_137_24 rfl (nar_Z (by omega)) (K 1 (by omega) (by omega))
set_option maxHeartbeats 4000000 in
theorem c_139 {L : Nat} {xs : Nat → Int32} {ly : List LK} {F : Nat → Nat → Value} {G A : Nat → Nat → Int} {B : Nat → Nat → Int64} {Q : Option Value → AH → Prop} {c : Int} (hly : LyOk ly) (hF : RfOk F) (hG : GO G) (hA : AQ A) (in_c : inR c) (K : ∀ (r : Int), (0 ≤ r ∧ r ≤ 1) → (r = 1 ↔ (48 ≤ c ∧ c ≤ 57)) → Q (some (V r)) (HP ly F G A B)) : Re L xs 139 0 [(0, V c)] [] (HP ly F G A B) Q := by
  refine r_iload_n i_139_0 rfl ?_
  refine r_bipush i_139_1 (by decide) ?_
  refine r_clt (t := 16) i_139_3 (by decide) (by omega) (by omega) (fun c_1 => ?_) (fun c_1 => ?_)
  · skip
    refine r_iconst i_139_16 ?_
    exact r_iret i_139_17 rfl (nar_Z (by omega)) (K 0 (by omega) (by omega))
  · skip
    refine r_iload_n i_139_6 rfl ?_
    refine r_bipush i_139_7 (by decide) ?_
    refine r_cgt (t := 16) i_139_9 (by decide) (by omega) (by omega) (fun c_2 => ?_) (fun c_2 => ?_)
    · skip
      refine r_iconst i_139_16 ?_
      exact r_iret i_139_17 rfl (nar_Z (by omega)) (K 0 (by omega) (by omega))
    · skip
      refine r_iconst i_139_12 ?_
      refine r_go (t := 17) i_139_13 (by decide) ?_
      exact r_iret i_139_17 rfl (nar_Z (by omega)) (K 1 (by omega) (by omega))
set_option maxHeartbeats 4000000 in
theorem c_150 {L : Nat} {xs : Nat → Int32} {ly : List LK} {F : Nat → Nat → Value} {G A : Nat → Nat → Int} {B : Nat → Nat → Int64} {Q : Option Value → AH → Prop} {c : Int} (hly : LyOk ly) (hF : RfOk F) (hG : GO G) (hA : AQ A) (in_c : inR c) (h1 : -1000 ≤ c ∧ c ≤ 1000) (K : ∀ (r : Int), (-1000 ≤ r ∧ r ≤ 1032) → Q (some (V r)) (HP ly F G A B)) : Re L xs 150 0 [(0, V c)] [] (HP ly F G A B) Q := by
  refine r_iload_n i_150_0 rfl ?_
  refine r_cS (as := [V c]) i_150_1 rfl (by decide +kernel) (Nat.le_of_ble_eq_true rfl) (Nat.le_of_ble_eq_true rfl) ?_
  refine c_138 (c := c) hly hF hG hA (by omega) (fun r_1 p1_0 p1_1 => ?_)
  show Re L xs 150 4 [(0, V c)] [V r_1] (HP ly F G A B) _
  refine r_eq0 (t := 14) i_150_4 (by decide) (by omega) (fun c_2 => ?_) (fun c_2 => ?_)
  · skip
    refine r_iload_n i_150_14 rfl ?_
    exact r_iret i_150_15 rfl rfl (K c (by omega))
  · skip
    refine r_iload_n i_150_7 rfl ?_
    refine r_bipush i_150_8 (by decide) ?_
    refine r_iadd i_150_10 ?_
    refine r_go (t := 15) i_150_11 (by decide) ?_
    exact r_iret i_150_15 rfl rfl (K (c + 32) (by omega))
set_option maxHeartbeats 4000000 in
theorem c_168 {L : Nat} {xs : Nat → Int32} {ly : List LK} {F : Nat → Nat → Value} {G A : Nat → Nat → Int} {B : Nat → Nat → Int64} {Q : Option Value → AH → Prop} {c : Int} (hly : LyOk ly) (hF : RfOk F) (hG : GO G) (hA : AQ A) (in_c : inR c) (K : ∀ (r : Int), (0 ≤ r ∧ r ≤ 1) → Q (some (V r)) (HP ly F G A B)) : Re L xs 168 0 [(0, V c)] [] (HP ly F G A B) Q := by
  refine r_iload_n i_168_0 rfl ?_
  refine r_bipush i_168_1 (by decide) ?_
  refine r_ceq (t := 30) i_168_3 (by decide) (by omega) (by omega) (fun c_1 => ?_) (fun c_1 => ?_)
  · skip
    refine r_iconst i_168_30 ?_
    refine r_go (t := 35) i_168_31 (by decide) ?_
    exact r_iret i_168_35 rfl (nar_Z (by omega)) (K 1 (by omega))
  · skip
    refine r_iload_n i_168_6 rfl ?_
    refine r_bipush i_168_7 (by decide) ?_
    refine r_ceq (t := 30) i_168_9 (by decide) (by omega) (by omega) (fun c_2 => ?_) (fun c_2 => ?_)
    · skip
      refine r_iconst i_168_30 ?_
      refine r_go (t := 35) i_168_31 (by decide) ?_
      exact r_iret i_168_35 rfl (nar_Z (by omega)) (K 1 (by omega))
    · skip
      refine r_iload_n i_168_12 rfl ?_
      refine r_bipush i_168_13 (by decide) ?_
      refine r_ceq (t := 30) i_168_15 (by decide) (by omega) (by omega) (fun c_3 => ?_) (fun c_3 => ?_)
      · skip
        refine r_iconst i_168_30 ?_
        refine r_go (t := 35) i_168_31 (by decide) ?_
        exact r_iret i_168_35 rfl (nar_Z (by omega)) (K 1 (by omega))
      · skip
        refine r_iload_n i_168_18 rfl ?_
        refine r_bipush i_168_19 (by decide) ?_
        refine r_ceq (t := 30) i_168_21 (by decide) (by omega) (by omega) (fun c_4 => ?_) (fun c_4 => ?_)
        · skip
          refine r_iconst i_168_30 ?_
          refine r_go (t := 35) i_168_31 (by decide) ?_
          exact r_iret i_168_35 rfl (nar_Z (by omega)) (K 1 (by omega))
        · skip
          refine r_iload_n i_168_24 rfl ?_
          refine r_bipush i_168_25 (by decide) ?_
          refine r_cne (t := 34) i_168_27 (by decide) (by omega) (by omega) (fun c_5 => ?_) (fun c_5 => ?_)
          · skip
            refine r_iconst i_168_34 ?_
            exact r_iret i_168_35 rfl (nar_Z (by omega)) (K 0 (by omega))
          · skip
            refine r_iconst i_168_30 ?_
            refine r_go (t := 35) i_168_31 (by decide) ?_
            exact r_iret i_168_35 rfl (nar_Z (by omega)) (K 1 (by omega))
set_option maxHeartbeats 4000000 in
theorem c_180 {L : Nat} {xs : Nat → Int32} {ly : List LK} {F : Nat → Nat → Value} {G A : Nat → Nat → Int} {B : Nat → Nat → Int64} {Q : Option Value → AH → Prop} {p : Int} {kind : Int} {marks : Int} (hly : LyOk ly) (hF : RfOk F) (hG : GO G) (hA : AQ A) (in_p : inR p) (in_kind : inR kind) (in_marks : inR marks) (K : ∀ (r : Int), (r = (p * 8 + kind) * 169 + marks) → Q (some (V r)) (HP ly F G A B)) : Re L xs 180 0 [(0, V p), (1, V kind), (2, V marks)] [] (HP ly F G A B) Q := by
  refine r_iload_n i_180_0 rfl ?_
  refine r_bipush i_180_1 (by decide) ?_
  refine r_imul i_180_3 ?_
  refine r_iload_n i_180_4 rfl ?_
  refine r_iadd i_180_5 ?_
  refine r_sipush i_180_6 (by decide) ?_
  refine r_imul i_180_9 ?_
  refine r_iload_n i_180_10 rfl ?_
  refine r_iadd i_180_11 ?_
  exact r_iret i_180_12 rfl rfl (K ((((p * 8) + kind) * 169) + marks) (by omega))
set_option maxHeartbeats 4000000 in
theorem c_195 {L : Nat} {xs : Nat → Int32} {ly : List LK} {F : Nat → Nat → Value} {G A : Nat → Nat → Int} {B : Nat → Nat → Int64} {Q : Option Value → AH → Prop} {layer : Int} {kind : Int} {marks : Int} {over : Int} (hly : LyOk ly) (hF : RfOk F) (hG : GO G) (hA : AQ A) (in_layer : inR layer) (in_kind : inR kind) (in_marks : inR marks) (in_over : inR over) (K : ∀ (r : Int), (r = ((layer * 8 + kind) * 169 + marks) * 101 + over) → Q (some (V r)) (HP ly F G A B)) : Re L xs 195 0 [(0, V layer), (1, V kind), (2, V marks), (3, V over)] [] (HP ly F G A B) Q := by
  refine r_iload_n i_195_0 rfl ?_
  refine r_bipush i_195_1 (by decide) ?_
  refine r_imul i_195_3 ?_
  refine r_iload_n i_195_4 rfl ?_
  refine r_iadd i_195_5 ?_
  refine r_sipush i_195_6 (by decide) ?_
  refine r_imul i_195_9 ?_
  refine r_iload_n i_195_10 rfl ?_
  refine r_iadd i_195_11 ?_
  refine r_bipush i_195_12 (by decide) ?_
  refine r_imul i_195_14 ?_
  refine r_iload_n i_195_15 rfl ?_
  refine r_iadd i_195_16 ?_
  exact r_iret i_195_17 rfl rfl (K ((((((layer * 8) + kind) * 169) + marks) * 101) + over) (by omega))
set_option maxHeartbeats 4000000 in
theorem c_201 {L : Nat} {xs : Nat → Int32} {ly : List LK} {F : Nat → Nat → Value} {G A : Nat → Nat → Int} {B : Nat → Nat → Int64} {Q : Option Value → AH → Prop} {g : Int} (hly : LyOk ly) (hF : RfOk F) (hG : GO G) (hA : AQ A) (in_g : inR g) (K : ∀ (r : Int), (0 ≤ r ∧ r ≤ 1) → (r = 1 ↔ (0 ≤ g ∧ g ≤ 100)) → Q (some (V r)) (HP ly F G A B)) : Re L xs 201 0 [(0, V g)] [] (HP ly F G A B) Q := by
  refine r_iload_n i_201_0 rfl ?_
  refine r_lt0 (t := 14) i_201_1 (by decide) (by omega) (fun c_1 => ?_) (fun c_1 => ?_)
  · skip
    refine r_iconst i_201_14 ?_
    exact r_iret i_201_15 rfl (nar_Z (by omega)) (K 0 (by omega) (by omega))
  · skip
    refine r_iload_n i_201_4 rfl ?_
    refine r_bipush i_201_5 (by decide) ?_
    refine r_cgt (t := 14) i_201_7 (by decide) (by omega) (by omega) (fun c_2 => ?_) (fun c_2 => ?_)
    · skip
      refine r_iconst i_201_14 ?_
      exact r_iret i_201_15 rfl (nar_Z (by omega)) (K 0 (by omega) (by omega))
    · skip
      refine r_iconst i_201_10 ?_
      refine r_go (t := 15) i_201_11 (by decide) ?_
      exact r_iret i_201_15 rfl (nar_Z (by omega)) (K 1 (by omega) (by omega))
set_option maxHeartbeats 4000000 in
theorem c_140 {L : Nat} {xs : Nat → Int32} {ly : List LK} {F : Nat → Nat → Value} {G A : Nat → Nat → Int} {B : Nat → Nat → Int64} {Q : Option Value → AH → Prop}  (hly : LyOk ly) (hF : RfOk F) (hG : GO G) (hA : AQ A)  (K : ∀ (r : Int), (0 ≤ r ∧ r ≤ 1) → (r = 1 ↔ G 90 4 = 0) → Q (some (V r)) (HP ly F G A B)) : Re L xs 140 0 [(0, .ref 90)] [] (HP ly F G A B) Q := by
  refine r_aload_n i_140_0 rfl ?_
  refine r_getI i_140_1 rfl (hly 90 _ rfl) ?_
  have q_1 := g_90_4 hG
  refine r_ne0 (t := 11) i_140_4 (by decide) (by omega) (fun c_2 => ?_) (fun c_2 => ?_)
  · skip
    refine r_iconst i_140_11 ?_
    exact r_iret i_140_12 rfl (nar_Z (by omega)) (K 0 (by omega) (by omega))
  · skip
    refine r_iconst i_140_7 ?_
    refine r_go (t := 12) i_140_8 (by decide) ?_
    exact r_iret i_140_12 rfl (nar_Z (by omega)) (K 1 (by omega) (by omega))
set_option maxHeartbeats 4000000 in
theorem c_160 {L : Nat} {xs : Nat → Int32} {ly : List LK} {F : Nat → Nat → Value} {G A : Nat → Nat → Int} {B : Nat → Nat → Int64} {Q : Option Value → AH → Prop} {p : Int} (hly : LyOk ly) (hF : RfOk F) (hG : GO G) (hA : AQ A) (in_p : inR p) (K : ∀ (r : Int), (0 ≤ r ∧ r ≤ 1) → (r = 1 ↔ (0 ≤ p ∧ p < G 90 38)) → Q (some (V r)) (HP ly F G A B)) : Re L xs 160 0 [(0, .ref 90), (1, V p)] [] (HP ly F G A B) Q := by
  refine r_iload_n i_160_0 rfl ?_
  refine r_lt0 (t := 16) i_160_1 (by decide) (by omega) (fun c_1 => ?_) (fun c_1 => ?_)
  · skip
    refine r_iconst i_160_16 ?_
    exact r_iret i_160_17 rfl (nar_Z (by omega)) (K 0 (by omega) (by omega))
  · skip
    refine r_iload_n i_160_4 rfl ?_
    refine r_aload_n i_160_5 rfl ?_
    refine r_getI i_160_6 rfl (hly 90 _ rfl) ?_
    have q_2 := g_90_38 hG
    refine r_cge (t := 16) i_160_9 (by decide) (by omega) (by omega) (fun c_3 => ?_) (fun c_3 => ?_)
    · skip
      refine r_iconst i_160_16 ?_
      exact r_iret i_160_17 rfl (nar_Z (by omega)) (K 0 (by omega) (by omega))
    · skip
      refine r_iconst i_160_12 ?_
      refine r_go (t := 17) i_160_13 (by decide) ?_
      exact r_iret i_160_17 rfl (nar_Z (by omega)) (K 1 (by omega) (by omega))
set_option maxHeartbeats 4000000 in
theorem c_155 {L : Nat} {xs : Nat → Int32} {ly : List LK} {F : Nat → Nat → Value} {G A : Nat → Nat → Int} {B : Nat → Nat → Int64} {Q : Option Value → AH → Prop} {what : Int} (hly : LyOk ly) (hF : RfOk F) (hG : GO G) (hA : AQ A) (in_what : inR what) (K : ∀ (r : Int), Q (some (V r)) (HP ly F G A B)) : Re L xs 155 0 [(0, .ref 90), (1, V what)] [] (HP ly F G A B) Q := by
  refine r_iload_n i_155_0 rfl ?_
  refine r_ne0 (t := 11) i_155_1 (by decide) (by omega) (fun c_1 => ?_) (fun c_1 => ?_)
  · skip
    refine r_iload_n i_155_11 rfl ?_
    refine r_iconst i_155_12 ?_
    refine r_cne (t := 23) i_155_13 (by decide) (by omega) (by omega) (fun c_2 => ?_) (fun c_2 => ?_)
    · skip
      refine r_iconst i_155_23 ?_
      exact r_iret i_155_24 rfl rfl (K ((-1)))
    · skip
      refine r_aload_n i_155_16 rfl ?_
      refine r_getI i_155_17 rfl (hly 90 _ rfl) ?_
      have q_3 := g_90_5 hG
      refine r_go (t := 24) i_155_20 (by decide) ?_
      exact r_iret i_155_24 rfl rfl (K (G 90 5))
  · skip
    refine r_aload_n i_155_4 rfl ?_
    refine r_getI i_155_5 rfl (hly 90 _ rfl) ?_
    have q_4 := g_90_4 hG
    refine r_go (t := 24) i_155_8 (by decide) ?_
    exact r_iret i_155_24 rfl rfl (K (G 90 4))
set_option maxHeartbeats 4000000 in
theorem c_136 {L : Nat} {xs : Nat → Int32} {ly : List LK} {F : Nat → Nat → Value} {G A : Nat → Nat → Int} {B : Nat → Nat → Int64} {Q : Option Value → AH → Prop} {k : Int} (hly : LyOk ly) (hF : RfOk F) (hG : GO G) (hA : AQ A) (in_k : inR k) (h1 : 0 ≤ k) (K : ∀ (r : Int), (0 ≤ r ∧ r ≤ 255) → (r ≠ 0 → k < G 90 3) → (k < G 90 3 → r = A 92 k.toNat % 256) → (G 90 3 ≤ k → r = 0) → Q (some (V r)) (HP ly F G A B)) : Re L xs 136 0 [(0, .ref 90), (1, V k)] [] (HP ly F G A B) Q := by
  refine r_iload_n i_136_0 rfl ?_
  refine r_aload_n i_136_1 rfl ?_
  refine r_getI i_136_2 rfl (hly 90 _ rfl) ?_
  have q_1 := g_90_3 hG
  refine r_cge (t := 21) i_136_5 (by decide) (by omega) (by omega) (fun c_2 => ?_) (fun c_2 => ?_)
  · skip
    refine r_iconst i_136_21 ?_
    exact r_iret i_136_22 rfl rfl (K 0 (by omega) (by omega) (by omega) (by omega))
  · skip
    refine r_aload_n i_136_8 rfl ?_
    refine r_getF (v := .ref 92) i_136_9 rfl (hly 90 _ rfl) (hF.1 90 1 92 rfl) ?_
    refine r_iload_n i_136_12 rfl ?_
    refine r_bald i_136_13 (hly 92 _ rfl) (by omega) (by omega) (by omega) ?_
    have q_3 := a_92 hA (k.toNat)
    refine r_sipush i_136_14 (by decide) ?_
    refine r_bin (z := (A 92 (k.toNat)) % 256) i_136_17 rfl (and255 _) ?_
    refine r_go (t := 22) i_136_18 (by decide) ?_
    exact r_iret i_136_22 rfl rfl (K ((A 92 (k.toNat)) % 256) (by omega) (by omega) (by omega) (by omega))
set_option maxHeartbeats 4000000 in
theorem c_144 {L : Nat} {xs : Nat → Int32} {ly : List LK} {F : Nat → Nat → Value} {G A : Nat → Nat → Int} {B : Nat → Nat → Int64} {Q : Option Value → AH → Prop} {kind : Int} {place : Int} (hly : LyOk ly) (hF : RfOk F) (hG : GO G) (hA : AQ A) (in_kind : inR kind) (in_place : inR place) (h1 : 1 ≤ kind ∧ kind ≤ 5) (h2 : -1 ≤ place ∧ place ≤ 2001) (K : ∀ (G' : Nat → Nat → Int), (GO G') → (∀ a k, ¬ ((a = 90 ∧ k = 4) ∨ (a = 90 ∧ k = 5)) → G' a k = G a k) → (G' 90 4 ≠ 0) → Q none (HP ly F G' A B)) : Re L xs 144 0 [(0, .ref 90), (1, V kind), (2, V place)] [] (HP ly F G A B) Q := by
  refine r_aload_n i_144_0 rfl ?_
  refine r_getI i_144_1 rfl (hly 90 _ rfl) ?_
  have q_1 := g_90_4 hG
  refine r_le0 (t := 8) i_144_4 (by decide) (by omega) (fun c_2 => ?_) (fun c_2 => ?_)
  · skip
    refine r_aload_n i_144_8 rfl ?_
    refine r_iload_n i_144_9 rfl ?_
    refine r_putIQ i_144_10 (by decide +kernel) (hly 90 _ rfl) (fun G_3 eG_3 => ?_)
    have hG_3 : GO G_3 := by rw [eG_3]; exact gu_90_4 hG (by omega) (by omega)
    refine r_aload_n i_144_13 rfl ?_
    refine r_iload_n i_144_14 rfl ?_
    refine r_putIQ i_144_15 (by decide +kernel) (hly 90 _ rfl) (fun G_4 eG_4 => ?_)
    have hG_4 : GO G_4 := by rw [eG_4]; exact gu_90_5 hG_3 (by omega) (by omega)
    exact r_vret i_144_18 rfl (K G_4 hG_4 (by intro a k hh; rw [eG_4, up2_n (by omega), eG_3, up2_n (by omega)]) (by rw [show G_4 90 4 = kind from by rw [eG_4, up2_n (by omega), eG_3, up2_s]] <;> omega))
  · skip
    exact r_vret i_144_7 rfl (K G hG (by intro a k hh; rfl) (by omega))
set_option maxHeartbeats 4000000 in
theorem c_158 {L : Nat} {xs : Nat → Int32} {ly : List LK} {F : Nat → Nat → Value} {G A : Nat → Nat → Int} {B : Nat → Nat → Int64} {Q : Option Value → AH → Prop} {weight : Int} (hly : LyOk ly) (hF : RfOk F) (hG : GO G) (hA : AQ A) (in_weight : inR weight) (K : ∀ (r : Int) (G' : Nat → Nat → Int), (GO G') → (∀ a k, ¬ ((a = 90 ∧ k = 45) ∨ (a = 90 ∧ k = 53)) → G' a k = G a k) → (0 ≤ r ∧ r ≤ 1) → (r = 1 ↔ (-1 ≤ weight ∧ weight ≤ 400)) → Q (some (V r)) (HP ly F G' A B)) : Re L xs 158 0 [(0, .ref 90), (1, V weight)] [] (HP ly F G A B) Q := by
  refine r_iload_n i_158_0 rfl ?_
  refine r_iconst i_158_1 ?_
  refine r_clt (t := 12) i_158_2 (by decide) (by omega) (by omega) (fun c_1 => ?_) (fun c_1 => ?_)
  · skip
    refine r_iconst i_158_12 ?_
    exact r_iret i_158_13 rfl (nar_Z (by omega)) (K 0 G hG (by intro a k hh; rfl) (by omega) (by omega))
  · skip
    refine r_iload_n i_158_5 rfl ?_
    refine r_sipush i_158_6 (by decide) ?_
    refine r_cle (t := 14) i_158_9 (by decide) (by omega) (by omega) (fun c_2 => ?_) (fun c_2 => ?_)
    · skip
      refine r_aload_n i_158_14 rfl ?_
      refine r_iload_n i_158_15 rfl ?_
      refine r_putIQ i_158_16 (by decide +kernel) (hly 90 _ rfl) (fun G_3 eG_3 => ?_)
      have hG_3 : GO G_3 := by rw [eG_3]; exact gu_90_45 hG (by omega) (by omega)
      refine r_aload_n i_158_19 rfl ?_
      refine r_iconst i_158_20 ?_
      refine r_putZQ i_158_21 (by decide +kernel) (hly 90 _ rfl) (by omega) (fun G_4 eG_4 => ?_)
      have hG_4 : GO G_4 := by rw [eG_4]; exact gu_90_53 hG_3 (by omega) (by omega)
      refine r_iconst i_158_24 ?_
      exact r_iret i_158_25 rfl (nar_Z (by omega)) (K 1 G_4 hG_4 (by intro a k hh; rw [eG_4, up2_n (by omega), eG_3, up2_n (by omega)]) (by omega) (by omega))
    · skip
      refine r_iconst i_158_12 ?_
      exact r_iret i_158_13 rfl (nar_Z (by omega)) (K 0 G hG (by intro a k hh; rfl) (by omega) (by omega))
set_option maxHeartbeats 4000000 in
theorem c_211 {L : Nat} {xs : Nat → Int32} {ly : List LK} {F : Nat → Nat → Value} {G A : Nat → Nat → Int} {B : Nat → Nat → Int64} {Q : Option Value → AH → Prop} {n : Int} (hly : LyOk ly) (hF : RfOk F) (hG : GO G) (hA : AQ A) (in_n : inR n) (K : ∀ (r : Int) (G' : Nat → Nat → Int), (GO G') → (∀ a k, ¬ ((a = 90 ∧ k = 2)) → G' a k = G a k) → Q (some (V r)) (HP ly F G' A B)) : Re L xs 211 0 [(0, .ref 90), (1, V n)] [] (HP ly F G A B) Q := by
  refine r_iload_n i_211_0 rfl ?_
  refine r_lt0 (t := 12) i_211_1 (by decide) (by omega) (fun c_1 => ?_) (fun c_1 => ?_)
  · skip
    refine r_iconst i_211_12 ?_
    exact r_iret i_211_13 rfl rfl (K ((-1)) G hG (by intro a k hh; rfl))
  · skip
    refine r_iload_n i_211_4 rfl ?_
    refine r_aload_n i_211_5 rfl ?_
    refine r_getI i_211_6 rfl (hly 90 _ rfl) ?_
    have q_2 := g_90_2 hG
    refine r_cle (t := 14) i_211_9 (by decide) (by omega) (by omega) (fun c_3 => ?_) (fun c_3 => ?_)
    · skip
      refine r_aload_n i_211_14 rfl ?_
      refine r_iload_n i_211_15 rfl ?_
      refine r_putIQ i_211_16 (by decide +kernel) (hly 90 _ rfl) (fun G_4 eG_4 => ?_)
      have hG_4 : GO G_4 := by rw [eG_4]; exact gu_90_2 hG (by omega) (by omega)
      refine r_iload_n i_211_19 rfl ?_
      exact r_iret i_211_20 rfl rfl (K n G_4 hG_4 (by intro a k hh; rw [eG_4, up2_n (by omega)]))
    · skip
      refine r_iconst i_211_12 ?_
      exact r_iret i_211_13 rfl rfl (K ((-1)) G hG (by intro a k hh; rfl))
