set_option maxHeartbeats 4000000 in
theorem c_26 {L : Nat} {xs : Nat → Int32} {ly : List LK} {F : Nat → Nat → Value} {G A : Nat → Nat → Int} {B : Nat → Nat → Int64} {Q : Option Value → AH → Prop} {c : Int} (hly : LyOk ly) (hF : RfOk F) (hG : GO G) (hA : AQ A) (in_c : inR c) (K : ∀ (r : Int), (0 ≤ r ∧ r ≤ 1) → Q (some (V r)) (HP ly F G A B)) : Re L xs 26 0 [(0, V c)] [] (HP ly F G A B) Q := by
  refine r_iload_n i_26_0 rfl ?_
  refine r_bipush i_26_1 (by decide) ?_
  refine r_clt (t := 16) i_26_3 (by decide) (by omega) (by omega) (fun u_1 => ?_) (fun u_1 => ?_)
  · skip
    refine r_iconst i_26_16 ?_
    exact r_iret i_26_17 rfl (nar_Z (by omega)) (K 0 (by omega))
  · skip
    refine r_iload_n i_26_6 rfl ?_
    refine r_bipush i_26_7 (by decide) ?_
    refine r_cgt (t := 16) i_26_9 (by decide) (by omega) (by omega) (fun u_2 => ?_) (fun u_2 => ?_)
    · skip
      refine r_iconst i_26_16 ?_
      exact r_iret i_26_17 rfl (nar_Z (by omega)) (K 0 (by omega))
    · skip
      refine r_iconst i_26_12 ?_
      refine r_go (t := 17) i_26_13 (by decide) ?_
      exact r_iret i_26_17 rfl (nar_Z (by omega)) (K 1 (by omega))
set_option maxHeartbeats 4000000 in
theorem c_43 {L : Nat} {xs : Nat → Int32} {ly : List LK} {F : Nat → Nat → Value} {G A : Nat → Nat → Int} {B : Nat → Nat → Int64} {Q : Option Value → AH → Prop} {c : Int} (hly : LyOk ly) (hF : RfOk F) (hG : GO G) (hA : AQ A) (in_c : inR c) (K : ∀ (r : Int), (0 ≤ r ∧ r ≤ 1) → Q (some (V r)) (HP ly F G A B)) : Re L xs 43 0 [(0, V c)] [] (HP ly F G A B) Q := by
  refine r_iload_n i_43_0 rfl ?_
  refine r_bipush i_43_1 (by decide) ?_
  refine r_clt (t := 12) i_43_3 (by decide) (by omega) (by omega) (fun u_1 => ?_) (fun u_1 => ?_)
  · skip
    refine r_iload_n i_43_12 rfl ?_
    refine r_bipush i_43_13 (by decide) ?_
    refine r_clt (t := 28) i_43_15 (by decide) (by omega) (by omega) (fun u_2 => ?_) (fun u_2 => ?_)
    · skip
      refine r_iconst i_43_28 ?_
      exact r_iret i_43_29 rfl (nar_Z (by omega)) (K 0 (by omega))
    · skip
      refine r_iload_n i_43_18 rfl ?_
      refine r_bipush i_43_19 (by decide) ?_
      refine r_cgt (t := 28) i_43_21 (by decide) (by omega) (by omega) (fun u_3 => ?_) (fun u_3 => ?_)
      · skip
        refine r_iconst i_43_28 ?_
        exact r_iret i_43_29 rfl (nar_Z (by omega)) (K 0 (by omega))
      · skip
        refine r_iconst i_43_24 ?_
        refine r_go (t := 29) i_43_25 (by decide) ?_
        exact r_iret i_43_29 rfl (nar_Z (by omega)) (K 1 (by omega))
  · skip
    refine r_iload_n i_43_6 rfl ?_
    refine r_bipush i_43_7 (by decide) ?_
    refine r_cle (t := 24) i_43_9 (by decide) (by omega) (by omega) (fun u_4 => ?_) (fun u_4 => ?_)
    · skip
      refine r_iconst i_43_24 ?_
      refine r_go (t := 29) i_43_25 (by decide) ?_
      exact r_iret i_43_29 rfl (nar_Z (by omega)) (K 1 (by omega))
    · skip
      refine r_iload_n i_43_12 rfl ?_
      refine r_bipush i_43_13 (by decide) ?_
      refine r_clt (t := 28) i_43_15 (by decide) (by omega) (by omega) (fun u_5 => ?_) (fun u_5 => ?_)
      · skip
        refine r_iconst i_43_28 ?_
        exact r_iret i_43_29 rfl (nar_Z (by omega)) (K 0 (by omega))
      · skip
        refine r_iload_n i_43_18 rfl ?_
        refine r_bipush i_43_19 (by decide) ?_
        refine r_cgt (t := 28) i_43_21 (by decide) (by omega) (by omega) (fun u_6 => ?_) (fun u_6 => ?_)
        · skip
          refine r_iconst i_43_28 ?_
          exact r_iret i_43_29 rfl (nar_Z (by omega)) (K 0 (by omega))
        · skip
          refine r_iconst i_43_24 ?_
          refine r_go (t := 29) i_43_25 (by decide) ?_
          exact r_iret i_43_29 rfl (nar_Z (by omega)) (K 1 (by omega))
set_option maxHeartbeats 4000000 in
theorem c_46 {L : Nat} {xs : Nat → Int32} {ly : List LK} {F : Nat → Nat → Value} {G A : Nat → Nat → Int} {B : Nat → Nat → Int64} {Q : Option Value → AH → Prop} {c : Int} (hly : LyOk ly) (hF : RfOk F) (hG : GO G) (hA : AQ A) (in_c : inR c) (K : ∀ (r : Int), (0 ≤ r ∧ r ≤ 1) → (r = 1 → 48 ≤ c ∧ c ≤ 57) → Q (some (V r)) (HP ly F G A B)) : Re L xs 46 0 [(0, V c)] [] (HP ly F G A B) Q := by
  refine r_iload_n i_46_0 rfl ?_
  refine r_bipush i_46_1 (by decide) ?_
  refine r_clt (t := 16) i_46_3 (by decide) (by omega) (by omega) (fun u_1 => ?_) (fun u_1 => ?_)
  · skip
    refine r_iconst i_46_16 ?_
    exact r_iret i_46_17 rfl (nar_Z (by omega)) (K 0 (by omega) (by omega))
  · skip
    refine r_iload_n i_46_6 rfl ?_
    refine r_bipush i_46_7 (by decide) ?_
    refine r_cgt (t := 16) i_46_9 (by decide) (by omega) (by omega) (fun u_2 => ?_) (fun u_2 => ?_)
    · skip
      refine r_iconst i_46_16 ?_
      exact r_iret i_46_17 rfl (nar_Z (by omega)) (K 0 (by omega) (by omega))
    · skip
      refine r_iconst i_46_12 ?_
      refine r_go (t := 17) i_46_13 (by decide) ?_
      exact r_iret i_46_17 rfl (nar_Z (by omega)) (K 1 (by omega) (by omega))
set_option maxHeartbeats 4000000 in
theorem c_104 {L : Nat} {xs : Nat → Int32} {ly : List LK} {F : Nat → Nat → Value} {G A : Nat → Nat → Int} {B : Nat → Nat → Int64} {Q : Option Value → AH → Prop} {g : Int} (hly : LyOk ly) (hF : RfOk F) (hG : GO G) (hA : AQ A) (in_g : inR g) (K : ∀ (r : Int), (0 ≤ r ∧ r ≤ 1) → (r = 1 ↔ (0 ≤ g ∧ g ≤ 100)) → Q (some (V r)) (HP ly F G A B)) : Re L xs 104 0 [(0, V g)] [] (HP ly F G A B) Q := by
  refine r_iload_n i_104_0 rfl ?_
  refine r_lt0 (t := 14) i_104_1 (by decide) (by omega) (fun u_1 => ?_) (fun u_1 => ?_)
  · skip
    refine r_iconst i_104_14 ?_
    exact r_iret i_104_15 rfl (nar_Z (by omega)) (K 0 (by omega) (by omega))
  · skip
    refine r_iload_n i_104_4 rfl ?_
    refine r_bipush i_104_5 (by decide) ?_
    refine r_cgt (t := 14) i_104_7 (by decide) (by omega) (by omega) (fun u_2 => ?_) (fun u_2 => ?_)
    · skip
      refine r_iconst i_104_14 ?_
      exact r_iret i_104_15 rfl (nar_Z (by omega)) (K 0 (by omega) (by omega))
    · skip
      refine r_iconst i_104_10 ?_
      refine r_go (t := 15) i_104_11 (by decide) ?_
      exact r_iret i_104_15 rfl (nar_Z (by omega)) (K 1 (by omega) (by omega))
set_option maxHeartbeats 4000000 in
theorem c_16 {L : Nat} {xs : Nat → Int32} {ly : List LK} {F : Nat → Nat → Value} {G A : Nat → Nat → Int} {B : Nat → Nat → Int64} {Q : Option Value → AH → Prop} {f : Nat} {index : Int} (hly : LyOk ly) (hF : RfOk F) (hG : GO G) (hA : AQ A) (in_index : inR index) (K : ∀ (r : Int), (r = index * 12) → Q (some (V r)) (HP ly F G A B)) : Re L xs 16 0 [(0, .ref f), (1, V index)] [] (HP ly F G A B) Q := by
  refine r_iload_n i_16_0 rfl ?_
  refine r_bipush i_16_1 (by decide) ?_
  refine r_imul i_16_3 ?_
  exact r_iret i_16_4 rfl rfl (K (index * 12) (by omega))
set_option maxHeartbeats 4000000 in
theorem c_22 {L : Nat} {xs : Nat → Int32} {ly : List LK} {F : Nat → Nat → Value} {G A : Nat → Nat → Int} {B : Nat → Nat → Int64} {Q : Option Value → AH → Prop} {ra : Nat} {p : Int} {rc : Nat} {q : Int} {n : Int} {capa capc : Nat} (hly : LyOk ly) (hF : RfOk F) (hG : GO G) (hA : AQ A) (in_p : inR p) (in_q : inR q) (in_n : inR n) (hla : ly[ra]? = some (.inr (.char, capa))) (hlc : ly[rc]? = some (.inr (.char, capc))) (hra : ∀ i, 0 ≤ A ra i ∧ A ra i ≤ 255) (hrc : ∀ i, 0 ≤ A rc i ∧ A rc i ≤ 255) (hc : capa ≤ 5000 ∧ capc ≤ 5000) (hp : 0 ≤ p ∧ 0 ≤ q ∧ p + n ≤ capa ∧ q + n ≤ capc) (hn : n ≤ 1000) (K : ∀ (r : Int), (0 ≤ r ∧ r ≤ 1) → Q (some (V r)) (HP ly F G A B)) : Re L xs 22 0 [(0, .ref ra), (1, V p), (2, .ref rc), (3, V q), (4, V n)] [] (HP ly F G A B) Q := by
  refine r_iconst i_22_0 ?_
  refine r_istore (l' := [(0, .ref ra), (1, V p), (2, .ref rc), (3, V q), (4, V n), (5, V 0)]) i_22_1 (by decide +kernel) rfl ?_
  have lp3B : ∀ (nf : Nat) (k : Int), (0 ≤ k ∧ (k ≤ n ∨ k ≤ 0)) → (n - k).toNat < nf → Re L xs 22 3 [(0, .ref ra), (1, V p), (2, .ref rc), (3, V q), (4, V n), (5, V k)] [] (HP ly F G A B) Q := by
    intro nf
    induction nf with
    | zero => intros; omega
    | succ nf ih3B =>
      intro k  hk hm3
      refine r_iload i_22_3 rfl ?_
      refine r_iload i_22_5 rfl ?_
      refine r_cge (t := 39) i_22_7 (by decide) (by omega) (by omega) (fun u_1 => ?_) (fun u_1 => ?_)
      · skip
        refine r_iconst i_22_39 ?_
        exact r_iret i_22_40 rfl (nar_Z (by omega)) (K 1 (by omega))
      · skip
        refine r_aload_n i_22_10 rfl ?_
        refine r_iload_n i_22_11 rfl ?_
        refine r_iload i_22_12 rfl ?_
        refine r_iadd i_22_14 ?_
        refine r_cald i_22_15 (hla) (by omega) (by omega) (by omega) ?_
        have q_2 := hra ((p + k).toNat)
        refine r_bipush i_22_16 (by decide) ?_
        refine r_bin (z := (Int32.ofInt (A ra ((p + k).toNat)) ||| Int32.ofInt 32).toInt) i_22_18 rfl (oI_of _) ?_
        have hz1 : inR ((Int32.ofInt (A ra ((p + k).toNat)) ||| Int32.ofInt 32).toInt) := x_rng _
        refine r_aload_n i_22_19 rfl ?_
        refine r_iload_n i_22_20 rfl ?_
        refine r_iload i_22_21 rfl ?_
        refine r_iadd i_22_23 ?_
        refine r_cald i_22_24 (hlc) (by omega) (by omega) (by omega) ?_
        have q_3 := hrc ((q + k).toNat)
        refine r_bipush i_22_25 (by decide) ?_
        refine r_bin (z := (Int32.ofInt (A rc ((q + k).toNat)) ||| Int32.ofInt 32).toInt) i_22_27 rfl (oI_of _) ?_
        have hz2 : inR ((Int32.ofInt (A rc ((q + k).toNat)) ||| Int32.ofInt 32).toInt) := x_rng _
        refine r_ceq (t := 33) i_22_28 (by decide) (by omega) (by omega) (fun u_4 => ?_) (fun u_4 => ?_)
        · skip
          refine r_iinc (l' := [(0, .ref ra), (1, V p), (2, .ref rc), (3, V q), (4, V n), (5, V (k + 1))]) i_22_33 rfl (by decide +kernel) rfl ?_
          refine r_go (t := 3) i_22_36 (by decide) ?_
          exact ih3B (k + 1)  (by omega) (by omega)
        · skip
          refine r_iconst i_22_31 ?_
          exact r_iret i_22_32 rfl (nar_Z (by omega)) (K 0 (by omega))
  exact lp3B _ 0  (by omega) (Nat.lt_succ_self _)
set_option maxHeartbeats 4000000 in
theorem c_30 {L : Nat} {xs : Nat → Int32} {ly : List LK} {F : Nat → Nat → Value} {G A : Nat → Nat → Int} {B : Nat → Nat → Int64} {Q : Option Value → AH → Prop} {ra : Nat} {p : Int} {rc : Nat} {q : Int} {n : Int} {capa capc : Nat} (hly : LyOk ly) (hF : RfOk F) (hG : GO G) (hA : AQ A) (in_p : inR p) (in_q : inR q) (in_n : inR n) (hla : ly[ra]? = some (.inr (.char, capa))) (hlc : ly[rc]? = some (.inr (.char, capc))) (hra : ∀ i, 0 ≤ A ra i ∧ A ra i ≤ 255) (hrc : ∀ i, 0 ≤ A rc i ∧ A rc i ≤ 255) (hc : capa ≤ 5000 ∧ capc ≤ 5000) (hp : 0 ≤ p ∧ 0 ≤ q ∧ p + n ≤ capa ∧ q + n ≤ capc) (hn : n ≤ 1000) (K : ∀ (r : Int), (0 ≤ r ∧ r ≤ 1) → Q (some (V r)) (HP ly F G A B)) : Re L xs 30 0 [(0, .ref ra), (1, V p), (2, .ref rc), (3, V q), (4, V n)] [] (HP ly F G A B) Q := by
  refine r_iconst i_30_0 ?_
  refine r_istore (l' := [(0, .ref ra), (1, V p), (2, .ref rc), (3, V q), (4, V n), (5, V 0)]) i_30_1 (by decide +kernel) rfl ?_
  have lp3B : ∀ (nf : Nat) (k : Int), (0 ≤ k ∧ (k ≤ n ∨ k ≤ 0)) → (n - k).toNat < nf → Re L xs 30 3 [(0, .ref ra), (1, V p), (2, .ref rc), (3, V q), (4, V n), (5, V k)] [] (HP ly F G A B) Q := by
    intro nf
    induction nf with
    | zero => intros; omega
    | succ nf ih3B =>
      intro k  hk hm3
      refine r_iload i_30_3 rfl ?_
      refine r_iload i_30_5 rfl ?_
      refine r_cge (t := 33) i_30_7 (by decide) (by omega) (by omega) (fun u_1 => ?_) (fun u_1 => ?_)
      · skip
        refine r_iconst i_30_33 ?_
        exact r_iret i_30_34 rfl (nar_Z (by omega)) (K 1 (by omega))
      · skip
        refine r_aload_n i_30_10 rfl ?_
        refine r_iload_n i_30_11 rfl ?_
        refine r_iload i_30_12 rfl ?_
        refine r_iadd i_30_14 ?_
        refine r_cald i_30_15 (hla) (by omega) (by omega) (by omega) ?_
        have q_2 := hra ((p + k).toNat)
        refine r_aload_n i_30_16 rfl ?_
        refine r_iload_n i_30_17 rfl ?_
        refine r_iload i_30_18 rfl ?_
        refine r_iadd i_30_20 ?_
        refine r_cald i_30_21 (hlc) (by omega) (by omega) (by omega) ?_
        have q_3 := hrc ((q + k).toNat)
        refine r_ceq (t := 27) i_30_22 (by decide) (by omega) (by omega) (fun u_4 => ?_) (fun u_4 => ?_)
        · skip
          refine r_iinc (l' := [(0, .ref ra), (1, V p), (2, .ref rc), (3, V q), (4, V n), (5, V (k + 1))]) i_30_27 rfl (by decide +kernel) rfl ?_
          refine r_go (t := 3) i_30_30 (by decide) ?_
          exact ih3B (k + 1)  (by omega) (by omega)
        · skip
          refine r_iconst i_30_25 ?_
          exact r_iret i_30_26 rfl (nar_Z (by omega)) (K 0 (by omega))
  exact lp3B _ 0  (by omega) (Nat.lt_succ_self _)
set_option maxHeartbeats 4000000 in
theorem c_25 {L : Nat} {xs : Nat → Int32} {ly : List LK} {F : Nat → Nat → Value} {G A : Nat → Nat → Int} {B : Nat → Nat → Int64} {Q : Option Value → AH → Prop} {ra : Nat} {p : Int} {rc : Nat} {q : Int} {n : Int} {capa capc : Nat} (hly : LyOk ly) (hF : RfOk F) (hG : GO G) (hA : AQ A) (in_p : inR p) (in_q : inR q) (in_n : inR n) (hla : ly[ra]? = some (.inr (.char, capa))) (hlc : ly[rc]? = some (.inr (.char, capc))) (hra : ∀ i, 0 ≤ A ra i ∧ A ra i ≤ 255) (hrc : ∀ i, 0 ≤ A rc i ∧ A rc i ≤ 255) (hc : capa ≤ 5000 ∧ capc ≤ 5000) (hp : 0 ≤ p ∧ 0 ≤ q ∧ p + n ≤ capa ∧ q + n ≤ capc) (hn : n ≤ 1000) (K : ∀ (r : Int), (0 ≤ r ∧ r ≤ 1) → Q (some (V r)) (HP ly F G A B)) : Re L xs 25 0 [(0, .ref ra), (1, V p), (2, .ref rc), (3, V q), (4, V n)] [] (HP ly F G A B) Q := by
  refine r_iconst i_25_0 ?_
  refine r_istore (l' := [(0, .ref ra), (1, V p), (2, .ref rc), (3, V q), (4, V n), (5, V 0)]) i_25_1 (by decide +kernel) rfl ?_
  have lp3B : ∀ (nf : Nat) (k : Int), (0 ≤ k ∧ (k ≤ n ∨ k ≤ 0)) → (n - k).toNat < nf → Re L xs 25 3 [(0, .ref ra), (1, V p), (2, .ref rc), (3, V q), (4, V n), (5, V k)] [] (HP ly F G A B) Q := by
    intro nf
    induction nf with
    | zero => intros; omega
    | succ nf ih3B =>
      intro k  hk hm3
      refine r_iload i_25_3 rfl ?_
      refine r_iload i_25_5 rfl ?_
      refine r_cge (t := 42) i_25_7 (by decide) (by omega) (by omega) (fun u_1 => ?_) (fun u_1 => ?_)
      · skip
        refine r_iconst i_25_42 ?_
        exact r_iret i_25_43 rfl (nar_Z (by omega)) (K 1 (by omega))
      · skip
        refine r_aload_n i_25_10 rfl ?_
        refine r_iload_n i_25_11 rfl ?_
        refine r_iload i_25_12 rfl ?_
        refine r_iadd i_25_14 ?_
        refine r_cald i_25_15 (hlc) (by omega) (by omega) (by omega) ?_
        have q_2 := hrc ((q + k).toNat)
        refine r_cS (as := [V (A rc ((q + k).toNat))]) i_25_16 rfl (by decide +kernel) (Nat.le_of_ble_eq_true rfl) (Nat.le_of_ble_eq_true rfl) ?_
        refine c_26 (c := A rc ((q + k).toNat)) hly hF hG hA (by omega) (fun r_3 p3_0 => ?_)
        show Re L xs 25 19 [(0, .ref ra), (1, V p), (2, .ref rc), (3, V q), (4, V n), (5, V k)] [V r_3] (HP ly F G A B) _
        refine r_eq0 (t := 36) i_25_19 (by decide) (by omega) (fun u_4 => ?_) (fun u_4 => ?_)
        · skip
          refine r_iinc (l' := [(0, .ref ra), (1, V p), (2, .ref rc), (3, V q), (4, V n), (5, V (k + 1))]) i_25_36 rfl (by decide +kernel) rfl ?_
          refine r_go (t := 3) i_25_39 (by decide) ?_
          exact ih3B (k + 1)  (by omega) (by omega)
        · skip
          refine r_aload_n i_25_22 rfl ?_
          refine r_iload_n i_25_23 rfl ?_
          refine r_iload i_25_24 rfl ?_
          refine r_iadd i_25_26 ?_
          refine r_cald i_25_27 (hla) (by omega) (by omega) (by omega) ?_
          have q_5 := hra ((p + k).toNat)
          refine r_cS (as := [V (A ra ((p + k).toNat))]) i_25_28 rfl (by decide +kernel) (Nat.le_of_ble_eq_true rfl) (Nat.le_of_ble_eq_true rfl) ?_
          refine c_26 (c := A ra ((p + k).toNat)) hly hF hG hA (by omega) (fun r_6 p6_0 => ?_)
          show Re L xs 25 31 [(0, .ref ra), (1, V p), (2, .ref rc), (3, V q), (4, V n), (5, V k)] [V r_6] (HP ly F G A B) _
          refine r_ne0 (t := 36) i_25_31 (by decide) (by omega) (fun u_7 => ?_) (fun u_7 => ?_)
          · skip
            refine r_iinc (l' := [(0, .ref ra), (1, V p), (2, .ref rc), (3, V q), (4, V n), (5, V (k + 1))]) i_25_36 rfl (by decide +kernel) rfl ?_
            refine r_go (t := 3) i_25_39 (by decide) ?_
            exact ih3B (k + 1)  (by omega) (by omega)
          · skip
            refine r_iconst i_25_34 ?_
            exact r_iret i_25_35 rfl (nar_Z (by omega)) (K 0 (by omega))
  exact lp3B _ 0  (by omega) (Nat.lt_succ_self _)
set_option maxHeartbeats 4000000 in
theorem c_21 {L : Nat} {xs : Nat → Int32} {ly : List LK} {F : Nat → Nat → Value} {G A : Nat → Nat → Int} {B : Nat → Nat → Int64} {Q : Option Value → AH → Prop} {f : Nat} {index : Int} {ta : Nat} {at' : Int} {length : Int} {cap tn : Nat} (hly : LyOk ly) (hF : RfOk F) (hG : GO G) (hA : AQ A) (in_index : inR index) (in_at' : inR at') (in_length : inR length) (hf : Fm f cap) (hi : 0 ≤ index ∧ index < (cap : Int)) (hlt : ly[ta]? = some (.inr (.char, tn))) (hrt : ∀ i, 0 ≤ A ta i ∧ A ta i ≤ 255) (htn : tn ≤ 5000) (hat : 0 ≤ at' ∧ at' + length ≤ tn) (hle : length ≤ 12) (K : ∀ (r : Int), (0 ≤ r ∧ r ≤ 1) → Q (some (V r)) (HP ly F G A B)) : Re L xs 21 0 [(0, .ref f), (1, V index), (2, .ref ta), (3, V (at')), (4, V length)] [] (HP ly F G A B) Q := by
  have hcap := Fm_cap hf
  refine r_aload_n i_21_0 rfl ?_
  refine r_getF (v := .ref (f + 2)) i_21_1 rfl (Lf_0 hly hf) (Rf_0_1 hF hf) ?_
  refine r_iload_n i_21_4 rfl ?_
  refine r_iald i_21_5 (Lf_2 hly hf) (by omega) (by omega) (by omega) ?_
  have q_1 := Af_2 hA hf (index.toNat)
  refine r_iload i_21_6 rfl ?_
  refine r_cne (t := 34) i_21_8 (by decide) (by omega) (by omega) (fun u_2 => ?_) (fun u_2 => ?_)
  · skip
    refine r_iconst i_21_34 ?_
    exact r_iret i_21_35 rfl (nar_Z (by omega)) (K 0 (by omega))
  · skip
    refine r_aload_n i_21_11 rfl ?_
    refine r_getF (v := .ref (f + 1)) i_21_12 rfl (Lf_0 hly hf) (Rf_0_0 hF hf) ?_
    refine r_aload_n i_21_15 rfl ?_
    refine r_iload_n i_21_16 rfl ?_
    refine r_cV (as := [V index]) i_21_17 rfl (by decide +kernel) (Nat.le_of_ble_eq_true rfl) (Nat.le_of_ble_eq_true rfl) (Lf_0 hly hf) rfl ?_
    refine c_16 (f := f) (index := index) hly hF hG hA (by omega) (fun r_3 p3_0 => ?_)
    show Re L xs 21 20 [(0, .ref f), (1, V index), (2, .ref ta), (3, V (at')), (4, V length)] [V r_3, .ref (f + 1)] (HP ly F G A B) _
    refine r_aload_n i_21_20 rfl ?_
    refine r_iload_n i_21_21 rfl ?_
    refine r_iload i_21_22 rfl ?_
    refine r_cS (as := [V length, V (at'), .ref ta, V r_3, .ref (f + 1)]) i_21_24 rfl (by decide +kernel) (Nat.le_of_ble_eq_true rfl) (Nat.le_of_ble_eq_true rfl) ?_
    refine c_22 (ra := f + 1) (p := r_3) (rc := ta) (q := at') (n := length) (capa := 12 * cap) (capc := tn) hly hF hG hA (by omega) (by omega) (by omega) (by exact Lf_1 hly hf) (by exact hlt) (by exact fun i => Af_1 hA hf i) (by exact hrt) (by omega) (by omega) (by omega) (fun r_4 p4_0 => ?_)
    show Re L xs 21 27 [(0, .ref f), (1, V index), (2, .ref ta), (3, V (at')), (4, V length)] [V r_4] (HP ly F G A B) _
    refine r_eq0 (t := 34) i_21_27 (by decide) (by omega) (fun u_5 => ?_) (fun u_5 => ?_)
    · skip
      refine r_iconst i_21_34 ?_
      exact r_iret i_21_35 rfl (nar_Z (by omega)) (K 0 (by omega))
    · skip
      refine r_iconst i_21_30 ?_
      refine r_go (t := 35) i_21_31 (by decide) ?_
      exact r_iret i_21_35 rfl (nar_Z (by omega)) (K 1 (by omega))
set_option maxHeartbeats 4000000 in
theorem c_29 {L : Nat} {xs : Nat → Int32} {ly : List LK} {F : Nat → Nat → Value} {G A : Nat → Nat → Int} {B : Nat → Nat → Int64} {Q : Option Value → AH → Prop} {f : Nat} {index : Int} {ta : Nat} {at' : Int} {length : Int} {cap tn : Nat} (hly : LyOk ly) (hF : RfOk F) (hG : GO G) (hA : AQ A) (in_index : inR index) (in_at' : inR at') (in_length : inR length) (hf : Fm f cap) (hi : 0 ≤ index ∧ index < (cap : Int)) (hlt : ly[ta]? = some (.inr (.char, tn))) (hrt : ∀ i, 0 ≤ A ta i ∧ A ta i ≤ 255) (htn : tn ≤ 5000) (hat : 0 ≤ at' ∧ at' + length ≤ tn) (hle : length ≤ 12) (K : ∀ (r : Int), (0 ≤ r ∧ r ≤ 1) → Q (some (V r)) (HP ly F G A B)) : Re L xs 29 0 [(0, .ref f), (1, V index), (2, .ref ta), (3, V (at')), (4, V length)] [] (HP ly F G A B) Q := by
  have hcap := Fm_cap hf
  refine r_aload_n i_29_0 rfl ?_
  refine r_getF (v := .ref (f + 2)) i_29_1 rfl (Lf_0 hly hf) (Rf_0_1 hF hf) ?_
  refine r_iload_n i_29_4 rfl ?_
  refine r_iald i_29_5 (Lf_2 hly hf) (by omega) (by omega) (by omega) ?_
  have q_1 := Af_2 hA hf (index.toNat)
  refine r_iload i_29_6 rfl ?_
  refine r_cne (t := 34) i_29_8 (by decide) (by omega) (by omega) (fun u_2 => ?_) (fun u_2 => ?_)
  · skip
    refine r_iconst i_29_34 ?_
    exact r_iret i_29_35 rfl (nar_Z (by omega)) (K 0 (by omega))
  · skip
    refine r_aload_n i_29_11 rfl ?_
    refine r_getF (v := .ref (f + 1)) i_29_12 rfl (Lf_0 hly hf) (Rf_0_0 hF hf) ?_
    refine r_aload_n i_29_15 rfl ?_
    refine r_iload_n i_29_16 rfl ?_
    refine r_cV (as := [V index]) i_29_17 rfl (by decide +kernel) (Nat.le_of_ble_eq_true rfl) (Nat.le_of_ble_eq_true rfl) (Lf_0 hly hf) rfl ?_
    refine c_16 (f := f) (index := index) hly hF hG hA (by omega) (fun r_3 p3_0 => ?_)
    show Re L xs 29 20 [(0, .ref f), (1, V index), (2, .ref ta), (3, V (at')), (4, V length)] [V r_3, .ref (f + 1)] (HP ly F G A B) _
    refine r_aload_n i_29_20 rfl ?_
    refine r_iload_n i_29_21 rfl ?_
    refine r_iload i_29_22 rfl ?_
    refine r_cS (as := [V length, V (at'), .ref ta, V r_3, .ref (f + 1)]) i_29_24 rfl (by decide +kernel) (Nat.le_of_ble_eq_true rfl) (Nat.le_of_ble_eq_true rfl) ?_
    refine c_30 (ra := f + 1) (p := r_3) (rc := ta) (q := at') (n := length) (capa := 12 * cap) (capc := tn) hly hF hG hA (by omega) (by omega) (by omega) (by exact Lf_1 hly hf) (by exact hlt) (by exact fun i => Af_1 hA hf i) (by exact hrt) (by omega) (by omega) (by omega) (fun r_4 p4_0 => ?_)
    show Re L xs 29 27 [(0, .ref f), (1, V index), (2, .ref ta), (3, V (at')), (4, V length)] [V r_4] (HP ly F G A B) _
    refine r_eq0 (t := 34) i_29_27 (by decide) (by omega) (fun u_5 => ?_) (fun u_5 => ?_)
    · skip
      refine r_iconst i_29_34 ?_
      exact r_iret i_29_35 rfl (nar_Z (by omega)) (K 0 (by omega))
    · skip
      refine r_iconst i_29_30 ?_
      refine r_go (t := 35) i_29_31 (by decide) ?_
      exact r_iret i_29_35 rfl (nar_Z (by omega)) (K 1 (by omega))
set_option maxHeartbeats 4000000 in
theorem c_32 {L : Nat} {xs : Nat → Int32} {ly : List LK} {F : Nat → Nat → Value} {G A : Nat → Nat → Int} {B : Nat → Nat → Int64} {Q : Option Value → AH → Prop} {f : Nat} {index : Int} {k : Int} {cap : Nat} (hly : LyOk ly) (hF : RfOk F) (hG : GO G) (hA : AQ A) (in_index : inR index) (in_k : inR k) (hf : Fm f cap) (hi : 0 ≤ index ∧ index < (cap : Int)) (hk : 0 ≤ k ∧ k < 12) (K : ∀ (r : Int), (0 ≤ r ∧ r ≤ 255) → Q (some (V r)) (HP ly F G A B)) : Re L xs 32 0 [(0, .ref f), (1, V index), (2, V k)] [] (HP ly F G A B) Q := by
  have hcap := Fm_cap hf
  refine r_aload_n i_32_0 rfl ?_
  refine r_getF (v := .ref (f + 1)) i_32_1 rfl (Lf_0 hly hf) (Rf_0_0 hF hf) ?_
  refine r_aload_n i_32_4 rfl ?_
  refine r_iload_n i_32_5 rfl ?_
  refine r_cV (as := [V index]) i_32_6 rfl (by decide +kernel) (Nat.le_of_ble_eq_true rfl) (Nat.le_of_ble_eq_true rfl) (Lf_0 hly hf) rfl ?_
  refine c_16 (f := f) (index := index) hly hF hG hA (by omega) (fun r_1 p1_0 => ?_)
  show Re L xs 32 9 [(0, .ref f), (1, V index), (2, V k)] [V r_1, .ref (f + 1)] (HP ly F G A B) _
  refine r_iload_n i_32_9 rfl ?_
  refine r_iadd i_32_10 ?_
  refine r_cald i_32_11 (Lf_1 hly hf) (by omega) (by omega) (by omega) ?_
  have q_2 := Af_1 hA hf ((r_1 + k).toNat)
  exact r_iret i_32_12 rfl (nar_C (by omega)) (K (A (f + 1) ((r_1 + k).toNat)) (by omega))
set_option maxHeartbeats 4000000 in
theorem c_19 {L : Nat} {xs : Nat → Int32} {ly : List LK} {F : Nat → Nat → Value} {G A : Nat → Nat → Int} {B : Nat → Nat → Int64} {Q : Option Value → AH → Prop} {f : Nat} {index : Int} {ta : Nat} {at' : Int} {length : Int} {cap tn : Nat} (hly : LyOk ly) (hF : RfOk F) (hG : GO G) (hA : AQ A) (in_index : inR index) (in_at' : inR at') (in_length : inR length) (hf : Fm f cap) (hi : 0 ≤ index ∧ index < (cap : Int)) (hlt : ly[ta]? = some (.inr (.char, tn))) (hrt : ∀ i, 0 ≤ A ta i ∧ A ta i ≤ 255) (htn : tn ≤ 5000) (hat : 0 ≤ at' ∧ 0 ≤ length ∧ length ≤ 12 ∧ at' + length ≤ tn) (K : ∀ (A' : Nat → Nat → Int), (AQ A') → (∀ a, ¬ (a = f + 1 ∨ a = f + 2) → A' a = A a) → Q none (HP ly F G A' B)) : Re L xs 19 0 [(0, .ref f), (1, V index), (2, .ref ta), (3, V (at')), (4, V length)] [] (HP ly F G A B) Q := by
  have hcap := Fm_cap hf
  refine r_aload_n i_19_0 rfl ?_
  refine r_iload_n i_19_1 rfl ?_
  refine r_aload_n i_19_2 rfl ?_
  refine r_getF (v := .ref (f + 1)) i_19_3 rfl (Lf_0 hly hf) (Rf_0_0 hF hf) ?_
  refine r_iload_n i_19_6 rfl ?_
  refine r_bipush i_19_7 (by decide) ?_
  refine r_imul i_19_9 ?_
  refine r_iload i_19_10 rfl ?_
  refine r_copyQ i_19_12 (by decide +kernel) (by decide +kernel) (Nat.le_of_ble_eq_true rfl) (hlt) (Lf_1 hly hf) (by omega) (by omega) (by omega) (fun i => hrt i) (fun A_1 eA_1 => ?_)
  have hA_1 : AQ A_1 := by rw [eA_1]; exact Ff_1 hf hA (fun k => by (try dsimp only); split; exact (fun i => hrt i) _; exact Af_1 hA hf k)
  have fc1 : ∀ a, ¬ (a = f + 1) → A_1 a = A a := fun a hh => by rw [eA_1]; exact up1_n hh
  refine r_aload_n i_19_15 rfl ?_
  refine r_getF (v := .ref (f + 2)) i_19_16 rfl (Lf_0 hly hf) (Rf_0_1 hF hf) ?_
  refine r_iload_n i_19_19 rfl ?_
  refine r_iload i_19_20 rfl ?_
  refine r_iastQ i_19_22 (Lf_2 hly hf) (by omega) (by omega) (by omega) (fun A_2 eA_2 => ?_)
  have hA_2 : AQ A_2 := by rw [eA_2]; exact AUf_2 hf hA_1 (by omega) (by omega)
  exact r_vret i_19_23 rfl (K A_2 hA_2 (by intro a hh; rw [eA_2, up2_a (fun h => hh (Or.inr h)), fc1 a (by omega)]))
set_option maxHeartbeats 4000000 in
theorem c_59 {L : Nat} {xs : Nat → Int32} {ly : List LK} {F : Nat → Nat → Value} {G A : Nat → Nat → Int} {B : Nat → Nat → Int64} {Q : Option Value → AH → Prop} {f : Nat} {ta : Nat} {at' : Int} {length : Int} {cap tn : Nat} (hly : LyOk ly) (hF : RfOk F) (hG : GO G) (hA : AQ A) (in_at' : inR at') (in_length : inR length) (hf : Fm f cap) (hlt : ly[ta]? = some (.inr (.char, tn))) (hrt : ∀ i, 0 ≤ A ta i ∧ A ta i ≤ 255) (htn : tn ≤ 5000) (hat : 0 ≤ at' ∧ 0 ≤ length ∧ length ≤ 12 ∧ at' + length ≤ tn) (K : ∀ (G' : Nat → Nat → Int) (A' : Nat → Nat → Int), (GO G') → (AQ A') → (∀ a k, ¬ ((a = f ∧ k = 2)) → G' a k = G a k) → (∀ a, ¬ (a = f + 1 ∨ a = f + 2) → A' a = A a) → (G' f 2 = G f 2 + 1 ∨ (G' f 2 = G f 2 ∧ (cap : Int) ≤ G f 2)) → Q none (HP ly F G' A' B)) : Re L xs 59 0 [(0, .ref f), (1, .ref ta), (2, V (at')), (3, V length)] [] (HP ly F G A B) Q := by
  have hcap := Fm_cap hf
  refine r_aload_n i_59_0 rfl ?_
  refine r_getI i_59_1 rfl (Lf_0 hly hf) ?_
  have q_1 := Gf_0_2 hG hf
  refine r_aload_n i_59_4 rfl ?_
  refine r_getF (v := .ref (f + 2)) i_59_5 rfl (Lf_0 hly hf) (Rf_0_1 hF hf) ?_
  refine r_alen i_59_8 (Lf_2 hly hf) rfl ?_
  refine r_cge (t := 33) i_59_9 (by decide) (by omega) (by omega) (fun u_2 => ?_) (fun u_2 => ?_)
  · skip
    exact r_vret i_59_33 rfl (K G A hG hA (by intro a k hh; rfl) (by intro a hh; rfl) (by omega))
  · skip
    refine r_aload_n i_59_12 rfl ?_
    refine r_aload_n i_59_13 rfl ?_
    refine r_getI i_59_14 rfl (Lf_0 hly hf) ?_
    refine r_aload_n i_59_17 rfl ?_
    refine r_iload_n i_59_18 rfl ?_
    refine r_iload_n i_59_19 rfl ?_
    refine r_cV (as := [V length, V (at'), .ref ta, V (G f 2)]) i_59_20 rfl (by decide +kernel) (Nat.le_of_ble_eq_true rfl) (Nat.le_of_ble_eq_true rfl) (Lf_0 hly hf) rfl ?_
    refine c_19 (f := f) (index := G f 2) (ta := ta) (at' := at') (length := length) (cap := cap) (tn := tn) hly hF hG hA (by omega) (by omega) (by omega) (by exact hf) (by omega) (by exact hlt) (by exact hrt) (by omega) (by omega) (fun A_3 hA_3 fa3 => ?_)
    show Re L xs 59 23 [(0, .ref f), (1, .ref ta), (2, V (at')), (3, V length)] [] (HP ly F G A_3 B) _
    refine r_aload_n i_59_23 rfl ?_
    refine re_nx i_59_24 rfl ?_
    refine r_getI i_59_25 rfl (Lf_0 hly hf) ?_
    refine r_iconst i_59_28 ?_
    refine r_iadd i_59_29 ?_
    refine r_putIQ i_59_30 (by decide +kernel) (Lf_0 hly hf) (fun G_4 eG_4 => ?_)
    have hG_4 : GO G_4 := by rw [eG_4]; exact GUf_0_2 hf hG (by omega) (by omega)
    exact r_vret i_59_33 rfl (K G_4 A_3 hG_4 hA_3 (by intro a k hh; rw [eG_4, up2_n (fun h => hh h)]) (by intro a hh; rw [fa3 a (fun h => h.elim (fun h => hh (Or.inl h)) (fun h => hh (Or.inr h)))]) (by rw [show G_4 f 2 = (G f 2) + 1 from by rw [eG_4, up2_s]] <;> omega))
set_option maxHeartbeats 4000000 in
theorem c_41 {L : Nat} {xs : Nat → Int32} {ly : List LK} {F : Nat → Nat → Value} {G A : Nat → Nat → Int} {B : Nat → Nat → Int64} {Q : Option Value → AH → Prop} {ra : Nat} {v : Int} {rn : Nat} (hly : LyOk ly) (hF : RfOk F) (hG : GO G) (hA : AQ A) (in_v : inR v) (hlr : ly[ra]? = some (.inr (.int, rn))) (hrn : rn ≤ 100000) (hau : ∀ (A1 : Nat → Nat → Int) (i : Nat), AQ A1 → AQ (up2 A1 ra i v)) (K : ∀ (A' : Nat → Nat → Int), (AQ A') → (∀ a, ¬ (a = ra) → A' a = A a) → (∀ i : Nat, i < rn → A' ra i = v) → Q none (HP ly F G A' B)) : Re L xs 41 0 [(0, .ref ra), (1, V v)] [] (HP ly F G A B) Q := by
  refine r_iconst i_41_0 ?_
  refine r_istore_n (l' := [(0, .ref ra), (1, V v), (2, V 0)]) i_41_1 (by decide +kernel) rfl ?_
  refine r_aload_n i_41_2 rfl ?_
  refine r_alen i_41_3 (hlr) rfl ?_
  refine r_istore_n (l' := [(0, .ref ra), (1, V v), (2, V 0), (3, V (((rn : Nat) : Int)))]) i_41_4 (by decide +kernel) rfl ?_
  have lp5B : ∀ (nf : Nat) (k : Int) (A5 : Nat → Nat → Int), (AQ A5) → (∀ a, ¬ (a = ra) → A5 a = A a) → (0 ≤ k ∧ k ≤ rn) → (∀ i : Nat, (i : Int) < k → A5 ra i = v) → (rn - k).toNat < nf → Re L xs 41 5 [(0, .ref ra), (1, V v), (2, V k), (3, V (((rn : Nat) : Int)))] [] (HP ly F G A5 B) Q := by
    intro nf
    induction nf with
    | zero => intros; omega
    | succ nf ih5B =>
      intro k A5 hA5 fa5 hk hq hm5
      refine r_iload_n i_41_5 rfl ?_
      refine r_iload_n i_41_6 rfl ?_
      refine r_cge (t := 20) i_41_7 (by decide) (by omega) (by omega) (fun u_1 => ?_) (fun u_1 => ?_)
      · skip
        exact r_vret i_41_20 rfl (K A5 hA5 (by intro a hh; rw [fa5 a (fun h => hh h)]) (by intro i hi; exact hq i (by omega)))
      · skip
        refine r_aload_n i_41_10 rfl ?_
        refine r_iload_n i_41_11 rfl ?_
        refine r_iload_n i_41_12 rfl ?_
        refine r_iastQ i_41_13 (hlr) (by omega) (by omega) (by omega) (fun A_2 eA_2 => ?_)
        have hA_2 : AQ A_2 := by rw [eA_2]; exact hau _ _ hA5
        have xra_1 : A_2 ra = fun i => if i = k.toNat then v else A5 ra i := by rw [eA_2, up2_f]
        have xra : A_2 ra = fun i => if i = k.toNat then v else A5 ra i := by rw [xra_1]
        refine r_iinc (l' := [(0, .ref ra), (1, V v), (2, V (k + 1)), (3, V (((rn : Nat) : Int)))]) i_41_14 rfl (by decide +kernel) rfl ?_
        refine r_go (t := 5) i_41_17 (by decide) ?_
        exact ih5B (k + 1) A_2 hA_2 (by intro a hh; rw [eA_2, up2_a (fun h => hh h), fa5 a (fun h => hh h)]) (by omega) (by first | (intro i hi; exfalso; omega) | (intro i hi; rw [xra]; dsimp only; exact if e : i = k.toNat then if_pos e else (by rw [if_neg e]; exact hq i (by omega)))) (by omega)
  exact lp5B _ 0 A hA (by intro a hh; rfl) (by omega) (by first | (intro i hi; exfalso; omega) | (intro i hi; rw [xra]; dsimp only; exact if e : i = k.toNat then if_pos e else (by rw [if_neg e]; exact hq i (by omega)))) (Nat.lt_succ_self _)
set_option maxHeartbeats 4000000 in
theorem c_86 {L : Nat} {xs : Nat → Int32} {ly : List LK} {F : Nat → Nat → Value} {G A : Nat → Nat → Int} {B : Nat → Nat → Int64} {Q : Option Value → AH → Prop} {n : Int} {fr : Int} {to : Int} (hly : LyOk ly) (hF : RfOk F) (hG : GO G) (hA : AQ A) (in_n : inR n) (in_fr : inR fr) (in_to : inR to) (hp : 0 ≤ fr ∧ fr ≤ to ∧ to ≤ n) (K : Q none (HP ly F G A B)) : Re L xs 86 0 [(0, V n), (1, V fr), (2, V to)] [] (HP ly F G A B) Q := by
  refine r_iload_n i_86_0 rfl ?_
  refine r_iload_n i_86_1 rfl ?_
  refine r_cle (t := 46) i_86_2 (by decide) (by omega) (by omega) (fun u_1 => ?_) (fun u_1 => ?_)
  · skip
    refine r_iload_n i_86_46 rfl ?_
    refine r_ge0 (t := 59) i_86_47 (by decide) (by omega) (fun u_2 => ?_) (fun u_2 => ?_)
    · skip
      refine r_iload_n i_86_59 rfl ?_
      refine r_iload_n i_86_60 rfl ?_
      refine r_cle (t := 73) i_86_61 (by decide) (by omega) (by omega) (fun u_3 => ?_) (fun u_3 => ?_)
      · skip
        exact r_vret i_86_73 rfl K
      · skip
        exfalso; omega
    · skip
      exfalso; omega
  · skip
    exfalso; omega
set_option maxHeartbeats 4000000 in
theorem c_85 {L : Nat} {xs : Nat → Int32} {ly : List LK} {F : Nat → Nat → Value} {G A : Nat → Nat → Int} {B : Nat → Nat → Int64} {Q : Option Value → AH → Prop} {ra : Nat} {fr : Int} {to : Int} {v : Int} {rn : Nat} (hly : LyOk ly) (hF : RfOk F) (hG : GO G) (hA : AQ A) (in_fr : inR fr) (in_to : inR to) (in_v : inR v) (hlr : ly[ra]? = some (.inr (.int, rn))) (hrn : rn ≤ 100000) (hau : ∀ (A1 : Nat → Nat → Int) (i : Nat), AQ A1 → AQ (up2 A1 ra i v)) (hfr : 0 ≤ fr ∧ fr ≤ to ∧ to ≤ rn) (K : ∀ (A' : Nat → Nat → Int), (AQ A') → (∀ a, ¬ (a = ra) → A' a = A a) → (∀ i : Nat, A' ra i = if fr ≤ (i : Int) ∧ (i : Int) < to then v else A ra i) → Q none (HP ly F G A' B)) : Re L xs 85 0 [(0, .ref ra), (1, V fr), (2, V to), (3, V v)] [] (HP ly F G A B) Q := by
  refine r_aload_n i_85_0 rfl ?_
  refine r_alen i_85_1 (hlr) rfl ?_
  refine r_iload_n i_85_2 rfl ?_
  refine r_iload_n i_85_3 rfl ?_
  refine r_cS (as := [V to, V fr, V (((rn : Nat) : Int))]) i_85_4 rfl (by decide +kernel) (Nat.le_of_ble_eq_true rfl) (Nat.le_of_ble_eq_true rfl) ?_
  refine c_86 (n := ((rn : Nat) : Int)) (fr := fr) (to := to) hly hF hG hA (by omega) (by omega) (by omega) (by omega) ?_
  show Re L xs 85 7 [(0, .ref ra), (1, V fr), (2, V to), (3, V v)] [] (HP ly F G A B) _
  refine r_iload_n i_85_7 rfl ?_
  refine r_istore (l' := [(0, .ref ra), (1, V fr), (2, V to), (3, V v), (4, V fr)]) i_85_8 (by decide +kernel) rfl ?_
  have lp10B : ∀ (nf : Nat) (k : Int) (A10 : Nat → Nat → Int), (AQ A10) → (∀ a, ¬ (a = ra) → A10 a = A a) → (fr ≤ k ∧ k ≤ to) → (∀ i : Nat, A10 ra i = if fr ≤ (i : Int) ∧ (i : Int) < k then v else A ra i) → (to - k).toNat < nf → Re L xs 85 10 [(0, .ref ra), (1, V fr), (2, V to), (3, V v), (4, V k)] [] (HP ly F G A10 B) Q := by
    intro nf
    induction nf with
    | zero => intros; omega
    | succ nf ih10B =>
      intro k A10 hA10 fa10 hk hq hm10
      refine r_iload i_85_10 rfl ?_
      refine r_iload_n i_85_12 rfl ?_
      refine r_cge (t := 27) i_85_13 (by decide) (by omega) (by omega) (fun u_1 => ?_) (fun u_1 => ?_)
      · skip
        exact r_vret i_85_27 rfl (K A10 hA10 (by intro a hh; rw [fa10 a (fun h => hh h)]) (by rw [show to = k from by omega]; exact hq))
      · skip
        refine r_aload_n i_85_16 rfl ?_
        refine r_iload i_85_17 rfl ?_
        refine r_iload_n i_85_19 rfl ?_
        refine r_iastQ i_85_20 (hlr) (by omega) (by omega) (by omega) (fun A_2 eA_2 => ?_)
        have hA_2 : AQ A_2 := by rw [eA_2]; exact hau _ _ hA10
        have xra_1 : A_2 ra = fun i => if i = k.toNat then v else A10 ra i := by rw [eA_2, up2_f]
        have xra : A_2 ra = fun i => if i = k.toNat then v else A10 ra i := by rw [xra_1]
        refine r_iinc (l' := [(0, .ref ra), (1, V fr), (2, V to), (3, V v), (4, V (k + 1))]) i_85_21 rfl (by decide +kernel) rfl ?_
        refine r_go (t := 10) i_85_24 (by decide) ?_
        exact ih10B (k + 1) A_2 hA_2 (by intro a hh; rw [eA_2, up2_a (fun h => hh h), fa10 a (fun h => hh h)]) (by omega) (by first | (intro i; rw [if_neg (by omega)]) | exact fl_s hq xra (by omega) (by omega)) (by omega)
  exact lp10B _ fr A hA (by intro a hh; rfl) (by omega) (by first | (intro i; rw [if_neg (by omega)]) | exact fl_s hq xra (by omega) (by omega)) (Nat.lt_succ_self _)
set_option maxHeartbeats 4000000 in
theorem c_109 {L : Nat} {xs : Nat → Int32} {ly : List LK} {F : Nat → Nat → Value} {G A : Nat → Nat → Int} {B : Nat → Nat → Int64} {Q : Option Value → AH → Prop} {ra : Nat} {fr : Int} {to : Int} {v : Int64} {rn : Nat} (hly : LyOk ly) (hF : RfOk F) (hG : GO G) (hA : AQ A) (in_fr : inR fr) (in_to : inR to) (hlr : ly[ra]? = some (.inr (.long, rn))) (hrn : rn ≤ 100000) (hfr : 0 ≤ fr ∧ fr ≤ to ∧ to ≤ rn) (K : ∀ (B' : Nat → Nat → Int64), (∀ i : Nat, B' ra i = if fr ≤ (i : Int) ∧ (i : Int) < to then v else B ra i) → (∀ a, ¬ a = ra → B' a = B a) → Q none (HP ly F G A B')) : Re L xs 109 0 [(0, .ref ra), (1, V fr), (2, V to), (3, .long v)] [] (HP ly F G A B) Q := by
  refine r_aload_n i_109_0 rfl ?_
  refine r_alen i_109_1 (hlr) rfl ?_
  refine r_iload_n i_109_2 rfl ?_
  refine r_iload_n i_109_3 rfl ?_
  refine r_cS (as := [V to, V fr, V (((rn : Nat) : Int))]) i_109_4 rfl (by decide +kernel) (Nat.le_of_ble_eq_true rfl) (Nat.le_of_ble_eq_true rfl) ?_
  refine c_86 (n := ((rn : Nat) : Int)) (fr := fr) (to := to) hly hF hG hA (by omega) (by omega) (by omega) (by omega) ?_
  show Re L xs 109 7 [(0, .ref ra), (1, V fr), (2, V to), (3, .long v)] [] (HP ly F G A B) _
  refine r_iload_n i_109_7 rfl ?_
  refine r_istore (l' := [(0, .ref ra), (1, V fr), (2, V to), (3, .long v), (5, V fr)]) i_109_8 (by decide +kernel) rfl ?_
  have lp10B : ∀ (nf : Nat) (k : Int) (B10 : Nat → Nat → Int64), (fr ≤ k ∧ k ≤ to) → (∀ i : Nat, B10 ra i = if fr ≤ (i : Int) ∧ (i : Int) < k then v else B ra i) → (∀ a, ¬ a = ra → B10 a = B a) → (to - k).toNat < nf → Re L xs 109 10 [(0, .ref ra), (1, V fr), (2, V to), (3, .long v), (5, V k)] [] (HP ly F G A B10) Q := by
    intro nf
    induction nf with
    | zero => intros; omega
    | succ nf ih10B =>
      intro k B10  hk hq hq2 hm10
      refine r_iload i_109_10 rfl ?_
      refine r_iload_n i_109_12 rfl ?_
      refine r_cge (t := 27) i_109_13 (by decide) (by omega) (by omega) (fun u_1 => ?_) (fun u_1 => ?_)
      · skip
        exact r_vret i_109_27 rfl (K B10 (by rw [show to = k from by omega]; exact hq) (by exact hq2))
      · skip
        refine r_aload_n i_109_16 rfl ?_
        refine r_iload i_109_17 rfl ?_
        refine r_lload_n i_109_19 rfl ?_
        refine r_lastQ i_109_20 (hlr) (by omega) (by omega) (by omega) (fun B_2 eB_2 => ?_)
        refine r_iinc (l' := [(0, .ref ra), (1, V fr), (2, V to), (3, .long v), (5, V (k + 1))]) i_109_21 rfl (by decide +kernel) rfl ?_
        refine r_go (t := 10) i_109_24 (by decide) ?_
        exact ih10B (k + 1) B_2  (by omega) (by first | (intro i; rw [if_neg (by omega)]) | exact fb_s hq eB_2 (by omega) (by omega)) (by first | (intro a ha; rfl) | (intro a ha; rw [eB_2, up2_a ha]; exact hq2 a ha)) (by omega)
  exact lp10B _ fr B  (by omega) (by first | (intro i; rw [if_neg (by omega)]) | exact fb_s hq eB (by omega) (by omega)) (by first | (intro a ha; rfl) | (intro a ha; rw [eB, up2_a ha]; exact hq2 a ha)) (Nat.lt_succ_self _)
