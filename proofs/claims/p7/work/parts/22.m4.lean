theorem up2_f {α : Type} (f : Nat → Nat → α) (a k : Nat) (v : α) : up2 f a k v a = fun i => if i = k then v else f a i := by
  funext i
  unfold up2
  by_cases e : i = k
  · rw [if_pos ⟨rfl, e⟩, if_pos e]
  · rw [if_neg (fun z => e z.2), if_neg e]
/-- a bank's entries are such as the document's: kinds up to 7, costs up to 99 -/
def bkV (A : Nat → Nat → Int) (b : Nat) : Prop := (∀ j : Nat, (j : Int) < A 107 b → A 98 (80 * b + j) ≤ 7 ∧ A 99 (80 * b + j) ≤ 99) ∧ (∀ j : Nat, (j : Int) < A 108 b → A 103 (20 * b + j) ≤ 7 ∧ A 104 (20 * b + j) ≤ 99) ∧ (∀ j : Nat, j < 64 → A 106 (64 * b + j) ≤ 99) ∧ A 111 b ≤ 7 ∧ A 112 b ≤ 99
/-- a bank is as it was -/
def bkE (A A' : Nat → Nat → Int) (b : Nat) : Prop := (A' 107 b = A 107 b ∧ A' 108 b = A 108 b ∧ A' 111 b = A 111 b ∧ A' 112 b = A 112 b) ∧ (∀ j : Nat, j < 80 → A' 98 (80 * b + j) = A 98 (80 * b + j) ∧ A' 99 (80 * b + j) = A 99 (80 * b + j)) ∧ (∀ j : Nat, j < 20 → A' 103 (20 * b + j) = A 103 (20 * b + j) ∧ A' 104 (20 * b + j) = A 104 (20 * b + j)) ∧ (∀ j : Nat, j < 64 → A' 106 (64 * b + j) = A 106 (64 * b + j))
theorem bkE_rf {A : Nat → Nat → Int} {b : Nat} : bkE A A b := ⟨⟨rfl, rfl, rfl, rfl⟩, fun _ _ => ⟨rfl, rfl⟩, fun _ _ => ⟨rfl, rfl⟩, fun _ _ => rfl⟩
theorem bkE.tr {A B C : Nat → Nat → Int} {b : Nat} (h : bkE A B b) (g : bkE B C b) : bkE A C b := ⟨⟨g.1.1.trans h.1.1, g.1.2.1.trans h.1.2.1, g.1.2.2.1.trans h.1.2.2.1, g.1.2.2.2.trans h.1.2.2.2⟩, fun j hj => ⟨(g.2.1 j hj).1.trans (h.2.1 j hj).1, (g.2.1 j hj).2.trans (h.2.1 j hj).2⟩, fun j hj => ⟨(g.2.2.1 j hj).1.trans (h.2.2.1 j hj).1, (g.2.2.1 j hj).2.trans (h.2.2.1 j hj).2⟩, fun j hj => (g.2.2.2 j hj).trans (h.2.2.2 j hj)⟩
theorem bkV_E {A A' : Nat → Nat → Int} {b : Nat} (hA : AQ A) (e : bkE A A' b) (h : bkV A b) : bkV A' b := by
  obtain ⟨⟨e1, e2, e3, e4⟩, e5, e6, e7⟩ := e
  obtain ⟨h1, h2, h3, h4, h5⟩ := h
  have r1 := a_107 hA b
  have r2 := a_108 hA b
  refine ⟨fun j hj => ?_, fun j hj => ?_, fun j hj => by rw [e7 j hj]; exact h3 j hj, by rw [e3]; exact h4, by rw [e4]; exact h5⟩
  · rw [e1] at hj
    rw [(e5 j (by omega)).1, (e5 j (by omega)).2]
    exact h1 j hj
  · rw [e2] at hj
    rw [(e6 j (by omega)).1, (e6 j (by omega)).2]
    exact h2 j hj
theorem bkV_w {A A' : Nat → Nat → Int} {b : Nat} {w r1 r2 c : Int} (hw : w = 80 * (b : Int) + c) (hc : c = A 107 b) (h0 : 0 ≤ c) (h7 : r1 ≤ 7) (h99 : r2 ≤ 99) (x98 : A' 98 = fun i => if i = w.toNat then r1 else A 98 i) (x99 : A' 99 = fun i => if i = w.toNat then r2 else A 99 i) (x107 : A' 107 = fun i => if i = b then c + 1 else A 107 i)
    (x103 : A' 103 = A 103) (x104 : A' 104 = A 104) (x106 : A' 106 = A 106) (x108 : A' 108 = A 108) (x111 : A' 111 = A 111) (x112 : A' 112 = A 112) (h : bkV A b) : bkV A' b := by
  obtain ⟨g1, g2, g3, g4, g5⟩ := h
  refine ⟨fun j hj => ?_, by rw [x108, x103, x104]; exact g2, by rw [x106]; exact g3, by rw [x111]; exact g4, by rw [x112]; exact g5⟩
  rw [x107] at hj
  rw [x98, x99]
  dsimp only at hj ⊢
  rw [if_pos rfl] at hj
  by_cases e : 80 * b + j = w.toNat
  · rw [if_pos e, if_pos e]
    exact ⟨h7, h99⟩
  · rw [if_neg e, if_neg e]
    exact g1 j (by omega)
theorem bkE_w {A A' : Nat → Nat → Int} {b b2 : Nat} {w r1 r2 c : Int} (hb : b2 ≤ 1) (hbb : b ≤ 1) (hn : ¬ b2 = b) (hw : w = 80 * (b : Int) + c) (h0 : 0 ≤ c ∧ c < 80) (x98 : A' 98 = fun i => if i = w.toNat then r1 else A 98 i) (x99 : A' 99 = fun i => if i = w.toNat then r2 else A 99 i) (x107 : A' 107 = fun i => if i = b then c + 1 else A 107 i)
    (x103 : A' 103 = A 103) (x104 : A' 104 = A 104) (x106 : A' 106 = A 106) (x108 : A' 108 = A 108) (x111 : A' 111 = A 111) (x112 : A' 112 = A 112) : bkE A A' b2 := by
  refine ⟨⟨?_, by rw [x108], by rw [x111], by rw [x112]⟩, fun j hj => ?_, fun j hj => ⟨by rw [x103], by rw [x104]⟩, fun j hj => by rw [x106]⟩
  · rw [x107]
    exact if_neg hn
  · rw [x98, x99]
    exact ⟨if_neg (by omega), if_neg (by omega)⟩

set_option maxHeartbeats 4000000 in
theorem c_149 {L : Nat} {xs : Nat → Int32} {ly : List LK} {F : Nat → Nat → Value} {G A : Nat → Nat → Int} {B : Nat → Nat → Int64} {Q : Option Value → AH → Prop} {ra : Nat} {p : Int} {rc : Nat} {q : Int} {n : Int} {bare : Int} {capa capc : Nat} (hly : LyOk ly) (hF : RfOk F) (hG : GO G) (hA : AQ A) (in_p : inR p) (in_q : inR q) (in_n : inR n) (in_bare : inR bare) (hla : ly[ra]? = some (.inr (.byte, capa))) (hlc : ly[rc]? = some (.inr (.byte, capc))) (hra : ∀ i, -128 ≤ A ra i ∧ A ra i ≤ 127) (hrc : ∀ i, -128 ≤ A rc i ∧ A rc i ≤ 127) (hc : capa ≤ 5000 ∧ capc ≤ 5000) (hp : 0 ≤ p ∧ 0 ≤ q ∧ 12 * p + n ≤ capa ∧ 12 * q + n ≤ capc) (hn : n ≤ 1000) (hb : bare = 0 ∨ bare = 1) (K : ∀ (r : Int), (0 ≤ r ∧ r ≤ 1) → Q (some (V r)) (HP ly F G A B)) : Re L xs 149 0 [(0, .ref ra), (1, V p), (2, .ref rc), (3, V q), (4, V n), (5, V bare)] [] (HP ly F G A B) Q := by
  refine r_iconst i_149_0 ?_
  refine r_istore (l' := [(0, .ref ra), (1, V p), (2, .ref rc), (3, V q), (4, V n), (5, V bare), (6, V 0)]) i_149_1 (by decide +kernel) rfl ?_
  have lp3B : ∀ (nf : Nat) (k : Int), (0 ≤ k ∧ (k ≤ n ∨ k ≤ 0)) → (n - k).toNat < nf → Re L xs 149 3 [(0, .ref ra), (1, V p), (2, .ref rc), (3, V q), (4, V n), (5, V bare), (6, V k)] [] (HP ly F G A B) Q := by
    intro nf
    induction nf with
    | zero => intros; omega
    | succ nf ih3B =>
      intro k  hk hm3
      refine r_iload i_149_3 rfl ?_
      refine r_iload i_149_5 rfl ?_
      refine r_cge (t := 74) i_149_7 (by decide) (by omega) (by omega) (fun c_1 => ?_) (fun c_1 => ?_)
      · skip
        refine r_iconst i_149_74 ?_
        exact r_iret i_149_75 rfl (nar_Z (by omega)) (K 1 (by omega))
      · skip
        refine r_iload i_149_10 rfl ?_
        refine r_eq0 (t := 45) i_149_12 (by decide) (by omega) (fun c_2 => ?_) (fun c_2 => ?_)
        · skip
          refine r_aload_n i_149_45 rfl ?_
          refine r_bipush i_149_46 (by decide) ?_
          refine r_iload_n i_149_48 rfl ?_
          refine r_imul i_149_49 ?_
          refine r_iload i_149_50 rfl ?_
          refine r_iadd i_149_52 ?_
          refine r_bald i_149_53 (hla) (by omega) (by omega) (by omega) ?_
          have q_3 := hra (((12 * p) + k).toNat)
          refine r_aload_n i_149_54 rfl ?_
          refine r_bipush i_149_55 (by decide) ?_
          refine r_iload_n i_149_57 rfl ?_
          refine r_imul i_149_58 ?_
          refine r_iload i_149_59 rfl ?_
          refine r_iadd i_149_61 ?_
          refine r_bald i_149_62 (hlc) (by omega) (by omega) (by omega) ?_
          have q_4 := hrc (((12 * q) + k).toNat)
          refine r_ceq (t := 68) i_149_63 (by decide) (by omega) (by omega) (fun c_5 => ?_) (fun c_5 => ?_)
          · skip
            refine r_iinc (l' := [(0, .ref ra), (1, V p), (2, .ref rc), (3, V q), (4, V n), (5, V bare), (6, V (k + 1))]) i_149_68 rfl (by decide +kernel) rfl ?_
            refine r_go (t := 3) i_149_71 (by decide) ?_
            exact ih3B (k + 1)  (by omega) (by omega)
          · skip
            refine r_iconst i_149_66 ?_
            exact r_iret i_149_67 rfl (nar_Z (by omega)) (K 0 (by omega))
        · skip
          refine r_aload_n i_149_15 rfl ?_
          refine r_bipush i_149_16 (by decide) ?_
          refine r_iload_n i_149_18 rfl ?_
          refine r_imul i_149_19 ?_
          refine r_iload i_149_20 rfl ?_
          refine r_iadd i_149_22 ?_
          refine r_bald i_149_23 (hla) (by omega) (by omega) (by omega) ?_
          have q_6 := hra (((12 * p) + k).toNat)
          refine r_cS (as := [V (A ra (((12 * p) + k).toNat))]) i_149_24 rfl (by decide +kernel) (Nat.le_of_ble_eq_true rfl) (Nat.le_of_ble_eq_true rfl) ?_
          refine c_150 (c := A ra (((12 * p) + k).toNat)) hly hF hG hA (by omega) (by omega) (fun r_7 p7_0 => ?_)
          show Re L xs 149 27 [(0, .ref ra), (1, V p), (2, .ref rc), (3, V q), (4, V n), (5, V bare), (6, V k)] [V r_7] (HP ly F G A B) _
          refine r_aload_n i_149_27 rfl ?_
          refine r_bipush i_149_28 (by decide) ?_
          refine r_iload_n i_149_30 rfl ?_
          refine r_imul i_149_31 ?_
          refine r_iload i_149_32 rfl ?_
          refine r_iadd i_149_34 ?_
          refine r_bald i_149_35 (hlc) (by omega) (by omega) (by omega) ?_
          have q_8 := hrc (((12 * q) + k).toNat)
          refine r_cS (as := [V (A rc (((12 * q) + k).toNat))]) i_149_36 rfl (by decide +kernel) (Nat.le_of_ble_eq_true rfl) (Nat.le_of_ble_eq_true rfl) ?_
          refine c_150 (c := A rc (((12 * q) + k).toNat)) hly hF hG hA (by omega) (by omega) (fun r_9 p9_0 => ?_)
          show Re L xs 149 39 [(0, .ref ra), (1, V p), (2, .ref rc), (3, V q), (4, V n), (5, V bare), (6, V k)] [V r_9, V r_7] (HP ly F G A B) _
          refine r_ceq (t := 68) i_149_39 (by decide) (by omega) (by omega) (fun c_10 => ?_) (fun c_10 => ?_)
          · skip
            refine r_iinc (l' := [(0, .ref ra), (1, V p), (2, .ref rc), (3, V q), (4, V n), (5, V bare), (6, V (k + 1))]) i_149_68 rfl (by decide +kernel) rfl ?_
            refine r_go (t := 3) i_149_71 (by decide) ?_
            exact ih3B (k + 1)  (by omega) (by omega)
          · skip
            refine r_go (t := 66) i_149_42 (by decide) ?_
            refine r_iconst i_149_66 ?_
            exact r_iret i_149_67 rfl (nar_Z (by omega)) (K 0 (by omega))
  exact lp3B _ 0  (by omega) (Nat.lt_succ_self _)
set_option maxHeartbeats 4000000 in
theorem c_145 {L : Nat} {xs : Nat → Int32} {ly : List LK} {F : Nat → Nat → Value} {G A : Nat → Nat → Int} {B : Nat → Nat → Int64} {Q : Option Value → AH → Prop}  (hly : LyOk ly) (hF : RfOk F) (hG : GO G) (hA : AQ A) (ht : G 90 6 ≤ G 90 7 ∧ G 90 7 ≤ G 90 3 ∧ (G 90 8 = 2 → G 90 7 - G 90 6 ≤ 12)) (hw : A 107 (G 90 33).toNat < 80) (K : ∀ (F' : Nat → Nat → Value) (G' : Nat → Nat → Int) (A' : Nat → Nat → Int), (RfOk F') → (GO G') → (AQ A') → (∀ a k, ¬ ((a = 90 ∧ k = 10)) → F' a k = F a k) → (∀ a k, ¬ ((a = 90 ∧ k = 4) ∨ (a = 90 ∧ k = 5) ∨ (a = 90 ∧ k = 6) ∨ (a = 90 ∧ k = 7) ∨ (a = 90 ∧ k = 8) ∨ (a = 90 ∧ k = 9)) → G' a k = G a k) → (∀ a, ¬ (a = 93 ∨ a = 97 ∨ a = 98 ∨ a = 99 ∨ a = 100 ∨ a = 101 ∨ a = 107) → A' a = A a) → (G' 90 6 ≤ G' 90 7 ∧ G' 90 7 ≤ G 90 3 ∧ (G' 90 8 = 2 → G' 90 7 - G' 90 6 ≤ 12)) → (G 90 6 ≤ G' 90 6) → ((G 90 4 ≠ 0 → G' 90 4 ≠ 0)) → (G' 90 4 = 0 → bkV A (G 90 33).toNat → bkV A' (G 90 33).toNat) → (∀ b, b ≤ 1 → ¬ b = (G 90 33).toNat → bkE A A' b) → Q none (HP ly F' G' A' B)) : Re L xs 145 0 [(0, .ref 90)] [] (HP ly F G A B) Q := by
  have z33 := g_90_33 hG
  have zw := a_107 hA (G 90 33).toNat
  refine r_aload_n i_145_0 rfl ?_
  refine r_cV (as := []) i_145_1 rfl (by decide +kernel) (Nat.le_of_ble_eq_true rfl) (Nat.le_of_ble_eq_true rfl) (hly 90 _ rfl) rfl ?_
  have q_1 := g_90_8 hG
  have q_2 := g_90_4 hG
  refine c_146  hly hF hG hA  (fun G_3 hG_3 fg3 p3_0 p3_1 => ?_)
  show Re L xs 145 4 [(0, .ref 90)] [] (HP ly F G_3 A B) _
  refine r_aload_n i_145_4 rfl ?_
  refine r_cV (as := []) i_145_5 rfl (by decide +kernel) (Nat.le_of_ble_eq_true rfl) (Nat.le_of_ble_eq_true rfl) (hly 90 _ rfl) rfl ?_
  have q_4 := g_90_4 hG_3
  refine c_140  hly hF hG_3 hA  (fun r_5 p5_0 p5_1 => ?_)
  show Re L xs 145 8 [(0, .ref 90)] [V r_5] (HP ly F G_3 A B) _
  refine r_ne0 (t := 12) i_145_8 (by decide) (by omega) (fun c_6 => ?_) (fun c_6 => ?_)
  · skip
    refine r_aload_n i_145_12 rfl ?_
    refine r_getI i_145_13 rfl (hly 90 _ rfl) ?_
    rw [show G_3 90 6 = G 90 6 from by rw [fg3 90 6 (by omega)]]
    have q_7 := g_90_6 hG
    refine r_istore_n (l' := [(0, .ref 90), (1, V (G 90 6))]) i_145_16 (by decide +kernel) rfl ?_
    refine r_bipush i_145_17 (by decide) ?_
    refine r_aload_n i_145_19 rfl ?_
    refine r_getI i_145_20 rfl (hly 90 _ rfl) ?_
    rw [show G_3 90 33 = G 90 33 from by rw [fg3 90 33 (by omega)]]
    have q_8 := g_90_33 hG
    refine r_imul i_145_23 ?_
    refine r_aload_n i_145_24 rfl ?_
    refine r_getF (v := .ref 107) i_145_25 rfl (hly 90 _ rfl) (hF.1 90 25 107 rfl) ?_
    refine r_aload_n i_145_28 rfl ?_
    refine r_getI i_145_29 rfl (hly 90 _ rfl) ?_
    rw [show G_3 90 33 = G 90 33 from by rw [fg3 90 33 (by omega)]]
    refine r_iald i_145_32 (hly 107 _ rfl) (by omega) (by omega) (by omega) ?_
    have q_9 := a_107 hA ((G 90 33).toNat)
    refine r_iadd i_145_33 ?_
    refine r_istore_n (l' := [(0, .ref 90), (1, V (G 90 6)), (2, V ((80 * (G 90 33)) + (A 107 ((G 90 33).toNat))))]) i_145_34 (by decide +kernel) rfl ?_
    refine r_aload_n i_145_35 rfl ?_
    refine r_getF (v := .ref 97) i_145_36 rfl (hly 90 _ rfl) (hF.1 90 15 97 rfl) ?_
    refine r_iload_n i_145_39 rfl ?_
    refine r_aload_n i_145_40 rfl ?_
    refine r_aload_n i_145_41 rfl ?_
    refine r_getF (v := .ref 93) i_145_42 rfl (hly 90 _ rfl) (hF.1 90 11 93 rfl) ?_
    refine r_iload_n i_145_45 rfl ?_
    refine r_cV (as := [V ((80 * (G 90 33)) + (A 107 ((G 90 33).toNat))), .ref 93]) i_145_46 rfl (by decide +kernel) (Nat.le_of_ble_eq_true rfl) (Nat.le_of_ble_eq_true rfl) (hly 90 _ rfl) rfl ?_
    have w_10 : G_3 90 6 = G 90 6 := by rw [fg3 90 6 (by omega)]
    have w_11 : G_3 90 7 = G 90 7 := by rw [fg3 90 7 (by omega)]
    have q_12 := g_90_7 hG
    have w_13 : G_3 90 3 = G 90 3 := by rw [fg3 90 3 (by omega)]
    have q_14 := g_90_3 hG
    have w_15 : G_3 90 8 = G 90 8 := by rw [fg3 90 8 (by omega)]
    refine c_147 (row := 93) (spot := (80 * (G 90 33)) + (A 107 ((G 90 33).toNat))) (cap := 1920) hly hF hG_3 hA (by omega) (by omega) (by omega) (by omega) (by omega) (fun r_16 F_17 G_18 A_19 hF_17 hG_18 hA_19 ff19 fg19 fa19 p19_0 p19_1 p19_2 p19_3 => ?_)
    show Re L xs 145 49 [(0, .ref 90), (1, V (G 90 6)), (2, V ((80 * (G 90 33)) + (A 107 ((G 90 33).toNat))))] [V r_16, V ((80 * (G 90 33)) + (A 107 ((G 90 33).toNat))), .ref 97] (HP ly F_17 G_18 A_19 B) _
    refine r_iastQ i_145_49 (hly 97 _ rfl) (by omega) (by omega) (by omega) (fun A_20 eA_20 => ?_)
    have hA_20 : AQ A_20 := by rw [eA_20]; exact au_97 hA_19 (by omega) (by omega)
    refine r_aload_n i_145_50 rfl ?_
    refine r_getF (v := .ref 98) i_145_51 rfl (hly 90 _ rfl) (hF_17.1 90 16 98 rfl) ?_
    refine r_iload_n i_145_54 rfl ?_
    refine r_aload_n i_145_55 rfl ?_
    refine r_bipush i_145_56 (by decide) ?_
    refine r_cV (as := [V 7]) i_145_58 rfl (by decide +kernel) (Nat.le_of_ble_eq_true rfl) (Nat.le_of_ble_eq_true rfl) (hly 90 _ rfl) rfl ?_
    have q_21 := g_90_6 hG_18
    have q_22 := g_90_7 hG_18
    have w_23 : G_18 90 3 = G 90 3 := by rw [fg19 90 3 (by omega), fg3 90 3 (by omega)]
    have q_24 := g_90_8 hG_18
    have w_25 : G_18 90 4 = G_3 90 4 := by rw [fg19 90 4 (by omega)]
    refine c_148 (most := 7) hly hF_17 hG_18 hA_20 (by omega) (by omega) (fun r_26 F_27 G_28 hF_27 hG_28 ff28 fg28 p28_0 p28_1 p28_2 p28_3 p28_4 => ?_)
    show Re L xs 145 61 [(0, .ref 90), (1, V (G 90 6)), (2, V ((80 * (G 90 33)) + (A 107 ((G 90 33).toNat))))] [V r_26, V ((80 * (G 90 33)) + (A 107 ((G 90 33).toNat))), .ref 98] (HP ly F_27 G_28 A_20 B) _
    refine r_iastQ i_145_61 (hly 98 _ rfl) (by omega) (by omega) (by omega) (fun A_29 eA_29 => ?_)
    have hA_29 : AQ A_29 := by rw [eA_29]; exact au_98 hA_20 (by omega) (by omega)
    refine r_bipush i_145_62 (by decide) ?_
    refine r_aload_n i_145_64 rfl ?_
    refine r_getI i_145_65 rfl (hly 90 _ rfl) ?_
    rw [show G_28 90 33 = G 90 33 from by rw [fg28 90 33 (by omega), fg19 90 33 (by omega), fg3 90 33 (by omega)]]
    refine r_imul i_145_68 ?_
    refine r_istore_n (l' := [(0, .ref 90), (1, V (G 90 6)), (2, V ((80 * (G 90 33)) + (A 107 ((G 90 33).toNat)))), (3, V (80 * (G 90 33)))]) i_145_69 (by decide +kernel) rfl ?_
    have jn147 : ∀ (k3 : Int) (G147 : Nat → Nat → Int), (GO G147) → (∀ a k, ¬ ((a = 90 ∧ k = 4) ∨ (a = 90 ∧ k = 5)) → G147 a k = G_28 a k) → (G147 90 4 = 0 → G_28 90 4 = 0) → Re L xs 145 147 [(0, .ref 90), (1, V (G 90 6)), (2, V ((80 * (G 90 33)) + (A 107 ((G 90 33).toNat)))), (3, V k3)] [] (HP ly F_27 G147 A_29 B) Q := by
      intro k3 G147 hG147 fg147 hj
      refine r_aload_n i_145_147 rfl ?_
      refine r_getF (v := .ref 99) i_145_148 rfl (hly 90 _ rfl) (hF_27.1 90 17 99 rfl) ?_
      refine r_iload_n i_145_151 rfl ?_
      refine r_aload_n i_145_152 rfl ?_
      refine r_bipush i_145_153 (by decide) ?_
      refine r_cV (as := [V 99]) i_145_155 rfl (by decide +kernel) (Nat.le_of_ble_eq_true rfl) (Nat.le_of_ble_eq_true rfl) (hly 90 _ rfl) rfl ?_
      have w_30 : G147 90 6 = G_28 90 6 := by rw [fg147 90 6 (by omega)]
      have q_31 := g_90_6 hG_28
      have w_32 : G147 90 7 = G_28 90 7 := by rw [fg147 90 7 (by omega)]
      have q_33 := g_90_7 hG_28
      have w_34 : G147 90 3 = G 90 3 := by rw [fg147 90 3 (by omega), fg28 90 3 (by omega), fg19 90 3 (by omega), fg3 90 3 (by omega)]
      have w_35 : G147 90 8 = G_28 90 8 := by rw [fg147 90 8 (by omega)]
      have q_36 := g_90_8 hG_28
      have q_37 := g_90_4 hG147
      refine c_148 (most := 99) hly hF_27 hG147 hA_29 (by omega) (by omega) (fun r_38 F_39 G_40 hF_39 hG_40 ff40 fg40 p40_0 p40_1 p40_2 p40_3 p40_4 => ?_)
      show Re L xs 145 158 [(0, .ref 90), (1, V (G 90 6)), (2, V ((80 * (G 90 33)) + (A 107 ((G 90 33).toNat)))), (3, V k3)] [V r_38, V ((80 * (G 90 33)) + (A 107 ((G 90 33).toNat))), .ref 99] (HP ly F_39 G_40 A_29 B) _
      refine r_iastQ i_145_158 (hly 99 _ rfl) (by omega) (by omega) (by omega) (fun A_41 eA_41 => ?_)
      have hA_41 : AQ A_41 := by rw [eA_41]; exact au_99 hA_29 (by omega) (by omega)
      refine r_aload_n i_145_159 rfl ?_
      refine r_getF (v := .ref 100) i_145_160 rfl (hly 90 _ rfl) (hF_39.1 90 18 100 rfl) ?_
      refine r_iload_n i_145_163 rfl ?_
      refine r_iconst i_145_164 ?_
      refine r_iastQ i_145_165 (hly 100 _ rfl) (by omega) (by omega) (by omega) (fun A_42 eA_42 => ?_)
      have hA_42 : AQ A_42 := by rw [eA_42]; exact au_100 hA_41 (by omega) (by omega)
      refine r_aload_n i_145_166 rfl ?_
      refine r_getF (v := .ref 101) i_145_167 rfl (hly 90 _ rfl) (hF_39.1 90 19 101 rfl) ?_
      refine r_iload_n i_145_170 rfl ?_
      refine r_ldcw (v := 100000) i_145_171 (by decide) ?_
      refine r_iastQ i_145_174 (hly 101 _ rfl) (by omega) (by omega) (by omega) (fun A_43 eA_43 => ?_)
      have hA_43 : AQ A_43 := by rw [eA_43]; exact au_101 hA_42 (by omega) (by omega)
      have jn209 : ∀ (F209 : Nat → Nat → Value) (G209 : Nat → Nat → Int) (A209 : Nat → Nat → Int), (RfOk F209) → (GO G209) → (AQ A209) → (∀ a k, ¬ ((a = 90 ∧ k = 10)) → F209 a k = F_39 a k) → (∀ a k, ¬ ((a = 90 ∧ k = 4) ∨ (a = 90 ∧ k = 5) ∨ (a = 90 ∧ k = 6) ∨ (a = 90 ∧ k = 7) ∨ (a = 90 ∧ k = 8) ∨ (a = 90 ∧ k = 9)) → G209 a k = G_40 a k) → (∀ a, ¬ (a = 100) → A209 a = A_43 a) → (G209 90 6 ≤ G209 90 7 ∧ G209 90 7 ≤ G 90 3 ∧ (G209 90 8 = 2 → G209 90 7 - G209 90 6 ≤ 12)) → (G209 90 4 = 0 → G_40 90 4 = 0) → (G_40 90 6 ≤ G209 90 6) → Re L xs 145 209 [(0, .ref 90), (1, V (G 90 6)), (2, V ((80 * (G 90 33)) + (A 107 ((G 90 33).toNat)))), (3, V k3)] [] (HP ly F209 G209 A209 B) Q := by
        intro F209 G209 A209 hF209 hG209 hA209 ff209 fg209 fa209 hj2 hj3 hj4
        have jn243 : ∀ (F243 : Nat → Nat → Value) (G243 : Nat → Nat → Int) (A243 : Nat → Nat → Int), (RfOk F243) → (GO G243) → (AQ A243) → (∀ a k, ¬ ((a = 90 ∧ k = 10)) → F243 a k = F209 a k) → (∀ a k, ¬ ((a = 90 ∧ k = 4) ∨ (a = 90 ∧ k = 5) ∨ (a = 90 ∧ k = 6) ∨ (a = 90 ∧ k = 7) ∨ (a = 90 ∧ k = 8) ∨ (a = 90 ∧ k = 9)) → G243 a k = G209 a k) → (∀ a, ¬ (a = 101) → A243 a = A209 a) → (G243 90 6 ≤ G243 90 7 ∧ G243 90 7 ≤ G 90 3 ∧ (G243 90 8 = 2 → G243 90 7 - G243 90 6 ≤ 12)) → (G243 90 4 = 0 → G209 90 4 = 0) → (G209 90 6 ≤ G243 90 6) → Re L xs 145 243 [(0, .ref 90), (1, V (G 90 6)), (2, V ((80 * (G 90 33)) + (A 107 ((G 90 33).toNat)))), (3, V k3)] [] (HP ly F243 G243 A243 B) Q := by
          intro F243 G243 A243 hF243 hG243 hA243 ff243 fg243 fa243 hj5 hj6 hj7
          refine r_aload_n i_145_243 rfl ?_
          refine r_getF (v := .ref 107) i_145_244 rfl (hly 90 _ rfl) (hF243.1 90 25 107 rfl) ?_
          refine r_aload_n i_145_247 rfl ?_
          refine r_getI i_145_248 rfl (hly 90 _ rfl) ?_
          rw [show G243 90 33 = G 90 33 from by rw [fg243 90 33 (by omega), fg209 90 33 (by omega), fg40 90 33 (by omega), fg147 90 33 (by omega), fg28 90 33 (by omega), fg19 90 33 (by omega), fg3 90 33 (by omega)]]
          refine re_nx i_145_251 rfl ?_
          refine r_iald i_145_252 (hly 107 _ rfl) (by omega) (by omega) (by omega) ?_
          rw [show A243 107 = A 107 from by rw [fa243 107 (by omega), fa209 107 (by omega), eA_43, up2_a (by omega), eA_42, up2_a (by omega), eA_41, up2_a (by omega), eA_29, up2_a (by omega), eA_20, up2_a (by omega), fa19 107 (by omega)]]
          refine r_iconst i_145_253 ?_
          refine r_iadd i_145_254 ?_
          refine r_iastQ i_145_255 (hly 107 _ rfl) (by omega) (by omega) (by omega) (fun A_44 eA_44 => ?_)
          have hA_44 : AQ A_44 := by rw [eA_44]; exact au_107 hA243 (by omega) (by omega)
          have x98_1 : A_29 98 = fun i => if i = ((80 * (G 90 33)) + (A 107 ((G 90 33).toNat))).toNat then r_26 else A 98 i := by rw [eA_29, up2_f, eA_20, up2_a (by omega), fa19 98 (by omega)]
          have x98 : A_44 98 = fun i => if i = ((80 * (G 90 33)) + (A 107 ((G 90 33).toNat))).toNat then r_26 else A 98 i := by rw [eA_44, up2_a (by omega), fa243 98 (by omega), fa209 98 (by omega), eA_43, up2_a (by omega), eA_42, up2_a (by omega), eA_41, up2_a (by omega), x98_1]
          have x99_1 : A_41 99 = fun i => if i = ((80 * (G 90 33)) + (A 107 ((G 90 33).toNat))).toNat then r_38 else A 99 i := by rw [eA_41, up2_f, eA_29, up2_a (by omega), eA_20, up2_a (by omega), fa19 99 (by omega)]
          have x99 : A_44 99 = fun i => if i = ((80 * (G 90 33)) + (A 107 ((G 90 33).toNat))).toNat then r_38 else A 99 i := by rw [eA_44, up2_a (by omega), fa243 99 (by omega), fa209 99 (by omega), eA_43, up2_a (by omega), eA_42, up2_a (by omega), x99_1]
          have x107_1 : A_44 107 = fun i => if i = (G 90 33).toNat then (A 107 ((G 90 33).toNat)) + 1 else A 107 i := by rw [eA_44, up2_f, fa243 107 (by omega), fa209 107 (by omega), eA_43, up2_a (by omega), eA_42, up2_a (by omega), eA_41, up2_a (by omega), eA_29, up2_a (by omega), eA_20, up2_a (by omega), fa19 107 (by omega)]
          have x107 : A_44 107 = fun i => if i = (G 90 33).toNat then (A 107 ((G 90 33).toNat)) + 1 else A 107 i := by rw [x107_1]
          have x103 : A_44 103 = A 103 := by rw [eA_44, up2_a (by omega), fa243 103 (by omega), fa209 103 (by omega), eA_43, up2_a (by omega), eA_42, up2_a (by omega), eA_41, up2_a (by omega), eA_29, up2_a (by omega), eA_20, up2_a (by omega), fa19 103 (by omega)]
          have x104 : A_44 104 = A 104 := by rw [eA_44, up2_a (by omega), fa243 104 (by omega), fa209 104 (by omega), eA_43, up2_a (by omega), eA_42, up2_a (by omega), eA_41, up2_a (by omega), eA_29, up2_a (by omega), eA_20, up2_a (by omega), fa19 104 (by omega)]
          have x106 : A_44 106 = A 106 := by rw [eA_44, up2_a (by omega), fa243 106 (by omega), fa209 106 (by omega), eA_43, up2_a (by omega), eA_42, up2_a (by omega), eA_41, up2_a (by omega), eA_29, up2_a (by omega), eA_20, up2_a (by omega), fa19 106 (by omega)]
          have x108 : A_44 108 = A 108 := by rw [eA_44, up2_a (by omega), fa243 108 (by omega), fa209 108 (by omega), eA_43, up2_a (by omega), eA_42, up2_a (by omega), eA_41, up2_a (by omega), eA_29, up2_a (by omega), eA_20, up2_a (by omega), fa19 108 (by omega)]
          have x111 : A_44 111 = A 111 := by rw [eA_44, up2_a (by omega), fa243 111 (by omega), fa209 111 (by omega), eA_43, up2_a (by omega), eA_42, up2_a (by omega), eA_41, up2_a (by omega), eA_29, up2_a (by omega), eA_20, up2_a (by omega), fa19 111 (by omega)]
          have x112 : A_44 112 = A 112 := by rw [eA_44, up2_a (by omega), fa243 112 (by omega), fa209 112 (by omega), eA_43, up2_a (by omega), eA_42, up2_a (by omega), eA_41, up2_a (by omega), eA_29, up2_a (by omega), eA_20, up2_a (by omega), fa19 112 (by omega)]
          exact r_vret i_145_256 rfl (K F243 G243 A_44 hF243 hG243 hA_44 (by intro a k hh; rw [ff243 a k (by omega), ff209 a k (by omega), ff40 a k (by omega), ff28 a k (by omega), ff19 a k (by omega)]) (by intro a k hh; rw [fg243 a k (by omega), fg209 a k (by omega), fg40 a k (by omega), fg147 a k (by omega), fg28 a k (by omega), fg19 a k (by omega), fg3 a k (by omega)]) (by intro a hh; rw [eA_44, up2_a (by omega), fa243 a (by omega), fa209 a (by omega), eA_43, up2_a (by omega), eA_42, up2_a (by omega), eA_41, up2_a (by omega), eA_29, up2_a (by omega), eA_20, up2_a (by omega), fa19 a (by omega)]) (by omega) (by omega) (by omega) (by intro h0; exact bkV_w (by omega) (by omega) (by omega) (by omega) (by omega) x98 x99 x107 x103 x104 x106 x108 x111 x112) (by intro b hb hn; exact bkE_w hb (by omega) (by omega) (by omega) (by omega) x98 x99 x107 x103 x104 x106 x108 x111 x112))
        refine r_aload_n i_145_209 rfl ?_
        refine r_cV (as := []) i_145_210 rfl (by decide +kernel) (Nat.le_of_ble_eq_true rfl) (Nat.le_of_ble_eq_true rfl) (hly 90 _ rfl) rfl ?_
        have q_45 := g_90_4 hG209
        refine c_140  hly hF209 hG209 hA209  (fun r_46 p46_0 p46_1 => ?_)
        show Re L xs 145 213 [(0, .ref 90), (1, V (G 90 6)), (2, V ((80 * (G 90 33)) + (A 107 ((G 90 33).toNat)))), (3, V k3)] [V r_46] (HP ly F209 G209 A209 B) _
        refine r_eq0 (t := 243) i_145_213 (by decide) (by omega) (fun c_47 => ?_) (fun c_47 => ?_)
        · skip
          exact jn243 F209 G209 A209 hF209 hG209 hA209 (by intro a k hh; rfl) (by intro a k hh; rfl) (by intro a hh; rfl) (by omega) (by omega) (by omega)
        · skip
          refine r_aload_n i_145_216 rfl ?_
          refine r_ldc2 (v := 504364296556) i_145_217 (by decide) ?_
          refine r_cV (as := [.long 504364296556]) i_145_220 rfl (by decide +kernel) (Nat.le_of_ble_eq_true rfl) (Nat.le_of_ble_eq_true rfl) (hly 90 _ rfl) rfl ?_
          refine c_142 (w := 504364296556) hly hF209 hG209 hA209  (fun r_48 p48_0 => ?_)
          show Re L xs 145 223 [(0, .ref 90), (1, V (G 90 6)), (2, V ((80 * (G 90 33)) + (A 107 ((G 90 33).toNat)))), (3, V k3)] [V r_48] (HP ly F209 G209 A209 B) _
          refine r_eq0 (t := 243) i_145_223 (by decide) (by omega) (fun c_49 => ?_) (fun c_49 => ?_)
          · skip
            exact jn243 F209 G209 A209 hF209 hG209 hA209 (by intro a k hh; rfl) (by intro a k hh; rfl) (by intro a hh; rfl) (by omega) (by omega) (by omega)
          · skip
            refine r_aload_n i_145_226 rfl ?_
            refine r_cV (as := []) i_145_227 rfl (by decide +kernel) (Nat.le_of_ble_eq_true rfl) (Nat.le_of_ble_eq_true rfl) (hly 90 _ rfl) rfl ?_
            have q_50 := g_90_7 hG209
            have w_51 : G209 90 3 = G 90 3 := by rw [fg209 90 3 (by omega), fg40 90 3 (by omega), fg147 90 3 (by omega), fg28 90 3 (by omega), fg19 90 3 (by omega), fg3 90 3 (by omega)]
            refine c_135  hly hF209 hG209 hA209 (by omega) (fun F_52 G_53 hF_52 hG_53 ff53 fg53 p53_0 p53_1 p53_2 => ?_)
            show Re L xs 145 230 [(0, .ref 90), (1, V (G 90 6)), (2, V ((80 * (G 90 33)) + (A 107 ((G 90 33).toNat)))), (3, V k3)] [] (HP ly F_52 G_53 A209 B) _
            refine r_aload_n i_145_230 rfl ?_
            refine r_getF (v := .ref 101) i_145_231 rfl (hly 90 _ rfl) (hF_52.1 90 19 101 rfl) ?_
            refine r_iload_n i_145_234 rfl ?_
            refine r_aload_n i_145_235 rfl ?_
            refine r_ldcw (v := 100000) i_145_236 (by decide) ?_
            refine r_cV (as := [V 100000]) i_145_239 rfl (by decide +kernel) (Nat.le_of_ble_eq_true rfl) (Nat.le_of_ble_eq_true rfl) (hly 90 _ rfl) rfl ?_
            have q_54 := g_90_6 hG_53
            have q_55 := g_90_7 hG_53
            have w_56 : G_53 90 3 = G 90 3 := by rw [fg53 90 3 (by omega), fg209 90 3 (by omega), fg40 90 3 (by omega), fg147 90 3 (by omega), fg28 90 3 (by omega), fg19 90 3 (by omega), fg3 90 3 (by omega)]
            have q_57 := g_90_8 hG_53
            have w_58 : G_53 90 4 = G209 90 4 := by rw [fg53 90 4 (by omega)]
            refine c_148 (most := 100000) hly hF_52 hG_53 hA209 (by omega) (by omega) (fun r_59 F_60 G_61 hF_60 hG_61 ff61 fg61 p61_0 p61_1 p61_2 p61_3 p61_4 => ?_)
            show Re L xs 145 242 [(0, .ref 90), (1, V (G 90 6)), (2, V ((80 * (G 90 33)) + (A 107 ((G 90 33).toNat)))), (3, V k3)] [V r_59, V ((80 * (G 90 33)) + (A 107 ((G 90 33).toNat))), .ref 101] (HP ly F_60 G_61 A209 B) _
            refine r_iastQ i_145_242 (hly 101 _ rfl) (by omega) (by omega) (by omega) (fun A_62 eA_62 => ?_)
            have hA_62 : AQ A_62 := by rw [eA_62]; exact au_101 hA209 (by omega) (by omega)
            exact jn243 F_60 G_61 A_62 hF_60 hG_61 hA_62 (by intro a k hh; rw [ff61 a k (by omega), ff53 a k (by omega)]) (by intro a k hh; rw [fg61 a k (by omega), fg53 a k (by omega)]) (by intro a hh; rw [eA_62, up2_a (by omega)]) (by omega) (by omega) (by omega)
      refine r_aload_n i_145_175 rfl ?_
      refine r_cV (as := []) i_145_176 rfl (by decide +kernel) (Nat.le_of_ble_eq_true rfl) (Nat.le_of_ble_eq_true rfl) (hly 90 _ rfl) rfl ?_
      have q_63 := g_90_4 hG_40
      refine c_140  hly hF_39 hG_40 hA_43  (fun r_64 p64_0 p64_1 => ?_)
      show Re L xs 145 179 [(0, .ref 90), (1, V (G 90 6)), (2, V ((80 * (G 90 33)) + (A 107 ((G 90 33).toNat)))), (3, V k3)] [V r_64] (HP ly F_39 G_40 A_43 B) _
      refine r_eq0 (t := 209) i_145_179 (by decide) (by omega) (fun c_65 => ?_) (fun c_65 => ?_)
      · skip
        exact jn209 F_39 G_40 A_43 hF_39 hG_40 hA_43 (by intro a k hh; rfl) (by intro a k hh; rfl) (by intro a hh; rfl) (by omega) (by omega) (by omega)
      · skip
        refine r_aload_n i_145_182 rfl ?_
        refine r_ldc2 (v := 495690081125) i_145_183 (by decide) ?_
        refine r_cV (as := [.long 495690081125]) i_145_186 rfl (by decide +kernel) (Nat.le_of_ble_eq_true rfl) (Nat.le_of_ble_eq_true rfl) (hly 90 _ rfl) rfl ?_
        refine c_142 (w := 495690081125) hly hF_39 hG_40 hA_43  (fun r_66 p66_0 => ?_)
        show Re L xs 145 189 [(0, .ref 90), (1, V (G 90 6)), (2, V ((80 * (G 90 33)) + (A 107 ((G 90 33).toNat)))), (3, V k3)] [V r_66] (HP ly F_39 G_40 A_43 B) _
        refine r_eq0 (t := 209) i_145_189 (by decide) (by omega) (fun c_67 => ?_) (fun c_67 => ?_)
        · skip
          exact jn209 F_39 G_40 A_43 hF_39 hG_40 hA_43 (by intro a k hh; rfl) (by intro a k hh; rfl) (by intro a hh; rfl) (by omega) (by omega) (by omega)
        · skip
          refine r_aload_n i_145_192 rfl ?_
          refine r_cV (as := []) i_145_193 rfl (by decide +kernel) (Nat.le_of_ble_eq_true rfl) (Nat.le_of_ble_eq_true rfl) (hly 90 _ rfl) rfl ?_
          have q_68 := g_90_7 hG_40
          have w_69 : G_40 90 3 = G 90 3 := by rw [fg40 90 3 (by omega), fg147 90 3 (by omega), fg28 90 3 (by omega), fg19 90 3 (by omega), fg3 90 3 (by omega)]
          refine c_135  hly hF_39 hG_40 hA_43 (by omega) (fun F_70 G_71 hF_70 hG_71 ff71 fg71 p71_0 p71_1 p71_2 => ?_)
          show Re L xs 145 196 [(0, .ref 90), (1, V (G 90 6)), (2, V ((80 * (G 90 33)) + (A 107 ((G 90 33).toNat)))), (3, V k3)] [] (HP ly F_70 G_71 A_43 B) _
          refine r_aload_n i_145_196 rfl ?_
          refine r_getF (v := .ref 100) i_145_197 rfl (hly 90 _ rfl) (hF_70.1 90 18 100 rfl) ?_
          refine r_iload_n i_145_200 rfl ?_
          refine r_aload_n i_145_201 rfl ?_
          refine r_ldcw (v := 100000) i_145_202 (by decide) ?_
          refine r_cV (as := [V 100000]) i_145_205 rfl (by decide +kernel) (Nat.le_of_ble_eq_true rfl) (Nat.le_of_ble_eq_true rfl) (hly 90 _ rfl) rfl ?_
          have q_72 := g_90_6 hG_71
          have q_73 := g_90_7 hG_71
          have w_74 : G_71 90 3 = G 90 3 := by rw [fg71 90 3 (by omega), fg40 90 3 (by omega), fg147 90 3 (by omega), fg28 90 3 (by omega), fg19 90 3 (by omega), fg3 90 3 (by omega)]
          have q_75 := g_90_8 hG_71
          have w_76 : G_71 90 4 = G_40 90 4 := by rw [fg71 90 4 (by omega)]
          refine c_148 (most := 100000) hly hF_70 hG_71 hA_43 (by omega) (by omega) (fun r_77 F_78 G_79 hF_78 hG_79 ff79 fg79 p79_0 p79_1 p79_2 p79_3 p79_4 => ?_)
          show Re L xs 145 208 [(0, .ref 90), (1, V (G 90 6)), (2, V ((80 * (G 90 33)) + (A 107 ((G 90 33).toNat)))), (3, V k3)] [V r_77, V ((80 * (G 90 33)) + (A 107 ((G 90 33).toNat))), .ref 100] (HP ly F_78 G_79 A_43 B) _
          refine r_iastQ i_145_208 (hly 100 _ rfl) (by omega) (by omega) (by omega) (fun A_80 eA_80 => ?_)
          have hA_80 : AQ A_80 := by rw [eA_80]; exact au_100 hA_43 (by omega) (by omega)
          exact jn209 F_78 G_79 A_80 hF_78 hG_79 hA_80 (by intro a k hh; rw [ff79 a k (by omega), ff71 a k (by omega)]) (by intro a k hh; rw [fg79 a k (by omega), fg71 a k (by omega)]) (by intro a hh; rw [eA_80, up2_a (by omega)]) (by omega) (by omega) (by omega)
    have lp70B : ∀ (nf : Nat) (k : Int) (G70 : Nat → Nat → Int), (GO G70) → (∀ a k, ¬ ((a = 90 ∧ k = 4) ∨ (a = 90 ∧ k = 5)) → G70 a k = G_28 a k) → (0 ≤ k ∧ k ≤ 160) → (G70 90 4 = 0 → G_28 90 4 = 0) → (200 - k).toNat < nf → Re L xs 145 70 [(0, .ref 90), (1, V (G 90 6)), (2, V ((80 * (G 90 33)) + (A 107 ((G 90 33).toNat)))), (3, V k)] [] (HP ly F_27 G70 A_29 B) Q := by
      intro nf
      induction nf with
      | zero => intros; omega
      | succ nf ih70B =>
        intro k G70 hG70 fg70 hk hk2 hm70
        refine r_iload_n i_145_70 rfl ?_
        refine r_iload_n i_145_71 rfl ?_
        refine r_cge (t := 147) i_145_72 (by decide) (by omega) (by omega) (fun c_81 => ?_) (fun c_81 => ?_)
        · skip
          exact jn147 k G70 hG70 (by intro a k hh; rw [fg70 a k (by omega)]) (by omega)
        · skip
          refine r_aload_n i_145_75 rfl ?_
          refine r_cV (as := []) i_145_76 rfl (by decide +kernel) (Nat.le_of_ble_eq_true rfl) (Nat.le_of_ble_eq_true rfl) (hly 90 _ rfl) rfl ?_
          have q_82 := g_90_4 hG70
          refine c_140  hly hF_27 hG70 hA_29  (fun r_83 p83_0 p83_1 => ?_)
          show Re L xs 145 79 [(0, .ref 90), (1, V (G 90 6)), (2, V ((80 * (G 90 33)) + (A 107 ((G 90 33).toNat)))), (3, V k)] [V r_83] (HP ly F_27 G70 A_29 B) _
          refine r_eq0 (t := 147) i_145_79 (by decide) (by omega) (fun c_84 => ?_) (fun c_84 => ?_)
          · skip
            exact jn147 k G70 hG70 (by intro a k hh; rw [fg70 a k (by omega)]) (by omega)
          · skip
            refine r_aload_n i_145_82 rfl ?_
            refine r_getF (v := .ref 98) i_145_83 rfl (hly 90 _ rfl) (hF_27.1 90 16 98 rfl) ?_
            refine r_iload_n i_145_86 rfl ?_
            refine r_iald i_145_87 (hly 98 _ rfl) (by omega) (by omega) (by omega) ?_
            have q_85 := a_98 hA_29 (k.toNat)
            refine r_aload_n i_145_88 rfl ?_
            refine r_getF (v := .ref 98) i_145_89 rfl (hly 90 _ rfl) (hF_27.1 90 16 98 rfl) ?_
            refine r_iload_n i_145_92 rfl ?_
            refine r_iald i_145_93 (hly 98 _ rfl) (by omega) (by omega) (by omega) ?_
            have q_86 := a_98 hA_29 (((80 * (G 90 33)) + (A 107 ((G 90 33).toNat))).toNat)
            refine r_cne (t := 141) i_145_94 (by decide) (by omega) (by omega) (fun c_87 => ?_) (fun c_87 => ?_)
            · skip
              refine r_iinc (l' := [(0, .ref 90), (1, V (G 90 6)), (2, V ((80 * (G 90 33)) + (A 107 ((G 90 33).toNat)))), (3, V (k + 1))]) i_145_141 rfl (by decide +kernel) rfl ?_
              refine r_go (t := 70) i_145_144 (by decide) ?_
              exact ih70B (k + 1) G70 hG70 (by intro a k hh; rw [fg70 a k (by omega)]) (by omega) (by omega) (by omega)
            · skip
              refine r_aload_n i_145_97 rfl ?_
              refine r_getF (v := .ref 97) i_145_98 rfl (hly 90 _ rfl) (hF_27.1 90 15 97 rfl) ?_
              refine r_iload_n i_145_101 rfl ?_
              refine r_iald i_145_102 (hly 97 _ rfl) (by omega) (by omega) (by omega) ?_
              rw [show A_29 97 = A_20 97 from by rw [eA_29, up2_a (by omega)]]
              have q_88 := a_97 hA_20 (k.toNat)
              refine r_aload_n i_145_103 rfl ?_
              refine r_getF (v := .ref 97) i_145_104 rfl (hly 90 _ rfl) (hF_27.1 90 15 97 rfl) ?_
              refine r_iload_n i_145_107 rfl ?_
              refine r_iald i_145_108 (hly 97 _ rfl) (by omega) (by omega) (by omega) ?_
              rw [show A_29 97 = A_20 97 from by rw [eA_29, up2_a (by omega)]]
              have q_89 := a_97 hA_20 (((80 * (G 90 33)) + (A 107 ((G 90 33).toNat))).toNat)
              refine r_cne (t := 141) i_145_109 (by decide) (by omega) (by omega) (fun c_90 => ?_) (fun c_90 => ?_)
              · skip
                refine r_iinc (l' := [(0, .ref 90), (1, V (G 90 6)), (2, V ((80 * (G 90 33)) + (A 107 ((G 90 33).toNat)))), (3, V (k + 1))]) i_145_141 rfl (by decide +kernel) rfl ?_
                refine r_go (t := 70) i_145_144 (by decide) ?_
                exact ih70B (k + 1) G70 hG70 (by intro a k hh; rw [fg70 a k (by omega)]) (by omega) (by omega) (by omega)
              · skip
                refine r_aload_n i_145_112 rfl ?_
                refine r_getF (v := .ref 93) i_145_113 rfl (hly 90 _ rfl) (hF_27.1 90 11 93 rfl) ?_
                refine r_iload_n i_145_116 rfl ?_
                refine r_aload_n i_145_117 rfl ?_
                refine r_getF (v := .ref 93) i_145_118 rfl (hly 90 _ rfl) (hF_27.1 90 11 93 rfl) ?_
                refine r_iload_n i_145_121 rfl ?_
                refine r_aload_n i_145_122 rfl ?_
                refine r_getF (v := .ref 97) i_145_123 rfl (hly 90 _ rfl) (hF_27.1 90 15 97 rfl) ?_
                refine r_iload_n i_145_126 rfl ?_
                refine r_iald i_145_127 (hly 97 _ rfl) (by omega) (by omega) (by omega) ?_
                rw [show A_29 97 = A_20 97 from by rw [eA_29, up2_a (by omega)]]
                refine r_iconst i_145_128 ?_
                refine r_cS (as := [V 0, V (A_20 97 (((80 * (G 90 33)) + (A 107 ((G 90 33).toNat))).toNat)), V ((80 * (G 90 33)) + (A 107 ((G 90 33).toNat))), .ref 93, V k, .ref 93]) i_145_129 rfl (by decide +kernel) (Nat.le_of_ble_eq_true rfl) (Nat.le_of_ble_eq_true rfl) ?_
                refine c_149 (ra := 93) (p := k) (rc := 93) (q := (80 * (G 90 33)) + (A 107 ((G 90 33).toNat))) (n := A_20 97 (((80 * (G 90 33)) + (A 107 ((G 90 33).toNat))).toNat)) (bare := 0) (capa := 1920) (capc := 1920) hly hF_27 hG70 hA_29 (by omega) (by omega) (by omega) (by omega) (by exact hly 93 _ rfl) (by exact hly 93 _ rfl) (by exact fun i => a_93 hA_29 i) (by exact fun i => a_93 hA_29 i) (by omega) (by omega) (by omega) (by omega) (fun r_91 p91_0 => ?_)
                show Re L xs 145 132 [(0, .ref 90), (1, V (G 90 6)), (2, V ((80 * (G 90 33)) + (A 107 ((G 90 33).toNat)))), (3, V k)] [V r_91] (HP ly F_27 G70 A_29 B) _
                refine r_eq0 (t := 141) i_145_132 (by decide) (by omega) (fun c_92 => ?_) (fun c_92 => ?_)
                · skip
                  refine r_iinc (l' := [(0, .ref 90), (1, V (G 90 6)), (2, V ((80 * (G 90 33)) + (A 107 ((G 90 33).toNat)))), (3, V (k + 1))]) i_145_141 rfl (by decide +kernel) rfl ?_
                  refine r_go (t := 70) i_145_144 (by decide) ?_
                  exact ih70B (k + 1) G70 hG70 (by intro a k hh; rw [fg70 a k (by omega)]) (by omega) (by omega) (by omega)
                · skip
                  refine r_aload_n i_145_135 rfl ?_
                  refine r_iconst i_145_136 ?_
                  refine r_iload_n i_145_137 rfl ?_
                  refine r_cV (as := [V (G 90 6), V 3]) i_145_138 rfl (by decide +kernel) (Nat.le_of_ble_eq_true rfl) (Nat.le_of_ble_eq_true rfl) (hly 90 _ rfl) rfl ?_
                  refine c_144 (kind := 3) (place := G 90 6) hly hF_27 hG70 hA_29 (by omega) (by omega) (by omega) (by omega) (fun G_93 hG_93 fg93 p93_0 => ?_)
                  show Re L xs 145 141 [(0, .ref 90), (1, V (G 90 6)), (2, V ((80 * (G 90 33)) + (A 107 ((G 90 33).toNat)))), (3, V k)] [] (HP ly F_27 G_93 A_29 B) _
                  refine r_iinc (l' := [(0, .ref 90), (1, V (G 90 6)), (2, V ((80 * (G 90 33)) + (A 107 ((G 90 33).toNat)))), (3, V (k + 1))]) i_145_141 rfl (by decide +kernel) rfl ?_
                  refine r_go (t := 70) i_145_144 (by decide) ?_
                  exact ih70B (k + 1) G_93 hG_93 (by intro a k hh; rw [fg93 a k (by omega), fg70 a k (by omega)]) (by omega) (by omega) (by omega)
    exact lp70B _ (80 * (G 90 33)) G_28 hG_28 (by intro a k hh; rfl) (by omega) (by omega) (Nat.lt_succ_self _)
  · skip
    exact r_vret i_145_11 rfl (K F G_3 A hF hG_3 hA (by intro a k hh; rfl) (by intro a k hh; rw [fg3 a k (by omega)]) (by intro a hh; rfl) (by rw [show G_3 90 6 = G 90 6 from by rw [fg3 90 6 (by omega)]] <;> rw [show G_3 90 7 = G 90 7 from by rw [fg3 90 7 (by omega)]] <;> rw [show G_3 90 8 = G 90 8 from by rw [fg3 90 8 (by omega)]] <;> omega) (by rw [show G_3 90 6 = G 90 6 from by rw [fg3 90 6 (by omega)]] <;> omega) (by omega) (by intro h0; exfalso; omega) (by intro b _ _; exact bkE_rf))
