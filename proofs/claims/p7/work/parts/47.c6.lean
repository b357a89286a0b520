set_option maxHeartbeats 4000000 in
theorem c_66 {L : Nat} {xs : Nat → Int32} {ly : List LK} {F : Nat → Nat → Value} {G A : Nat → Nat → Int} {B : Nat → Nat → Int64} {Q : Option Value → AH → Prop} {y : Nat} (hly : LyOk ly) (hF : RfOk F) (hG : GO G) (hA : AQ A) (hy : y = 80 ∨ y = 85) (K : ∀ (G' : Nat → Nat → Int), (GO G') → (∀ a k, ¬ ((a = y ∧ k = 4) ∨ (a = y ∧ k = 5)) → G' a k = G a k) → (G' y 5 = 0) → Q none (HP ly F G' A B)) : Re L xs 66 0 [(0, .ref y)] [] (HP ly F G A B) Q := by
  refine r_aload_n i_66_0 rfl ?_
  refine r_iconst i_66_1 ?_
  refine r_putIQ i_66_2 (by decide +kernel) (Ly_0 hly hy) (fun G_1 eG_1 => ?_)
  have hG_1 : GO G_1 := by rw [eG_1]; exact GUy_0_4 hy hG (by omega) (by omega)
  refine r_aload_n i_66_5 rfl ?_
  refine r_iconst i_66_6 ?_
  refine r_putIQ i_66_7 (by decide +kernel) (Ly_0 hly hy) (fun G_2 eG_2 => ?_)
  have hG_2 : GO G_2 := by rw [eG_2]; exact GUy_0_5 hy hG_1 (by omega) (by omega)
  exact r_vret i_66_10 rfl (K G_2 hG_2 (by intro a k hh; rw [eG_2, up2_n (fun h => hh (Or.inr h)), eG_1, up2_n (fun h => hh (Or.inl h))]) (by rw [show G_2 y 5 = 0 from by rw [eG_2, up2_s]] <;> omega))
set_option maxHeartbeats 4000000 in
theorem c_70 {L : Nat} {xs : Nat → Int32} {ly : List LK} {F : Nat → Nat → Value} {G A : Nat → Nat → Int} {B : Nat → Nat → Int64} {Q : Option Value → AH → Prop} {y : Nat} {at' : Int} {keeps : Int} (hly : LyOk ly) (hF : RfOk F) (hG : GO G) (hA : AQ A) (in_at' : inR at') (in_keeps : inR keeps) (hy : y = 80 ∨ y = 85) (hw : G y 5 < 14) (ha : 0 ≤ at' ∧ at' ≤ 199) (hk : keeps = 0 ∨ keeps = 1) (K : ∀ (G' : Nat → Nat → Int) (A' : Nat → Nat → Int), (GO G') → (AQ A') → (∀ a k, ¬ ((a = y ∧ k = 5)) → G' a k = G a k) → (∀ a, ¬ (a = y + 2 ∨ a = y + 4) → A' a = A a) → (G' y 5 = G y 5 + 1) → (A' (y + 2) = fun i => if i = (G y 5).toNat then at' else A (y + 2) i) → Q none (HP ly F G' A' B)) : Re L xs 70 0 [(0, .ref y), (1, V (at')), (2, V keeps)] [] (HP ly F G A B) Q := by
  refine r_aload_n i_70_0 rfl ?_
  refine r_getF (v := .ref (y + 2)) i_70_1 rfl (Ly_0 hly hy) (Ry_0_1 hF hy) ?_
  refine r_aload_n i_70_4 rfl ?_
  refine r_getI i_70_5 rfl (Ly_0 hly hy) ?_
  have q_1 := Gy_0_5 hG hy
  refine r_iload_n i_70_8 rfl ?_
  refine r_iastQ i_70_9 (Ly_2 hly hy) (by omega) (by omega) (by omega) (fun A_2 eA_2 => ?_)
  have hA_2 : AQ A_2 := by rw [eA_2]; exact AUy_2 hy hA (by omega) (by omega)
  refine r_aload_n i_70_10 rfl ?_
  refine r_getF (v := .ref (y + 4)) i_70_11 rfl (Ly_0 hly hy) (Ry_0_3 hF hy) ?_
  refine r_aload_n i_70_14 rfl ?_
  refine r_getI i_70_15 rfl (Ly_0 hly hy) ?_
  refine r_iload_n i_70_18 rfl ?_
  refine r_zastQ i_70_19 (Ly_4 hly hy) (by omega) (by omega) (by omega) (by omega) (fun A_3 eA_3 => ?_)
  have hA_3 : AQ A_3 := by rw [eA_3]; exact AUy_4 hy hA_2 (by omega) (by omega)
  refine r_aload_n i_70_20 rfl ?_
  refine re_nx i_70_21 rfl ?_
  refine r_getI i_70_22 rfl (Ly_0 hly hy) ?_
  refine r_iconst i_70_25 ?_
  refine r_iadd i_70_26 ?_
  refine r_putIQ i_70_27 (by decide +kernel) (Ly_0 hly hy) (fun G_4 eG_4 => ?_)
  have hG_4 : GO G_4 := by rw [eG_4]; exact GUy_0_5 hy hG (by omega) (by omega)
  have xy2_1 : A_2 (y + 2) = fun i => if i = (G y 5).toNat then at' else A (y + 2) i := by rw [eA_2, up2_f]
  have xy2 : A_3 (y + 2) = fun i => if i = (G y 5).toNat then at' else A (y + 2) i := by rw [eA_3, up2_a (by omega), xy2_1]
  exact r_vret i_70_30 rfl (K G_4 A_3 hG_4 hA_3 (by intro a k hh; rw [eG_4, up2_n (fun h => hh h)]) (by intro a hh; rw [eA_3, up2_a (fun h => hh (Or.inr h)), eA_2, up2_a (fun h => hh (Or.inl h))]) (by rw [show G_4 y 5 = (G y 5) + 1 from by rw [eG_4, up2_s]] <;> omega) (by exact xy2))
set_option maxHeartbeats 4000000 in
theorem c_69 {L : Nat} {xs : Nat → Int32} {ly : List LK} {F : Nat → Nat → Value} {G A : Nat → Nat → Int} {B : Nat → Nat → Int64} {Q : Option Value → AH → Prop} {y : Nat} {n : Int} {day : Int} (hly : LyOk ly) (hF : RfOk F) (hG : GO G) (hA : AQ A) (in_n : inR n) (in_day : inR day) (hy : y = 80 ∨ y = 85) (hn : 0 ≤ n ∧ n ≤ 200) (hd : 0 ≤ day ∧ day ≤ 100000) (K : ∀ (r : Int) (G' : Nat → Nat → Int) (A' : Nat → Nat → Int), (GO G') → (AQ A') → (∀ a k, ¬ ((a = y ∧ k = 4) ∨ (a = y ∧ k = 5) ∨ (a = y ∧ k = 6)) → G' a k = G a k) → (∀ a, ¬ (a = y + 1 ∨ a = y + 2 ∨ a = y + 3 ∨ a = y + 4) → A' a = A a) → (-1 ≤ r ∧ r ≤ 200) → (r = -1 → lnQ (A' (y + 2)) (A' (y + 3)) (G' y 5) 200) → Q (some (V r)) (HP ly F G' A' B)) : Re L xs 69 0 [(0, .ref y), (1, .ref 1), (2, V n), (3, V day)] [] (HP ly F G A B) Q := by
  refine r_aload_n i_69_0 rfl ?_
  refine r_cV (as := []) i_69_1 rfl (by decide +kernel) (Nat.le_of_ble_eq_true rfl) (Nat.le_of_ble_eq_true rfl) (Ly_0 hly hy) rfl ?_
  refine c_66 (y := y) hly hF hG hA (by omega) (fun G_1 hG_1 fg1 p1_0 => ?_)
  show Re L xs 69 4 [(0, .ref y), (1, .ref 1), (2, V n), (3, V day)] [] (HP ly F G_1 A B) _
  refine r_aload_n i_69_4 rfl ?_
  refine r_iload_n i_69_5 rfl ?_
  refine r_putIQ i_69_6 (by decide +kernel) (Ly_0 hly hy) (fun G_2 eG_2 => ?_)
  have hG_2 : GO G_2 := by rw [eG_2]; exact GUy_0_6 hy hG_1 (by omega) (by omega)
  refine r_iconst i_69_9 ?_
  refine r_istore (l' := [(0, .ref y), (1, .ref 1), (2, V n), (3, V day), (4, V 0)]) i_69_10 (by decide +kernel) rfl ?_
  refine r_iconst i_69_12 ?_
  refine r_istore (l' := [(0, .ref y), (1, .ref 1), (2, V n), (3, V day), (4, V 0), (5, V 0)]) i_69_13 (by decide +kernel) rfl ?_
  refine r_iconst i_69_15 ?_
  refine r_istore (l' := [(0, .ref y), (1, .ref 1), (2, V n), (3, V day), (4, V 0), (5, V 0), (6, V 0)]) i_69_16 (by decide +kernel) rfl ?_
  have lp18B : ∀ (nf : Nat) (run : Int) (keeps : Int) (k : Int) (l7 : Int) (G18 : Nat → Nat → Int) (A18 : Nat → Nat → Int), (GO G18) → (AQ A18) → (∀ a k, ¬ ((a = y ∧ k = 5)) → G18 a k = G_2 a k) → (∀ a, ¬ (a = y + 2 ∨ a = y + 3 ∨ a = y + 4) → A18 a = A a) → (0 ≤ k ∧ k ≤ n) → (0 ≤ run ∧ run ≤ 12) → (keeps = 0 ∨ keeps = 1) → (lnQ (A18 (y + 2)) (A18 (y + 3)) (G18 y 5) k) → (0 < run → 1 ≤ G18 y 5 ∧ A18 (y + 2) (G18 y 5 - 1).toNat + run = k) → (n - k).toNat < nf → Re L xs 69 18 [(0, .ref y), (1, .ref 1), (2, V n), (3, V day), (4, V run), (5, V keeps), (6, V k), (7, V l7)] [] (HP ly F G18 A18 B) Q := by
    intro nf
    induction nf with
    | zero => intros; omega
    | succ nf ih18B =>
      intro run keeps k l7 G18 A18 hG18 hA18 fg18 fa18 hk hru hke hq hr hm18
      refine r_iload i_69_18 rfl ?_
      refine r_iload_n i_69_20 rfl ?_
      refine r_cge (t := 145) i_69_21 (by decide) (by omega) (by omega) (fun u_3 => ?_) (fun u_3 => ?_)
      · skip
        refine r_iload i_69_145 rfl ?_
        refine r_ne0 (t := 157) i_69_147 (by decide) (by omega) (fun u_4 => ?_) (fun u_4 => ?_)
        · skip
          refine r_iload_n i_69_157 rfl ?_
          exact r_iret i_69_158 rfl rfl (K n G18 A18 hG18 hA18 (by intro a k hh; rw [fg18 a k (fun h => hh (Or.inr (Or.inl h))), eG_2, up2_n (fun h => hh (Or.inr (Or.inr h))), fg1 a k (fun h => h.elim (fun h => hh (Or.inl h)) (fun h => hh (Or.inr (Or.inl h))))]) (by intro a hh; rw [fa18 a (fun h => h.elim (fun h => hh (Or.inr (Or.inl h))) (fun h => h.elim (fun h => hh (Or.inr (Or.inr (Or.inl h)))) (fun h => hh (Or.inr (Or.inr (Or.inr h))))))]) (by omega) (by intro h; exfalso; omega))
        · skip
          refine r_iload_n i_69_150 rfl ?_
          refine r_sipush i_69_151 (by decide) ?_
          refine r_cle (t := 159) i_69_154 (by decide) (by omega) (by omega) (fun u_5 => ?_) (fun u_5 => ?_)
          · skip
            refine r_aload_n i_69_159 rfl ?_
            refine r_iconst i_69_160 ?_
            refine r_aload_n i_69_161 rfl ?_
            refine r_getF (v := .ref (y + 1)) i_69_162 rfl (Ly_0 hly hy) (Ry_0_0 hF hy) ?_
            refine r_iconst i_69_165 ?_
            refine r_iload_n i_69_166 rfl ?_
            refine r_copyQ i_69_167 (by decide +kernel) (by decide +kernel) (Nat.le_of_ble_eq_true rfl) (hly 1 _ rfl) (Ly_1 hly hy) (by omega) (by omega) (by omega) (fun i => a_1 hA18 i) (fun A_6 eA_6 => ?_)
            have hA_6 : AQ A_6 := by rw [eA_6]; exact Fy_1 hy hA18 (fun k => by (try dsimp only); split; exact (fun i => a_1 hA18 i) _; exact Ay_1 hA18 hy k)
            have fc6 : ∀ a, ¬ (a = y + 1) → A_6 a = A18 a := fun a hh => by rw [eA_6]; exact up1_n hh
            refine r_aload_n i_69_170 rfl ?_
            refine r_iload_n i_69_171 rfl ?_
            refine r_putIQ i_69_172 (by decide +kernel) (Ly_0 hly hy) (fun G_7 eG_7 => ?_)
            have hG_7 : GO G_7 := by rw [eG_7]; exact GUy_0_4 hy hG18 (by omega) (by omega)
            refine r_iconst i_69_175 ?_
            exact r_iret i_69_176 rfl rfl (K ((-1)) G_7 A_6 hG_7 hA_6 (by intro a k hh; rw [eG_7, up2_n (fun h => hh (Or.inl h)), fg18 a k (fun h => hh (Or.inr (Or.inl h))), eG_2, up2_n (fun h => hh (Or.inr (Or.inr h))), fg1 a k (fun h => h.elim (fun h => hh (Or.inl h)) (fun h => hh (Or.inr (Or.inl h))))]) (by intro a hh; rw [fc6 a (by omega), fa18 a (fun h => h.elim (fun h => hh (Or.inr (Or.inl h))) (fun h => h.elim (fun h => hh (Or.inr (Or.inr (Or.inl h)))) (fun h => hh (Or.inr (Or.inr (Or.inr h))))))]) (by omega) (by intro _; rw [show G_7 y 5 = G18 y 5 from by rw [eG_7, up2_n (by omega)], show A_6 (y + 2) = A18 (y + 2) from by rw [fc6 (y + 2) (by omega)], show A_6 (y + 3) = A18 (y + 3) from by rw [fc6 (y + 3) (by omega)]]; exact lnQ_k hq (by omega)))
          · skip
            refine r_iload_n i_69_157 rfl ?_
            exact r_iret i_69_158 rfl rfl (K n G18 A18 hG18 hA18 (by intro a k hh; rw [fg18 a k (fun h => hh (Or.inr (Or.inl h))), eG_2, up2_n (fun h => hh (Or.inr (Or.inr h))), fg1 a k (fun h => h.elim (fun h => hh (Or.inl h)) (fun h => hh (Or.inr (Or.inl h))))]) (by intro a hh; rw [fa18 a (fun h => h.elim (fun h => hh (Or.inr (Or.inl h))) (fun h => h.elim (fun h => hh (Or.inr (Or.inr (Or.inl h)))) (fun h => hh (Or.inr (Or.inr (Or.inr h))))))]) (by omega) (by intro h; exfalso; omega))
      · skip
        refine r_aload_n i_69_24 rfl ?_
        refine r_iload i_69_25 rfl ?_
        refine r_cald i_69_27 (hly 1 _ rfl) (by omega) (by omega) (by omega) ?_
        rw [show A18 1 = A 1 from by rw [fa18 1 (by omega)]]
        have q_8 := a_1 hA (k.toNat)
        refine r_istore (l' := [(0, .ref y), (1, .ref 1), (2, V n), (3, V day), (4, V run), (5, V keeps), (6, V k), (7, V (A 1 (k.toNat)))]) i_69_28 (by decide +kernel) rfl ?_
        refine r_iload i_69_30 rfl ?_
        refine r_cS (as := [V (A 1 (k.toNat))]) i_69_32 rfl (by decide +kernel) (Nat.le_of_ble_eq_true rfl) (Nat.le_of_ble_eq_true rfl) ?_
        refine c_43 (c := A 1 (k.toNat)) hly hF hG18 hA18 (by omega) (fun r_9 p9_0 => ?_)
        show Re L xs 69 35 [(0, .ref y), (1, .ref 1), (2, V n), (3, V day), (4, V run), (5, V keeps), (6, V k), (7, V (A 1 (k.toNat)))] [V r_9] (HP ly F G18 A18 B) _
        refine r_eq0 (t := 97) i_69_35 (by decide) (by omega) (fun u_10 => ?_) (fun u_10 => ?_)
        · skip
          refine r_iload i_69_97 rfl ?_
          refine r_eq0 (t := 105) i_69_99 (by decide) (by omega) (fun u_11 => ?_) (fun u_11 => ?_)
          · skip
            refine r_iload i_69_105 rfl ?_
            refine r_bipush i_69_107 (by decide) ?_
            refine r_cne (t := 118) i_69_109 (by decide) (by omega) (by omega) (fun u_12 => ?_) (fun u_12 => ?_)
            · skip
              refine r_iload i_69_118 rfl ?_
              refine r_bipush i_69_120 (by decide) ?_
              refine r_cne (t := 136) i_69_122 (by decide) (by omega) (by omega) (fun u_13 => ?_) (fun u_13 => ?_)
              · skip
                refine r_iload i_69_136 rfl ?_
                exact r_iret i_69_138 rfl rfl (K k G18 A18 hG18 hA18 (by intro a k hh; rw [fg18 a k (fun h => hh (Or.inr (Or.inl h))), eG_2, up2_n (fun h => hh (Or.inr (Or.inr h))), fg1 a k (fun h => h.elim (fun h => hh (Or.inl h)) (fun h => hh (Or.inr (Or.inl h))))]) (by intro a hh; rw [fa18 a (fun h => h.elim (fun h => hh (Or.inr (Or.inl h))) (fun h => h.elim (fun h => hh (Or.inr (Or.inr (Or.inl h)))) (fun h => hh (Or.inr (Or.inr (Or.inr h))))))]) (by omega) (by intro h; exfalso; omega))
              · skip
                refine r_iload i_69_125 rfl ?_
                refine r_ne0 (t := 136) i_69_127 (by decide) (by omega) (fun u_14 => ?_) (fun u_14 => ?_)
                · skip
                  refine r_iload i_69_136 rfl ?_
                  exact r_iret i_69_138 rfl rfl (K k G18 A18 hG18 hA18 (by intro a k hh; rw [fg18 a k (fun h => hh (Or.inr (Or.inl h))), eG_2, up2_n (fun h => hh (Or.inr (Or.inr h))), fg1 a k (fun h => h.elim (fun h => hh (Or.inl h)) (fun h => hh (Or.inr (Or.inl h))))]) (by intro a hh; rw [fa18 a (fun h => h.elim (fun h => hh (Or.inr (Or.inl h))) (fun h => h.elim (fun h => hh (Or.inr (Or.inr (Or.inl h)))) (fun h => hh (Or.inr (Or.inr (Or.inr h))))))]) (by omega) (by intro h; exfalso; omega))
                · skip
                  refine r_iconst i_69_130 ?_
                  refine r_istore (l' := [(0, .ref y), (1, .ref 1), (2, V n), (3, V day), (4, V run), (5, V 1), (6, V k), (7, V (A 1 (k.toNat)))]) i_69_131 (by decide +kernel) rfl ?_
                  refine r_go (t := 139) i_69_133 (by decide) ?_
                  refine r_iinc (l' := [(0, .ref y), (1, .ref 1), (2, V n), (3, V day), (4, V run), (5, V 1), (6, V (k + 1)), (7, V (A 1 (k.toNat)))]) i_69_139 rfl (by decide +kernel) rfl ?_
                  refine r_go (t := 18) i_69_142 (by decide) ?_
                  exact ih18B run 1 (k + 1) (A 1 (k.toNat)) G18 A18 hG18 hA18 (by intro a k hh; rw [fg18 a k (fun h => hh h)]) (by intro a hh; rw [fa18 a (fun h => h.elim (fun h => hh (Or.inl h)) (fun h => h.elim (fun h => hh (Or.inr (Or.inl h))) (fun h => hh (Or.inr (Or.inr h)))))]) (by omega) (by omega) (by omega) (by first | exact lnQ_k hq (by omega) | (rw [show A18 (y + 2) = A18 (y + 2) from by rfl]; exact lnQ_e hq (by omega) (hr (by omega)).2 xy3 (by omega) (by omega)) | exact lnQ_b hq (by omega) (by rw [show A18 (y + 2) = zzA (y + 2) from by fail]; exact zzp1) xy3 (by omega) (by omega) (by omega) | (intro j hj; exfalso; rw [show G18 y 5 = G18 y 5 from by rfl] at hj; omega)) (by first | (intro h; exfalso; omega) | (intro _; have hh := hr (by omega); refine ⟨by omega, ?_⟩; rw [show A18 (y + 2) = A18 (y + 2) from by rfl]; omega) | (intro _; refine ⟨by omega, ?_⟩; rw [show A18 (y + 2) = zzA (y + 2) from by fail, zzp1]; dsimp only; rw [if_pos (by omega)]; omega)) (by omega)
            · skip
              refine r_iconst i_69_112 ?_
              refine r_istore (l' := [(0, .ref y), (1, .ref 1), (2, V n), (3, V day), (4, V 0), (5, V keeps), (6, V k), (7, V (A 1 (k.toNat)))]) i_69_113 (by decide +kernel) rfl ?_
              refine r_go (t := 139) i_69_115 (by decide) ?_
              refine r_iinc (l' := [(0, .ref y), (1, .ref 1), (2, V n), (3, V day), (4, V 0), (5, V keeps), (6, V (k + 1)), (7, V (A 1 (k.toNat)))]) i_69_139 rfl (by decide +kernel) rfl ?_
              refine r_go (t := 18) i_69_142 (by decide) ?_
              exact ih18B 0 keeps (k + 1) (A 1 (k.toNat)) G18 A18 hG18 hA18 (by intro a k hh; rw [fg18 a k (fun h => hh h)]) (by intro a hh; rw [fa18 a (fun h => h.elim (fun h => hh (Or.inl h)) (fun h => h.elim (fun h => hh (Or.inr (Or.inl h))) (fun h => hh (Or.inr (Or.inr h)))))]) (by omega) (by omega) (by omega) (by first | exact lnQ_k hq (by omega) | (rw [show A18 (y + 2) = A18 (y + 2) from by rfl]; exact lnQ_e hq (by omega) (hr (by omega)).2 xy3 (by omega) (by omega)) | exact lnQ_b hq (by omega) (by rw [show A18 (y + 2) = zzA (y + 2) from by fail]; exact zzp1) xy3 (by omega) (by omega) (by omega) | (intro j hj; exfalso; rw [show G18 y 5 = G18 y 5 from by rfl] at hj; omega)) (by first | (intro h; exfalso; omega) | (intro _; have hh := hr (by omega); refine ⟨by omega, ?_⟩; rw [show A18 (y + 2) = A18 (y + 2) from by rfl]; omega) | (intro _; refine ⟨by omega, ?_⟩; rw [show A18 (y + 2) = zzA (y + 2) from by fail, zzp1]; dsimp only; rw [if_pos (by omega)]; omega)) (by omega)
          · skip
            refine r_iload i_69_102 rfl ?_
            exact r_iret i_69_104 rfl rfl (K k G18 A18 hG18 hA18 (by intro a k hh; rw [fg18 a k (fun h => hh (Or.inr (Or.inl h))), eG_2, up2_n (fun h => hh (Or.inr (Or.inr h))), fg1 a k (fun h => h.elim (fun h => hh (Or.inl h)) (fun h => hh (Or.inr (Or.inl h))))]) (by intro a hh; rw [fa18 a (fun h => h.elim (fun h => hh (Or.inr (Or.inl h))) (fun h => h.elim (fun h => hh (Or.inr (Or.inr (Or.inl h)))) (fun h => hh (Or.inr (Or.inr (Or.inr h))))))]) (by omega) (by intro h; exfalso; omega))
        · skip
          refine r_iload i_69_38 rfl ?_
          refine r_bipush i_69_40 (by decide) ?_
          refine r_ceq (t := 59) i_69_42 (by decide) (by omega) (by omega) (fun u_15 => ?_) (fun u_15 => ?_)
          · skip
            refine r_iload i_69_59 rfl ?_
            exact r_iret i_69_61 rfl rfl (K k G18 A18 hG18 hA18 (by intro a k hh; rw [fg18 a k (fun h => hh (Or.inr (Or.inl h))), eG_2, up2_n (fun h => hh (Or.inr (Or.inr h))), fg1 a k (fun h => h.elim (fun h => hh (Or.inl h)) (fun h => hh (Or.inr (Or.inl h))))]) (by intro a hh; rw [fa18 a (fun h => h.elim (fun h => hh (Or.inr (Or.inl h))) (fun h => h.elim (fun h => hh (Or.inr (Or.inr (Or.inl h)))) (fun h => hh (Or.inr (Or.inr (Or.inr h))))))]) (by omega) (by intro h; exfalso; omega))
          · skip
            refine r_iload i_69_45 rfl ?_
            refine r_ne0 (t := 62) i_69_47 (by decide) (by omega) (fun u_16 => ?_) (fun u_16 => ?_)
            · skip
              refine r_iload i_69_62 rfl ?_
              refine r_ne0 (t := 75) i_69_64 (by decide) (by omega) (fun u_17 => ?_) (fun u_17 => ?_)
              · skip
                refine r_iinc (l' := [(0, .ref y), (1, .ref 1), (2, V n), (3, V day), (4, V (run + 1)), (5, V keeps), (6, V k), (7, V (A 1 (k.toNat)))]) i_69_75 rfl (by decide +kernel) rfl ?_
                refine r_aload_n i_69_78 rfl ?_
                refine r_getF (v := .ref (y + 3)) i_69_79 rfl (Ly_0 hly hy) (Ry_0_2 hF hy) ?_
                refine r_aload_n i_69_82 rfl ?_
                refine r_getI i_69_83 rfl (Ly_0 hly hy) ?_
                have q_18 := Gy_0_5 hG18 hy
                refine r_iconst i_69_86 ?_
                refine r_isub i_69_87 ?_
                refine r_iload i_69_88 rfl ?_
                refine r_iastQ i_69_90 (Ly_3 hly hy) (by omega) (by omega) (by omega) (fun A_19 eA_19 => ?_)
                have hA_19 : AQ A_19 := by rw [eA_19]; exact AUy_3 hy hA18 (by omega) (by omega)
                have xy3_1 : A_19 (y + 3) = fun i => if i = ((G18 y 5) - 1).toNat then run + 1 else A18 (y + 3) i := by rw [eA_19, up2_f]
                have xy3 : A_19 (y + 3) = fun i => if i = ((G18 y 5) - 1).toNat then run + 1 else A18 (y + 3) i := by rw [xy3_1]
                refine r_iconst i_69_91 ?_
                refine r_istore (l' := [(0, .ref y), (1, .ref 1), (2, V n), (3, V day), (4, V (run + 1)), (5, V 0), (6, V k), (7, V (A 1 (k.toNat)))]) i_69_92 (by decide +kernel) rfl ?_
                refine r_go (t := 139) i_69_94 (by decide) ?_
                refine r_iinc (l' := [(0, .ref y), (1, .ref 1), (2, V n), (3, V day), (4, V (run + 1)), (5, V 0), (6, V (k + 1)), (7, V (A 1 (k.toNat)))]) i_69_139 rfl (by decide +kernel) rfl ?_
                refine r_go (t := 18) i_69_142 (by decide) ?_
                exact ih18B (run + 1) 0 (k + 1) (A 1 (k.toNat)) G18 A_19 hG18 hA_19 (by intro a k hh; rw [fg18 a k (fun h => hh h)]) (by intro a hh; rw [eA_19, up2_a (fun h => hh (Or.inr (Or.inl h))), fa18 a (fun h => h.elim (fun h => hh (Or.inl h)) (fun h => h.elim (fun h => hh (Or.inr (Or.inl h))) (fun h => hh (Or.inr (Or.inr h)))))]) (by omega) (by omega) (by omega) (by first | exact lnQ_k hq (by omega) | (rw [show A_19 (y + 2) = A18 (y + 2) from by rw [eA_19, up2_a (by omega)]]; exact lnQ_e hq (by omega) (hr (by omega)).2 xy3 (by omega) (by omega)) | exact lnQ_b hq (by omega) (by rw [show A_19 (y + 2) = zzA (y + 2) from by fail]; exact zzp1) xy3 (by omega) (by omega) (by omega) | (intro j hj; exfalso; rw [show G18 y 5 = G18 y 5 from by rfl] at hj; omega)) (by first | (intro h; exfalso; omega) | (intro _; have hh := hr (by omega); refine ⟨by omega, ?_⟩; rw [show A_19 (y + 2) = A18 (y + 2) from by rw [eA_19, up2_a (by omega)]]; omega) | (intro _; refine ⟨by omega, ?_⟩; rw [show A_19 (y + 2) = zzA (y + 2) from by fail, zzp1]; dsimp only; rw [if_pos (by omega)]; omega)) (by omega)
              · skip
                refine r_aload_n i_69_67 rfl ?_
                refine r_iload i_69_68 rfl ?_
                refine r_iload i_69_70 rfl ?_
                refine r_cV (as := [V keeps, V k]) i_69_72 rfl (by decide +kernel) (Nat.le_of_ble_eq_true rfl) (Nat.le_of_ble_eq_true rfl) (Ly_0 hly hy) rfl ?_
                have q_20 := Gy_0_5 hG18 hy
                refine c_70 (y := y) (at' := k) (keeps := keeps) hly hF hG18 hA18 (by omega) (by omega) (by omega) (by omega) (by omega) (by omega) (fun G_21 A_22 hG_21 hA_22 fg22 fa22 p22_0 p22_1 => ?_)
                show Re L xs 69 75 [(0, .ref y), (1, .ref 1), (2, V n), (3, V day), (4, V run), (5, V keeps), (6, V k), (7, V (A 1 (k.toNat)))] [] (HP ly F G_21 A_22 B) _
                refine r_iinc (l' := [(0, .ref y), (1, .ref 1), (2, V n), (3, V day), (4, V (run + 1)), (5, V keeps), (6, V k), (7, V (A 1 (k.toNat)))]) i_69_75 rfl (by decide +kernel) rfl ?_
                refine r_aload_n i_69_78 rfl ?_
                refine r_getF (v := .ref (y + 3)) i_69_79 rfl (Ly_0 hly hy) (Ry_0_2 hF hy) ?_
                refine r_aload_n i_69_82 rfl ?_
                refine r_getI i_69_83 rfl (Ly_0 hly hy) ?_
                have q_23 := Gy_0_5 hG_21 hy
                refine r_iconst i_69_86 ?_
                refine r_isub i_69_87 ?_
                refine r_iload i_69_88 rfl ?_
                refine r_iastQ i_69_90 (Ly_3 hly hy) (by omega) (by omega) (by omega) (fun A_24 eA_24 => ?_)
                have hA_24 : AQ A_24 := by rw [eA_24]; exact AUy_3 hy hA_22 (by omega) (by omega)
                have xy3_1 : A_24 (y + 3) = fun i => if i = ((G_21 y 5) - 1).toNat then run + 1 else A18 (y + 3) i := by rw [eA_24, up2_f, fa22 (y + 3) (by omega)]
                have xy3 : A_24 (y + 3) = fun i => if i = ((G_21 y 5) - 1).toNat then run + 1 else A18 (y + 3) i := by rw [xy3_1]
                refine r_iconst i_69_91 ?_
                refine r_istore (l' := [(0, .ref y), (1, .ref 1), (2, V n), (3, V day), (4, V (run + 1)), (5, V 0), (6, V k), (7, V (A 1 (k.toNat)))]) i_69_92 (by decide +kernel) rfl ?_
                refine r_go (t := 139) i_69_94 (by decide) ?_
                refine r_iinc (l' := [(0, .ref y), (1, .ref 1), (2, V n), (3, V day), (4, V (run + 1)), (5, V 0), (6, V (k + 1)), (7, V (A 1 (k.toNat)))]) i_69_139 rfl (by decide +kernel) rfl ?_
                refine r_go (t := 18) i_69_142 (by decide) ?_
                exact ih18B (run + 1) 0 (k + 1) (A 1 (k.toNat)) G_21 A_24 hG_21 hA_24 (by intro a k hh; rw [fg22 a k (fun h => hh h), fg18 a k (fun h => hh h)]) (by intro a hh; rw [eA_24, up2_a (fun h => hh (Or.inr (Or.inl h))), fa22 a (fun h => h.elim (fun h => hh (Or.inl h)) (fun h => hh (Or.inr (Or.inr h)))), fa18 a (fun h => h.elim (fun h => hh (Or.inl h)) (fun h => h.elim (fun h => hh (Or.inr (Or.inl h))) (fun h => hh (Or.inr (Or.inr h)))))]) (by omega) (by omega) (by omega) (by first | exact lnQ_k hq (by omega) | (rw [show A_24 (y + 2) = A18 (y + 2) from by fail]; exact lnQ_e hq (by omega) (hr (by omega)).2 xy3 (by omega) (by omega)) | exact lnQ_b hq (by omega) (by rw [show A_24 (y + 2) = A_22 (y + 2) from by rw [eA_24, up2_a (by omega)]]; exact p22_1) xy3 (by omega) (by omega) (by omega) | (intro j hj; exfalso; rw [show G_21 y 5 = G_21 y 5 from by rfl] at hj; omega)) (by first | (intro h; exfalso; omega) | (intro _; have hh := hr (by omega); refine ⟨by omega, ?_⟩; rw [show A_24 (y + 2) = A18 (y + 2) from by fail]; omega) | (intro _; refine ⟨by omega, ?_⟩; rw [show A_24 (y + 2) = A_22 (y + 2) from by rw [eA_24, up2_a (by omega)], p22_1]; dsimp only; rw [if_pos (by omega)]; omega)) (by omega)
            · skip
              refine r_aload_n i_69_50 rfl ?_
              refine r_getI i_69_51 rfl (Ly_0 hly hy) ?_
              have q_25 := Gy_0_5 hG18 hy
              refine r_bipush i_69_54 (by decide) ?_
              refine r_cne (t := 62) i_69_56 (by decide) (by omega) (by omega) (fun u_26 => ?_) (fun u_26 => ?_)
              · skip
                refine r_iload i_69_62 rfl ?_
                refine r_ne0 (t := 75) i_69_64 (by decide) (by omega) (fun u_27 => ?_) (fun u_27 => ?_)
                · skip
                  refine r_iinc (l' := [(0, .ref y), (1, .ref 1), (2, V n), (3, V day), (4, V (run + 1)), (5, V keeps), (6, V k), (7, V (A 1 (k.toNat)))]) i_69_75 rfl (by decide +kernel) rfl ?_
                  refine r_aload_n i_69_78 rfl ?_
                  refine r_getF (v := .ref (y + 3)) i_69_79 rfl (Ly_0 hly hy) (Ry_0_2 hF hy) ?_
                  refine r_aload_n i_69_82 rfl ?_
                  refine r_getI i_69_83 rfl (Ly_0 hly hy) ?_
                  refine r_iconst i_69_86 ?_
                  refine r_isub i_69_87 ?_
                  refine r_iload i_69_88 rfl ?_
                  refine r_iastQ i_69_90 (Ly_3 hly hy) (by omega) (by omega) (by omega) (fun A_28 eA_28 => ?_)
                  have hA_28 : AQ A_28 := by rw [eA_28]; exact AUy_3 hy hA18 (by omega) (by omega)
                  have xy3_1 : A_28 (y + 3) = fun i => if i = ((G18 y 5) - 1).toNat then run + 1 else A18 (y + 3) i := by rw [eA_28, up2_f]
                  have xy3 : A_28 (y + 3) = fun i => if i = ((G18 y 5) - 1).toNat then run + 1 else A18 (y + 3) i := by rw [xy3_1]
                  refine r_iconst i_69_91 ?_
                  refine r_istore (l' := [(0, .ref y), (1, .ref 1), (2, V n), (3, V day), (4, V (run + 1)), (5, V 0), (6, V k), (7, V (A 1 (k.toNat)))]) i_69_92 (by decide +kernel) rfl ?_
                  refine r_go (t := 139) i_69_94 (by decide) ?_
                  refine r_iinc (l' := [(0, .ref y), (1, .ref 1), (2, V n), (3, V day), (4, V (run + 1)), (5, V 0), (6, V (k + 1)), (7, V (A 1 (k.toNat)))]) i_69_139 rfl (by decide +kernel) rfl ?_
                  refine r_go (t := 18) i_69_142 (by decide) ?_
                  exact ih18B (run + 1) 0 (k + 1) (A 1 (k.toNat)) G18 A_28 hG18 hA_28 (by intro a k hh; rw [fg18 a k (fun h => hh h)]) (by intro a hh; rw [eA_28, up2_a (fun h => hh (Or.inr (Or.inl h))), fa18 a (fun h => h.elim (fun h => hh (Or.inl h)) (fun h => h.elim (fun h => hh (Or.inr (Or.inl h))) (fun h => hh (Or.inr (Or.inr h)))))]) (by omega) (by omega) (by omega) (by first | exact lnQ_k hq (by omega) | (rw [show A_28 (y + 2) = A18 (y + 2) from by rw [eA_28, up2_a (by omega)]]; exact lnQ_e hq (by omega) (hr (by omega)).2 xy3 (by omega) (by omega)) | exact lnQ_b hq (by omega) (by rw [show A_28 (y + 2) = zzA (y + 2) from by fail]; exact zzp1) xy3 (by omega) (by omega) (by omega) | (intro j hj; exfalso; rw [show G18 y 5 = G18 y 5 from by rfl] at hj; omega)) (by first | (intro h; exfalso; omega) | (intro _; have hh := hr (by omega); refine ⟨by omega, ?_⟩; rw [show A_28 (y + 2) = A18 (y + 2) from by rw [eA_28, up2_a (by omega)]]; omega) | (intro _; refine ⟨by omega, ?_⟩; rw [show A_28 (y + 2) = zzA (y + 2) from by fail, zzp1]; dsimp only; rw [if_pos (by omega)]; omega)) (by omega)
                · skip
                  refine r_aload_n i_69_67 rfl ?_
                  refine r_iload i_69_68 rfl ?_
                  refine r_iload i_69_70 rfl ?_
                  refine r_cV (as := [V keeps, V k]) i_69_72 rfl (by decide +kernel) (Nat.le_of_ble_eq_true rfl) (Nat.le_of_ble_eq_true rfl) (Ly_0 hly hy) rfl ?_
                  refine c_70 (y := y) (at' := k) (keeps := keeps) hly hF hG18 hA18 (by omega) (by omega) (by omega) (by omega) (by omega) (by omega) (fun G_29 A_30 hG_29 hA_30 fg30 fa30 p30_0 p30_1 => ?_)
                  show Re L xs 69 75 [(0, .ref y), (1, .ref 1), (2, V n), (3, V day), (4, V run), (5, V keeps), (6, V k), (7, V (A 1 (k.toNat)))] [] (HP ly F G_29 A_30 B) _
                  refine r_iinc (l' := [(0, .ref y), (1, .ref 1), (2, V n), (3, V day), (4, V (run + 1)), (5, V keeps), (6, V k), (7, V (A 1 (k.toNat)))]) i_69_75 rfl (by decide +kernel) rfl ?_
                  refine r_aload_n i_69_78 rfl ?_
                  refine r_getF (v := .ref (y + 3)) i_69_79 rfl (Ly_0 hly hy) (Ry_0_2 hF hy) ?_
                  refine r_aload_n i_69_82 rfl ?_
                  refine r_getI i_69_83 rfl (Ly_0 hly hy) ?_
                  have q_31 := Gy_0_5 hG_29 hy
                  refine r_iconst i_69_86 ?_
                  refine r_isub i_69_87 ?_
                  refine r_iload i_69_88 rfl ?_
                  refine r_iastQ i_69_90 (Ly_3 hly hy) (by omega) (by omega) (by omega) (fun A_32 eA_32 => ?_)
                  have hA_32 : AQ A_32 := by rw [eA_32]; exact AUy_3 hy hA_30 (by omega) (by omega)
                  have xy3_1 : A_32 (y + 3) = fun i => if i = ((G_29 y 5) - 1).toNat then run + 1 else A18 (y + 3) i := by rw [eA_32, up2_f, fa30 (y + 3) (by omega)]
                  have xy3 : A_32 (y + 3) = fun i => if i = ((G_29 y 5) - 1).toNat then run + 1 else A18 (y + 3) i := by rw [xy3_1]
                  refine r_iconst i_69_91 ?_
                  refine r_istore (l' := [(0, .ref y), (1, .ref 1), (2, V n), (3, V day), (4, V (run + 1)), (5, V 0), (6, V k), (7, V (A 1 (k.toNat)))]) i_69_92 (by decide +kernel) rfl ?_
                  refine r_go (t := 139) i_69_94 (by decide) ?_
                  refine r_iinc (l' := [(0, .ref y), (1, .ref 1), (2, V n), (3, V day), (4, V (run + 1)), (5, V 0), (6, V (k + 1)), (7, V (A 1 (k.toNat)))]) i_69_139 rfl (by decide +kernel) rfl ?_
                  refine r_go (t := 18) i_69_142 (by decide) ?_
                  exact ih18B (run + 1) 0 (k + 1) (A 1 (k.toNat)) G_29 A_32 hG_29 hA_32 (by intro a k hh; rw [fg30 a k (fun h => hh h), fg18 a k (fun h => hh h)]) (by intro a hh; rw [eA_32, up2_a (fun h => hh (Or.inr (Or.inl h))), fa30 a (fun h => h.elim (fun h => hh (Or.inl h)) (fun h => hh (Or.inr (Or.inr h)))), fa18 a (fun h => h.elim (fun h => hh (Or.inl h)) (fun h => h.elim (fun h => hh (Or.inr (Or.inl h))) (fun h => hh (Or.inr (Or.inr h)))))]) (by omega) (by omega) (by omega) (by first | exact lnQ_k hq (by omega) | (rw [show A_32 (y + 2) = A18 (y + 2) from by fail]; exact lnQ_e hq (by omega) (hr (by omega)).2 xy3 (by omega) (by omega)) | exact lnQ_b hq (by omega) (by rw [show A_32 (y + 2) = A_30 (y + 2) from by rw [eA_32, up2_a (by omega)]]; exact p30_1) xy3 (by omega) (by omega) (by omega) | (intro j hj; exfalso; rw [show G_29 y 5 = G_29 y 5 from by rfl] at hj; omega)) (by first | (intro h; exfalso; omega) | (intro _; have hh := hr (by omega); refine ⟨by omega, ?_⟩; rw [show A_32 (y + 2) = A18 (y + 2) from by fail]; omega) | (intro _; refine ⟨by omega, ?_⟩; rw [show A_32 (y + 2) = A_30 (y + 2) from by rw [eA_32, up2_a (by omega)], p30_1]; dsimp only; rw [if_pos (by omega)]; omega)) (by omega)
              · skip
                refine r_iload i_69_59 rfl ?_
                exact r_iret i_69_61 rfl rfl (K k G18 A18 hG18 hA18 (by intro a k hh; rw [fg18 a k (fun h => hh (Or.inr (Or.inl h))), eG_2, up2_n (fun h => hh (Or.inr (Or.inr h))), fg1 a k (fun h => h.elim (fun h => hh (Or.inl h)) (fun h => hh (Or.inr (Or.inl h))))]) (by intro a hh; rw [fa18 a (fun h => h.elim (fun h => hh (Or.inr (Or.inl h))) (fun h => h.elim (fun h => hh (Or.inr (Or.inr (Or.inl h)))) (fun h => hh (Or.inr (Or.inr (Or.inr h))))))]) (by omega) (by intro h; exfalso; omega))
  have lp18A456 : ∀ (nf : Nat) (run : Int) (keeps : Int) (k : Int) (G18 : Nat → Nat → Int) (A18 : Nat → Nat → Int), (GO G18) → (AQ A18) → (∀ a k, ¬ ((a = y ∧ k = 5)) → G18 a k = G_2 a k) → (∀ a, ¬ (a = y + 2 ∨ a = y + 3 ∨ a = y + 4) → A18 a = A a) → (0 ≤ k ∧ k ≤ n) → (0 ≤ run ∧ run ≤ 12) → (keeps = 0 ∨ keeps = 1) → (lnQ (A18 (y + 2)) (A18 (y + 3)) (G18 y 5) k) → (0 < run → 1 ≤ G18 y 5 ∧ A18 (y + 2) (G18 y 5 - 1).toNat + run = k) → (n - k).toNat < nf → Re L xs 69 18 [(0, .ref y), (1, .ref 1), (2, V n), (3, V day), (4, V run), (5, V keeps), (6, V k)] [] (HP ly F G18 A18 B) Q := by
    intro nf
    induction nf with
    | zero => intros; omega
    | succ nf ih18A456 =>
      intro run keeps k G18 A18 hG18 hA18 fg18 fa18 hk hru hke hq hr hm18
      refine r_iload i_69_18 rfl ?_
      refine r_iload_n i_69_20 rfl ?_
      refine r_cge (t := 145) i_69_21 (by decide) (by omega) (by omega) (fun u_33 => ?_) (fun u_33 => ?_)
      · skip
        refine r_iload i_69_145 rfl ?_
        refine r_ne0 (t := 157) i_69_147 (by decide) (by omega) (fun u_34 => ?_) (fun u_34 => ?_)
        · skip
          refine r_iload_n i_69_157 rfl ?_
          exact r_iret i_69_158 rfl rfl (K n G18 A18 hG18 hA18 (by intro a k hh; rw [fg18 a k (fun h => hh (Or.inr (Or.inl h))), eG_2, up2_n (fun h => hh (Or.inr (Or.inr h))), fg1 a k (fun h => h.elim (fun h => hh (Or.inl h)) (fun h => hh (Or.inr (Or.inl h))))]) (by intro a hh; rw [fa18 a (fun h => h.elim (fun h => hh (Or.inr (Or.inl h))) (fun h => h.elim (fun h => hh (Or.inr (Or.inr (Or.inl h)))) (fun h => hh (Or.inr (Or.inr (Or.inr h))))))]) (by omega) (by intro h; exfalso; omega))
        · skip
          refine r_iload_n i_69_150 rfl ?_
          refine r_sipush i_69_151 (by decide) ?_
          refine r_cle (t := 159) i_69_154 (by decide) (by omega) (by omega) (fun u_35 => ?_) (fun u_35 => ?_)
          · skip
            refine r_aload_n i_69_159 rfl ?_
            refine r_iconst i_69_160 ?_
            refine r_aload_n i_69_161 rfl ?_
            refine r_getF (v := .ref (y + 1)) i_69_162 rfl (Ly_0 hly hy) (Ry_0_0 hF hy) ?_
            refine r_iconst i_69_165 ?_
            refine r_iload_n i_69_166 rfl ?_
            refine r_copyQ i_69_167 (by decide +kernel) (by decide +kernel) (Nat.le_of_ble_eq_true rfl) (hly 1 _ rfl) (Ly_1 hly hy) (by omega) (by omega) (by omega) (fun i => a_1 hA18 i) (fun A_36 eA_36 => ?_)
            have hA_36 : AQ A_36 := by rw [eA_36]; exact Fy_1 hy hA18 (fun k => by (try dsimp only); split; exact (fun i => a_1 hA18 i) _; exact Ay_1 hA18 hy k)
            have fc36 : ∀ a, ¬ (a = y + 1) → A_36 a = A18 a := fun a hh => by rw [eA_36]; exact up1_n hh
            refine r_aload_n i_69_170 rfl ?_
            refine r_iload_n i_69_171 rfl ?_
            refine r_putIQ i_69_172 (by decide +kernel) (Ly_0 hly hy) (fun G_37 eG_37 => ?_)
            have hG_37 : GO G_37 := by rw [eG_37]; exact GUy_0_4 hy hG18 (by omega) (by omega)
            refine r_iconst i_69_175 ?_
            exact r_iret i_69_176 rfl rfl (K ((-1)) G_37 A_36 hG_37 hA_36 (by intro a k hh; rw [eG_37, up2_n (fun h => hh (Or.inl h)), fg18 a k (fun h => hh (Or.inr (Or.inl h))), eG_2, up2_n (fun h => hh (Or.inr (Or.inr h))), fg1 a k (fun h => h.elim (fun h => hh (Or.inl h)) (fun h => hh (Or.inr (Or.inl h))))]) (by intro a hh; rw [fc36 a (by omega), fa18 a (fun h => h.elim (fun h => hh (Or.inr (Or.inl h))) (fun h => h.elim (fun h => hh (Or.inr (Or.inr (Or.inl h)))) (fun h => hh (Or.inr (Or.inr (Or.inr h))))))]) (by omega) (by intro _; rw [show G_37 y 5 = G18 y 5 from by rw [eG_37, up2_n (by omega)], show A_36 (y + 2) = A18 (y + 2) from by rw [fc36 (y + 2) (by omega)], show A_36 (y + 3) = A18 (y + 3) from by rw [fc36 (y + 3) (by omega)]]; exact lnQ_k hq (by omega)))
          · skip
            refine r_iload_n i_69_157 rfl ?_
            exact r_iret i_69_158 rfl rfl (K n G18 A18 hG18 hA18 (by intro a k hh; rw [fg18 a k (fun h => hh (Or.inr (Or.inl h))), eG_2, up2_n (fun h => hh (Or.inr (Or.inr h))), fg1 a k (fun h => h.elim (fun h => hh (Or.inl h)) (fun h => hh (Or.inr (Or.inl h))))]) (by intro a hh; rw [fa18 a (fun h => h.elim (fun h => hh (Or.inr (Or.inl h))) (fun h => h.elim (fun h => hh (Or.inr (Or.inr (Or.inl h)))) (fun h => hh (Or.inr (Or.inr (Or.inr h))))))]) (by omega) (by intro h; exfalso; omega))
      · skip
        refine r_aload_n i_69_24 rfl ?_
        refine r_iload i_69_25 rfl ?_
        refine r_cald i_69_27 (hly 1 _ rfl) (by omega) (by omega) (by omega) ?_
        rw [show A18 1 = A 1 from by rw [fa18 1 (by omega)]]
        have q_38 := a_1 hA (k.toNat)
        refine r_istore (l' := [(0, .ref y), (1, .ref 1), (2, V n), (3, V day), (4, V run), (5, V keeps), (6, V k), (7, V (A 1 (k.toNat)))]) i_69_28 (by decide +kernel) rfl ?_
        refine r_iload i_69_30 rfl ?_
        refine r_cS (as := [V (A 1 (k.toNat))]) i_69_32 rfl (by decide +kernel) (Nat.le_of_ble_eq_true rfl) (Nat.le_of_ble_eq_true rfl) ?_
        refine c_43 (c := A 1 (k.toNat)) hly hF hG18 hA18 (by omega) (fun r_39 p39_0 => ?_)
        show Re L xs 69 35 [(0, .ref y), (1, .ref 1), (2, V n), (3, V day), (4, V run), (5, V keeps), (6, V k), (7, V (A 1 (k.toNat)))] [V r_39] (HP ly F G18 A18 B) _
        refine r_eq0 (t := 97) i_69_35 (by decide) (by omega) (fun u_40 => ?_) (fun u_40 => ?_)
        · skip
          refine r_iload i_69_97 rfl ?_
          refine r_eq0 (t := 105) i_69_99 (by decide) (by omega) (fun u_41 => ?_) (fun u_41 => ?_)
          · skip
            refine r_iload i_69_105 rfl ?_
            refine r_bipush i_69_107 (by decide) ?_
            refine r_cne (t := 118) i_69_109 (by decide) (by omega) (by omega) (fun u_42 => ?_) (fun u_42 => ?_)
            · skip
              refine r_iload i_69_118 rfl ?_
              refine r_bipush i_69_120 (by decide) ?_
              refine r_cne (t := 136) i_69_122 (by decide) (by omega) (by omega) (fun u_43 => ?_) (fun u_43 => ?_)
              · skip
                refine r_iload i_69_136 rfl ?_
                exact r_iret i_69_138 rfl rfl (K k G18 A18 hG18 hA18 (by intro a k hh; rw [fg18 a k (fun h => hh (Or.inr (Or.inl h))), eG_2, up2_n (fun h => hh (Or.inr (Or.inr h))), fg1 a k (fun h => h.elim (fun h => hh (Or.inl h)) (fun h => hh (Or.inr (Or.inl h))))]) (by intro a hh; rw [fa18 a (fun h => h.elim (fun h => hh (Or.inr (Or.inl h))) (fun h => h.elim (fun h => hh (Or.inr (Or.inr (Or.inl h)))) (fun h => hh (Or.inr (Or.inr (Or.inr h))))))]) (by omega) (by intro h; exfalso; omega))
              · skip
                refine r_iload i_69_125 rfl ?_
                refine r_ne0 (t := 136) i_69_127 (by decide) (by omega) (fun u_44 => ?_) (fun u_44 => ?_)
                · skip
                  refine r_iload i_69_136 rfl ?_
                  exact r_iret i_69_138 rfl rfl (K k G18 A18 hG18 hA18 (by intro a k hh; rw [fg18 a k (fun h => hh (Or.inr (Or.inl h))), eG_2, up2_n (fun h => hh (Or.inr (Or.inr h))), fg1 a k (fun h => h.elim (fun h => hh (Or.inl h)) (fun h => hh (Or.inr (Or.inl h))))]) (by intro a hh; rw [fa18 a (fun h => h.elim (fun h => hh (Or.inr (Or.inl h))) (fun h => h.elim (fun h => hh (Or.inr (Or.inr (Or.inl h)))) (fun h => hh (Or.inr (Or.inr (Or.inr h))))))]) (by omega) (by intro h; exfalso; omega))
                · skip
                  refine r_iconst i_69_130 ?_
                  refine r_istore (l' := [(0, .ref y), (1, .ref 1), (2, V n), (3, V day), (4, V run), (5, V 1), (6, V k), (7, V (A 1 (k.toNat)))]) i_69_131 (by decide +kernel) rfl ?_
                  refine r_go (t := 139) i_69_133 (by decide) ?_
                  refine r_iinc (l' := [(0, .ref y), (1, .ref 1), (2, V n), (3, V day), (4, V run), (5, V 1), (6, V (k + 1)), (7, V (A 1 (k.toNat)))]) i_69_139 rfl (by decide +kernel) rfl ?_
                  refine r_go (t := 18) i_69_142 (by decide) ?_
                  exact lp18B _ run 1 (k + 1) (A 1 (k.toNat)) G18 A18 hG18 hA18 (by intro a k hh; rw [fg18 a k (fun h => hh h)]) (by intro a hh; rw [fa18 a (fun h => h.elim (fun h => hh (Or.inl h)) (fun h => h.elim (fun h => hh (Or.inr (Or.inl h))) (fun h => hh (Or.inr (Or.inr h)))))]) (by omega) (by omega) (by omega) (by first | exact lnQ_k hq (by omega) | (rw [show A18 (y + 2) = A18 (y + 2) from by rfl]; exact lnQ_e hq (by omega) (hr (by omega)).2 xy3 (by omega) (by omega)) | exact lnQ_b hq (by omega) (by rw [show A18 (y + 2) = zzA (y + 2) from by fail]; exact zzp1) xy3 (by omega) (by omega) (by omega) | (intro j hj; exfalso; rw [show G18 y 5 = G18 y 5 from by rfl] at hj; omega)) (by first | (intro h; exfalso; omega) | (intro _; have hh := hr (by omega); refine ⟨by omega, ?_⟩; rw [show A18 (y + 2) = A18 (y + 2) from by rfl]; omega) | (intro _; refine ⟨by omega, ?_⟩; rw [show A18 (y + 2) = zzA (y + 2) from by fail, zzp1]; dsimp only; rw [if_pos (by omega)]; omega)) (Nat.lt_succ_self _)
            · skip
              refine r_iconst i_69_112 ?_
              refine r_istore (l' := [(0, .ref y), (1, .ref 1), (2, V n), (3, V day), (4, V 0), (5, V keeps), (6, V k), (7, V (A 1 (k.toNat)))]) i_69_113 (by decide +kernel) rfl ?_
              refine r_go (t := 139) i_69_115 (by decide) ?_
              refine r_iinc (l' := [(0, .ref y), (1, .ref 1), (2, V n), (3, V day), (4, V 0), (5, V keeps), (6, V (k + 1)), (7, V (A 1 (k.toNat)))]) i_69_139 rfl (by decide +kernel) rfl ?_
              refine r_go (t := 18) i_69_142 (by decide) ?_
              exact lp18B _ 0 keeps (k + 1) (A 1 (k.toNat)) G18 A18 hG18 hA18 (by intro a k hh; rw [fg18 a k (fun h => hh h)]) (by intro a hh; rw [fa18 a (fun h => h.elim (fun h => hh (Or.inl h)) (fun h => h.elim (fun h => hh (Or.inr (Or.inl h))) (fun h => hh (Or.inr (Or.inr h)))))]) (by omega) (by omega) (by omega) (by first | exact lnQ_k hq (by omega) | (rw [show A18 (y + 2) = A18 (y + 2) from by rfl]; exact lnQ_e hq (by omega) (hr (by omega)).2 xy3 (by omega) (by omega)) | exact lnQ_b hq (by omega) (by rw [show A18 (y + 2) = zzA (y + 2) from by fail]; exact zzp1) xy3 (by omega) (by omega) (by omega) | (intro j hj; exfalso; rw [show G18 y 5 = G18 y 5 from by rfl] at hj; omega)) (by first | (intro h; exfalso; omega) | (intro _; have hh := hr (by omega); refine ⟨by omega, ?_⟩; rw [show A18 (y + 2) = A18 (y + 2) from by rfl]; omega) | (intro _; refine ⟨by omega, ?_⟩; rw [show A18 (y + 2) = zzA (y + 2) from by fail, zzp1]; dsimp only; rw [if_pos (by omega)]; omega)) (Nat.lt_succ_self _)
          · skip
            refine r_iload i_69_102 rfl ?_
            exact r_iret i_69_104 rfl rfl (K k G18 A18 hG18 hA18 (by intro a k hh; rw [fg18 a k (fun h => hh (Or.inr (Or.inl h))), eG_2, up2_n (fun h => hh (Or.inr (Or.inr h))), fg1 a k (fun h => h.elim (fun h => hh (Or.inl h)) (fun h => hh (Or.inr (Or.inl h))))]) (by intro a hh; rw [fa18 a (fun h => h.elim (fun h => hh (Or.inr (Or.inl h))) (fun h => h.elim (fun h => hh (Or.inr (Or.inr (Or.inl h)))) (fun h => hh (Or.inr (Or.inr (Or.inr h))))))]) (by omega) (by intro h; exfalso; omega))
        · skip
          refine r_iload i_69_38 rfl ?_
          refine r_bipush i_69_40 (by decide) ?_
          refine r_ceq (t := 59) i_69_42 (by decide) (by omega) (by omega) (fun u_45 => ?_) (fun u_45 => ?_)
          · skip
            refine r_iload i_69_59 rfl ?_
            exact r_iret i_69_61 rfl rfl (K k G18 A18 hG18 hA18 (by intro a k hh; rw [fg18 a k (fun h => hh (Or.inr (Or.inl h))), eG_2, up2_n (fun h => hh (Or.inr (Or.inr h))), fg1 a k (fun h => h.elim (fun h => hh (Or.inl h)) (fun h => hh (Or.inr (Or.inl h))))]) (by intro a hh; rw [fa18 a (fun h => h.elim (fun h => hh (Or.inr (Or.inl h))) (fun h => h.elim (fun h => hh (Or.inr (Or.inr (Or.inl h)))) (fun h => hh (Or.inr (Or.inr (Or.inr h))))))]) (by omega) (by intro h; exfalso; omega))
          · skip
            refine r_iload i_69_45 rfl ?_
            refine r_ne0 (t := 62) i_69_47 (by decide) (by omega) (fun u_46 => ?_) (fun u_46 => ?_)
            · skip
              refine r_iload i_69_62 rfl ?_
              refine r_ne0 (t := 75) i_69_64 (by decide) (by omega) (fun u_47 => ?_) (fun u_47 => ?_)
              · skip
                refine r_iinc (l' := [(0, .ref y), (1, .ref 1), (2, V n), (3, V day), (4, V (run + 1)), (5, V keeps), (6, V k), (7, V (A 1 (k.toNat)))]) i_69_75 rfl (by decide +kernel) rfl ?_
                refine r_aload_n i_69_78 rfl ?_
                refine r_getF (v := .ref (y + 3)) i_69_79 rfl (Ly_0 hly hy) (Ry_0_2 hF hy) ?_
                refine r_aload_n i_69_82 rfl ?_
                refine r_getI i_69_83 rfl (Ly_0 hly hy) ?_
                have q_48 := Gy_0_5 hG18 hy
                refine r_iconst i_69_86 ?_
                refine r_isub i_69_87 ?_
                refine r_iload i_69_88 rfl ?_
                refine r_iastQ i_69_90 (Ly_3 hly hy) (by omega) (by omega) (by omega) (fun A_49 eA_49 => ?_)
                have hA_49 : AQ A_49 := by rw [eA_49]; exact AUy_3 hy hA18 (by omega) (by omega)
                have xy3_1 : A_49 (y + 3) = fun i => if i = ((G18 y 5) - 1).toNat then run + 1 else A18 (y + 3) i := by rw [eA_49, up2_f]
                have xy3 : A_49 (y + 3) = fun i => if i = ((G18 y 5) - 1).toNat then run + 1 else A18 (y + 3) i := by rw [xy3_1]
                refine r_iconst i_69_91 ?_
                refine r_istore (l' := [(0, .ref y), (1, .ref 1), (2, V n), (3, V day), (4, V (run + 1)), (5, V 0), (6, V k), (7, V (A 1 (k.toNat)))]) i_69_92 (by decide +kernel) rfl ?_
                refine r_go (t := 139) i_69_94 (by decide) ?_
                refine r_iinc (l' := [(0, .ref y), (1, .ref 1), (2, V n), (3, V day), (4, V (run + 1)), (5, V 0), (6, V (k + 1)), (7, V (A 1 (k.toNat)))]) i_69_139 rfl (by decide +kernel) rfl ?_
                refine r_go (t := 18) i_69_142 (by decide) ?_
                exact lp18B _ (run + 1) 0 (k + 1) (A 1 (k.toNat)) G18 A_49 hG18 hA_49 (by intro a k hh; rw [fg18 a k (fun h => hh h)]) (by intro a hh; rw [eA_49, up2_a (fun h => hh (Or.inr (Or.inl h))), fa18 a (fun h => h.elim (fun h => hh (Or.inl h)) (fun h => h.elim (fun h => hh (Or.inr (Or.inl h))) (fun h => hh (Or.inr (Or.inr h)))))]) (by omega) (by omega) (by omega) (by first | exact lnQ_k hq (by omega) | (rw [show A_49 (y + 2) = A18 (y + 2) from by rw [eA_49, up2_a (by omega)]]; exact lnQ_e hq (by omega) (hr (by omega)).2 xy3 (by omega) (by omega)) | exact lnQ_b hq (by omega) (by rw [show A_49 (y + 2) = zzA (y + 2) from by fail]; exact zzp1) xy3 (by omega) (by omega) (by omega) | (intro j hj; exfalso; rw [show G18 y 5 = G18 y 5 from by rfl] at hj; omega)) (by first | (intro h; exfalso; omega) | (intro _; have hh := hr (by omega); refine ⟨by omega, ?_⟩; rw [show A_49 (y + 2) = A18 (y + 2) from by rw [eA_49, up2_a (by omega)]]; omega) | (intro _; refine ⟨by omega, ?_⟩; rw [show A_49 (y + 2) = zzA (y + 2) from by fail, zzp1]; dsimp only; rw [if_pos (by omega)]; omega)) (Nat.lt_succ_self _)
              · skip
                refine r_aload_n i_69_67 rfl ?_
                refine r_iload i_69_68 rfl ?_
                refine r_iload i_69_70 rfl ?_
                refine r_cV (as := [V keeps, V k]) i_69_72 rfl (by decide +kernel) (Nat.le_of_ble_eq_true rfl) (Nat.le_of_ble_eq_true rfl) (Ly_0 hly hy) rfl ?_
                have q_50 := Gy_0_5 hG18 hy
                refine c_70 (y := y) (at' := k) (keeps := keeps) hly hF hG18 hA18 (by omega) (by omega) (by omega) (by omega) (by omega) (by omega) (fun G_51 A_52 hG_51 hA_52 fg52 fa52 p52_0 p52_1 => ?_)
                show Re L xs 69 75 [(0, .ref y), (1, .ref 1), (2, V n), (3, V day), (4, V run), (5, V keeps), (6, V k), (7, V (A 1 (k.toNat)))] [] (HP ly F G_51 A_52 B) _
                refine r_iinc (l' := [(0, .ref y), (1, .ref 1), (2, V n), (3, V day), (4, V (run + 1)), (5, V keeps), (6, V k), (7, V (A 1 (k.toNat)))]) i_69_75 rfl (by decide +kernel) rfl ?_
                refine r_aload_n i_69_78 rfl ?_
                refine r_getF (v := .ref (y + 3)) i_69_79 rfl (Ly_0 hly hy) (Ry_0_2 hF hy) ?_
                refine r_aload_n i_69_82 rfl ?_
                refine r_getI i_69_83 rfl (Ly_0 hly hy) ?_
                have q_53 := Gy_0_5 hG_51 hy
                refine r_iconst i_69_86 ?_
                refine r_isub i_69_87 ?_
                refine r_iload i_69_88 rfl ?_
                refine r_iastQ i_69_90 (Ly_3 hly hy) (by omega) (by omega) (by omega) (fun A_54 eA_54 => ?_)
                have hA_54 : AQ A_54 := by rw [eA_54]; exact AUy_3 hy hA_52 (by omega) (by omega)
                have xy3_1 : A_54 (y + 3) = fun i => if i = ((G_51 y 5) - 1).toNat then run + 1 else A18 (y + 3) i := by rw [eA_54, up2_f, fa52 (y + 3) (by omega)]
                have xy3 : A_54 (y + 3) = fun i => if i = ((G_51 y 5) - 1).toNat then run + 1 else A18 (y + 3) i := by rw [xy3_1]
                refine r_iconst i_69_91 ?_
                refine r_istore (l' := [(0, .ref y), (1, .ref 1), (2, V n), (3, V day), (4, V (run + 1)), (5, V 0), (6, V k), (7, V (A 1 (k.toNat)))]) i_69_92 (by decide +kernel) rfl ?_
                refine r_go (t := 139) i_69_94 (by decide) ?_
                refine r_iinc (l' := [(0, .ref y), (1, .ref 1), (2, V n), (3, V day), (4, V (run + 1)), (5, V 0), (6, V (k + 1)), (7, V (A 1 (k.toNat)))]) i_69_139 rfl (by decide +kernel) rfl ?_
                refine r_go (t := 18) i_69_142 (by decide) ?_
                exact lp18B _ (run + 1) 0 (k + 1) (A 1 (k.toNat)) G_51 A_54 hG_51 hA_54 (by intro a k hh; rw [fg52 a k (fun h => hh h), fg18 a k (fun h => hh h)]) (by intro a hh; rw [eA_54, up2_a (fun h => hh (Or.inr (Or.inl h))), fa52 a (fun h => h.elim (fun h => hh (Or.inl h)) (fun h => hh (Or.inr (Or.inr h)))), fa18 a (fun h => h.elim (fun h => hh (Or.inl h)) (fun h => h.elim (fun h => hh (Or.inr (Or.inl h))) (fun h => hh (Or.inr (Or.inr h)))))]) (by omega) (by omega) (by omega) (by first | exact lnQ_k hq (by omega) | (rw [show A_54 (y + 2) = A18 (y + 2) from by fail]; exact lnQ_e hq (by omega) (hr (by omega)).2 xy3 (by omega) (by omega)) | exact lnQ_b hq (by omega) (by rw [show A_54 (y + 2) = A_52 (y + 2) from by rw [eA_54, up2_a (by omega)]]; exact p52_1) xy3 (by omega) (by omega) (by omega) | (intro j hj; exfalso; rw [show G_51 y 5 = G_51 y 5 from by rfl] at hj; omega)) (by first | (intro h; exfalso; omega) | (intro _; have hh := hr (by omega); refine ⟨by omega, ?_⟩; rw [show A_54 (y + 2) = A18 (y + 2) from by fail]; omega) | (intro _; refine ⟨by omega, ?_⟩; rw [show A_54 (y + 2) = A_52 (y + 2) from by rw [eA_54, up2_a (by omega)], p52_1]; dsimp only; rw [if_pos (by omega)]; omega)) (Nat.lt_succ_self _)
            · skip
              refine r_aload_n i_69_50 rfl ?_
              refine r_getI i_69_51 rfl (Ly_0 hly hy) ?_
              have q_55 := Gy_0_5 hG18 hy
              refine r_bipush i_69_54 (by decide) ?_
              refine r_cne (t := 62) i_69_56 (by decide) (by omega) (by omega) (fun u_56 => ?_) (fun u_56 => ?_)
              · skip
                refine r_iload i_69_62 rfl ?_
                refine r_ne0 (t := 75) i_69_64 (by decide) (by omega) (fun u_57 => ?_) (fun u_57 => ?_)
                · skip
                  refine r_iinc (l' := [(0, .ref y), (1, .ref 1), (2, V n), (3, V day), (4, V (run + 1)), (5, V keeps), (6, V k), (7, V (A 1 (k.toNat)))]) i_69_75 rfl (by decide +kernel) rfl ?_
                  refine r_aload_n i_69_78 rfl ?_
                  refine r_getF (v := .ref (y + 3)) i_69_79 rfl (Ly_0 hly hy) (Ry_0_2 hF hy) ?_
                  refine r_aload_n i_69_82 rfl ?_
                  refine r_getI i_69_83 rfl (Ly_0 hly hy) ?_
                  refine r_iconst i_69_86 ?_
                  refine r_isub i_69_87 ?_
                  refine r_iload i_69_88 rfl ?_
                  refine r_iastQ i_69_90 (Ly_3 hly hy) (by omega) (by omega) (by omega) (fun A_58 eA_58 => ?_)
                  have hA_58 : AQ A_58 := by rw [eA_58]; exact AUy_3 hy hA18 (by omega) (by omega)
                  have xy3_1 : A_58 (y + 3) = fun i => if i = ((G18 y 5) - 1).toNat then run + 1 else A18 (y + 3) i := by rw [eA_58, up2_f]
                  have xy3 : A_58 (y + 3) = fun i => if i = ((G18 y 5) - 1).toNat then run + 1 else A18 (y + 3) i := by rw [xy3_1]
                  refine r_iconst i_69_91 ?_
                  refine r_istore (l' := [(0, .ref y), (1, .ref 1), (2, V n), (3, V day), (4, V (run + 1)), (5, V 0), (6, V k), (7, V (A 1 (k.toNat)))]) i_69_92 (by decide +kernel) rfl ?_
                  refine r_go (t := 139) i_69_94 (by decide) ?_
                  refine r_iinc (l' := [(0, .ref y), (1, .ref 1), (2, V n), (3, V day), (4, V (run + 1)), (5, V 0), (6, V (k + 1)), (7, V (A 1 (k.toNat)))]) i_69_139 rfl (by decide +kernel) rfl ?_
                  refine r_go (t := 18) i_69_142 (by decide) ?_
                  exact lp18B _ (run + 1) 0 (k + 1) (A 1 (k.toNat)) G18 A_58 hG18 hA_58 (by intro a k hh; rw [fg18 a k (fun h => hh h)]) (by intro a hh; rw [eA_58, up2_a (fun h => hh (Or.inr (Or.inl h))), fa18 a (fun h => h.elim (fun h => hh (Or.inl h)) (fun h => h.elim (fun h => hh (Or.inr (Or.inl h))) (fun h => hh (Or.inr (Or.inr h)))))]) (by omega) (by omega) (by omega) (by first | exact lnQ_k hq (by omega) | (rw [show A_58 (y + 2) = A18 (y + 2) from by rw [eA_58, up2_a (by omega)]]; exact lnQ_e hq (by omega) (hr (by omega)).2 xy3 (by omega) (by omega)) | exact lnQ_b hq (by omega) (by rw [show A_58 (y + 2) = zzA (y + 2) from by fail]; exact zzp1) xy3 (by omega) (by omega) (by omega) | (intro j hj; exfalso; rw [show G18 y 5 = G18 y 5 from by rfl] at hj; omega)) (by first | (intro h; exfalso; omega) | (intro _; have hh := hr (by omega); refine ⟨by omega, ?_⟩; rw [show A_58 (y + 2) = A18 (y + 2) from by rw [eA_58, up2_a (by omega)]]; omega) | (intro _; refine ⟨by omega, ?_⟩; rw [show A_58 (y + 2) = zzA (y + 2) from by fail, zzp1]; dsimp only; rw [if_pos (by omega)]; omega)) (Nat.lt_succ_self _)
                · skip
                  refine r_aload_n i_69_67 rfl ?_
                  refine r_iload i_69_68 rfl ?_
                  refine r_iload i_69_70 rfl ?_
                  refine r_cV (as := [V keeps, V k]) i_69_72 rfl (by decide +kernel) (Nat.le_of_ble_eq_true rfl) (Nat.le_of_ble_eq_true rfl) (Ly_0 hly hy) rfl ?_
                  refine c_70 (y := y) (at' := k) (keeps := keeps) hly hF hG18 hA18 (by omega) (by omega) (by omega) (by omega) (by omega) (by omega) (fun G_59 A_60 hG_59 hA_60 fg60 fa60 p60_0 p60_1 => ?_)
                  show Re L xs 69 75 [(0, .ref y), (1, .ref 1), (2, V n), (3, V day), (4, V run), (5, V keeps), (6, V k), (7, V (A 1 (k.toNat)))] [] (HP ly F G_59 A_60 B) _
                  refine r_iinc (l' := [(0, .ref y), (1, .ref 1), (2, V n), (3, V day), (4, V (run + 1)), (5, V keeps), (6, V k), (7, V (A 1 (k.toNat)))]) i_69_75 rfl (by decide +kernel) rfl ?_
                  refine r_aload_n i_69_78 rfl ?_
                  refine r_getF (v := .ref (y + 3)) i_69_79 rfl (Ly_0 hly hy) (Ry_0_2 hF hy) ?_
                  refine r_aload_n i_69_82 rfl ?_
                  refine r_getI i_69_83 rfl (Ly_0 hly hy) ?_
                  have q_61 := Gy_0_5 hG_59 hy
                  refine r_iconst i_69_86 ?_
                  refine r_isub i_69_87 ?_
                  refine r_iload i_69_88 rfl ?_
                  refine r_iastQ i_69_90 (Ly_3 hly hy) (by omega) (by omega) (by omega) (fun A_62 eA_62 => ?_)
                  have hA_62 : AQ A_62 := by rw [eA_62]; exact AUy_3 hy hA_60 (by omega) (by omega)
                  have xy3_1 : A_62 (y + 3) = fun i => if i = ((G_59 y 5) - 1).toNat then run + 1 else A18 (y + 3) i := by rw [eA_62, up2_f, fa60 (y + 3) (by omega)]
                  have xy3 : A_62 (y + 3) = fun i => if i = ((G_59 y 5) - 1).toNat then run + 1 else A18 (y + 3) i := by rw [xy3_1]
                  refine r_iconst i_69_91 ?_
                  refine r_istore (l' := [(0, .ref y), (1, .ref 1), (2, V n), (3, V day), (4, V (run + 1)), (5, V 0), (6, V k), (7, V (A 1 (k.toNat)))]) i_69_92 (by decide +kernel) rfl ?_
                  refine r_go (t := 139) i_69_94 (by decide) ?_
                  refine r_iinc (l' := [(0, .ref y), (1, .ref 1), (2, V n), (3, V day), (4, V (run + 1)), (5, V 0), (6, V (k + 1)), (7, V (A 1 (k.toNat)))]) i_69_139 rfl (by decide +kernel) rfl ?_
                  refine r_go (t := 18) i_69_142 (by decide) ?_
                  exact lp18B _ (run + 1) 0 (k + 1) (A 1 (k.toNat)) G_59 A_62 hG_59 hA_62 (by intro a k hh; rw [fg60 a k (fun h => hh h), fg18 a k (fun h => hh h)]) (by intro a hh; rw [eA_62, up2_a (fun h => hh (Or.inr (Or.inl h))), fa60 a (fun h => h.elim (fun h => hh (Or.inl h)) (fun h => hh (Or.inr (Or.inr h)))), fa18 a (fun h => h.elim (fun h => hh (Or.inl h)) (fun h => h.elim (fun h => hh (Or.inr (Or.inl h))) (fun h => hh (Or.inr (Or.inr h)))))]) (by omega) (by omega) (by omega) (by first | exact lnQ_k hq (by omega) | (rw [show A_62 (y + 2) = A18 (y + 2) from by fail]; exact lnQ_e hq (by omega) (hr (by omega)).2 xy3 (by omega) (by omega)) | exact lnQ_b hq (by omega) (by rw [show A_62 (y + 2) = A_60 (y + 2) from by rw [eA_62, up2_a (by omega)]]; exact p60_1) xy3 (by omega) (by omega) (by omega) | (intro j hj; exfalso; rw [show G_59 y 5 = G_59 y 5 from by rfl] at hj; omega)) (by first | (intro h; exfalso; omega) | (intro _; have hh := hr (by omega); refine ⟨by omega, ?_⟩; rw [show A_62 (y + 2) = A18 (y + 2) from by fail]; omega) | (intro _; refine ⟨by omega, ?_⟩; rw [show A_62 (y + 2) = A_60 (y + 2) from by rw [eA_62, up2_a (by omega)], p60_1]; dsimp only; rw [if_pos (by omega)]; omega)) (Nat.lt_succ_self _)
              · skip
                refine r_iload i_69_59 rfl ?_
                exact r_iret i_69_61 rfl rfl (K k G18 A18 hG18 hA18 (by intro a k hh; rw [fg18 a k (fun h => hh (Or.inr (Or.inl h))), eG_2, up2_n (fun h => hh (Or.inr (Or.inr h))), fg1 a k (fun h => h.elim (fun h => hh (Or.inl h)) (fun h => hh (Or.inr (Or.inl h))))]) (by intro a hh; rw [fa18 a (fun h => h.elim (fun h => hh (Or.inr (Or.inl h))) (fun h => h.elim (fun h => hh (Or.inr (Or.inr (Or.inl h)))) (fun h => hh (Or.inr (Or.inr (Or.inr h))))))]) (by omega) (by intro h; exfalso; omega))
  exact lp18A456 _ 0 0 0 G_2 A hG_2 hA (by intro a k hh; rfl) (by intro a hh; rfl) (by omega) (by omega) (by omega) (by first | exact lnQ_k hq (by omega) | (rw [show A (y + 2) = A18 (y + 2) from by fail]; exact lnQ_e hq (by omega) (hr (by omega)).2 xy3 (by omega) (by omega)) | exact lnQ_b hq (by omega) (by rw [show A (y + 2) = zzA (y + 2) from by fail]; exact zzp1) xy3 (by omega) (by omega) (by omega) | (intro j hj; exfalso; rw [show G_2 y 5 = G_1 y 5 from by rw [eG_2, up2_n (by omega)]] at hj; omega)) (by first | (intro h; exfalso; omega) | (intro _; have hh := hr (by omega); refine ⟨by omega, ?_⟩; rw [show A (y + 2) = A18 (y + 2) from by fail]; omega) | (intro _; refine ⟨by omega, ?_⟩; rw [show A (y + 2) = zzA (y + 2) from by fail, zzp1]; dsimp only; rw [if_pos (by omega)]; omega)) (Nat.lt_succ_self _)
set_option maxHeartbeats 4000000 in
theorem c_121 {L : Nat} {xs : Nat → Int32} {ly : List LK} {F : Nat → Nat → Value} {G A : Nat → Nat → Int} {B : Nat → Nat → Int64} {Q : Option Value → AH → Prop} {y : Nat} {k : Int} (hly : LyOk ly) (hF : RfOk F) (hG : GO G) (hA : AQ A) (in_k : inR k) (hy : y = 80 ∨ y = 85) (K : ∀ (r : Int), (-1 ≤ r ∧ r ≤ 13) → (0 ≤ r → A (y + 2) r.toNat ≤ k ∧ k < A (y + 2) r.toNat + A (y + 3) r.toNat) → Q (some (V r)) (HP ly F G A B)) : Re L xs 121 0 [(0, .ref y), (1, V k)] [] (HP ly F G A B) Q := by
  refine r_iconst i_121_0 ?_
  refine r_istore_n (l' := [(0, .ref y), (1, V k), (2, V 0)]) i_121_1 (by decide +kernel) rfl ?_
  have lp2B : ∀ (nf : Nat) (w : Int), (0 ≤ w ∧ w ≤ 14) → (14 - w).toNat < nf → Re L xs 121 2 [(0, .ref y), (1, V k), (2, V w)] [] (HP ly F G A B) Q := by
    intro nf
    induction nf with
    | zero => intros; omega
    | succ nf ih2B =>
      intro w  hw hm2
      refine r_iload_n i_121_2 rfl ?_
      refine r_aload_n i_121_3 rfl ?_
      refine r_getI i_121_4 rfl (Ly_0 hly hy) ?_
      have q_1 := Gy_0_5 hG hy
      refine r_cge (t := 45) i_121_7 (by decide) (by omega) (by omega) (fun u_2 => ?_) (fun u_2 => ?_)
      · skip
        refine r_iconst i_121_45 ?_
        exact r_iret i_121_46 rfl rfl (K ((-1)) (by omega) (by omega))
      · skip
        refine r_iload_n i_121_10 rfl ?_
        refine r_aload_n i_121_11 rfl ?_
        refine r_getF (v := .ref (y + 2)) i_121_12 rfl (Ly_0 hly hy) (Ry_0_1 hF hy) ?_
        refine r_iload_n i_121_15 rfl ?_
        refine r_iald i_121_16 (Ly_2 hly hy) (by omega) (by omega) (by omega) ?_
        have q_3 := Ay_2 hA hy (w.toNat)
        refine r_clt (t := 39) i_121_17 (by decide) (by omega) (by omega) (fun u_4 => ?_) (fun u_4 => ?_)
        · skip
          refine r_iinc (l' := [(0, .ref y), (1, V k), (2, V (w + 1))]) i_121_39 rfl (by decide +kernel) rfl ?_
          refine r_go (t := 2) i_121_42 (by decide) ?_
          exact ih2B (w + 1)  (by omega) (by omega)
        · skip
          refine r_iload_n i_121_20 rfl ?_
          refine r_aload_n i_121_21 rfl ?_
          refine r_getF (v := .ref (y + 2)) i_121_22 rfl (Ly_0 hly hy) (Ry_0_1 hF hy) ?_
          refine r_iload_n i_121_25 rfl ?_
          refine r_iald i_121_26 (Ly_2 hly hy) (by omega) (by omega) (by omega) ?_
          refine r_aload_n i_121_27 rfl ?_
          refine r_getF (v := .ref (y + 3)) i_121_28 rfl (Ly_0 hly hy) (Ry_0_2 hF hy) ?_
          refine r_iload_n i_121_31 rfl ?_
          refine r_iald i_121_32 (Ly_3 hly hy) (by omega) (by omega) (by omega) ?_
          have q_5 := Ay_3 hA hy (w.toNat)
          refine r_iadd i_121_33 ?_
          refine r_cge (t := 39) i_121_34 (by decide) (by omega) (by omega) (fun u_6 => ?_) (fun u_6 => ?_)
          · skip
            refine r_iinc (l' := [(0, .ref y), (1, V k), (2, V (w + 1))]) i_121_39 rfl (by decide +kernel) rfl ?_
            refine r_go (t := 2) i_121_42 (by decide) ?_
            exact ih2B (w + 1)  (by omega) (by omega)
          · skip
            refine r_iload_n i_121_37 rfl ?_
            exact r_iret i_121_38 rfl rfl (K w (by omega) (by omega))
  exact lp2B _ 0  (by omega) (Nat.lt_succ_self _)
set_option maxHeartbeats 4000000 in
theorem c_67 {L : Nat} {xs : Nat → Int32} {ly : List LK} {F : Nat → Nat → Value} {G A : Nat → Nat → Int} {B : Nat → Nat → Int64} {Q : Option Value → AH → Prop}  (hly : LyOk ly) (hF : RfOk F) (hG : GO G) (hA : AQ A)  (K : ∀ (G' : Nat → Nat → Int), (GO G') → (∀ a k, ¬ ((a = 27 ∧ k = 3)) → G' a k = G a k) → (G' 27 3 = 0) → Q none (HP ly F G' A B)) : Re L xs 67 0 [(0, .ref 27)] [] (HP ly F G A B) Q := by
  refine r_aload_n i_67_0 rfl ?_
  refine r_iconst i_67_1 ?_
  refine r_putIQ i_67_2 (by decide +kernel) (hly 27 _ rfl) (fun G_1 eG_1 => ?_)
  have hG_1 : GO G_1 := by rw [eG_1]; exact gu_27_3 hG (by omega) (by omega)
  exact r_vret i_67_5 rfl (K G_1 hG_1 (by intro a k hh; rw [eG_1, up2_n (fun h => hh h)]) (by rw [show G_1 27 3 = 0 from by rw [eG_1, up2_s]] <;> omega))
set_option maxHeartbeats 4000000 in
theorem c_71 {L : Nat} {xs : Nat → Int32} {ly : List LK} {F : Nat → Nat → Value} {G A : Nat → Nat → Int} {B : Nat → Nat → Int64} {Q : Option Value → AH → Prop}  (hly : LyOk ly) (hF : RfOk F) (hG : GO G) (hA : AQ A)  (K : ∀ (A' : Nat → Nat → Int), (AQ A') → (∀ a, ¬ (a = 28) → A' a = A a) → Q none (HP ly F G A' B)) : Re L xs 71 0 [(0, .ref 27)] [] (HP ly F G A B) Q := by
  refine r_iconst i_71_0 ?_
  refine r_istore_n (l' := [(0, .ref 27), (1, V 0)]) i_71_1 (by decide +kernel) rfl ?_
  have lp2B : ∀ (nf : Nat) (k : Int) (A2 : Nat → Nat → Int), (AQ A2) → (∀ a, ¬ (a = 28) → A2 a = A a) → (0 ≤ k ∧ k ≤ 60) → (60 - k).toNat < nf → Re L xs 71 2 [(0, .ref 27), (1, V k)] [] (HP ly F G A2 B) Q := by
    intro nf
    induction nf with
    | zero => intros; omega
    | succ nf ih2B =>
      intro k A2 hA2 fa2 hk hm2
      refine r_iload_n i_71_2 rfl ?_
      refine r_aload_n i_71_3 rfl ?_
      refine r_getI i_71_4 rfl (hly 27 _ rfl) ?_
      have q_1 := g_27_3 hG
      refine r_cge (t := 23) i_71_7 (by decide) (by omega) (by omega) (fun u_2 => ?_) (fun u_2 => ?_)
      · skip
        exact r_vret i_71_23 rfl (K A2 hA2 (by intro a hh; rw [fa2 a (fun h => hh h)]))
      · skip
        refine r_aload_n i_71_10 rfl ?_
        refine r_getF (v := .ref 28) i_71_11 rfl (hly 27 _ rfl) (hF.1 27 0 28 rfl) ?_
        refine r_iload_n i_71_14 rfl ?_
        refine r_iconst i_71_15 ?_
        refine r_iastQ i_71_16 (hly 28 _ rfl) (by omega) (by omega) (by omega) (fun A_3 eA_3 => ?_)
        have hA_3 : AQ A_3 := by rw [eA_3]; exact au_28 hA2 (by omega) (by omega)
        refine r_iinc (l' := [(0, .ref 27), (1, V (k + 1))]) i_71_17 rfl (by decide +kernel) rfl ?_
        refine r_go (t := 2) i_71_20 (by decide) ?_
        exact ih2B (k + 1) A_3 hA_3 (by intro a hh; rw [eA_3, up2_a (fun h => hh h), fa2 a (fun h => hh h)]) (by omega) (by omega)
  exact lp2B _ 0 A hA (by intro a hh; rfl) (by omega) (Nat.lt_succ_self _)
set_option maxHeartbeats 4000000 in
theorem c_13 {L : Nat} {xs : Nat → Int32} {ly : List LK} {F : Nat → Nat → Value} {G A : Nat → Nat → Int} {B : Nat → Nat → Int64} {Q : Option Value → AH → Prop} {word : Int} (hly : LyOk ly) (hF : RfOk F) (hG : GO G) (hA : AQ A) (in_word : inR word) (K : ∀ (r : Int), (r = -1 ∨ (0 ≤ r ∧ r ≤ 79 ∧ ∃ j : Nat, (j : Int) < G 27 3 ∧ r = A 29 j)) → Q (some (V r)) (HP ly F G A B)) : Re L xs 13 0 [(0, .ref 27), (1, V word)] [] (HP ly F G A B) Q := by
  have z3 := g_27_3 hG
  refine r_aload_n i_13_0 rfl ?_
  refine r_getI i_13_1 rfl (hly 27 _ rfl) ?_
  have q_1 := g_27_3 hG
  refine r_iconst i_13_4 ?_
  refine r_isub i_13_5 ?_
  refine r_istore_n (l' := [(0, .ref 27), (1, V word), (2, V ((G 27 3) - 1))]) i_13_6 (by decide +kernel) rfl ?_
  have lp7B : ∀ (nf : Nat) (h : Int), (-1 ≤ h ∧ h < G 27 3) → (h + 1).toNat < nf → Re L xs 13 7 [(0, .ref 27), (1, V word), (2, V h)] [] (HP ly F G A B) Q := by
    intro nf
    induction nf with
    | zero => intros; omega
    | succ nf ih7B =>
      intro h  hh hm7
      refine r_iload_n i_13_7 rfl ?_
      refine r_lt0 (t := 43) i_13_8 (by decide) (by omega) (fun u_2 => ?_) (fun u_2 => ?_)
      · skip
        refine r_iconst i_13_43 ?_
        exact r_iret i_13_44 rfl rfl (K ((-1)) (by exact .inl rfl))
      · skip
        refine r_aload_n i_13_11 rfl ?_
        refine r_getF (v := .ref 28) i_13_12 rfl (hly 27 _ rfl) (hF.1 27 0 28 rfl) ?_
        refine r_iload_n i_13_15 rfl ?_
        refine r_iald i_13_16 (hly 28 _ rfl) (by omega) (by omega) (by omega) ?_
        have q_3 := a_28 hA (h.toNat)
        refine r_iload_n i_13_17 rfl ?_
        refine r_cne (t := 37) i_13_18 (by decide) (by omega) (by omega) (fun u_4 => ?_) (fun u_4 => ?_)
        · skip
          refine r_iinc (l' := [(0, .ref 27), (1, V word), (2, V (h + (-1)))]) i_13_37 rfl (by decide +kernel) rfl ?_
          refine r_go (t := 7) i_13_40 (by decide) ?_
          exact ih7B (h + (-1))  (by omega) (by omega)
        · skip
          refine r_aload_n i_13_21 rfl ?_
          refine r_getF (v := .ref 30) i_13_22 rfl (hly 27 _ rfl) (hF.1 27 2 30 rfl) ?_
          refine r_iload_n i_13_25 rfl ?_
          refine r_zald i_13_26 (hly 30 _ rfl) (by omega) (by omega) (by omega) ?_
          have q_5 := a_30 hA (h.toNat)
          refine r_ne0 (t := 37) i_13_27 (by decide) (by omega) (fun u_6 => ?_) (fun u_6 => ?_)
          · skip
            refine r_iinc (l' := [(0, .ref 27), (1, V word), (2, V (h + (-1)))]) i_13_37 rfl (by decide +kernel) rfl ?_
            refine r_go (t := 7) i_13_40 (by decide) ?_
            exact ih7B (h + (-1))  (by omega) (by omega)
          · skip
            refine r_aload_n i_13_30 rfl ?_
            refine r_getF (v := .ref 29) i_13_31 rfl (hly 27 _ rfl) (hF.1 27 1 29 rfl) ?_
            refine r_iload_n i_13_34 rfl ?_
            refine r_iald i_13_35 (hly 29 _ rfl) (by omega) (by omega) (by omega) ?_
            have q_7 := a_29 hA (h.toNat)
            exact r_iret i_13_36 rfl rfl (K (A 29 (h.toNat)) (by exact .inr ⟨by omega, by omega, h.toNat, by omega, rfl⟩))
  exact lp7B _ ((G 27 3) - 1)  (by omega) (Nat.lt_succ_self _)
set_option maxHeartbeats 4000000 in
theorem c_124 {L : Nat} {xs : Nat → Int32} {ly : List LK} {F : Nat → Nat → Value} {G A : Nat → Nat → Int} {B : Nat → Nat → Int64} {Q : Option Value → AH → Prop} {word : Int} {entry : Int} (hly : LyOk ly) (hF : RfOk F) (hG : GO G) (hA : AQ A) (in_word : inR word) (in_entry : inR entry) (hw : 0 ≤ word ∧ word ≤ 13) (he : 0 ≤ entry ∧ entry ≤ 79) (hn : G 27 3 < 60) (K : ∀ (r : Int) (G' : Nat → Nat → Int) (A' : Nat → Nat → Int), (GO G') → (AQ A') → (∀ a k, ¬ ((a = 27 ∧ k = 3)) → G' a k = G a k) → (∀ a, ¬ (a = 28 ∨ a = 29 ∨ a = 30) → A' a = A a) → (r = G 27 3) → (G' 27 3 = G 27 3 + 1) → (A' 29 = fun i => if i = (G 27 3).toNat then entry else A 29 i) → (A' 30 = fun i => if i = (G 27 3).toNat then 0 else A 30 i) → Q (some (V r)) (HP ly F G' A' B)) : Re L xs 124 0 [(0, .ref 27), (1, V word), (2, V entry)] [] (HP ly F G A B) Q := by
  refine r_aload_n i_124_0 rfl ?_
  refine r_getI i_124_1 rfl (hly 27 _ rfl) ?_
  have q_1 := g_27_3 hG
  refine r_bipush i_124_4 (by decide) ?_
  refine r_clt (t := 11) i_124_6 (by decide) (by omega) (by omega) (fun u_2 => ?_) (fun u_2 => ?_)
  · skip
    refine r_aload_n i_124_11 rfl ?_
    refine r_getF (v := .ref 28) i_124_12 rfl (hly 27 _ rfl) (hF.1 27 0 28 rfl) ?_
    refine r_aload_n i_124_15 rfl ?_
    refine r_getI i_124_16 rfl (hly 27 _ rfl) ?_
    refine r_iload_n i_124_19 rfl ?_
    refine r_iastQ i_124_20 (hly 28 _ rfl) (by omega) (by omega) (by omega) (fun A_3 eA_3 => ?_)
    have hA_3 : AQ A_3 := by rw [eA_3]; exact au_28 hA (by omega) (by omega)
    refine r_aload_n i_124_21 rfl ?_
    refine r_getF (v := .ref 29) i_124_22 rfl (hly 27 _ rfl) (hF.1 27 1 29 rfl) ?_
    refine r_aload_n i_124_25 rfl ?_
    refine r_getI i_124_26 rfl (hly 27 _ rfl) ?_
    refine r_iload_n i_124_29 rfl ?_
    refine r_iastQ i_124_30 (hly 29 _ rfl) (by omega) (by omega) (by omega) (fun A_4 eA_4 => ?_)
    have hA_4 : AQ A_4 := by rw [eA_4]; exact au_29 hA_3 (by omega) (by omega)
    refine r_aload_n i_124_31 rfl ?_
    refine r_getF (v := .ref 30) i_124_32 rfl (hly 27 _ rfl) (hF.1 27 2 30 rfl) ?_
    refine r_aload_n i_124_35 rfl ?_
    refine r_getI i_124_36 rfl (hly 27 _ rfl) ?_
    refine r_iconst i_124_39 ?_
    refine r_zastQ i_124_40 (hly 30 _ rfl) (by omega) (by omega) (by omega) (by omega) (fun A_5 eA_5 => ?_)
    have hA_5 : AQ A_5 := by rw [eA_5]; exact au_30 hA_4 (by omega) (by omega)
    refine r_aload_n i_124_41 rfl ?_
    refine re_nx i_124_42 rfl ?_
    refine r_getI i_124_43 rfl (hly 27 _ rfl) ?_
    refine r_iconst i_124_46 ?_
    refine r_iadd i_124_47 ?_
    refine r_putIQ i_124_48 (by decide +kernel) (hly 27 _ rfl) (fun G_6 eG_6 => ?_)
    have hG_6 : GO G_6 := by rw [eG_6]; exact gu_27_3 hG (by omega) (by omega)
    refine r_aload_n i_124_51 rfl ?_
    refine r_getI i_124_52 rfl (hly 27 _ rfl) ?_
    rw [show G_6 27 3 = (G 27 3) + 1 from by rw [eG_6, up2_s]]
    refine r_iconst i_124_55 ?_
    refine r_isub i_124_56 ?_
    have x29_1 : A_4 29 = fun i => if i = (G 27 3).toNat then entry else A 29 i := by rw [eA_4, up2_f, eA_3, up2_a (by omega)]
    have x29 : A_5 29 = fun i => if i = (G 27 3).toNat then entry else A 29 i := by rw [eA_5, up2_a (by omega), x29_1]
    have x30_1 : A_5 30 = fun i => if i = (G 27 3).toNat then 0 else A 30 i := by rw [eA_5, up2_f, eA_4, up2_a (by omega), eA_3, up2_a (by omega)]
    have x30 : A_5 30 = fun i => if i = (G 27 3).toNat then 0 else A 30 i := by rw [x30_1]
    exact r_iret i_124_57 rfl rfl (K (((G 27 3) + 1) - 1) G_6 A_5 hG_6 hA_5 (by intro a k hh; rw [eG_6, up2_n (fun h => hh h)]) (by intro a hh; rw [eA_5, up2_a (fun h => hh (Or.inr (Or.inr h))), eA_4, up2_a (fun h => hh (Or.inr (Or.inl h))), eA_3, up2_a (fun h => hh (Or.inl h))]) (by omega) (by rw [show G_6 27 3 = (G 27 3) + 1 from by rw [eG_6, up2_s]] <;> omega) (by exact x29) (by exact x30))
  · skip
    refine r_iconst i_124_9 ?_
    exact r_iret i_124_10 rfl rfl (K ((-1)) G A hG hA (by intro a k hh; rfl) (by intro a hh; rfl) (by omega) (by omega) (by exfalso; omega) (by exfalso; omega))
set_option maxHeartbeats 4000000 in
theorem c_126 {L : Nat} {xs : Nat → Int32} {ly : List LK} {F : Nat → Nat → Value} {G A : Nat → Nat → Int} {B : Nat → Nat → Int64} {Q : Option Value → AH → Prop} {hand : Int} (hly : LyOk ly) (hF : RfOk F) (hG : GO G) (hA : AQ A) (in_hand : inR hand) (K : ∀ (r : Int), (0 ≤ r ∧ r ≤ 1) → (r = 1 → 0 ≤ hand ∧ hand < G 27 3 ∧ A 30 hand.toNat = 0) → Q (some (V r)) (HP ly F G A B)) : Re L xs 126 0 [(0, .ref 27), (1, V hand)] [] (HP ly F G A B) Q := by
  refine r_iload_n i_126_0 rfl ?_
  refine r_lt0 (t := 25) i_126_1 (by decide) (by omega) (fun u_1 => ?_) (fun u_1 => ?_)
  · skip
    refine r_iconst i_126_25 ?_
    exact r_iret i_126_26 rfl (nar_Z (by omega)) (K 0 (by omega) (by omega))
  · skip
    refine r_iload_n i_126_4 rfl ?_
    refine r_aload_n i_126_5 rfl ?_
    refine r_getI i_126_6 rfl (hly 27 _ rfl) ?_
    have q_2 := g_27_3 hG
    refine r_cge (t := 25) i_126_9 (by decide) (by omega) (by omega) (fun u_3 => ?_) (fun u_3 => ?_)
    · skip
      refine r_iconst i_126_25 ?_
      exact r_iret i_126_26 rfl (nar_Z (by omega)) (K 0 (by omega) (by omega))
    · skip
      refine r_aload_n i_126_12 rfl ?_
      refine r_getF (v := .ref 30) i_126_13 rfl (hly 27 _ rfl) (hF.1 27 2 30 rfl) ?_
      refine r_iload_n i_126_16 rfl ?_
      refine r_zald i_126_17 (hly 30 _ rfl) (by omega) (by omega) (by omega) ?_
      have q_4 := a_30 hA (hand.toNat)
      refine r_ne0 (t := 25) i_126_18 (by decide) (by omega) (fun u_5 => ?_) (fun u_5 => ?_)
      · skip
        refine r_iconst i_126_25 ?_
        exact r_iret i_126_26 rfl (nar_Z (by omega)) (K 0 (by omega) (by omega))
      · skip
        refine r_iconst i_126_21 ?_
        refine r_go (t := 26) i_126_22 (by decide) ?_
        exact r_iret i_126_26 rfl (nar_Z (by omega)) (K 1 (by omega) (by omega))
set_option maxHeartbeats 4000000 in
theorem c_75 {L : Nat} {xs : Nat → Int32} {ly : List LK} {F : Nat → Nat → Value} {G A : Nat → Nat → Int} {B : Nat → Nat → Int64} {Q : Option Value → AH → Prop} {word : Int} (hly : LyOk ly) (hF : RfOk F) (hG : GO G) (hA : AQ A) (in_word : inR word) (K : ∀ (r : Int), (0 ≤ r ∧ r ≤ 1) → (r = 1 ↔ (0 ≤ word ∧ word < G 31 8)) → Q (some (V r)) (HP ly F G A B)) : Re L xs 75 0 [(0, .ref 31), (1, V word)] [] (HP ly F G A B) Q := by
  refine r_iload_n i_75_0 rfl ?_
  refine r_lt0 (t := 16) i_75_1 (by decide) (by omega) (fun u_1 => ?_) (fun u_1 => ?_)
  · skip
    refine r_iconst i_75_16 ?_
    exact r_iret i_75_17 rfl (nar_Z (by omega)) (K 0 (by omega) (by omega))
  · skip
    refine r_iload_n i_75_4 rfl ?_
    refine r_aload_n i_75_5 rfl ?_
    refine r_getI i_75_6 rfl (hly 31 _ rfl) ?_
    have q_2 := g_31_8 hG
    refine r_cge (t := 16) i_75_9 (by decide) (by omega) (by omega) (fun u_3 => ?_) (fun u_3 => ?_)
    · skip
      refine r_iconst i_75_16 ?_
      exact r_iret i_75_17 rfl (nar_Z (by omega)) (K 0 (by omega) (by omega))
    · skip
      refine r_iconst i_75_12 ?_
      refine r_go (t := 17) i_75_13 (by decide) ?_
      exact r_iret i_75_17 rfl (nar_Z (by omega)) (K 1 (by omega) (by omega))
set_option maxHeartbeats 4000000 in
theorem c_77 {L : Nat} {xs : Nat → Int32} {ly : List LK} {F : Nat → Nat → Value} {G A : Nat → Nat → Int} {B : Nat → Nat → Int64} {Q : Option Value → AH → Prop} {word : Int} {reading : Int} (hly : LyOk ly) (hF : RfOk F) (hG : GO G) (hA : AQ A) (in_word : inR word) (in_reading : inR reading) (K : ∀ (r : Int), (r = -1 ∨ (0 ≤ word ∧ word < G 31 8 ∧ 0 ≤ reading ∧ reading < A 32 word.toNat ∧ r = word * 12 + reading)) → Q (some (V r)) (HP ly F G A B)) : Re L xs 77 0 [(0, .ref 31), (1, V word), (2, V reading)] [] (HP ly F G A B) Q := by
  have z8 := g_31_8 hG
  refine r_aload_n i_77_0 rfl ?_
  refine r_iload_n i_77_1 rfl ?_
  refine r_cV (as := [V word]) i_77_2 rfl (by decide +kernel) (Nat.le_of_ble_eq_true rfl) (Nat.le_of_ble_eq_true rfl) (hly 31 _ rfl) rfl ?_
  have q_1 := g_31_8 hG
  refine c_75 (word := word) hly hF hG hA (by omega) (fun r_2 p2_0 p2_1 => ?_)
  show Re L xs 77 5 [(0, .ref 31), (1, V word), (2, V reading)] [V r_2] (HP ly F G A B) _
  refine r_eq0 (t := 22) i_77_5 (by decide) (by omega) (fun u_3 => ?_) (fun u_3 => ?_)
  · skip
    refine r_iconst i_77_22 ?_
    exact r_iret i_77_23 rfl rfl (K ((-1)) (by omega))
  · skip
    refine r_iload_n i_77_8 rfl ?_
    refine r_lt0 (t := 22) i_77_9 (by decide) (by omega) (fun u_4 => ?_) (fun u_4 => ?_)
    · skip
      refine r_iconst i_77_22 ?_
      exact r_iret i_77_23 rfl rfl (K ((-1)) (by omega))
    · skip
      refine r_iload_n i_77_12 rfl ?_
      refine r_aload_n i_77_13 rfl ?_
      refine r_getF (v := .ref 32) i_77_14 rfl (hly 31 _ rfl) (hF.1 31 0 32 rfl) ?_
      refine r_iload_n i_77_17 rfl ?_
      refine r_iald i_77_18 (hly 32 _ rfl) (by omega) (by omega) (by omega) ?_
      have q_5 := a_32 hA (word.toNat)
      refine r_clt (t := 24) i_77_19 (by decide) (by omega) (by omega) (fun u_6 => ?_) (fun u_6 => ?_)
      · skip
        refine r_iload_n i_77_24 rfl ?_
        refine r_bipush i_77_25 (by decide) ?_
        refine r_imul i_77_27 ?_
        refine r_iload_n i_77_28 rfl ?_
        refine r_iadd i_77_29 ?_
        exact r_iret i_77_30 rfl rfl (K ((word * 12) + reading) (by omega))
      · skip
        refine r_iconst i_77_22 ?_
        exact r_iret i_77_23 rfl rfl (K ((-1)) (by omega))
set_option maxHeartbeats 4000000 in
theorem c_28 {L : Nat} {xs : Nat → Int32} {ly : List LK} {F : Nat → Nat → Value} {G A : Nat → Nat → Int} {B : Nat → Nat → Int64} {Q : Option Value → AH → Prop} {word : Int} {ta : Nat} {at' : Int} {length : Int} {tn : Nat} (hly : LyOk ly) (hF : RfOk F) (hG : GO G) (hA : AQ A) (in_word : inR word) (in_at' : inR at') (in_length : inR length) (hw : 0 ≤ word ∧ word ≤ 13) (hlt : ly[ta]? = some (.inr (.char, tn))) (hrt : ∀ i, 0 ≤ A ta i ∧ A ta i ≤ 255) (htn : tn ≤ 5000) (hat : 0 ≤ at' ∧ at' + length ≤ tn) (hle : length ≤ 12) (K : ∀ (r : Int), (0 ≤ r ∧ r ≤ 1) → (r = 0 → 1 ≤ A 32 word.toNat) → Q (some (V r)) (HP ly F G A B)) : Re L xs 28 0 [(0, .ref 31), (1, V word), (2, .ref ta), (3, V (at')), (4, V length)] [] (HP ly F G A B) Q := by
  refine r_iload_n i_28_0 rfl ?_
  refine r_bipush i_28_1 (by decide) ?_
  refine r_imul i_28_3 ?_
  refine r_istore (l' := [(0, .ref 31), (1, V word), (2, .ref ta), (3, V (at')), (4, V length), (5, V (word * 12))]) i_28_4 (by decide +kernel) rfl ?_
  refine r_iload i_28_6 rfl ?_
  refine r_istore (l' := [(0, .ref 31), (1, V word), (2, .ref ta), (3, V (at')), (4, V length), (5, V (word * 12)), (6, V (word * 12))]) i_28_8 (by decide +kernel) rfl ?_
  have lp10B : ∀ (nf : Nat) (s : Int), (word * 12 ≤ s ∧ s ≤ word * 12 + 12) → (word * 12 + 12 - s).toNat < nf → Re L xs 28 10 [(0, .ref 31), (1, V word), (2, .ref ta), (3, V (at')), (4, V length), (5, V (word * 12)), (6, V s)] [] (HP ly F G A B) Q := by
    intro nf
    induction nf with
    | zero => intros; omega
    | succ nf ih10B =>
      intro s  hs hm10
      refine r_iload i_28_10 rfl ?_
      refine r_iload i_28_12 rfl ?_
      refine r_aload_n i_28_14 rfl ?_
      refine r_getF (v := .ref 32) i_28_15 rfl (hly 31 _ rfl) (hF.1 31 0 32 rfl) ?_
      refine r_iload_n i_28_18 rfl ?_
      refine r_iald i_28_19 (hly 32 _ rfl) (by omega) (by omega) (by omega) ?_
      have q_1 := a_32 hA (word.toNat)
      refine r_iadd i_28_20 ?_
      refine r_cge (t := 48) i_28_21 (by decide) (by omega) (by omega) (fun u_2 => ?_) (fun u_2 => ?_)
      · skip
        refine r_iconst i_28_48 ?_
        exact r_iret i_28_49 rfl (nar_Z (by omega)) (K 1 (by omega) (by omega))
      · skip
        refine r_aload_n i_28_24 rfl ?_
        refine r_getF (v := .ref 34) i_28_25 rfl (hly 31 _ rfl) (hF.1 31 2 34 rfl) ?_
        refine r_iload i_28_28 rfl ?_
        refine r_aload_n i_28_30 rfl ?_
        refine r_iload_n i_28_31 rfl ?_
        refine r_iload i_28_32 rfl ?_
        refine r_cV (as := [V length, V (at'), .ref ta, V s]) i_28_34 rfl (by decide +kernel) (Nat.le_of_ble_eq_true rfl) (Nat.le_of_ble_eq_true rfl) (hly 34 _ rfl) rfl ?_
        refine c_29 (f := 34) (index := s) (ta := ta) (at' := at') (length := length) (cap := 168) (tn := tn) hly hF hG hA (by omega) (by omega) (by omega) (by exact Fm_s) (by omega) (by exact hlt) (by exact hrt) (by omega) (by omega) (by omega) (fun r_3 p3_0 => ?_)
        show Re L xs 28 37 [(0, .ref 31), (1, V word), (2, .ref ta), (3, V (at')), (4, V length), (5, V (word * 12)), (6, V s)] [V r_3] (HP ly F G A B) _
        refine r_eq0 (t := 42) i_28_37 (by decide) (by omega) (fun u_4 => ?_) (fun u_4 => ?_)
        · skip
          refine r_iinc (l' := [(0, .ref 31), (1, V word), (2, .ref ta), (3, V (at')), (4, V length), (5, V (word * 12)), (6, V (s + 1))]) i_28_42 rfl (by decide +kernel) rfl ?_
          refine r_go (t := 10) i_28_45 (by decide) ?_
          exact ih10B (s + 1)  (by omega) (by omega)
        · skip
          refine r_iconst i_28_40 ?_
          exact r_iret i_28_41 rfl (nar_Z (by omega)) (K 0 (by omega) (by omega))
  exact lp10B _ (word * 12)  (by omega) (Nat.lt_succ_self _)
set_option maxHeartbeats 4000000 in
theorem c_119 {L : Nat} {xs : Nat → Int32} {ly : List LK} {F : Nat → Nat → Value} {G A : Nat → Nat → Int} {B : Nat → Nat → Int64} {Q : Option Value → AH → Prop} {a : Int} {b : Int} (hly : LyOk ly) (hF : RfOk F) (hG : GO G) (hA : AQ A) (in_a : inR a) (in_b : inR b) (ha : 0 ≤ a ∧ a < 168) (hb : 0 ≤ b ∧ b < 168) (K : ∀ (r : Int), (0 ≤ r ∧ r ≤ 1) → Q (some (V r)) (HP ly F G A B)) : Re L xs 119 0 [(0, .ref 31), (1, V a), (2, V b)] [] (HP ly F G A B) Q := by
  refine r_aload_n i_119_0 rfl ?_
  refine r_getF (v := .ref 34) i_119_1 rfl (hly 31 _ rfl) (hF.1 31 2 34 rfl) ?_
  refine r_iload_n i_119_4 rfl ?_
  refine r_aload_n i_119_5 rfl ?_
  refine r_getF (v := .ref 34) i_119_6 rfl (hly 31 _ rfl) (hF.1 31 2 34 rfl) ?_
  refine r_getF (v := .ref 35) i_119_9 rfl (hly 34 _ rfl) (hF.1 34 0 35 rfl) ?_
  refine r_aload_n i_119_12 rfl ?_
  refine r_getF (v := .ref 34) i_119_13 rfl (hly 31 _ rfl) (hF.1 31 2 34 rfl) ?_
  refine r_iload_n i_119_16 rfl ?_
  refine r_cV (as := [V b]) i_119_17 rfl (by decide +kernel) (Nat.le_of_ble_eq_true rfl) (Nat.le_of_ble_eq_true rfl) (hly 34 _ rfl) rfl ?_
  refine c_16 (f := 34) (index := b) hly hF hG hA (by omega) (fun r_1 p1_0 => ?_)
  show Re L xs 119 20 [(0, .ref 31), (1, V a), (2, V b)] [V r_1, .ref 35, V a, .ref 34] (HP ly F G A B) _
  refine r_aload_n i_119_20 rfl ?_
  refine r_getF (v := .ref 34) i_119_21 rfl (hly 31 _ rfl) (hF.1 31 2 34 rfl) ?_
  refine r_getF (v := .ref 36) i_119_24 rfl (hly 34 _ rfl) (hF.1 34 1 36 rfl) ?_
  refine r_iload_n i_119_27 rfl ?_
  refine r_iald i_119_28 (hly 36 _ rfl) (by omega) (by omega) (by omega) ?_
  have q_2 := a_36 hA (b.toNat)
  refine r_cV (as := [V (A 36 (b.toNat)), V r_1, .ref 35, V a]) i_119_29 rfl (by decide +kernel) (Nat.le_of_ble_eq_true rfl) (Nat.le_of_ble_eq_true rfl) (hly 34 _ rfl) rfl ?_
  refine c_29 (f := 34) (index := a) (ta := 35) (at' := r_1) (length := A 36 (b.toNat)) (cap := 168) (tn := 2016) hly hF hG hA (by omega) (by omega) (by omega) (by exact Fm_s) (by omega) (by exact hly 35 _ rfl) (by exact fun i => a_35 hA i) (by omega) (by omega) (by omega) (fun r_3 p3_0 => ?_)
  show Re L xs 119 32 [(0, .ref 31), (1, V a), (2, V b)] [V r_3] (HP ly F G A B) _
  exact r_iret i_119_32 rfl (nar_Z (by omega)) (K r_3 (by omega))
set_option maxHeartbeats 4000000 in
theorem c_18 {L : Nat} {xs : Nat → Int32} {ly : List LK} {F : Nat → Nat → Value} {G A : Nat → Nat → Int} {B : Nat → Nat → Int64} {Q : Option Value → AH → Prop} {word : Int} {ta : Nat} {at' : Int} {length : Int} {kind : Int} {cost : Int} {tn : Nat} (hly : LyOk ly) (hF : RfOk F) (hG : GO G) (hA : AQ A) (in_word : inR word) (in_at' : inR at') (in_length : inR length) (in_kind : inR kind) (in_cost : inR cost) (hw : 0 ≤ word ∧ word ≤ 13) (hlt : ly[ta]? = some (.inr (.char, tn))) (hrt : ∀ i, 0 ≤ A ta i ∧ A ta i ≤ 255) (htn : tn ≤ 5000) (hat : 0 ≤ at' ∧ 0 ≤ length ∧ length ≤ 12 ∧ at' + length ≤ tn) (hki : 0 ≤ kind ∧ kind ≤ 7) (hco : 0 ≤ cost ∧ cost ≤ 99) (hne : ¬ ta = 32) (K : ∀ (r : Int) (A' : Nat → Nat → Int), (AQ A') → (∀ a, ¬ (a = 32 ∨ a = 35 ∨ a = 36 ∨ a = 37 ∨ a = 38 ∨ a = 40) → A' a = A a) → (-1 ≤ r ∧ r ≤ 167) → (r = -1 → A' 32 = A 32 ∧ A' 40 = A 40 ∧ 12 ≤ A 32 word.toNat) → (¬ r = -1 → r = 12 * ((word.toNat : Nat) : Int) + A 32 word.toNat ∧ A 32 word.toNat ≤ 11 ∧ A' 32 = (fun i => if i = word.toNat then A 32 word.toNat + 1 else A 32 i) ∧ A' 40 = (fun i => if i = r.toNat then (-1) else A 40 i)) → Q (some (V r)) (HP ly F G A' B)) : Re L xs 18 0 [(0, .ref 31), (1, V word), (2, .ref ta), (3, V (at')), (4, V length), (5, V kind), (6, V cost)] [] (HP ly F G A B) Q := by
  refine r_aload_n i_18_0 rfl ?_
  refine r_getF (v := .ref 32) i_18_1 rfl (hly 31 _ rfl) (hF.1 31 0 32 rfl) ?_
  refine r_iload_n i_18_4 rfl ?_
  refine r_iald i_18_5 (hly 32 _ rfl) (by omega) (by omega) (by omega) ?_
  have q_1 := a_32 hA (word.toNat)
  refine r_bipush i_18_6 (by decide) ?_
  refine r_clt (t := 13) i_18_8 (by decide) (by omega) (by omega) (fun u_2 => ?_) (fun u_2 => ?_)
  · skip
    refine r_iload_n i_18_13 rfl ?_
    refine r_bipush i_18_14 (by decide) ?_
    refine r_imul i_18_16 ?_
    refine r_aload_n i_18_17 rfl ?_
    refine r_getF (v := .ref 32) i_18_18 rfl (hly 31 _ rfl) (hF.1 31 0 32 rfl) ?_
    refine r_iload_n i_18_21 rfl ?_
    refine r_iald i_18_22 (hly 32 _ rfl) (by omega) (by omega) (by omega) ?_
    refine r_iadd i_18_23 ?_
    refine r_istore (l' := [(0, .ref 31), (1, V word), (2, .ref ta), (3, V (at')), (4, V length), (5, V kind), (6, V cost), (7, V ((word * 12) + (A 32 (word.toNat))))]) i_18_24 (by decide +kernel) rfl ?_
    refine r_aload_n i_18_26 rfl ?_
    refine r_getF (v := .ref 32) i_18_27 rfl (hly 31 _ rfl) (hF.1 31 0 32 rfl) ?_
    refine r_iload_n i_18_30 rfl ?_
    refine re_nx i_18_31 rfl ?_
    refine r_iald i_18_32 (hly 32 _ rfl) (by omega) (by omega) (by omega) ?_
    refine r_iconst i_18_33 ?_
    refine r_iadd i_18_34 ?_
    refine r_iastQ i_18_35 (hly 32 _ rfl) (by omega) (by omega) (by omega) (fun A_3 eA_3 => ?_)
    have hA_3 : AQ A_3 := by rw [eA_3]; exact au_32 hA (by omega) (by omega)
    refine r_aload_n i_18_36 rfl ?_
    refine r_getF (v := .ref 34) i_18_37 rfl (hly 31 _ rfl) (hF.1 31 2 34 rfl) ?_
    refine r_iload i_18_40 rfl ?_
    refine r_aload_n i_18_42 rfl ?_
    refine r_iload_n i_18_43 rfl ?_
    refine r_iload i_18_44 rfl ?_
    refine r_cV (as := [V length, V (at'), .ref ta, V ((word * 12) + (A 32 (word.toNat)))]) i_18_46 rfl (by decide +kernel) (Nat.le_of_ble_eq_true rfl) (Nat.le_of_ble_eq_true rfl) (hly 34 _ rfl) rfl ?_
    refine c_19 (f := 34) (index := (word * 12) + (A 32 (word.toNat))) (ta := ta) (at' := at') (length := length) (cap := 168) (tn := tn) hly hF hG hA_3 (by omega) (by omega) (by omega) (by exact Fm_s) (by omega) (by exact hlt) (by exact fun i => by rw [show A_3 ta = A ta from by rw [eA_3, up2_a (by omega)]]; exact hrt i) (by omega) (by omega) (fun A_4 hA_4 fa4 => ?_)
    show Re L xs 18 49 [(0, .ref 31), (1, V word), (2, .ref ta), (3, V (at')), (4, V length), (5, V kind), (6, V cost), (7, V ((word * 12) + (A 32 (word.toNat))))] [] (HP ly F G A_4 B) _
    refine r_aload_n i_18_49 rfl ?_
    refine r_getF (v := .ref 37) i_18_50 rfl (hly 31 _ rfl) (hF.1 31 3 37 rfl) ?_
    refine r_iload i_18_53 rfl ?_
    refine r_iload i_18_55 rfl ?_
    refine r_iastQ i_18_57 (hly 37 _ rfl) (by omega) (by omega) (by omega) (fun A_5 eA_5 => ?_)
    have hA_5 : AQ A_5 := by rw [eA_5]; exact au_37 hA_4 (by omega) (by omega)
    refine r_aload_n i_18_58 rfl ?_
    refine r_getF (v := .ref 38) i_18_59 rfl (hly 31 _ rfl) (hF.1 31 4 38 rfl) ?_
    refine r_iload i_18_62 rfl ?_
    refine r_iload i_18_64 rfl ?_
    refine r_iastQ i_18_66 (hly 38 _ rfl) (by omega) (by omega) (by omega) (fun A_6 eA_6 => ?_)
    have hA_6 : AQ A_6 := by rw [eA_6]; exact au_38 hA_5 (by omega) (by omega)
    refine r_aload_n i_18_67 rfl ?_
    refine r_getF (v := .ref 40) i_18_68 rfl (hly 31 _ rfl) (hF.1 31 6 40 rfl) ?_
    refine r_iload i_18_71 rfl ?_
    refine r_iconst i_18_73 ?_
    refine r_iastQ i_18_74 (hly 40 _ rfl) (by omega) (by omega) (by omega) (fun A_7 eA_7 => ?_)
    have hA_7 : AQ A_7 := by rw [eA_7]; exact au_40 hA_6 (by omega) (by omega)
    have x32_1 : A_3 32 = fun i => if i = word.toNat then (A 32 (word.toNat)) + 1 else A 32 i := by rw [eA_3, up2_f]
    have x32 : A_7 32 = fun i => if i = word.toNat then (A 32 (word.toNat)) + 1 else A 32 i := by rw [eA_7, up2_a (by omega), eA_6, up2_a (by omega), eA_5, up2_a (by omega), fa4 32 (by omega), x32_1]
    have x40_1 : A_7 40 = fun i => if i = ((word * 12) + (A 32 (word.toNat))).toNat then (-1) else A 40 i := by rw [eA_7, up2_f, eA_6, up2_a (by omega), eA_5, up2_a (by omega), fa4 40 (by omega), eA_3, up2_a (by omega)]
    have x40 : A_7 40 = fun i => if i = ((word * 12) + (A 32 (word.toNat))).toNat then (-1) else A 40 i := by rw [x40_1]
    refine r_iload i_18_75 rfl ?_
    exact r_iret i_18_77 rfl rfl (K ((word * 12) + (A 32 (word.toNat))) A_7 hA_7 (by intro a hh; rw [eA_7, up2_a (fun h => hh (Or.inr (Or.inr (Or.inr (Or.inr (Or.inr h)))))), eA_6, up2_a (fun h => hh (Or.inr (Or.inr (Or.inr (Or.inr (Or.inl h)))))), eA_5, up2_a (fun h => hh (Or.inr (Or.inr (Or.inr (Or.inl h))))), fa4 a (fun h => h.elim (fun h => hh (Or.inr (Or.inl h))) (fun h => hh (Or.inr (Or.inr (Or.inl h))))), eA_3, up2_a (fun h => hh (Or.inl h))]) (by omega) (by intro h; exfalso; omega) (by intro _; exact ⟨by omega, by omega, x32, x40⟩))
  · skip
    refine r_iconst i_18_11 ?_
    exact r_iret i_18_12 rfl rfl (K ((-1)) A hA (by intro a hh; rfl) (by omega) (by intro _; exact ⟨rfl, rfl, by omega⟩) (by intro h; exfalso; omega))
set_option maxHeartbeats 4000000 in
theorem c_15 {L : Nat} {xs : Nat → Int32} {ly : List LK} {F : Nat → Nat → Value} {G A : Nat → Nat → Int} {B : Nat → Nat → Int64} {Q : Option Value → AH → Prop} {word : Int} {x : Nat} {entry : Int} (hly : LyOk ly) (hF : RfOk F) (hG : GO G) (hA : AQ A) (in_word : inR word) (in_entry : inR entry) (hx : x = 3 ∨ x = 61) (hw : 0 ≤ word ∧ word ≤ 13) (he : 0 ≤ entry ∧ entry < 80) (K : ∀ (A' : Nat → Nat → Int), (AQ A') → (∀ a, ¬ (a = 32 ∨ a = 35 ∨ a = 36 ∨ a = 37 ∨ a = 38 ∨ a = 40) → A' a = A a) → (1 ≤ A' 32 word.toNat) → (∀ (A0 : Nat → Nat → Int) (n : Int), cqQ A0 A word.toNat n → entry < n → cqQ A0 A' word.toNat n) → Q none (HP ly F G A' B)) : Re L xs 15 0 [(0, .ref 31), (1, V word), (2, .ref x), (3, V entry)] [] (HP ly F G A B) Q := by
  have z32 := a_32 hA word.toNat
  refine r_aload_n i_15_0 rfl ?_
  refine r_getF (v := .ref (x + 1)) i_15_1 rfl (Lx_0 hly hx) (Rx_0_0 hF hx) ?_
  refine r_astore (l' := [(0, .ref 31), (1, V word), (2, .ref x), (3, V entry), (4, .ref (x + 1))]) i_15_4 (by decide +kernel) rfl ?_
  refine r_aload_n i_15_6 rfl ?_
  refine r_iload_n i_15_7 rfl ?_
  refine r_aload i_15_8 rfl ?_
  refine r_getF (v := .ref (x + 2)) i_15_10 rfl (Lx_1 hly hx) (Rx_1_0 hF hx) ?_
  refine r_aload i_15_13 rfl ?_
  refine r_iload_n i_15_15 rfl ?_
  refine r_cV (as := [V entry]) i_15_16 rfl (by decide +kernel) (Nat.le_of_ble_eq_true rfl) (Nat.le_of_ble_eq_true rfl) (Lx_1 hly hx) rfl ?_
  refine c_16 (f := x + 1) (index := entry) hly hF hG hA (by omega) (fun r_1 p1_0 => ?_)
  show Re L xs 15 19 [(0, .ref 31), (1, V word), (2, .ref x), (3, V entry), (4, .ref (x + 1))] [V r_1, .ref (x + 2), V word, .ref 31] (HP ly F G A B) _
  refine r_aload i_15_19 rfl ?_
  refine r_getF (v := .ref (x + 3)) i_15_21 rfl (Lx_1 hly hx) (Rx_1_1 hF hx) ?_
  refine r_iload_n i_15_24 rfl ?_
  refine r_iald i_15_25 (Lx_3 hly hx) (by omega) (by omega) (by omega) ?_
  have q_2 := Ax_3 hA hx (entry.toNat)
  refine r_aload_n i_15_26 rfl ?_
  refine r_getF (v := .ref (x + 4)) i_15_27 rfl (Lx_0 hly hx) (Rx_0_1 hF hx) ?_
  refine r_iload_n i_15_30 rfl ?_
  refine r_iald i_15_31 (Lx_4 hly hx) (by omega) (by omega) (by omega) ?_
  have q_3 := Ax_4 hA hx (entry.toNat)
  refine r_aload_n i_15_32 rfl ?_
  refine r_iload_n i_15_33 rfl ?_
  refine r_cV (as := [V entry]) i_15_34 rfl (by decide +kernel) (Nat.le_of_ble_eq_true rfl) (Nat.le_of_ble_eq_true rfl) (Lx_0 hly hx) rfl ?_
  refine c_17 (x := x) (k := entry) hly hF hG hA (by omega) (by omega) (by omega) (fun r_4 p4_0 => ?_)
  show Re L xs 15 37 [(0, .ref 31), (1, V word), (2, .ref x), (3, V entry), (4, .ref (x + 1))] [V r_4, V (A (x + 4) (entry.toNat)), V (A (x + 3) (entry.toNat)), V r_1, .ref (x + 2), V word, .ref 31] (HP ly F G A B) _
  refine r_cV (as := [V r_4, V (A (x + 4) (entry.toNat)), V (A (x + 3) (entry.toNat)), V r_1, .ref (x + 2), V word]) i_15_37 rfl (by decide +kernel) (Nat.le_of_ble_eq_true rfl) (Nat.le_of_ble_eq_true rfl) (hly 31 _ rfl) rfl ?_
  refine c_18 (word := word) (ta := x + 2) (at' := r_1) (length := A (x + 3) (entry.toNat)) (kind := A (x + 4) (entry.toNat)) (cost := r_4) (tn := 960) hly hF hG hA (by omega) (by omega) (by omega) (by omega) (by omega) (by omega) (by exact Lx_2 hly hx) (by exact fun i => Ax_2 hA hx i) (by omega) (by omega) (by omega) (by omega) (by omega) (fun r_5 A_6 hA_6 fa6 p6_0 p6_1 p6_2 => ?_)
  show Re L xs 15 40 [(0, .ref 31), (1, V word), (2, .ref x), (3, V entry), (4, .ref (x + 1))] [V r_5] (HP ly F G A_6 B) _
  refine r_istore (l' := [(0, .ref 31), (1, V word), (2, .ref x), (3, V entry), (4, .ref (x + 1)), (5, V r_5)]) i_15_40 (by decide +kernel) rfl ?_
  refine r_iload i_15_42 rfl ?_
  refine r_iconst i_15_44 ?_
  refine r_ceq (t := 56) i_15_45 (by decide) (by omega) (by omega) (fun u_7 => ?_) (fun u_7 => ?_)
  · skip
    have x40 : A_6 40 = A_6 40 := by rfl
    exact r_vret i_15_56 rfl (K A_6 hA_6 (by intro a hh; rw [fa6 a (fun h => h.elim (fun h => hh (Or.inl h)) (fun h => h.elim (fun h => hh (Or.inr (Or.inl h))) (fun h => h.elim (fun h => hh (Or.inr (Or.inr (Or.inl h)))) (fun h => h.elim (fun h => hh (Or.inr (Or.inr (Or.inr (Or.inl h))))) (fun h => h.elim (fun h => hh (Or.inr (Or.inr (Or.inr (Or.inr (Or.inl h)))))) (fun h => hh (Or.inr (Or.inr (Or.inr (Or.inr (Or.inr h)))))))))))]) (by rw [show A_6 32 = A_6 32 from by rfl]; exact ad_pos p6_1 p6_2 (by omega)) (by intro A0 n hq hn; first | (have hh := p6_1 (by omega); exact cq_s hq hh.1 hh.2.1) | (have hh := p6_2 (by omega); exact cq_e hq hn (by omega) (by omega) hh.1 (by rw [show A_6 32 = A_6 32 from by rfl]; exact hh.2.2.1) hh.2.2.2 x40)))
  · skip
    refine r_aload_n i_15_48 rfl ?_
    refine r_getF (v := .ref 40) i_15_49 rfl (hly 31 _ rfl) (hF.1 31 6 40 rfl) ?_
    refine r_iload i_15_52 rfl ?_
    refine r_iload_n i_15_54 rfl ?_
    refine r_iastQ i_15_55 (hly 40 _ rfl) (by omega) (by omega) (by omega) (fun A_8 eA_8 => ?_)
    have hA_8 : AQ A_8 := by rw [eA_8]; exact au_40 hA_6 (by omega) (by omega)
    have x40_1 : A_8 40 = fun i => if i = r_5.toNat then entry else A_6 40 i := by rw [eA_8, up2_f]
    have x40 : A_8 40 = fun i => if i = r_5.toNat then entry else A_6 40 i := by rw [x40_1]
    exact r_vret i_15_56 rfl (K A_8 hA_8 (by intro a hh; rw [eA_8, up2_a (fun h => hh (Or.inr (Or.inr (Or.inr (Or.inr (Or.inr h)))))), fa6 a (fun h => h.elim (fun h => hh (Or.inl h)) (fun h => h.elim (fun h => hh (Or.inr (Or.inl h))) (fun h => h.elim (fun h => hh (Or.inr (Or.inr (Or.inl h)))) (fun h => h.elim (fun h => hh (Or.inr (Or.inr (Or.inr (Or.inl h))))) (fun h => h.elim (fun h => hh (Or.inr (Or.inr (Or.inr (Or.inr (Or.inl h)))))) (fun h => hh (Or.inr (Or.inr (Or.inr (Or.inr (Or.inr h)))))))))))]) (by rw [show A_8 32 = A_6 32 from by rw [eA_8, up2_a (by omega)]]; exact ad_pos p6_1 p6_2 (by omega)) (by intro A0 n hq hn; first | (have hh := p6_1 (by omega); exact cq_s hq hh.1 hh.2.1) | (have hh := p6_2 (by omega); exact cq_e hq hn (by omega) (by omega) hh.1 (by rw [show A_8 32 = A_6 32 from by rw [eA_8, up2_a (by omega)]]; exact hh.2.2.1) hh.2.2.2 x40)))
