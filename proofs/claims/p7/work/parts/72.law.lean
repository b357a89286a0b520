set_option maxHeartbeats 4000000 in
theorem c_158x {L : Nat} {xs : Nat → Int32} {ly : List LK} {F : Nat → Nat → Value} {G A : Nat → Nat → Int} {B : Nat → Nat → Int64} {Q : Option Value → AH → Prop} {weight : Int} (hly : LyOk ly) (hF : RfOk F) (hG : GO G) (hA : AQ A) (in_weight : inR weight) (hm : MI G A) (K : ∀ (r : Int) (G' : Nat → Nat → Int), (GO G') → (∀ a k, ¬ ((a = 90 ∧ k = 45) ∨ (a = 90 ∧ k = 53)) → G' a k = G a k) → (0 ≤ r ∧ r ≤ 1) → (r = 1 ↔ (-1 ≤ weight ∧ weight ≤ 400)) → (MI G' A) → Q (some (V r)) (HP ly F G' A B)) : Re L xs 158 0 [(0, .ref 90), (1, V weight)] [] (HP ly F G A B) Q := by
  refine r_iload_n i_158_0 rfl ?_
  refine r_iconst i_158_1 ?_
  refine r_clt (t := 12) i_158_2 (by decide) (by omega) (by omega) (fun c_1 => ?_) (fun c_1 => ?_)
  · skip
    refine r_iconst i_158_12 ?_
    exact r_iret i_158_13 rfl (nar_Z (by omega)) (K 0 G hG (by intro a k hh; rfl) (by omega) (by omega) (by exact hm))
  · skip
    refine r_iload_n i_158_5 rfl ?_
    refine r_sipush i_158_6 (by decide) ?_
    refine r_cle (t := 14) i_158_9 (by decide) (by omega) (by omega) (fun c_2 => ?_) (fun c_2 => ?_)
    · skip
      refine r_aload_n i_158_14 rfl ?_
      refine r_iload_n i_158_15 rfl ?_
      refine r_putIQ i_158_16 (by decide +kernel) (hly 90 _ rfl) (fun G_3 eG_3 => ?_)
      have hG_3 : GO G_3 := by rw [eG_3]; exact gu_90_45 hG (by omega) (by omega)
      refine r_aload_n i_158_19 rfl ?_
      refine r_iconst i_158_20 ?_
      refine r_putZQ i_158_21 (by decide +kernel) (hly 90 _ rfl) (by omega) (fun G_4 eG_4 => ?_)
      have hG_4 : GO G_4 := by rw [eG_4]; exact gu_90_53 hG_3 (by omega) (by omega)
      refine r_iconst i_158_24 ?_
      exact r_iret i_158_25 rfl (nar_Z (by omega)) (K 1 G_4 hG_4 (by intro a k hh; rw [eG_4, up2_n (by omega), eG_3, up2_n (by omega)]) (by omega) (by omega) (by exact MI_me hm (by intro a k hh; rw [eG_4, up2_n (by omega), eG_3, up2_n (by omega)]) (by rw [eG_4, up2_s])))
    · skip
      refine r_iconst i_158_12 ?_
      exact r_iret i_158_13 rfl (nar_Z (by omega)) (K 0 G hG (by intro a k hh; rfl) (by omega) (by omega) (by exact hm))
set_option maxHeartbeats 4000000 in
theorem c_132b {L : Nat} {xs : Nat → Int32} {ly : List LK} {F : Nat → Nat → Value} {G A : Nat → Nat → Int} {B : Nat → Nat → Int64} {Q : Option Value → AH → Prop}  (hly : LyOk ly) (hF : RfOk F) (hG : GO G) (hA : AQ A) (h106 : ∀ i, A 106 i ≤ 99) (K : ∀ (A' : Nat → Nat → Int), (AQ A') → (∀ a, ¬ (a = 106 ∨ a = 112) → A' a = A a) → (∀ i, A' 106 i ≤ 99) → (A' 112 = fun i => if i = (0 : Int).toNat then 50 else A 112 i) → Q none (HP ly F G A' B)) : Re L xs 132 392 [(0, .ref 90)] [] (HP ly F G A B) Q := by
  refine r_iconst i_132_392 ?_
  refine r_istore_n (l' := [(0, .ref 90), (1, V 0)]) i_132_393 (by decide +kernel) rfl ?_
  have lp394B : ∀ (nf : Nat) (k : Int) (A394 : Nat → Nat → Int), (AQ A394) → (∀ a, ¬ (a = 106) → A394 a = A a) → (0 ≤ k ∧ k ≤ 128) → (∀ i, A394 106 i ≤ 99) → (128 - k).toNat < nf → Re L xs 132 394 [(0, .ref 90), (1, V k)] [] (HP ly F G A394 B) Q := by
    intro nf
    induction nf with
    | zero => intros; omega
    | succ nf ih394B =>
      intro k A394 hA394 fa394 hk hq hm394
      refine r_iload_n i_132_394 rfl ?_
      refine r_sipush i_132_395 (by decide) ?_
      refine r_cge (t := 415) i_132_398 (by decide) (by omega) (by omega) (fun c_1 => ?_) (fun c_1 => ?_)
      · skip
        refine r_aload_n i_132_415 rfl ?_
        refine r_getF (v := .ref 112) i_132_416 rfl (hly 90 _ rfl) (hF.1 90 30 112 rfl) ?_
        refine r_iconst i_132_419 ?_
        refine r_bipush i_132_420 (by decide) ?_
        refine r_iastQ i_132_422 (hly 112 _ rfl) (by omega) (by omega) (by omega) (fun A_2 eA_2 => ?_)
        have hA_2 : AQ A_2 := by rw [eA_2]; exact au_112 hA394 (by omega) (by omega)
        exact r_vret i_132_423 rfl (K A_2 hA_2 (by intro a hh; rw [eA_2, up2_a (by omega), fa394 a (by omega)]) (by rw [show A_2 106 = A394 106 from by rw [eA_2, up2_a (by omega)]]; exact hq) (by rw [eA_2, up2_f, show A394 112 = A 112 from fa394 112 (by omega)]))
      · skip
        refine r_aload_n i_132_401 rfl ?_
        refine r_getF (v := .ref 106) i_132_402 rfl (hly 90 _ rfl) (hF.1 90 24 106 rfl) ?_
        refine r_iload_n i_132_405 rfl ?_
        refine r_bipush i_132_406 (by decide) ?_
        refine r_iastQ i_132_408 (hly 106 _ rfl) (by omega) (by omega) (by omega) (fun A_3 eA_3 => ?_)
        have hA_3 : AQ A_3 := by rw [eA_3]; exact au_106 hA394 (by omega) (by omega)
        have x106_1 : A_3 106 = fun i => if i = k.toNat then (-2) else A394 106 i := by rw [eA_3, up2_f]
        have x106 : A_3 106 = fun i => if i = k.toNat then (-2) else A394 106 i := by rw [x106_1]
        refine r_iinc (l' := [(0, .ref 90), (1, V (k + 1))]) i_132_409 rfl (by decide +kernel) rfl ?_
        refine r_go (t := 394) i_132_412 (by decide) ?_
        exact ih394B (k + 1) A_3 hA_3 (by intro a hh; rw [eA_3, up2_a (by omega), fa394 a (by omega)]) (by omega) (by first | exact h106 | (intro i; rw [x106]; dsimp only; exact if e : i = k.toNat then (by rw [if_pos e]; omega) else (by rw [if_neg e]; exact hq i))) (by omega)
  exact lp394B _ 0 A hA (by intro a hh; rfl) (by omega) (by first | exact h106 | (intro i; rw [x106]; dsimp only; exact if e : i = k.toNat then (by rw [if_pos e]; omega) else (by rw [if_neg e]; exact hq i))) (Nat.lt_succ_self _)
set_option maxHeartbeats 4000000 in
theorem c_law {L : Nat} {xs : Nat → Int32} {ly : List LK} {F : Nat → Nat → Value} {G A : Nat → Nat → Int} {B : Nat → Nat → Int64} {Q : Option Value → AH → Prop} {i : Int} (hly : LyOk ly) (hF : RfOk F) (hG : GO G) (hA : AQ A) (hL : L ≤ 3072) (hi : 0 ≤ i ∧ i ≤ 10000) (hm : MI G A) (hci : CI F G A) (hty : tyV ly F) (K : ∀ (r : Int) (ly' : List LK) (F' : Nat → Nat → Value) (G' : Nat → Nat → Int) (A' : Nat → Nat → Int) (B' : Nat → Nat → Int64), (LyOk ly') → (RfOk F') → (GO G') → (AQ A') → (r = 1) → (tyV ly' F') → Q (some (V r)) (HP ly' F' G' A' B')) : Re L xs 0 18 [(0, .float 1000), (1, .ref 0), (2, .ref 90), (3, V i)] [] (HP ly F G A B) Q := by
  have lp18B : ∀ (nf : Nat) (i : Int) (ly18 : List LK) (F18 : Nat → Nat → Value) (G18 : Nat → Nat → Int) (A18 : Nat → Nat → Int) (B18 : Nat → Nat → Int64), (LyOk ly18) → (RfOk F18) → (GO G18) → (AQ A18) → (0 ≤ i ∧ i ≤ 10000) → (MI G18 A18) → (CI F18 G18 A18) → (tyV ly18 F18) → (L - i).toNat < nf → Re L xs 0 18 [(0, .float 1000), (1, .ref 0), (2, .ref 90), (3, V i)] [] (HP ly18 F18 G18 A18 B18) Q := by
    intro nf
    induction nf with
    | zero => intros; omega
    | succ nf ih18B =>
      intro i ly18 F18 G18 A18 B18 hly18 hF18 hG18 hA18 hi hm hci hty hm18
      refine r_iload_n i_0_18 rfl ?_
      refine r_aloads_n i_0_19 rfl (by decide) ?_
      refine r_slen i_0_20 ?_
      refine r_bipush i_0_21 (by decide) ?_
      refine r_isub i_0_23 ?_
      refine r_cgt (t := 667) i_0_24 (by decide) (by omega) (by omega) (fun u_1 => ?_) (fun u_1 => ?_)
      · skip
        refine r_iconst i_0_667 ?_
        exact r_iret i_0_668 rfl (nar_Z (by omega)) (K 1 ly18 F18 G18 A18 B18 hly18 hF18 hG18 hA18 (by omega) (by exact hty))
      · skip
        refine r_aloads_n i_0_27 rfl (by decide) ?_
        refine r_iload_n i_0_28 rfl ?_
        refine r_sld i_0_29 (by omega) (by omega) (by omega) ?_
        have q_2 := x_rng (xs i.toNat)
        refine r_bipush i_0_30 (by decide) ?_
        refine r_bin (z := ((xs i.toNat).toInt) % 32) i_0_32 rfl (and31 _) ?_
        rcases (show (((xs i.toNat).toInt) % 32 < 0 ∨ 18 < ((xs i.toNat).toInt) % 32) ∨ ((xs i.toNat).toInt) % 32 = 0 ∨ ((xs i.toNat).toInt) % 32 = 1 ∨ ((xs i.toNat).toInt) % 32 = 2 ∨ ((xs i.toNat).toInt) % 32 = 3 ∨ ((xs i.toNat).toInt) % 32 = 4 ∨ ((xs i.toNat).toInt) % 32 = 5 ∨ ((xs i.toNat).toInt) % 32 = 6 ∨ ((xs i.toNat).toInt) % 32 = 7 ∨ ((xs i.toNat).toInt) % 32 = 8 ∨ ((xs i.toNat).toInt) % 32 = 9 ∨ ((xs i.toNat).toInt) % 32 = 10 ∨ ((xs i.toNat).toInt) % 32 = 11 ∨ ((xs i.toNat).toInt) % 32 = 12 ∨ ((xs i.toNat).toInt) % 32 = 13 ∨ ((xs i.toNat).toInt) % 32 = 14 ∨ ((xs i.toNat).toInt) % 32 = 15 ∨ ((xs i.toNat).toInt) % 32 = 16 ∨ ((xs i.toNat).toInt) % 32 = 17 ∨ ((xs i.toNat).toInt) % 32 = 18 by omega) with u_3 | u_3 | u_3 | u_3 | u_3 | u_3 | u_3 | u_3 | u_3 | u_3 | u_3 | u_3 | u_3 | u_3 | u_3 | u_3 | u_3 | u_3 | u_3 | u_3
        · refine r_tabO (t := 661) i_0_33 (by decide) (by omega) u_3 ?_
          refine r_iinc (l' := [(0, .float 1000), (1, .ref 0), (2, .ref 90), (3, V (i + 6))]) i_0_661 rfl (by decide +kernel) rfl ?_
          refine r_go (t := 18) i_0_664 (by decide) ?_
          exact ih18B (i + 6) ly18 F18 G18 A18 B18 hly18 hF18 hG18 hA18 (by omega) (by first | exact hm2 | exact hm) (by first | exact hci2 | exact hci) (by first | exact hty2 | exact hty) (by omega)
        · refine r_tabI (t := 124) (off := 91) i_0_33 (by omega) (by omega) (by rw [u_3]; decide) (by decide) ?_
          refine r_aload_n i_0_124 rfl ?_
          refine r_aloads_n i_0_125 rfl (by decide) ?_
          refine r_iload_n i_0_126 rfl ?_
          refine r_iconst i_0_127 ?_
          refine r_iadd i_0_128 ?_
          refine r_sld i_0_129 (by omega) (by omega) (by omega) ?_
          have q_4 := x_rng (xs (i + 1).toNat)
          refine r_aloads_n i_0_130 rfl (by decide) ?_
          refine r_iload_n i_0_131 rfl ?_
          refine r_iconst i_0_132 ?_
          refine r_iadd i_0_133 ?_
          refine r_sld i_0_134 (by omega) (by omega) (by omega) ?_
          have q_5 := x_rng (xs (i + 2).toNat)
          refine r_aloads_n i_0_135 rfl (by decide) ?_
          refine r_iload_n i_0_136 rfl ?_
          refine r_iconst i_0_137 ?_
          refine r_iadd i_0_138 ?_
          refine r_sld i_0_139 (by omega) (by omega) (by omega) ?_
          have q_6 := x_rng (xs (i + 3).toNat)
          refine r_aloads_n i_0_140 rfl (by decide) ?_
          refine r_iload_n i_0_141 rfl ?_
          refine r_iconst i_0_142 ?_
          refine r_iadd i_0_143 ?_
          refine r_sld i_0_144 (by omega) (by omega) (by omega) ?_
          have q_7 := x_rng (xs (i + 4).toNat)
          refine r_aloads_n i_0_145 rfl (by decide) ?_
          refine r_iload_n i_0_146 rfl ?_
          refine r_iconst i_0_147 ?_
          refine r_iadd i_0_148 ?_
          refine r_sld i_0_149 (by omega) (by omega) (by omega) ?_
          have q_8 := x_rng (xs (i + 5).toNat)
          refine r_cV (as := [V ((xs (i + 5).toNat).toInt), V ((xs (i + 4).toNat).toInt), V ((xs (i + 3).toNat).toInt), V ((xs (i + 2).toNat).toInt), V ((xs (i + 1).toNat).toInt)]) i_0_150 rfl (by decide +kernel) (Nat.le_of_ble_eq_true rfl) (Nat.le_of_ble_eq_true rfl) (hly18 0 _ rfl) rfl ?_
          refine c_35 (a1 := (xs (i + 1).toNat).toInt) (b1 := (xs (i + 2).toNat).toInt) (c1 := (xs (i + 3).toNat).toInt) (d1 := (xs (i + 4).toNat).toInt) (e1 := (xs (i + 5).toNat).toInt) hly18 hF18 hG18 hA18 (by omega) (by omega) (by omega) (by omega) (by omega) (by exact hci) (fun r_9 G_10 A_11 hG_10 hA_11 fg_11 fa_11 p11_0 => ?_)
          show Re L xs 0 153 [(0, .float 1000), (1, .ref 0), (2, .ref 90), (3, V i)] [V r_9] (HP ly18 F18 G_10 A_11 B18) _
          have hci1 : CI F18 G_10 A_11 := p11_0
          have hm1 : MI G_10 A_11 := MI_x hm (fun k => fg_11 90 k (by omega)) (fun a ha => fa_11 a (by omega))
          have hty1 : tyV ly18 F18 := hty
          refine re_nx i_0_153 rfl ?_
          refine r_aload_n i_0_154 rfl ?_
          refine r_aloads_n i_0_155 rfl (by decide) ?_
          refine r_iload_n i_0_156 rfl ?_
          refine r_iconst i_0_157 ?_
          refine r_iadd i_0_158 ?_
          refine r_sld i_0_159 (by omega) (by omega) (by omega) ?_
          have q_12 := x_rng (xs (i + 1).toNat)
          refine r_aloads_n i_0_160 rfl (by decide) ?_
          refine r_iload_n i_0_161 rfl ?_
          refine r_iconst i_0_162 ?_
          refine r_iadd i_0_163 ?_
          refine r_sld i_0_164 (by omega) (by omega) (by omega) ?_
          have q_13 := x_rng (xs (i + 2).toNat)
          refine r_aloads_n i_0_165 rfl (by decide) ?_
          refine r_iload_n i_0_166 rfl ?_
          refine r_iconst i_0_167 ?_
          refine r_iadd i_0_168 ?_
          refine r_sld i_0_169 (by omega) (by omega) (by omega) ?_
          have q_14 := x_rng (xs (i + 3).toNat)
          refine r_aloads_n i_0_170 rfl (by decide) ?_
          refine r_iload_n i_0_171 rfl ?_
          refine r_iconst i_0_172 ?_
          refine r_iadd i_0_173 ?_
          refine r_sld i_0_174 (by omega) (by omega) (by omega) ?_
          have q_15 := x_rng (xs (i + 4).toNat)
          refine r_aloads_n i_0_175 rfl (by decide) ?_
          refine r_iload_n i_0_176 rfl ?_
          refine r_iconst i_0_177 ?_
          refine r_iadd i_0_178 ?_
          refine r_sld i_0_179 (by omega) (by omega) (by omega) ?_
          have q_16 := x_rng (xs (i + 5).toNat)
          refine r_cV (as := [V ((xs (i + 5).toNat).toInt), V ((xs (i + 4).toNat).toInt), V ((xs (i + 3).toNat).toInt), V ((xs (i + 2).toNat).toInt), V ((xs (i + 1).toNat).toInt)]) i_0_180 rfl (by decide +kernel) (Nat.le_of_ble_eq_true rfl) (Nat.le_of_ble_eq_true rfl) (hly18 90 _ rfl) rfl ?_
          refine c_210 (a := (xs (i + 1).toNat).toInt) (b := (xs (i + 2).toNat).toInt) (c := (xs (i + 3).toNat).toInt) (d := (xs (i + 4).toNat).toInt) (e := (xs (i + 5).toNat).toInt) hly18 hF18 hG_10 hA_11 (by omega) (by omega) (by omega) (by omega) (by omega) (fun r_17 G_18 A_19 hG_18 hA_19 fg_19 fa_19 => ?_)
          show Re L xs 0 183 [(0, .float 1000), (1, .ref 0), (2, .ref 90), (3, V i)] [V r_17] (HP ly18 F18 G_18 A_19 B18) _
          have hci2 : CI F18 G_18 A_19 := CI_x hci1 (fun a k h => rfl) (fun a k h => fg_19 a k (by omega)) (fun a h => fa_19 a (by omega))
          have hm2 : MI G_18 A_19 := MI_fr hm1 (hA_11) (fun a k h => fg_19 a k (by omega)) (fun a h => fa_19 a (by omega))
          have hty2 : tyV ly18 F18 := tyV_x hty1 (fun a k h => rfl)
          refine re_nx i_0_183 rfl ?_
          refine r_go (t := 661) i_0_184 (by decide) ?_
          refine r_iinc (l' := [(0, .float 1000), (1, .ref 0), (2, .ref 90), (3, V (i + 6))]) i_0_661 rfl (by decide +kernel) rfl ?_
          refine r_go (t := 18) i_0_664 (by decide) ?_
          exact ih18B (i + 6) ly18 F18 G_18 A_19 B18 hly18 hF18 hG_18 hA_19 (by omega) (by first | exact hm2 | exact hm) (by first | exact hci2 | exact hci) (by first | exact hty2 | exact hty) (by omega)
        · refine r_tabI (t := 187) (off := 154) i_0_33 (by omega) (by omega) (by rw [u_3]; decide) (by decide) ?_
          refine r_aload_n i_0_187 rfl ?_
          refine r_aloads_n i_0_188 rfl (by decide) ?_
          refine r_iload_n i_0_189 rfl ?_
          refine r_iconst i_0_190 ?_
          refine r_iadd i_0_191 ?_
          refine r_sld i_0_192 (by omega) (by omega) (by omega) ?_
          have q_20 := x_rng (xs (i + 1).toNat)
          refine r_cV (as := [V ((xs (i + 1).toNat).toInt)]) i_0_193 rfl (by decide +kernel) (Nat.le_of_ble_eq_true rfl) (Nat.le_of_ble_eq_true rfl) (hly18 0 _ rfl) rfl ?_
          refine c_37 (n := (xs (i + 1).toNat).toInt) hly18 hF18 hG18 hA18 (by omega) (by exact hci) (fun r_21 G_22 hG_22 fg_22 p22_0 => ?_)
          show Re L xs 0 196 [(0, .float 1000), (1, .ref 0), (2, .ref 90), (3, V i)] [V r_21] (HP ly18 F18 G_22 A18 B18) _
          have hci1 : CI F18 G_22 A18 := p22_0
          have hm1 : MI G_22 A18 := MI_x hm (fun k => fg_22 90 k (by omega)) (fun a ha => rfl)
          have hty1 : tyV ly18 F18 := hty
          refine re_nx i_0_196 rfl ?_
          refine r_aload_n i_0_197 rfl ?_
          refine r_aloads_n i_0_198 rfl (by decide) ?_
          refine r_iload_n i_0_199 rfl ?_
          refine r_iconst i_0_200 ?_
          refine r_iadd i_0_201 ?_
          refine r_sld i_0_202 (by omega) (by omega) (by omega) ?_
          have q_23 := x_rng (xs (i + 1).toNat)
          refine r_cV (as := [V ((xs (i + 1).toNat).toInt)]) i_0_203 rfl (by decide +kernel) (Nat.le_of_ble_eq_true rfl) (Nat.le_of_ble_eq_true rfl) (hly18 90 _ rfl) rfl ?_
          refine c_211 (n := (xs (i + 1).toNat).toInt) hly18 hF18 hG_22 hA18 (by omega) (fun r_24 G_25 hG_25 fg_25 => ?_)
          show Re L xs 0 206 [(0, .float 1000), (1, .ref 0), (2, .ref 90), (3, V i)] [V r_24] (HP ly18 F18 G_25 A18 B18) _
          have hci2 : CI F18 G_25 A18 := CI_x hci1 (fun a k h => rfl) (fun a k h => fg_25 a k (by omega)) (fun a h => rfl)
          have hm2 : MI G_25 A18 := MI_fr hm1 (hA18) (fun a k h => fg_25 a k (by omega)) (fun a h => rfl)
          have hty2 : tyV ly18 F18 := tyV_x hty1 (fun a k h => rfl)
          refine re_nx i_0_206 rfl ?_
          refine r_go (t := 661) i_0_207 (by decide) ?_
          refine r_iinc (l' := [(0, .float 1000), (1, .ref 0), (2, .ref 90), (3, V (i + 6))]) i_0_661 rfl (by decide +kernel) rfl ?_
          refine r_go (t := 18) i_0_664 (by decide) ?_
          exact ih18B (i + 6) ly18 F18 G_25 A18 B18 hly18 hF18 hG_25 hA18 (by omega) (by first | exact hm2 | exact hm) (by first | exact hci2 | exact hci) (by first | exact hty2 | exact hty) (by omega)
        · refine r_tabI (t := 210) (off := 177) i_0_33 (by omega) (by omega) (by rw [u_3]; decide) (by decide) ?_
          refine r_aload_n i_0_210 rfl ?_
          refine r_cV (as := []) i_0_211 rfl (by decide +kernel) (Nat.le_of_ble_eq_true rfl) (Nat.le_of_ble_eq_true rfl) (hly18 0 _ rfl) rfl ?_
          refine c_38  hly18 hF18 hG18 hA18 (by exact hci) (fun r_26 F_27 G_28 A_29 hF_27 hG_28 hA_29 ff_29 fg_29 fa_29 p29_0 => ?_)
          show Re L xs 0 214 [(0, .float 1000), (1, .ref 0), (2, .ref 90), (3, V i)] [V r_26] (HP ly18 F_27 G_28 A_29 B18) _
          have hci1 : CI F_27 G_28 A_29 := p29_0
          have hm1 : MI G_28 A_29 := MI_x hm (fun k => fg_29 90 k (by omega)) (fun a ha => fa_29 a (by omega))
          have hty1 : tyV ly18 F_27 := tyV_c (by rw [ff_29 57 3 (by omega)]) (by rw [ff_29 57 4 (by omega)]) hty
          refine re_nx i_0_214 rfl ?_
          refine r_aload_n i_0_215 rfl ?_
          refine r_cV (as := []) i_0_216 rfl (by decide +kernel) (Nat.le_of_ble_eq_true rfl) (Nat.le_of_ble_eq_true rfl) (hly18 90 _ rfl) rfl ?_
          refine c_133  hly18 hF_27 hG_28 hA_29 (by exact hm1) (fun r_30 F_31 G_32 A_33 hF_31 hG_32 hA_33 ff_33 fg_33 fa_33 p33_0 => ?_)
          show Re L xs 0 219 [(0, .float 1000), (1, .ref 0), (2, .ref 90), (3, V i)] [V r_30] (HP ly18 F_31 G_32 A_33 B18) _
          have hci2 : CI F_31 G_32 A_33 := CI_x hci1 (fun a k h => ff_33 a k (by omega)) (fun a k h => fg_33 a k (by omega)) (fun a h => fa_33 a (by omega))
          have hm2 : MI G_32 A_33 := p33_0
          have hty2 : tyV ly18 F_31 := tyV_x hty1 (fun a k h => ff_33 a k (by omega))
          refine re_nx i_0_219 rfl ?_
          refine r_go (t := 661) i_0_220 (by decide) ?_
          refine r_iinc (l' := [(0, .float 1000), (1, .ref 0), (2, .ref 90), (3, V (i + 6))]) i_0_661 rfl (by decide +kernel) rfl ?_
          refine r_go (t := 18) i_0_664 (by decide) ?_
          exact ih18B (i + 6) ly18 F_31 G_32 A_33 B18 hly18 hF_31 hG_32 hA_33 (by omega) (by first | exact hm2 | exact hm) (by first | exact hci2 | exact hci) (by first | exact hty2 | exact hty) (by omega)
        · refine r_tabI (t := 223) (off := 190) i_0_33 (by omega) (by omega) (by rw [u_3]; decide) (by decide) ?_
          refine r_aload_n i_0_223 rfl ?_
          refine r_aloads_n i_0_224 rfl (by decide) ?_
          refine r_iload_n i_0_225 rfl ?_
          refine r_iconst i_0_226 ?_
          refine r_iadd i_0_227 ?_
          refine r_sld i_0_228 (by omega) (by omega) (by omega) ?_
          have q_34 := x_rng (xs (i + 1).toNat)
          refine r_cV (as := [V ((xs (i + 1).toNat).toInt)]) i_0_229 rfl (by decide +kernel) (Nat.le_of_ble_eq_true rfl) (Nat.le_of_ble_eq_true rfl) (hly18 0 _ rfl) rfl ?_
          refine c_68 (day := (xs (i + 1).toNat).toInt) hly18 hF18 hG18 hA18 (by omega) (by exact hci) (fun r_35 F_36 G_37 A_38 hF_36 hG_37 hA_38 ff_38 fg_38 fa_38 p38_0 => ?_)
          show Re L xs 0 232 [(0, .float 1000), (1, .ref 0), (2, .ref 90), (3, V i)] [V r_35] (HP ly18 F_36 G_37 A_38 B18) _
          have hci1 : CI F_36 G_37 A_38 := p38_0
          have hm1 : MI G_37 A_38 := MI_x hm (fun k => fg_38 90 k (by omega)) (fun a ha => fa_38 a (by omega))
          have hty1 : tyV ly18 F_36 := tyV_c (by rw [ff_38 57 3 (by omega)]) (by rw [ff_38 57 4 (by omega)]) hty
          refine re_nx i_0_232 rfl ?_
          refine r_aload_n i_0_233 rfl ?_
          refine r_aloads_n i_0_234 rfl (by decide) ?_
          refine r_iload_n i_0_235 rfl ?_
          refine r_iconst i_0_236 ?_
          refine r_iadd i_0_237 ?_
          refine r_sld i_0_238 (by omega) (by omega) (by omega) ?_
          have q_39 := x_rng (xs (i + 1).toNat)
          refine r_cV (as := [V ((xs (i + 1).toNat).toInt)]) i_0_239 rfl (by decide +kernel) (Nat.le_of_ble_eq_true rfl) (Nat.le_of_ble_eq_true rfl) (hly18 90 _ rfl) rfl ?_
          refine c_156 (day := (xs (i + 1).toNat).toInt) hly18 hF_36 hG_37 hA_38 (by omega) (by exact hm1) (fun r_40 G_41 A_42 hG_41 hA_42 fg_42 fa_42 p42_0 => ?_)
          show Re L xs 0 242 [(0, .float 1000), (1, .ref 0), (2, .ref 90), (3, V i)] [V r_40] (HP ly18 F_36 G_41 A_42 B18) _
          have hci2 : CI F_36 G_41 A_42 := CI_x hci1 (fun a k h => rfl) (fun a k h => fg_42 a k (by omega)) (fun a h => fa_42 a (by omega))
          have hm2 : MI G_41 A_42 := p42_0
          have hty2 : tyV ly18 F_36 := tyV_x hty1 (fun a k h => rfl)
          refine re_nx i_0_242 rfl ?_
          refine r_go (t := 661) i_0_243 (by decide) ?_
          refine r_iinc (l' := [(0, .float 1000), (1, .ref 0), (2, .ref 90), (3, V (i + 6))]) i_0_661 rfl (by decide +kernel) rfl ?_
          refine r_go (t := 18) i_0_664 (by decide) ?_
          exact ih18B (i + 6) ly18 F_36 G_41 A_42 B18 hly18 hF_36 hG_41 hA_42 (by omega) (by first | exact hm2 | exact hm) (by first | exact hci2 | exact hci) (by first | exact hty2 | exact hty) (by omega)
        · refine r_tabI (t := 246) (off := 213) i_0_33 (by omega) (by omega) (by rw [u_3]; decide) (by decide) ?_
          refine r_aload_n i_0_246 rfl ?_
          refine r_aloads_n i_0_247 rfl (by decide) ?_
          refine r_iload_n i_0_248 rfl ?_
          refine r_iconst i_0_249 ?_
          refine r_iadd i_0_250 ?_
          refine r_sld i_0_251 (by omega) (by omega) (by omega) ?_
          have q_43 := x_rng (xs (i + 1).toNat)
          refine r_cV (as := [V ((xs (i + 1).toNat).toInt)]) i_0_252 rfl (by decide +kernel) (Nat.le_of_ble_eq_true rfl) (Nat.le_of_ble_eq_true rfl) (hly18 0 _ rfl) rfl ?_
          refine c_72 (what := (xs (i + 1).toNat).toInt) hly18 hF18 hG18 hA18 (by omega) (fun r_44 => ?_)
          show Re L xs 0 255 [(0, .float 1000), (1, .ref 0), (2, .ref 90), (3, V i)] [V r_44] (HP ly18 F18 G18 A18 B18) _
          have hci1 : CI F18 G18 A18 := hci
          have hm1 : MI G18 A18 := MI_x hm (fun k => rfl) (fun a ha => rfl)
          have hty1 : tyV ly18 F18 := hty
          refine re_nx i_0_255 rfl ?_
          refine r_aload_n i_0_256 rfl ?_
          refine r_aloads_n i_0_257 rfl (by decide) ?_
          refine r_iload_n i_0_258 rfl ?_
          refine r_iconst i_0_259 ?_
          refine r_iadd i_0_260 ?_
          refine r_sld i_0_261 (by omega) (by omega) (by omega) ?_
          have q_45 := x_rng (xs (i + 1).toNat)
          refine r_cV (as := [V ((xs (i + 1).toNat).toInt)]) i_0_262 rfl (by decide +kernel) (Nat.le_of_ble_eq_true rfl) (Nat.le_of_ble_eq_true rfl) (hly18 90 _ rfl) rfl ?_
          refine c_155 (what := (xs (i + 1).toNat).toInt) hly18 hF18 hG18 hA18 (by omega) (fun r_46 => ?_)
          show Re L xs 0 265 [(0, .float 1000), (1, .ref 0), (2, .ref 90), (3, V i)] [V r_46] (HP ly18 F18 G18 A18 B18) _
          have hci2 : CI F18 G18 A18 := CI_x hci1 (fun a k h => rfl) (fun a k h => rfl) (fun a h => rfl)
          have hm2 : MI G18 A18 := hm1
          have hty2 : tyV ly18 F18 := tyV_x hty1 (fun a k h => rfl)
          refine re_nx i_0_265 rfl ?_
          refine r_go (t := 661) i_0_266 (by decide) ?_
          refine r_iinc (l' := [(0, .float 1000), (1, .ref 0), (2, .ref 90), (3, V (i + 6))]) i_0_661 rfl (by decide +kernel) rfl ?_
          refine r_go (t := 18) i_0_664 (by decide) ?_
          exact ih18B (i + 6) ly18 F18 G18 A18 B18 hly18 hF18 hG18 hA18 (by omega) (by first | exact hm2 | exact hm) (by first | exact hci2 | exact hci) (by first | exact hty2 | exact hty) (by omega)
        · refine r_tabI (t := 269) (off := 236) i_0_33 (by omega) (by omega) (by rw [u_3]; decide) (by decide) ?_
          refine r_aload_n i_0_269 rfl ?_
          refine r_aloads_n i_0_270 rfl (by decide) ?_
          refine r_iload_n i_0_271 rfl ?_
          refine r_iconst i_0_272 ?_
          refine r_iadd i_0_273 ?_
          refine r_sld i_0_274 (by omega) (by omega) (by omega) ?_
          have q_47 := x_rng (xs (i + 1).toNat)
          refine r_cV (as := [V ((xs (i + 1).toNat).toInt)]) i_0_275 rfl (by decide +kernel) (Nat.le_of_ble_eq_true rfl) (Nat.le_of_ble_eq_true rfl) (hly18 0 _ rfl) rfl ?_
          refine c_73 (weight := (xs (i + 1).toNat).toInt) hly18 hF18 hG18 hA18 (by omega) (by exact hci) (fun r_48 F_49 G_50 hF_49 hG_50 ff_50 fg_50 p50_0 p50_1 p50_2 => ?_)
          show Re L xs 0 278 [(0, .float 1000), (1, .ref 0), (2, .ref 90), (3, V i)] [V r_48] (HP ly18 F_49 G_50 A18 B18) _
          have hci1 : CI F_49 G_50 A18 := p50_2
          have hm1 : MI G_50 A18 := MI_x hm (fun k => fg_50 90 k (by omega)) (fun a ha => rfl)
          have hty1 : tyV ly18 F_49 := tyV_c (by rw [ff_50 57 3 (by omega)]) (by rw [ff_50 57 4 (by omega)]) hty
          refine r_aload_n i_0_278 rfl ?_
          refine r_aloads_n i_0_279 rfl (by decide) ?_
          refine r_iload_n i_0_280 rfl ?_
          refine r_iconst i_0_281 ?_
          refine r_iadd i_0_282 ?_
          refine r_sld i_0_283 (by omega) (by omega) (by omega) ?_
          have q_51 := x_rng (xs (i + 1).toNat)
          refine r_cV (as := [V ((xs (i + 1).toNat).toInt)]) i_0_284 rfl (by decide +kernel) (Nat.le_of_ble_eq_true rfl) (Nat.le_of_ble_eq_true rfl) (hly18 90 _ rfl) rfl ?_
          refine c_158x (weight := (xs (i + 1).toNat).toInt) hly18 hF_49 hG_50 hA18 (by omega) (by exact hm1) (fun r_52 G_53 hG_53 fg_53 p53_0 p53_1 p53_2 => ?_)
          show Re L xs 0 287 [(0, .float 1000), (1, .ref 0), (2, .ref 90), (3, V i)] [V r_52, V r_48] (HP ly18 F_49 G_53 A18 B18) _
          have hci2 : CI F_49 G_53 A18 := CI_x hci1 (fun a k h => rfl) (fun a k h => fg_53 a k (by omega)) (fun a h => rfl)
          have hm2 : MI G_53 A18 := p53_2
          have hty2 : tyV ly18 F_49 := tyV_x hty1 (fun a k h => rfl)
          refine r_ceq (t := 661) i_0_287 (by decide) (by omega) (by omega) (fun u_54 => ?_) (fun u_54 => ?_)
          · skip
            refine r_iinc (l' := [(0, .float 1000), (1, .ref 0), (2, .ref 90), (3, V (i + 6))]) i_0_661 rfl (by decide +kernel) rfl ?_
            refine r_go (t := 18) i_0_664 (by decide) ?_
            exact ih18B (i + 6) ly18 F_49 G_53 A18 B18 hly18 hF_49 hG_53 hA18 (by omega) (by first | exact hm2 | exact hm) (by first | exact hci2 | exact hci) (by first | exact hty2 | exact hty) (by omega)
          · skip
            exfalso; omega
        · refine r_tabI (t := 292) (off := 259) i_0_33 (by omega) (by omega) (by rw [u_3]; decide) (by decide) ?_
          refine r_aload_n i_0_292 rfl ?_
          refine r_aloads_n i_0_293 rfl (by decide) ?_
          refine r_iload_n i_0_294 rfl ?_
          refine r_iconst i_0_295 ?_
          refine r_iadd i_0_296 ?_
          refine r_sld i_0_297 (by omega) (by omega) (by omega) ?_
          have q_55 := x_rng (xs (i + 1).toNat)
          refine r_cV (as := [V ((xs (i + 1).toNat).toInt)]) i_0_298 rfl (by decide +kernel) (Nat.le_of_ble_eq_true rfl) (Nat.le_of_ble_eq_true rfl) (hly18 0 _ rfl) rfl ?_
          refine c_74 (word := (xs (i + 1).toNat).toInt) hly18 hF18 hG18 hA18 (by omega) (fun r_56 => ?_)
          show Re L xs 0 301 [(0, .float 1000), (1, .ref 0), (2, .ref 90), (3, V i)] [V r_56] (HP ly18 F18 G18 A18 B18) _
          have hci1 : CI F18 G18 A18 := hci
          have hm1 : MI G18 A18 := MI_x hm (fun k => rfl) (fun a ha => rfl)
          have hty1 : tyV ly18 F18 := hty
          refine re_nx i_0_301 rfl ?_
          refine r_aload_n i_0_302 rfl ?_
          refine r_aloads_n i_0_303 rfl (by decide) ?_
          refine r_iload_n i_0_304 rfl ?_
          refine r_iconst i_0_305 ?_
          refine r_iadd i_0_306 ?_
          refine r_sld i_0_307 (by omega) (by omega) (by omega) ?_
          have q_57 := x_rng (xs (i + 1).toNat)
          refine r_cV (as := [V ((xs (i + 1).toNat).toInt)]) i_0_308 rfl (by decide +kernel) (Nat.le_of_ble_eq_true rfl) (Nat.le_of_ble_eq_true rfl) (hly18 90 _ rfl) rfl ?_
          refine c_159 (p := (xs (i + 1).toNat).toInt) hly18 hF18 hG18 hA18 (by omega) (by exact hm1) (fun r_58 G_59 A_60 hG_59 hA_60 fg_60 fa_60 p60_0 => ?_)
          show Re L xs 0 311 [(0, .float 1000), (1, .ref 0), (2, .ref 90), (3, V i)] [V r_58] (HP ly18 F18 G_59 A_60 B18) _
          have hci2 : CI F18 G_59 A_60 := CI_x hci1 (fun a k h => rfl) (fun a k h => fg_60 a k (by omega)) (fun a h => fa_60 a (by omega))
          have hm2 : MI G_59 A_60 := p60_0
          have hty2 : tyV ly18 F18 := tyV_x hty1 (fun a k h => rfl)
          refine re_nx i_0_311 rfl ?_
          refine r_go (t := 661) i_0_312 (by decide) ?_
          refine r_iinc (l' := [(0, .float 1000), (1, .ref 0), (2, .ref 90), (3, V (i + 6))]) i_0_661 rfl (by decide +kernel) rfl ?_
          refine r_go (t := 18) i_0_664 (by decide) ?_
          exact ih18B (i + 6) ly18 F18 G_59 A_60 B18 hly18 hF18 hG_59 hA_60 (by omega) (by first | exact hm2 | exact hm) (by first | exact hci2 | exact hci) (by first | exact hty2 | exact hty) (by omega)
        · refine r_tabI (t := 315) (off := 282) i_0_33 (by omega) (by omega) (by rw [u_3]; decide) (by decide) ?_
          refine r_aload_n i_0_315 rfl ?_
          refine r_aloads_n i_0_316 rfl (by decide) ?_
          refine r_iload_n i_0_317 rfl ?_
          refine r_iconst i_0_318 ?_
          refine r_iadd i_0_319 ?_
          refine r_sld i_0_320 (by omega) (by omega) (by omega) ?_
          have q_61 := x_rng (xs (i + 1).toNat)
          refine r_aloads_n i_0_321 rfl (by decide) ?_
          refine r_iload_n i_0_322 rfl ?_
          refine r_iconst i_0_323 ?_
          refine r_iadd i_0_324 ?_
          refine r_sld i_0_325 (by omega) (by omega) (by omega) ?_
          have q_62 := x_rng (xs (i + 2).toNat)
          refine r_aloads_n i_0_326 rfl (by decide) ?_
          refine r_iload_n i_0_327 rfl ?_
          refine r_iconst i_0_328 ?_
          refine r_iadd i_0_329 ?_
          refine r_sld i_0_330 (by omega) (by omega) (by omega) ?_
          have q_63 := x_rng (xs (i + 3).toNat)
          refine r_cV (as := [V ((xs (i + 3).toNat).toInt), V ((xs (i + 2).toNat).toInt), V ((xs (i + 1).toNat).toInt)]) i_0_331 rfl (by decide +kernel) (Nat.le_of_ble_eq_true rfl) (Nat.le_of_ble_eq_true rfl) (hly18 0 _ rfl) rfl ?_
          refine c_76 (word := (xs (i + 1).toNat).toInt) (reading := (xs (i + 2).toNat).toInt) (what := (xs (i + 3).toNat).toInt) hly18 hF18 hG18 hA18 (by omega) (by omega) (by omega) (by exact hci) (fun r_64 F_65 G_66 A_67 hF_65 hG_66 hA_67 ff_67 fg_67 fa_67 p67_0 => ?_)
          show Re L xs 0 334 [(0, .float 1000), (1, .ref 0), (2, .ref 90), (3, V i)] [V r_64] (HP ly18 F_65 G_66 A_67 B18) _
          have hci1 : CI F_65 G_66 A_67 := p67_0
          have hm1 : MI G_66 A_67 := MI_x hm (fun k => fg_67 90 k (by omega)) (fun a ha => fa_67 a (by omega))
          have hty1 : tyV ly18 F_65 := tyV_c (by rw [ff_67 57 3 (by omega)]) (by rw [ff_67 57 4 (by omega)]) hty
          refine re_nx i_0_334 rfl ?_
          refine r_aload_n i_0_335 rfl ?_
          refine r_aloads_n i_0_336 rfl (by decide) ?_
          refine r_iload_n i_0_337 rfl ?_
          refine r_iconst i_0_338 ?_
          refine r_iadd i_0_339 ?_
          refine r_sld i_0_340 (by omega) (by omega) (by omega) ?_
          have q_68 := x_rng (xs (i + 1).toNat)
          refine r_aloads_n i_0_341 rfl (by decide) ?_
          refine r_iload_n i_0_342 rfl ?_
          refine r_iconst i_0_343 ?_
          refine r_iadd i_0_344 ?_
          refine r_sld i_0_345 (by omega) (by omega) (by omega) ?_
          have q_69 := x_rng (xs (i + 2).toNat)
          refine r_aloads_n i_0_346 rfl (by decide) ?_
          refine r_iload_n i_0_347 rfl ?_
          refine r_iconst i_0_348 ?_
          refine r_iadd i_0_349 ?_
          refine r_sld i_0_350 (by omega) (by omega) (by omega) ?_
          have q_70 := x_rng (xs (i + 3).toNat)
          refine r_cV (as := [V ((xs (i + 3).toNat).toInt), V ((xs (i + 2).toNat).toInt), V ((xs (i + 1).toNat).toInt)]) i_0_351 rfl (by decide +kernel) (Nat.le_of_ble_eq_true rfl) (Nat.le_of_ble_eq_true rfl) (hly18 90 _ rfl) rfl ?_
          refine c_184 (p := (xs (i + 1).toNat).toInt) (r0 := (xs (i + 2).toNat).toInt) (what := (xs (i + 3).toNat).toInt) hly18 hF_65 hG_66 hA_67 (by omega) (by omega) (by omega) (by exact hm1) (fun r_71 G_72 A_73 hG_72 hA_73 fg_73 fa_73 p73_0 => ?_)
          show Re L xs 0 354 [(0, .float 1000), (1, .ref 0), (2, .ref 90), (3, V i)] [V r_71] (HP ly18 F_65 G_72 A_73 B18) _
          have hci2 : CI F_65 G_72 A_73 := CI_x hci1 (fun a k h => rfl) (fun a k h => fg_73 a k (by omega)) (fun a h => fa_73 a (by omega))
          have hm2 : MI G_72 A_73 := p73_0
          have hty2 : tyV ly18 F_65 := tyV_x hty1 (fun a k h => rfl)
          refine re_nx i_0_354 rfl ?_
          refine r_go (t := 661) i_0_355 (by decide) ?_
          refine r_iinc (l' := [(0, .float 1000), (1, .ref 0), (2, .ref 90), (3, V (i + 6))]) i_0_661 rfl (by decide +kernel) rfl ?_
          refine r_go (t := 18) i_0_664 (by decide) ?_
          exact ih18B (i + 6) ly18 F_65 G_72 A_73 B18 hly18 hF_65 hG_72 hA_73 (by omega) (by first | exact hm2 | exact hm) (by first | exact hci2 | exact hci) (by first | exact hty2 | exact hty) (by omega)
        · refine r_tabI (t := 358) (off := 325) i_0_33 (by omega) (by omega) (by rw [u_3]; decide) (by decide) ?_
          refine r_aload_n i_0_358 rfl ?_
          refine r_aloads_n i_0_359 rfl (by decide) ?_
          refine r_iload_n i_0_360 rfl ?_
          refine r_iconst i_0_361 ?_
          refine r_iadd i_0_362 ?_
          refine r_sld i_0_363 (by omega) (by omega) (by omega) ?_
          have q_74 := x_rng (xs (i + 1).toNat)
          refine r_aloads_n i_0_364 rfl (by decide) ?_
          refine r_iload_n i_0_365 rfl ?_
          refine r_iconst i_0_366 ?_
          refine r_iadd i_0_367 ?_
          refine r_sld i_0_368 (by omega) (by omega) (by omega) ?_
          have q_75 := x_rng (xs (i + 2).toNat)
          refine r_aloads_n i_0_369 rfl (by decide) ?_
          refine r_iload_n i_0_370 rfl ?_
          refine r_iconst i_0_371 ?_
          refine r_iadd i_0_372 ?_
          refine r_sld i_0_373 (by omega) (by omega) (by omega) ?_
          have q_76 := x_rng (xs (i + 3).toNat)
          refine r_cV (as := [V ((xs (i + 3).toNat).toInt), V ((xs (i + 2).toNat).toInt), V ((xs (i + 1).toNat).toInt)]) i_0_374 rfl (by decide +kernel) (Nat.le_of_ble_eq_true rfl) (Nat.le_of_ble_eq_true rfl) (hly18 0 _ rfl) rfl ?_
          refine c_99 (word := (xs (i + 1).toNat).toInt) (reading := (xs (i + 2).toNat).toInt) (k := (xs (i + 3).toNat).toInt) hly18 hF18 hG18 hA18 (by omega) (by omega) (by omega) (fun r_77 => ?_)
          show Re L xs 0 377 [(0, .float 1000), (1, .ref 0), (2, .ref 90), (3, V i)] [V r_77] (HP ly18 F18 G18 A18 B18) _
          have hci1 : CI F18 G18 A18 := hci
          have hm1 : MI G18 A18 := MI_x hm (fun k => rfl) (fun a ha => rfl)
          have hty1 : tyV ly18 F18 := hty
          refine re_nx i_0_377 rfl ?_
          refine r_aload_n i_0_378 rfl ?_
          refine r_aloads_n i_0_379 rfl (by decide) ?_
          refine r_iload_n i_0_380 rfl ?_
          refine r_iconst i_0_381 ?_
          refine r_iadd i_0_382 ?_
          refine r_sld i_0_383 (by omega) (by omega) (by omega) ?_
          have q_78 := x_rng (xs (i + 1).toNat)
          refine r_aloads_n i_0_384 rfl (by decide) ?_
          refine r_iload_n i_0_385 rfl ?_
          refine r_iconst i_0_386 ?_
          refine r_iadd i_0_387 ?_
          refine r_sld i_0_388 (by omega) (by omega) (by omega) ?_
          have q_79 := x_rng (xs (i + 2).toNat)
          refine r_aloads_n i_0_389 rfl (by decide) ?_
          refine r_iload_n i_0_390 rfl ?_
          refine r_iconst i_0_391 ?_
          refine r_iadd i_0_392 ?_
          refine r_sld i_0_393 (by omega) (by omega) (by omega) ?_
          have q_80 := x_rng (xs (i + 3).toNat)
          refine r_cV (as := [V ((xs (i + 3).toNat).toInt), V ((xs (i + 2).toNat).toInt), V ((xs (i + 1).toNat).toInt)]) i_0_394 rfl (by decide +kernel) (Nat.le_of_ble_eq_true rfl) (Nat.le_of_ble_eq_true rfl) (hly18 90 _ rfl) rfl ?_
          refine c_188 (p := (xs (i + 1).toNat).toInt) (r0 := (xs (i + 2).toNat).toInt) (k := (xs (i + 3).toNat).toInt) hly18 hF18 hG18 hA18 (by omega) (by omega) (by omega) (by exact hm1) (fun r_81 G_82 A_83 hG_82 hA_83 fg_83 fa_83 p83_0 => ?_)
          show Re L xs 0 397 [(0, .float 1000), (1, .ref 0), (2, .ref 90), (3, V i)] [V r_81] (HP ly18 F18 G_82 A_83 B18) _
          have hci2 : CI F18 G_82 A_83 := CI_x hci1 (fun a k h => rfl) (fun a k h => fg_83 a k (by omega)) (fun a h => fa_83 a (by omega))
          have hm2 : MI G_82 A_83 := p83_0
          have hty2 : tyV ly18 F18 := tyV_x hty1 (fun a k h => rfl)
          refine re_nx i_0_397 rfl ?_
          refine r_go (t := 661) i_0_398 (by decide) ?_
          refine r_iinc (l' := [(0, .float 1000), (1, .ref 0), (2, .ref 90), (3, V (i + 6))]) i_0_661 rfl (by decide +kernel) rfl ?_
          refine r_go (t := 18) i_0_664 (by decide) ?_
          exact ih18B (i + 6) ly18 F18 G_82 A_83 B18 hly18 hF18 hG_82 hA_83 (by omega) (by first | exact hm2 | exact hm) (by first | exact hci2 | exact hci) (by first | exact hty2 | exact hty) (by omega)
        · refine r_tabI (t := 401) (off := 368) i_0_33 (by omega) (by omega) (by rw [u_3]; decide) (by decide) ?_
          refine r_aload_n i_0_401 rfl ?_
          refine r_cV (as := []) i_0_402 rfl (by decide +kernel) (Nat.le_of_ble_eq_true rfl) (Nat.le_of_ble_eq_true rfl) (hly18 0 _ rfl) rfl ?_
          refine c_100  hly18 hF18 hG18 hA18 (by exact hci) (fun r_84 F_85 G_86 A_87 hF_85 hG_86 hA_87 ff_87 fg_87 fa_87 p87_0 => ?_)
          show Re L xs 0 405 [(0, .float 1000), (1, .ref 0), (2, .ref 90), (3, V i)] [V r_84] (HP ly18 F_85 G_86 A_87 B18) _
          have hci1 : CI F_85 G_86 A_87 := p87_0
          have hm1 : MI G_86 A_87 := MI_x hm (fun k => fg_87 90 k (by omega)) (fun a ha => fa_87 a (by omega))
          have hty1 : tyV ly18 F_85 := tyV_c (by rw [ff_87 57 3 (by omega)]) (by rw [ff_87 57 4 (by omega)]) hty
          refine re_nx i_0_405 rfl ?_
          refine r_aload_n i_0_406 rfl ?_
          refine r_cV (as := []) i_0_407 rfl (by decide +kernel) (Nat.le_of_ble_eq_true rfl) (Nat.le_of_ble_eq_true rfl) (hly18 90 _ rfl) rfl ?_
          refine c_189  hly18 hF_85 hG_86 hA_87 (by exact hm1) (fun r_88 G_89 A_90 hG_89 hA_90 fg_90 fa_90 p90_0 p90_1 p90_2 => ?_)
          show Re L xs 0 410 [(0, .float 1000), (1, .ref 0), (2, .ref 90), (3, V i)] [V r_88] (HP ly18 F_85 G_89 A_90 B18) _
          have hci2 : CI F_85 G_89 A_90 := CI_x hci1 (fun a k h => rfl) (fun a k h => fg_90 a k (by omega)) (fun a h => fa_90 a (by omega))
          have hm2 : MI G_89 A_90 := p90_0
          have hty2 : tyV ly18 F_85 := tyV_x hty1 (fun a k h => rfl)
          refine re_nx i_0_410 rfl ?_
          refine r_go (t := 661) i_0_411 (by decide) ?_
          refine r_iinc (l' := [(0, .float 1000), (1, .ref 0), (2, .ref 90), (3, V (i + 6))]) i_0_661 rfl (by decide +kernel) rfl ?_
          refine r_go (t := 18) i_0_664 (by decide) ?_
          exact ih18B (i + 6) ly18 F_85 G_89 A_90 B18 hly18 hF_85 hG_89 hA_90 (by omega) (by first | exact hm2 | exact hm) (by first | exact hci2 | exact hci) (by first | exact hty2 | exact hty) (by omega)
        · refine r_tabI (t := 414) (off := 381) i_0_33 (by omega) (by omega) (by rw [u_3]; decide) (by decide) ?_
          refine r_aload_n i_0_414 rfl ?_
          refine r_aloads_n i_0_415 rfl (by decide) ?_
          refine r_iload_n i_0_416 rfl ?_
          refine r_iconst i_0_417 ?_
          refine r_iadd i_0_418 ?_
          refine r_sld i_0_419 (by omega) (by omega) (by omega) ?_
          have q_91 := x_rng (xs (i + 1).toNat)
          refine r_cV (as := [V ((xs (i + 1).toNat).toInt)]) i_0_420 rfl (by decide +kernel) (Nat.le_of_ble_eq_true rfl) (Nat.le_of_ble_eq_true rfl) (hly18 0 _ rfl) rfl ?_
          refine c_102 (word := (xs (i + 1).toNat).toInt) hly18 hF18 hG18 hA18 (by omega) (by exact hci) (fun r_92 F_93 G_94 A_95 hF_93 hG_94 hA_95 ff_95 fg_95 fa_95 p95_0 => ?_)
          show Re L xs 0 423 [(0, .float 1000), (1, .ref 0), (2, .ref 90), (3, V i)] [V r_92] (HP ly18 F_93 G_94 A_95 B18) _
          have hci1 : CI F_93 G_94 A_95 := p95_0
          have hm1 : MI G_94 A_95 := MI_x hm (fun k => fg_95 90 k (by omega)) (fun a ha => fa_95 a (by omega))
          have hty1 : tyV ly18 F_93 := tyV_c (by rw [ff_95 57 3 (by omega)]) (by rw [ff_95 57 4 (by omega)]) hty
          refine re_nx i_0_423 rfl ?_
          refine r_aload_n i_0_424 rfl ?_
          refine r_aloads_n i_0_425 rfl (by decide) ?_
          refine r_iload_n i_0_426 rfl ?_
          refine r_iconst i_0_427 ?_
          refine r_iadd i_0_428 ?_
          refine r_sld i_0_429 (by omega) (by omega) (by omega) ?_
          have q_96 := x_rng (xs (i + 1).toNat)
          refine r_cV (as := [V ((xs (i + 1).toNat).toInt)]) i_0_430 rfl (by decide +kernel) (Nat.le_of_ble_eq_true rfl) (Nat.le_of_ble_eq_true rfl) (hly18 90 _ rfl) rfl ?_
          refine c_190 (p := (xs (i + 1).toNat).toInt) hly18 hF_93 hG_94 hA_95 (by omega) (by exact hm1) (fun r_97 G_98 A_99 hG_98 hA_99 fg_99 fa_99 p99_0 => ?_)
          show Re L xs 0 433 [(0, .float 1000), (1, .ref 0), (2, .ref 90), (3, V i)] [V r_97] (HP ly18 F_93 G_98 A_99 B18) _
          have hci2 : CI F_93 G_98 A_99 := CI_x hci1 (fun a k h => rfl) (fun a k h => fg_99 a k (by omega)) (fun a h => fa_99 a (by omega))
          have hm2 : MI G_98 A_99 := p99_0
          have hty2 : tyV ly18 F_93 := tyV_x hty1 (fun a k h => rfl)
          refine re_nx i_0_433 rfl ?_
          refine r_go (t := 661) i_0_434 (by decide) ?_
          refine r_iinc (l' := [(0, .float 1000), (1, .ref 0), (2, .ref 90), (3, V (i + 6))]) i_0_661 rfl (by decide +kernel) rfl ?_
          refine r_go (t := 18) i_0_664 (by decide) ?_
          exact ih18B (i + 6) ly18 F_93 G_98 A_99 B18 hly18 hF_93 hG_98 hA_99 (by omega) (by first | exact hm2 | exact hm) (by first | exact hci2 | exact hci) (by first | exact hty2 | exact hty) (by omega)
        · refine r_tabI (t := 437) (off := 404) i_0_33 (by omega) (by omega) (by rw [u_3]; decide) (by decide) ?_
          refine r_aload_n i_0_437 rfl ?_
          refine r_aloads_n i_0_438 rfl (by decide) ?_
          refine r_iload_n i_0_439 rfl ?_
          refine r_iconst i_0_440 ?_
          refine r_iadd i_0_441 ?_
          refine r_sld i_0_442 (by omega) (by omega) (by omega) ?_
          have q_100 := x_rng (xs (i + 1).toNat)
          refine r_cV (as := [V ((xs (i + 1).toNat).toInt)]) i_0_443 rfl (by decide +kernel) (Nat.le_of_ble_eq_true rfl) (Nat.le_of_ble_eq_true rfl) (hly18 0 _ rfl) rfl ?_
          refine c_103 (gap := (xs (i + 1).toNat).toInt) hly18 hF18 hG18 hA18 (by omega) (by exact hci) (by exact hty) (fun r_101 ly_102 F_103 G_104 A_105 B_106 hly_102 hF_103 hG_104 hA_105 ff_106 fg_106 fa_106 p106_0 p106_1 => ?_)
          show Re L xs 0 446 [(0, .float 1000), (1, .ref 0), (2, .ref 90), (3, V i)] [.long r_101] (HP ly_102 F_103 G_104 A_105 B_106) _
          have hci1 : CI F_103 G_104 A_105 := p106_0
          have hm1 : MI G_104 A_105 := MI_x hm (fun k => fg_106 90 k (by omega)) (fun a ha => fa_106 a (by omega))
          have hty1 : tyV ly_102 F_103 := p106_1
          refine re_nx i_0_446 rfl ?_
          refine r_aload_n i_0_447 rfl ?_
          refine r_aloads_n i_0_448 rfl (by decide) ?_
          refine r_iload_n i_0_449 rfl ?_
          refine r_iconst i_0_450 ?_
          refine r_iadd i_0_451 ?_
          refine r_sld i_0_452 (by omega) (by omega) (by omega) ?_
          have q_107 := x_rng (xs (i + 1).toNat)
          refine r_cV (as := [V ((xs (i + 1).toNat).toInt)]) i_0_453 rfl (by decide +kernel) (Nat.le_of_ble_eq_true rfl) (Nat.le_of_ble_eq_true rfl) (hly_102 90 _ rfl) rfl ?_
          refine c_193 (gap := (xs (i + 1).toNat).toInt) hly_102 hF_103 hG_104 hA_105 (by omega) (by exact hm1) (fun r_108 G_109 A_110 B_111 hG_109 hA_110 fg_111 fa_111 p111_0 => ?_)
          show Re L xs 0 456 [(0, .float 1000), (1, .ref 0), (2, .ref 90), (3, V i)] [.long r_108] (HP ly_102 F_103 G_109 A_110 B_111) _
          have hci2 : CI F_103 G_109 A_110 := CI_x hci1 (fun a k h => rfl) (fun a k h => fg_111 a k (by omega)) (fun a h => fa_111 a (by omega))
          have hm2 : MI G_109 A_110 := p111_0
          have hty2 : tyV ly_102 F_103 := tyV_x hty1 (fun a k h => rfl)
          refine re_nx i_0_456 rfl ?_
          refine r_go (t := 661) i_0_457 (by decide) ?_
          refine r_iinc (l' := [(0, .float 1000), (1, .ref 0), (2, .ref 90), (3, V (i + 6))]) i_0_661 rfl (by decide +kernel) rfl ?_
          refine r_go (t := 18) i_0_664 (by decide) ?_
          exact ih18B (i + 6) ly_102 F_103 G_109 A_110 B_111 hly_102 hF_103 hG_109 hA_110 (by omega) (by first | exact hm2 | exact hm) (by first | exact hci2 | exact hci) (by first | exact hty2 | exact hty) (by omega)
        · refine r_tabI (t := 460) (off := 427) i_0_33 (by omega) (by omega) (by rw [u_3]; decide) (by decide) ?_
          refine r_aload_n i_0_460 rfl ?_
          refine r_aloads_n i_0_461 rfl (by decide) ?_
          refine r_iload_n i_0_462 rfl ?_
          refine r_iconst i_0_463 ?_
          refine r_iadd i_0_464 ?_
          refine r_sld i_0_465 (by omega) (by omega) (by omega) ?_
          have q_112 := x_rng (xs (i + 1).toNat)
          refine r_aloads_n i_0_466 rfl (by decide) ?_
          refine r_iload_n i_0_467 rfl ?_
          refine r_iconst i_0_468 ?_
          refine r_iadd i_0_469 ?_
          refine r_sld i_0_470 (by omega) (by omega) (by omega) ?_
          have q_113 := x_rng (xs (i + 2).toNat)
          refine r_cV (as := [V ((xs (i + 2).toNat).toInt), V ((xs (i + 1).toNat).toInt)]) i_0_471 rfl (by decide +kernel) (Nat.le_of_ble_eq_true rfl) (Nat.le_of_ble_eq_true rfl) (hly18 0 _ rfl) rfl ?_
          refine c_115 (word := (xs (i + 1).toNat).toInt) (gap := (xs (i + 2).toNat).toInt) hly18 hF18 hG18 hA18 (by omega) (by omega) (by exact hci) (fun r_114 F_115 G_116 A_117 hF_115 hG_116 hA_117 ff_117 fg_117 fa_117 p117_0 => ?_)
          show Re L xs 0 474 [(0, .float 1000), (1, .ref 0), (2, .ref 90), (3, V i)] [V r_114] (HP ly18 F_115 G_116 A_117 B18) _
          have hci1 : CI F_115 G_116 A_117 := p117_0
          have hm1 : MI G_116 A_117 := MI_x hm (fun k => fg_117 90 k (by omega)) (fun a ha => fa_117 a (by omega))
          have hty1 : tyV ly18 F_115 := tyV_c (by rw [ff_117 57 3 (by omega)]) (by rw [ff_117 57 4 (by omega)]) hty
          refine re_nx i_0_474 rfl ?_
          refine r_aload_n i_0_475 rfl ?_
          refine r_aloads_n i_0_476 rfl (by decide) ?_
          refine r_iload_n i_0_477 rfl ?_
          refine r_iconst i_0_478 ?_
          refine r_iadd i_0_479 ?_
          refine r_sld i_0_480 (by omega) (by omega) (by omega) ?_
          have q_118 := x_rng (xs (i + 1).toNat)
          refine r_aloads_n i_0_481 rfl (by decide) ?_
          refine r_iload_n i_0_482 rfl ?_
          refine r_iconst i_0_483 ?_
          refine r_iadd i_0_484 ?_
          refine r_sld i_0_485 (by omega) (by omega) (by omega) ?_
          have q_119 := x_rng (xs (i + 2).toNat)
          refine r_cV (as := [V ((xs (i + 2).toNat).toInt), V ((xs (i + 1).toNat).toInt)]) i_0_486 rfl (by decide +kernel) (Nat.le_of_ble_eq_true rfl) (Nat.le_of_ble_eq_true rfl) (hly18 90 _ rfl) rfl ?_
          refine c_200 (p := (xs (i + 1).toNat).toInt) (gap := (xs (i + 2).toNat).toInt) hly18 hF_115 hG_116 hA_117 (by omega) (by omega) (by exact hm1) (fun r_120 G_121 A_122 hG_121 hA_122 fg_122 fa_122 p122_0 => ?_)
          show Re L xs 0 489 [(0, .float 1000), (1, .ref 0), (2, .ref 90), (3, V i)] [V r_120] (HP ly18 F_115 G_121 A_122 B18) _
          have hci2 : CI F_115 G_121 A_122 := CI_x hci1 (fun a k h => rfl) (fun a k h => fg_122 a k (by omega)) (fun a h => fa_122 a (by omega))
          have hm2 : MI G_121 A_122 := p122_0
          have hty2 : tyV ly18 F_115 := tyV_x hty1 (fun a k h => rfl)
          refine re_nx i_0_489 rfl ?_
          refine r_go (t := 661) i_0_490 (by decide) ?_
          refine r_iinc (l' := [(0, .float 1000), (1, .ref 0), (2, .ref 90), (3, V (i + 6))]) i_0_661 rfl (by decide +kernel) rfl ?_
          refine r_go (t := 18) i_0_664 (by decide) ?_
          exact ih18B (i + 6) ly18 F_115 G_121 A_122 B18 hly18 hF_115 hG_121 hA_122 (by omega) (by first | exact hm2 | exact hm) (by first | exact hci2 | exact hci) (by first | exact hty2 | exact hty) (by omega)
        · refine r_tabI (t := 493) (off := 460) i_0_33 (by omega) (by omega) (by rw [u_3]; decide) (by decide) ?_
          refine r_aload_n i_0_493 rfl ?_
          refine r_aloads_n i_0_494 rfl (by decide) ?_
          refine r_iload_n i_0_495 rfl ?_
          refine r_iconst i_0_496 ?_
          refine r_iadd i_0_497 ?_
          refine r_sld i_0_498 (by omega) (by omega) (by omega) ?_
          have q_123 := x_rng (xs (i + 1).toNat)
          refine r_aloads_n i_0_499 rfl (by decide) ?_
          refine r_iload_n i_0_500 rfl ?_
          refine r_iconst i_0_501 ?_
          refine r_iadd i_0_502 ?_
          refine r_sld i_0_503 (by omega) (by omega) (by omega) ?_
          have q_124 := x_rng (xs (i + 2).toNat)
          refine r_cV (as := [V ((xs (i + 2).toNat).toInt), V ((xs (i + 1).toNat).toInt)]) i_0_504 rfl (by decide +kernel) (Nat.le_of_ble_eq_true rfl) (Nat.le_of_ble_eq_true rfl) (hly18 0 _ rfl) rfl ?_
          refine c_120 (gap := (xs (i + 1).toNat).toInt) (k := (xs (i + 2).toNat).toInt) hly18 hF18 hG18 hA18 (by omega) (by omega) (by exact hci) (fun r_125 F_126 G_127 A_128 hF_126 hG_127 hA_128 ff_128 fg_128 fa_128 p128_0 => ?_)
          show Re L xs 0 507 [(0, .float 1000), (1, .ref 0), (2, .ref 90), (3, V i)] [V r_125] (HP ly18 F_126 G_127 A_128 B18) _
          have hci1 : CI F_126 G_127 A_128 := p128_0
          have hm1 : MI G_127 A_128 := MI_x hm (fun k => fg_128 90 k (by omega)) (fun a ha => fa_128 a (by omega))
          have hty1 : tyV ly18 F_126 := tyV_c (by rw [ff_128 57 3 (by omega)]) (by rw [ff_128 57 4 (by omega)]) hty
          refine re_nx i_0_507 rfl ?_
          refine r_aload_n i_0_508 rfl ?_
          refine r_aloads_n i_0_509 rfl (by decide) ?_
          refine r_iload_n i_0_510 rfl ?_
          refine r_iconst i_0_511 ?_
          refine r_iadd i_0_512 ?_
          refine r_sld i_0_513 (by omega) (by omega) (by omega) ?_
          have q_129 := x_rng (xs (i + 1).toNat)
          refine r_aloads_n i_0_514 rfl (by decide) ?_
          refine r_iload_n i_0_515 rfl ?_
          refine r_iconst i_0_516 ?_
          refine r_iadd i_0_517 ?_
          refine r_sld i_0_518 (by omega) (by omega) (by omega) ?_
          have q_130 := x_rng (xs (i + 2).toNat)
          refine r_cV (as := [V ((xs (i + 2).toNat).toInt), V ((xs (i + 1).toNat).toInt)]) i_0_519 rfl (by decide +kernel) (Nat.le_of_ble_eq_true rfl) (Nat.le_of_ble_eq_true rfl) (hly18 90 _ rfl) rfl ?_
          refine c_204 (gap := (xs (i + 1).toNat).toInt) (k := (xs (i + 2).toNat).toInt) hly18 hF_126 hG_127 hA_128 (by omega) (by omega) (by exact hm1) (fun r_131 G_132 A_133 hG_132 hA_133 fg_133 fa_133 p133_0 => ?_)
          show Re L xs 0 522 [(0, .float 1000), (1, .ref 0), (2, .ref 90), (3, V i)] [V r_131] (HP ly18 F_126 G_132 A_133 B18) _
          have hci2 : CI F_126 G_132 A_133 := CI_x hci1 (fun a k h => rfl) (fun a k h => fg_133 a k (by omega)) (fun a h => fa_133 a (by omega))
          have hm2 : MI G_132 A_133 := p133_0
          have hty2 : tyV ly18 F_126 := tyV_x hty1 (fun a k h => rfl)
          refine re_nx i_0_522 rfl ?_
          refine r_go (t := 661) i_0_523 (by decide) ?_
          refine r_iinc (l' := [(0, .float 1000), (1, .ref 0), (2, .ref 90), (3, V (i + 6))]) i_0_661 rfl (by decide +kernel) rfl ?_
          refine r_go (t := 18) i_0_664 (by decide) ?_
          exact ih18B (i + 6) ly18 F_126 G_132 A_133 B18 hly18 hF_126 hG_132 hA_133 (by omega) (by first | exact hm2 | exact hm) (by first | exact hci2 | exact hci) (by first | exact hty2 | exact hty) (by omega)
        · refine r_tabI (t := 526) (off := 493) i_0_33 (by omega) (by omega) (by rw [u_3]; decide) (by decide) ?_
          refine r_aload_n i_0_526 rfl ?_
          refine r_aloads_n i_0_527 rfl (by decide) ?_
          refine r_iload_n i_0_528 rfl ?_
          refine r_iconst i_0_529 ?_
          refine r_iadd i_0_530 ?_
          refine r_sld i_0_531 (by omega) (by omega) (by omega) ?_
          have q_134 := x_rng (xs (i + 1).toNat)
          refine r_aloads_n i_0_532 rfl (by decide) ?_
          refine r_iload_n i_0_533 rfl ?_
          refine r_iconst i_0_534 ?_
          refine r_iadd i_0_535 ?_
          refine r_sld i_0_536 (by omega) (by omega) (by omega) ?_
          have q_135 := x_rng (xs (i + 2).toNat)
          refine r_cV (as := [V ((xs (i + 2).toNat).toInt), V ((xs (i + 1).toNat).toInt)]) i_0_537 rfl (by decide +kernel) (Nat.le_of_ble_eq_true rfl) (Nat.le_of_ble_eq_true rfl) (hly18 0 _ rfl) rfl ?_
          refine c_123 (word := (xs (i + 1).toNat).toInt) (reading := (xs (i + 2).toNat).toInt) hly18 hF18 hG18 hA18 (by omega) (by omega) (by exact hci) (fun r_136 F_137 G_138 A_139 hF_137 hG_138 hA_139 ff_139 fg_139 fa_139 p139_0 => ?_)
          show Re L xs 0 540 [(0, .float 1000), (1, .ref 0), (2, .ref 90), (3, V i)] [V r_136] (HP ly18 F_137 G_138 A_139 B18) _
          have hci1 : CI F_137 G_138 A_139 := p139_0
          have hm1 : MI G_138 A_139 := MI_x hm (fun k => fg_139 90 k (by omega)) (fun a ha => fa_139 a (by omega))
          have hty1 : tyV ly18 F_137 := tyV_c (by rw [ff_139 57 3 (by omega)]) (by rw [ff_139 57 4 (by omega)]) hty
          refine re_nx i_0_540 rfl ?_
          refine r_aload_n i_0_541 rfl ?_
          refine r_aloads_n i_0_542 rfl (by decide) ?_
          refine r_iload_n i_0_543 rfl ?_
          refine r_iconst i_0_544 ?_
          refine r_iadd i_0_545 ?_
          refine r_sld i_0_546 (by omega) (by omega) (by omega) ?_
          have q_140 := x_rng (xs (i + 1).toNat)
          refine r_aloads_n i_0_547 rfl (by decide) ?_
          refine r_iload_n i_0_548 rfl ?_
          refine r_iconst i_0_549 ?_
          refine r_iadd i_0_550 ?_
          refine r_sld i_0_551 (by omega) (by omega) (by omega) ?_
          have q_141 := x_rng (xs (i + 2).toNat)
          refine r_cV (as := [V ((xs (i + 2).toNat).toInt), V ((xs (i + 1).toNat).toInt)]) i_0_552 rfl (by decide +kernel) (Nat.le_of_ble_eq_true rfl) (Nat.le_of_ble_eq_true rfl) (hly18 90 _ rfl) rfl ?_
          refine c_206 (p := (xs (i + 1).toNat).toInt) (r0 := (xs (i + 2).toNat).toInt) hly18 hF_137 hG_138 hA_139 (by omega) (by omega) (by exact hm1) (fun r_142 G_143 A_144 hG_143 hA_144 fg_144 fa_144 p144_0 => ?_)
          show Re L xs 0 555 [(0, .float 1000), (1, .ref 0), (2, .ref 90), (3, V i)] [V r_142] (HP ly18 F_137 G_143 A_144 B18) _
          have hci2 : CI F_137 G_143 A_144 := CI_x hci1 (fun a k h => rfl) (fun a k h => fg_144 a k (by omega)) (fun a h => fa_144 a (by omega))
          have hm2 : MI G_143 A_144 := p144_0
          have hty2 : tyV ly18 F_137 := tyV_x hty1 (fun a k h => rfl)
          refine re_nx i_0_555 rfl ?_
          refine r_go (t := 661) i_0_556 (by decide) ?_
          refine r_iinc (l' := [(0, .float 1000), (1, .ref 0), (2, .ref 90), (3, V (i + 6))]) i_0_661 rfl (by decide +kernel) rfl ?_
          refine r_go (t := 18) i_0_664 (by decide) ?_
          exact ih18B (i + 6) ly18 F_137 G_143 A_144 B18 hly18 hF_137 hG_143 hA_144 (by omega) (by first | exact hm2 | exact hm) (by first | exact hci2 | exact hci) (by first | exact hty2 | exact hty) (by omega)
        · refine r_tabI (t := 559) (off := 526) i_0_33 (by omega) (by omega) (by rw [u_3]; decide) (by decide) ?_
          refine r_aload_n i_0_559 rfl ?_
          refine r_aloads_n i_0_560 rfl (by decide) ?_
          refine r_iload_n i_0_561 rfl ?_
          refine r_iconst i_0_562 ?_
          refine r_iadd i_0_563 ?_
          refine r_sld i_0_564 (by omega) (by omega) (by omega) ?_
          have q_145 := x_rng (xs (i + 1).toNat)
          refine r_cV (as := [V ((xs (i + 1).toNat).toInt)]) i_0_565 rfl (by decide +kernel) (Nat.le_of_ble_eq_true rfl) (Nat.le_of_ble_eq_true rfl) (hly18 0 _ rfl) rfl ?_
          refine c_125 (hand := (xs (i + 1).toNat).toInt) hly18 hF18 hG18 hA18 (by omega) (by exact hci) (fun r_146 F_147 G_148 A_149 hF_147 hG_148 hA_149 ff_149 fg_149 fa_149 p149_0 => ?_)
          show Re L xs 0 568 [(0, .float 1000), (1, .ref 0), (2, .ref 90), (3, V i)] [V r_146] (HP ly18 F_147 G_148 A_149 B18) _
          have hci1 : CI F_147 G_148 A_149 := p149_0
          have hm1 : MI G_148 A_149 := MI_x hm (fun k => fg_149 90 k (by omega)) (fun a ha => fa_149 a (by omega))
          have hty1 : tyV ly18 F_147 := tyV_c (by rw [ff_149 57 3 (by omega)]) (by rw [ff_149 57 4 (by omega)]) hty
          refine re_nx i_0_568 rfl ?_
          refine r_aload_n i_0_569 rfl ?_
          refine r_aloads_n i_0_570 rfl (by decide) ?_
          refine r_iload_n i_0_571 rfl ?_
          refine r_iconst i_0_572 ?_
          refine r_iadd i_0_573 ?_
          refine r_sld i_0_574 (by omega) (by omega) (by omega) ?_
          have q_150 := x_rng (xs (i + 1).toNat)
          refine r_cV (as := [V ((xs (i + 1).toNat).toInt)]) i_0_575 rfl (by decide +kernel) (Nat.le_of_ble_eq_true rfl) (Nat.le_of_ble_eq_true rfl) (hly18 90 _ rfl) rfl ?_
          refine c_207 (hand := (xs (i + 1).toNat).toInt) hly18 hF_147 hG_148 hA_149 (by omega) (by exact hm1) (fun r_151 G_152 A_153 hG_152 hA_153 fg_153 fa_153 p153_0 => ?_)
          show Re L xs 0 578 [(0, .float 1000), (1, .ref 0), (2, .ref 90), (3, V i)] [V r_151] (HP ly18 F_147 G_152 A_153 B18) _
          have hci2 : CI F_147 G_152 A_153 := CI_x hci1 (fun a k h => rfl) (fun a k h => fg_153 a k (by omega)) (fun a h => fa_153 a (by omega))
          have hm2 : MI G_152 A_153 := p153_0
          have hty2 : tyV ly18 F_147 := tyV_x hty1 (fun a k h => rfl)
          refine re_nx i_0_578 rfl ?_
          refine r_go (t := 661) i_0_579 (by decide) ?_
          refine r_iinc (l' := [(0, .float 1000), (1, .ref 0), (2, .ref 90), (3, V (i + 6))]) i_0_661 rfl (by decide +kernel) rfl ?_
          refine r_go (t := 18) i_0_664 (by decide) ?_
          exact ih18B (i + 6) ly18 F_147 G_152 A_153 B18 hly18 hF_147 hG_152 hA_153 (by omega) (by first | exact hm2 | exact hm) (by first | exact hci2 | exact hci) (by first | exact hty2 | exact hty) (by omega)
        · refine r_tabI (t := 582) (off := 549) i_0_33 (by omega) (by omega) (by rw [u_3]; decide) (by decide) ?_
          refine r_aload_n i_0_582 rfl ?_
          refine r_aloads_n i_0_583 rfl (by decide) ?_
          refine r_iload_n i_0_584 rfl ?_
          refine r_iconst i_0_585 ?_
          refine r_iadd i_0_586 ?_
          refine r_sld i_0_587 (by omega) (by omega) (by omega) ?_
          have q_154 := x_rng (xs (i + 1).toNat)
          refine r_cV (as := [V ((xs (i + 1).toNat).toInt)]) i_0_588 rfl (by decide +kernel) (Nat.le_of_ble_eq_true rfl) (Nat.le_of_ble_eq_true rfl) (hly18 0 _ rfl) rfl ?_
          refine c_127 (gap := (xs (i + 1).toNat).toInt) hly18 hF18 hG18 hA18 (by omega) (by exact hci) (fun r_155 F_156 G_157 A_158 hF_156 hG_157 hA_158 ff_158 fg_158 fa_158 p158_0 => ?_)
          show Re L xs 0 591 [(0, .float 1000), (1, .ref 0), (2, .ref 90), (3, V i)] [V r_155] (HP ly18 F_156 G_157 A_158 B18) _
          have hci1 : CI F_156 G_157 A_158 := p158_0
          have hm1 : MI G_157 A_158 := MI_x hm (fun k => fg_158 90 k (by omega)) (fun a ha => fa_158 a (by omega))
          have hty1 : tyV ly18 F_156 := tyV_c (by rw [ff_158 57 3 (by omega)]) (by rw [ff_158 57 4 (by omega)]) hty
          refine re_nx i_0_591 rfl ?_
          refine r_aload_n i_0_592 rfl ?_
          refine r_aloads_n i_0_593 rfl (by decide) ?_
          refine r_iload_n i_0_594 rfl ?_
          refine r_iconst i_0_595 ?_
          refine r_iadd i_0_596 ?_
          refine r_sld i_0_597 (by omega) (by omega) (by omega) ?_
          have q_159 := x_rng (xs (i + 1).toNat)
          refine r_cV (as := [V ((xs (i + 1).toNat).toInt)]) i_0_598 rfl (by decide +kernel) (Nat.le_of_ble_eq_true rfl) (Nat.le_of_ble_eq_true rfl) (hly18 90 _ rfl) rfl ?_
          refine c_205 (gap := (xs (i + 1).toNat).toInt) hly18 hF_156 hG_157 hA_158 (by omega) (by exact hm1) (fun r_160 G_161 A_162 hG_161 hA_162 fg_162 fa_162 p162_0 => ?_)
          show Re L xs 0 601 [(0, .float 1000), (1, .ref 0), (2, .ref 90), (3, V i)] [V r_160] (HP ly18 F_156 G_161 A_162 B18) _
          have hci2 : CI F_156 G_161 A_162 := CI_x hci1 (fun a k h => rfl) (fun a k h => fg_162 a k (by omega)) (fun a h => fa_162 a (by omega))
          have hm2 : MI G_161 A_162 := p162_0
          have hty2 : tyV ly18 F_156 := tyV_x hty1 (fun a k h => rfl)
          refine re_nx i_0_601 rfl ?_
          refine r_go (t := 661) i_0_602 (by decide) ?_
          refine r_iinc (l' := [(0, .float 1000), (1, .ref 0), (2, .ref 90), (3, V (i + 6))]) i_0_661 rfl (by decide +kernel) rfl ?_
          refine r_go (t := 18) i_0_664 (by decide) ?_
          exact ih18B (i + 6) ly18 F_156 G_161 A_162 B18 hly18 hF_156 hG_161 hA_162 (by omega) (by first | exact hm2 | exact hm) (by first | exact hci2 | exact hci) (by first | exact hty2 | exact hty) (by omega)
        · refine r_tabI (t := 605) (off := 572) i_0_33 (by omega) (by omega) (by rw [u_3]; decide) (by decide) ?_
          refine r_aload_n i_0_605 rfl ?_
          refine r_aloads_n i_0_606 rfl (by decide) ?_
          refine r_iload_n i_0_607 rfl ?_
          refine r_iconst i_0_608 ?_
          refine r_iadd i_0_609 ?_
          refine r_sld i_0_610 (by omega) (by omega) (by omega) ?_
          have q_163 := x_rng (xs (i + 1).toNat)
          refine r_aloads_n i_0_611 rfl (by decide) ?_
          refine r_iload_n i_0_612 rfl ?_
          refine r_iconst i_0_613 ?_
          refine r_iadd i_0_614 ?_
          refine r_sld i_0_615 (by omega) (by omega) (by omega) ?_
          have q_164 := x_rng (xs (i + 2).toNat)
          refine r_cV (as := [V ((xs (i + 2).toNat).toInt), V ((xs (i + 1).toNat).toInt)]) i_0_616 rfl (by decide +kernel) (Nat.le_of_ble_eq_true rfl) (Nat.le_of_ble_eq_true rfl) (hly18 0 _ rfl) rfl ?_
          refine c_130 (k := (xs (i + 1).toNat).toInt) (what := (xs (i + 2).toNat).toInt) hly18 hF18 hG18 hA18 (by omega) (by omega) (by exact hci) (fun r_165 => ?_)
          show Re L xs 0 619 [(0, .float 1000), (1, .ref 0), (2, .ref 90), (3, V i)] [V r_165] (HP ly18 F18 G18 A18 B18) _
          have hci1 : CI F18 G18 A18 := hci
          have hm1 : MI G18 A18 := MI_x hm (fun k => rfl) (fun a ha => rfl)
          have hty1 : tyV ly18 F18 := hty
          refine re_nx i_0_619 rfl ?_
          refine r_aload_n i_0_620 rfl ?_
          refine r_aloads_n i_0_621 rfl (by decide) ?_
          refine r_iload_n i_0_622 rfl ?_
          refine r_iconst i_0_623 ?_
          refine r_iadd i_0_624 ?_
          refine r_sld i_0_625 (by omega) (by omega) (by omega) ?_
          have q_166 := x_rng (xs (i + 1).toNat)
          refine r_aloads_n i_0_626 rfl (by decide) ?_
          refine r_iload_n i_0_627 rfl ?_
          refine r_iconst i_0_628 ?_
          refine r_iadd i_0_629 ?_
          refine r_sld i_0_630 (by omega) (by omega) (by omega) ?_
          have q_167 := x_rng (xs (i + 2).toNat)
          refine r_cV (as := [V ((xs (i + 2).toNat).toInt), V ((xs (i + 1).toNat).toInt)]) i_0_631 rfl (by decide +kernel) (Nat.le_of_ble_eq_true rfl) (Nat.le_of_ble_eq_true rfl) (hly18 90 _ rfl) rfl ?_
          refine c_208 (k := (xs (i + 1).toNat).toInt) (what := (xs (i + 2).toNat).toInt) hly18 hF18 hG18 hA18 (by omega) (by omega) (fun r_168 => ?_)
          show Re L xs 0 634 [(0, .float 1000), (1, .ref 0), (2, .ref 90), (3, V i)] [V r_168] (HP ly18 F18 G18 A18 B18) _
          have hci2 : CI F18 G18 A18 := CI_x hci1 (fun a k h => rfl) (fun a k h => rfl) (fun a h => rfl)
          have hm2 : MI G18 A18 := hm1
          have hty2 : tyV ly18 F18 := tyV_x hty1 (fun a k h => rfl)
          refine re_nx i_0_634 rfl ?_
          refine r_go (t := 661) i_0_635 (by decide) ?_
          refine r_iinc (l' := [(0, .float 1000), (1, .ref 0), (2, .ref 90), (3, V (i + 6))]) i_0_661 rfl (by decide +kernel) rfl ?_
          refine r_go (t := 18) i_0_664 (by decide) ?_
          exact ih18B (i + 6) ly18 F18 G18 A18 B18 hly18 hF18 hG18 hA18 (by omega) (by first | exact hm2 | exact hm) (by first | exact hci2 | exact hci) (by first | exact hty2 | exact hty) (by omega)
        · refine r_tabI (t := 638) (off := 605) i_0_33 (by omega) (by omega) (by rw [u_3]; decide) (by decide) ?_
          refine r_aload_n i_0_638 rfl ?_
          refine r_aloads_n i_0_639 rfl (by decide) ?_
          refine r_iload_n i_0_640 rfl ?_
          refine r_iconst i_0_641 ?_
          refine r_iadd i_0_642 ?_
          refine r_sld i_0_643 (by omega) (by omega) (by omega) ?_
          have q_169 := x_rng (xs (i + 1).toNat)
          refine r_cV (as := [V ((xs (i + 1).toNat).toInt)]) i_0_644 rfl (by decide +kernel) (Nat.le_of_ble_eq_true rfl) (Nat.le_of_ble_eq_true rfl) (hly18 0 _ rfl) rfl ?_
          refine c_131 (what := (xs (i + 1).toNat).toInt) hly18 hF18 hG18 hA18 (by omega) (by exact hci) (fun r_170 => ?_)
          show Re L xs 0 647 [(0, .float 1000), (1, .ref 0), (2, .ref 90), (3, V i)] [V r_170] (HP ly18 F18 G18 A18 B18) _
          have hci1 : CI F18 G18 A18 := hci
          have hm1 : MI G18 A18 := MI_x hm (fun k => rfl) (fun a ha => rfl)
          have hty1 : tyV ly18 F18 := hty
          refine re_nx i_0_647 rfl ?_
          refine r_aload_n i_0_648 rfl ?_
          refine r_aloads_n i_0_649 rfl (by decide) ?_
          refine r_iload_n i_0_650 rfl ?_
          refine r_iconst i_0_651 ?_
          refine r_iadd i_0_652 ?_
          refine r_sld i_0_653 (by omega) (by omega) (by omega) ?_
          have q_171 := x_rng (xs (i + 1).toNat)
          refine r_cV (as := [V ((xs (i + 1).toNat).toInt)]) i_0_654 rfl (by decide +kernel) (Nat.le_of_ble_eq_true rfl) (Nat.le_of_ble_eq_true rfl) (hly18 90 _ rfl) rfl ?_
          refine c_209 (what := (xs (i + 1).toNat).toInt) hly18 hF18 hG18 hA18 (by omega) (fun r_172 => ?_)
          show Re L xs 0 657 [(0, .float 1000), (1, .ref 0), (2, .ref 90), (3, V i)] [V r_172] (HP ly18 F18 G18 A18 B18) _
          have hci2 : CI F18 G18 A18 := CI_x hci1 (fun a k h => rfl) (fun a k h => rfl) (fun a h => rfl)
          have hm2 : MI G18 A18 := hm1
          have hty2 : tyV ly18 F18 := tyV_x hty1 (fun a k h => rfl)
          refine re_nx i_0_657 rfl ?_
          refine r_go (t := 661) i_0_658 (by decide) ?_
          refine r_iinc (l' := [(0, .float 1000), (1, .ref 0), (2, .ref 90), (3, V (i + 6))]) i_0_661 rfl (by decide +kernel) rfl ?_
          refine r_go (t := 18) i_0_664 (by decide) ?_
          exact ih18B (i + 6) ly18 F18 G18 A18 B18 hly18 hF18 hG18 hA18 (by omega) (by first | exact hm2 | exact hm) (by first | exact hci2 | exact hci) (by first | exact hty2 | exact hty) (by omega)
  exact lp18B _ i ly F G A B hly hF hG hA (by omega) (by first | exact hm2 | exact hm) (by first | exact hci2 | exact hci) (by first | exact hty2 | exact hty) (Nat.lt_succ_self _)
