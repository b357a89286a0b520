set_option maxHeartbeats 4000000 in
theorem c_84 {L : Nat} {xs : Nat → Int32} {ly : List LK} {F : Nat → Nat → Value} {G A : Nat → Nat → Int} {B : Nat → Nat → Int64} {Q : Option Value → AH → Prop} {word : Int} {reading : Int} {th : Nat} {off : Int} {q tl : Nat} (hly : LyOk ly) (hF : RfOk F) (hG : GO G) (hA : AQ A) (in_word : inR word) (in_reading : inR reading) (in_off : inR off) (hth : (th = 43 ∧ tl = 168) ∨ (th = 45 ∧ tl = 2352)) (hof : 0 ≤ off ∧ off + 168 ≤ (tl : Int)) (hw : -1 ≤ word ∧ word ≤ 13) (hr : -1 ≤ reading ∧ reading ≤ 11) (hwr : word = -1 ∨ 0 ≤ reading) (hop : G 48 9 = 1 → spV G A ∧ (0 < G 31 8 → ksV A)) (hrs : RS A) (hq : q = 20 ∨ q = 78 ∨ q = 52) (hfq : F 48 4 = .ref q) (hpc : PC A q) (K : ∀ (r : Int) (G' : Nat → Nat → Int) (A' : Nat → Nat → Int), (GO G') → (AQ A') → (∀ a k, ¬ ((a = 48 ∧ k = 10) ∨ (a = 48 ∧ k = 11)) → G' a k = G a k) → (∀ a, ¬ (a = 54 ∨ a = 55 ∨ a = 56 ∨ a = th) → A' a = A a) → (RS A') → (0 ≤ r ∧ r ≤ 1000000) → (word = -1 → r < 1000000 → r ≤ 2673) → (r < 1000000 → G 48 9 = 1) → Q (some (V r)) (HP ly F G' A' B)) : Re L xs 84 0 [(0, .ref 48), (1, V word), (2, V reading), (3, .ref th), (4, V off)] [] (HP ly F G A B) Q := by
  have z8 := g_31_8 hG
  refine r_aload_n i_84_0 rfl ?_
  refine r_iload i_84_1 rfl ?_
  refine r_iload i_84_3 rfl ?_
  refine r_sipush i_84_5 (by decide) ?_
  refine r_iadd i_84_8 ?_
  refine r_ldc (v := 1000000) i_84_9 (by decide) ?_
  refine r_cS (as := [V 1000000, V (off + 168), V off, .ref th]) i_84_11 rfl (by decide +kernel) (Nat.le_of_ble_eq_true rfl) (Nat.le_of_ble_eq_true rfl) ?_
  refine c_85 (ra := th) (fr := off) (to := off + 168) (v := 1000000) (rn := tl) hly hF hG hA (by omega) (by omega) (by omega) (by exact Lth hly hth) (by omega) (by exact fun A1 i h => AUth hth h (by omega) (by omega)) (by omega) (fun A_1 hA_1 fa1 p1_0 => ?_)
  show Re L xs 84 14 [(0, .ref 48), (1, V word), (2, V reading), (3, .ref th), (4, V off)] [] (HP ly F G A_1 B) _
  have hth1 : thV A_1 th off := by intro i hi; right; rw [p1_0]; exact if_pos (by omega)
  refine r_aload_n i_84_14 rfl ?_
  refine r_getI i_84_15 rfl (hly 48 _ rfl) ?_
  have q_2 := g_48_9 hG
  refine r_ne0 (t := 24) i_84_18 (by decide) (by omega) (fun u_3 => ?_) (fun u_3 => ?_)
  · skip
    have hsp := (hop (by omega)).1
    have ho2 := (hop (by omega)).2
    refine r_aload_n i_84_24 rfl ?_
    refine r_iload_n i_84_25 rfl ?_
    refine r_putIQ i_84_26 (by decide +kernel) (hly 48 _ rfl) (fun G_4 eG_4 => ?_)
    have hG_4 : GO G_4 := by rw [eG_4]; exact gu_48_10 hG (by omega) (by omega)
    refine r_aload_n i_84_29 rfl ?_
    refine r_iload_n i_84_30 rfl ?_
    refine r_putIQ i_84_31 (by decide +kernel) (hly 48 _ rfl) (fun G_5 eG_5 => ?_)
    have hG_5 : GO G_5 := by rw [eG_5]; exact gu_48_11 hG_4 (by omega) (by omega)
    refine r_aload_n i_84_34 rfl ?_
    refine r_cV (as := []) i_84_35 rfl (by decide +kernel) (Nat.le_of_ble_eq_true rfl) (Nat.le_of_ble_eq_true rfl) (hly 48 _ rfl) rfl ?_
    have w_6 : G_5 48 10 = word := by rw [eG_5, up2_n (by omega), eG_4, up2_s]
    have w_7 : G_5 48 11 = reading := by rw [eG_5, up2_s]
    refine c_87 (q := q) hly hF hG_5 hA_1 (by exact spV_c (by rw [eG_5, up2_n (by omega), eG_4, up2_n (by omega)]) (by rw [fa1 49 (by omega)]) (by rw [fa1 50 (by omega)]) hsp) (by exact RS_c (by rw [fa1 54 (by omega)]) hrs) (by omega) (by exact hq) (by exact hfq) (by exact PC_c (by rw [fa1 q (by omega)]) hpc) (fun A_8 hA_8 fa8 p8_0 => ?_)
    show Re L xs 84 38 [(0, .ref 48), (1, V word), (2, V reading), (3, .ref th), (4, V off)] [] (HP ly F G_5 A_8 B) _
    refine r_aload_n i_84_38 rfl ?_
    refine r_aload_n i_84_39 rfl ?_
    refine r_iload i_84_40 rfl ?_
    refine r_cV (as := [V off, .ref th]) i_84_42 rfl (by decide +kernel) (Nat.le_of_ble_eq_true rfl) (Nat.le_of_ble_eq_true rfl) (hly 48 _ rfl) rfl ?_
    have w_9 : G_5 31 8 = G 31 8 := by rw [eG_5, up2_n (by omega), eG_4, up2_n (by omega)]
    have q_10 := g_31_8 hG
    refine c_93 (th := th) (off := off) (q := q) (tl := tl) hly hF hG_5 hA_8 (by omega) (by exact hth) (by omega) (by exact spV_c (by rw [eG_5, up2_n (by omega), eG_4, up2_n (by omega)]) (by rw [fa8 49 (by omega), fa1 49 (by omega)]) (by rw [fa8 50 (by omega), fa1 50 (by omega)]) hsp) (by exact p8_0) (by omega) (by exact hq) (by exact hfq) (by exact PC_c (by rw [fa8 q (by omega), fa1 q (by omega)]) hpc) (by intro h; exact ksV_c (by rw [fa8 32 (by omega), fa1 32 (by omega)]) (by rw [fa8 53 (by omega), fa1 53 (by omega)]) (by rw [fa8 37 (by omega), fa1 37 (by omega)]) (ho2 (by omega))) (by exact thV_c (by rw [fa8 th (by omega)]) hth1) (fun A_11 hA_11 fa11 p11_0 => ?_)
    show Re L xs 84 45 [(0, .ref 48), (1, V word), (2, V reading), (3, .ref th), (4, V off)] [] (HP ly F G_5 A_11 B) _
    have hend : word = -1 → thV A_11 th off := fun h => p11_0 (by omega)
    refine r_ldc (v := 1000000) i_84_45 (by decide) ?_
    refine r_istore (l' := [(0, .ref 48), (1, V word), (2, V reading), (3, .ref th), (4, V off), (5, V 1000000)]) i_84_47 (by decide +kernel) rfl ?_
    refine r_iconst i_84_49 ?_
    refine r_istore (l' := [(0, .ref 48), (1, V word), (2, V reading), (3, .ref th), (4, V off), (5, V 1000000), (6, V 0)]) i_84_50 (by decide +kernel) rfl ?_
    have lp52B : ∀ (nf : Nat) (least : Int) (s : Int), (0 ≤ s ∧ s ≤ 12) → (0 ≤ least ∧ least ≤ 1000000) → (word = -1 → least ≤ 2673 ∨ least = 1000000) → (12 - s).toNat < nf → Re L xs 84 52 [(0, .ref 48), (1, V word), (2, V reading), (3, .ref th), (4, V off), (5, V least), (6, V s)] [] (HP ly F G_5 A_11 B) Q := by
      intro nf
      induction nf with
      | zero => intros; omega
      | succ nf ih52B =>
        intro least s  hs hls hle hm52
        refine r_iload i_84_52 rfl ?_
        refine r_bipush i_84_54 (by decide) ?_
        refine r_cge (t := 79) i_84_56 (by decide) (by omega) (by omega) (fun u_12 => ?_) (fun u_12 => ?_)
        · skip
          refine r_iload i_84_79 rfl ?_
          exact r_iret i_84_81 rfl rfl (K least G_5 A_11 hG_5 hA_11 (by intro a k hh; rw [eG_5, up2_n (fun h => hh (Or.inr h)), eG_4, up2_n (fun h => hh (Or.inl h))]) (by intro a hh; rw [fa11 a (fun h => h.elim (fun h => hh (Or.inr (Or.inl h))) (fun h => h.elim (fun h => hh (Or.inr (Or.inr (Or.inl h)))) (fun h => hh (Or.inr (Or.inr (Or.inr h)))))), fa8 a (fun h => hh (Or.inl h)), fa1 a (fun h => hh (Or.inr (Or.inr (Or.inr h))))]) (by exact RS_c (by rw [fa11 54 (by omega)]) p8_0) (by omega) (by intro h1 h2; have hh := hle (by omega); omega) (by omega))
        · skip
          refine r_iload i_84_59 rfl ?_
          refine r_aload_n i_84_61 rfl ?_
          refine r_iload i_84_62 rfl ?_
          refine r_iload i_84_64 rfl ?_
          refine r_iadd i_84_66 ?_
          refine r_iald i_84_67 (Lth hly hth) (by omega) (by omega) (by omega) ?_
          have q_13 := Ath hA_11 hth ((off + s).toNat)
          refine r_min (r := (0, 0, 0)) i_84_68 (by decide +kernel) (Nat.le_of_ble_eq_true rfl) (by omega) (by omega) (fun m_14 em_14 => ?_)
          refine r_istore (l' := [(0, .ref 48), (1, V word), (2, V reading), (3, .ref th), (4, V off), (5, V m_14), (6, V s)]) i_84_71 (by decide +kernel) rfl ?_
          refine r_iinc (l' := [(0, .ref 48), (1, V word), (2, V reading), (3, .ref th), (4, V off), (5, V m_14), (6, V (s + 1))]) i_84_73 rfl (by decide +kernel) rfl ?_
          refine r_go (t := 52) i_84_76 (by decide) ?_
          exact ih52B m_14 (s + 1)  (by omega) (by omega) (by first | (intro h; exact .inr rfl) | (intro h; have e1 := hle h; have e2 := hend h s.toNat (by omega); rw [show off + ((s.toNat : Nat) : Int) = off + s from by omega] at e2; omega)) (by omega)
    exact lp52B _ 1000000 0  (by omega) (by omega) (by first | (intro h; exact .inr rfl) | (intro h; have e1 := hle h; have e2 := hend h s.toNat (by omega); rw [show off + ((s.toNat : Nat) : Int) = off + s from by omega] at e2; omega)) (Nat.lt_succ_self _)
  · skip
    refine r_ldc (v := 1000000) i_84_21 (by decide) ?_
    exact r_iret i_84_23 rfl rfl (K 1000000 G A_1 hG hA_1 (by intro a k hh; rfl) (by intro a hh; rw [fa1 a (fun h => hh (Or.inr (Or.inr (Or.inr h))))]) (by exact RS_c (by rw [fa1 54 (by omega)]) hrs) (by omega) (by intro _ h; exfalso; omega) (by omega))
