set_option maxHeartbeats 4000000 in
theorem c_93 {L : Nat} {xs : Nat → Int32} {ly : List LK} {F : Nat → Nat → Value} {G A : Nat → Nat → Int} {B : Nat → Nat → Int64} {Q : Option Value → AH → Prop} {th : Nat} {off : Int} {q tl : Nat} (hly : LyOk ly) (hF : RfOk F) (hG : GO G) (hA : AQ A) (in_off : inR off) (hth : (th = 43 ∧ tl = 168) ∨ (th = 45 ∧ tl = 2352)) (hof : 0 ≤ off ∧ off + 168 ≤ (tl : Int)) (hsp : spV G A) (hrs : RS A) (hfx : G 48 10 = -1 ∨ 0 ≤ G 48 11) (hq : q = 20 ∨ q = 78 ∨ q = 52) (hfq : F 48 4 = .ref q) (hpc : PC A q) (hks : 0 < G 31 8 → ksV A) (hth0 : thV A th off) (K : ∀ (A' : Nat → Nat → Int), (AQ A') → (∀ a, ¬ (a = 55 ∨ a = 56 ∨ a = th) → A' a = A a) → (G 48 10 = -1 → thV A' th off) → Q none (HP ly F G A' B)) : Re L xs 93 0 [(0, .ref 48), (1, .ref th), (2, V off)] [] (HP ly F G A B) Q := by
  have z8 := g_31_8 hG
  refine r_iconst i_93_0 ?_
  refine r_istore_n (l' := [(0, .ref 48), (1, .ref th), (2, V off), (3, V 0)]) i_93_1 (by decide +kernel) rfl ?_
  have lp2B : ∀ (nf : Nat) (w : Int) (l4 : Int) (A2 : Nat → Nat → Int), (AQ A2) → (∀ a, ¬ (a = 55 ∨ a = 56 ∨ a = th) → A2 a = A a) → (0 ≤ w ∧ w ≤ G 31 8) → (G 48 10 = -1 → thV A2 th off) → (14 - w).toNat < nf → Re L xs 93 2 [(0, .ref 48), (1, .ref th), (2, V off), (3, V w), (4, V l4)] [] (HP ly F G A2 B) Q := by
    intro nf
    induction nf with
    | zero => intros; omega
    | succ nf ih2B =>
      intro w l4 A2 hA2 fa2 hw ht1 hm2
      refine r_iload_n i_93_2 rfl ?_
      refine r_aload_n i_93_3 rfl ?_
      refine r_getF (v := .ref 31) i_93_4 rfl (hly 48 _ rfl) (hF.1 48 0 31 rfl) ?_
      refine r_getI i_93_7 rfl (hly 31 _ rfl) ?_
      have q_1 := g_31_8 hG
      refine r_cge (t := 69) i_93_10 (by decide) (by omega) (by omega) (fun u_2 => ?_) (fun u_2 => ?_)
      · skip
        exact r_vret i_93_69 rfl (K A2 hA2 (by intro a hh; rw [fa2 a (fun h => h.elim (fun h => hh (Or.inl h)) (fun h => h.elim (fun h => hh (Or.inr (Or.inl h))) (fun h => hh (Or.inr (Or.inr h)))))]) (by intro h; exact ht1 h))
      · skip
        refine r_aload_n i_93_13 rfl ?_
        refine r_iload_n i_93_14 rfl ?_
        refine r_cV (as := [V w]) i_93_15 rfl (by decide +kernel) (Nat.le_of_ble_eq_true rfl) (Nat.le_of_ble_eq_true rfl) (hly 48 _ rfl) rfl ?_
        refine c_94 (word := w) (q := q) hly hF hG hA2 (by omega) (by omega) (by exact spV_c (by rfl) (by rw [fa2 49 (by omega)]) (by rw [fa2 50 (by omega)]) hsp) (by exact hq) (by exact hfq) (by exact PC_c (by rw [fa2 q (by omega)]) hpc) (fun A_3 hA_3 fa3 p3_0 => ?_)
        show Re L xs 93 18 [(0, .ref 48), (1, .ref th), (2, V off), (3, V w), (4, V l4)] [] (HP ly F G A_3 B) _
        refine r_aload_n i_93_18 rfl ?_
        refine r_getF (v := .ref 55) i_93_19 rfl (hly 48 _ rfl) (hF.1 48 7 55 rfl) ?_
        refine r_ldc (v := 1000000) i_93_22 (by decide) ?_
        refine r_cS (as := [V 1000000, .ref 55]) i_93_24 rfl (by decide +kernel) (Nat.le_of_ble_eq_true rfl) (Nat.le_of_ble_eq_true rfl) ?_
        refine c_41 (ra := 55) (v := 1000000) (rn := 680) hly hF hG hA_3 (by omega) (by exact hly 55 _ rfl) (by omega) (by exact fun A1 i h => au_55 h (by omega) (by omega)) (fun A_4 hA_4 fa4 p4_0 => ?_)
        show Re L xs 93 27 [(0, .ref 48), (1, .ref th), (2, V off), (3, V w), (4, V l4)] [] (HP ly F G A_4 B) _
        have hen := p3_0
        rw [show A2 53 = A 53 from by rw [fa2 53 (by omega)]] at hen
        refine r_aload_n i_93_27 rfl ?_
        refine r_iload_n i_93_28 rfl ?_
        refine r_cV (as := [V w]) i_93_29 rfl (by decide +kernel) (Nat.le_of_ble_eq_true rfl) (Nat.le_of_ble_eq_true rfl) (hly 48 _ rfl) rfl ?_
        have q_5 := g_48_10 hG
        have q_6 := g_48_11 hG
        refine c_91 (word := w) hly hF hG hA_4 (by omega) (by omega) (by omega) (fun r_7 p7_0 p7_1 => ?_)
        show Re L xs 93 32 [(0, .ref 48), (1, .ref th), (2, V off), (3, V w), (4, V l4)] [V r_7] (HP ly F G A_4 B) _
        refine r_istore (l' := [(0, .ref 48), (1, .ref th), (2, V off), (3, V w), (4, V r_7)]) i_93_32 (by decide +kernel) rfl ?_
        have lp34B : ∀ (nf : Nat) (s : Int) (A34 : Nat → Nat → Int), (AQ A34) → (∀ a, ¬ (a = 55 ∨ a = th) → A34 a = A_4 a) → (12 * w ≤ s ∧ s ≤ 12 * w + 12) → (G 48 10 = -1 → thV A34 th off) → (12 * w + 12 - s).toNat < nf → Re L xs 93 34 [(0, .ref 48), (1, .ref th), (2, V off), (3, V w), (4, V s)] [] (HP ly F G A34 B) Q := by
          intro nf
          induction nf with
          | zero => intros; omega
          | succ nf ih34B =>
            intro s A34 hA34 fa34 hs ht2 hm34
            refine r_iload i_93_34 rfl ?_
            refine r_aload_n i_93_36 rfl ?_
            refine r_iload_n i_93_37 rfl ?_
            refine r_cV (as := [V w]) i_93_38 rfl (by decide +kernel) (Nat.le_of_ble_eq_true rfl) (Nat.le_of_ble_eq_true rfl) (hly 48 _ rfl) rfl ?_
            refine c_92 (word := w) hly hF hG hA34 (by omega) (by omega) (by omega) (fun r_8 p8_0 p8_1 => ?_)
            show Re L xs 93 41 [(0, .ref 48), (1, .ref th), (2, V off), (3, V w), (4, V s)] [V r_8, V s] (HP ly F G A34 B) _
            rw [show A34 32 = A 32 from by rw [fa34 32 (by omega), fa4 32 (by omega), fa3 32 (by omega), fa2 32 (by omega)]] at p8_1
            refine r_cgt (t := 63) i_93_41 (by decide) (by omega) (by omega) (fun u_9 => ?_) (fun u_9 => ?_)
            · skip
              refine r_iinc (l' := [(0, .ref 48), (1, .ref th), (2, V off), (3, V (w + 1)), (4, V s)]) i_93_63 rfl (by decide +kernel) rfl ?_
              refine r_go (t := 2) i_93_66 (by decide) ?_
              exact ih2B (w + 1) s A34 hA34 (by intro a hh; rw [fa34 a (fun h => h.elim (fun h => hh (Or.inl h)) (fun h => hh (Or.inr (Or.inr h)))), fa4 a (fun h => hh (Or.inl h)), fa3 a (fun h => hh (Or.inr (Or.inl h))), fa2 a (fun h => h.elim (fun h => hh (Or.inl h)) (fun h => h.elim (fun h => hh (Or.inr (Or.inl h))) (fun h => hh (Or.inr (Or.inr h)))))]) (by omega) (by first | (intro _; exact hth0) | exact ht2) (by omega)
            · skip
              refine r_aload_n i_93_44 rfl ?_
              refine r_iload_n i_93_45 rfl ?_
              refine r_iload i_93_46 rfl ?_
              refine r_iadd i_93_48 ?_
              refine r_aload_n i_93_49 rfl ?_
              refine r_iload_n i_93_50 rfl ?_
              refine r_iload i_93_51 rfl ?_
              refine r_cV (as := [V s, V w]) i_93_53 rfl (by decide +kernel) (Nat.le_of_ble_eq_true rfl) (Nat.le_of_ble_eq_true rfl) (hly 48 _ rfl) rfl ?_
              refine c_96 (word := w) (slot := s) hly hF hG hA34 (by omega) (by omega) (by omega) (by omega) (by exact spV_c (by rfl) (by rw [fa34 49 (by omega), fa4 49 (by omega), fa3 49 (by omega), fa2 49 (by omega)]) (by rw [fa34 50 (by omega), fa4 50 (by omega), fa3 50 (by omega), fa2 50 (by omega)]) hsp) (by exact RS_c (by rw [fa34 54 (by omega), fa4 54 (by omega), fa3 54 (by omega), fa2 54 (by omega)]) hrs) (fun r_10 A_11 hA_11 fa11 p11_0 p11_1 => ?_)
              show Re L xs 93 56 [(0, .ref 48), (1, .ref th), (2, V off), (3, V w), (4, V s)] [V r_10, V (off + s), .ref th] (HP ly F G A_11 B) _
              rw [show A34 56 = A_3 56 from by rw [fa34 56 (by omega), fa4 56 (by omega)]] at p11_1
              rw [show A34 37 = A 37 from by rw [fa34 37 (by omega), fa4 37 (by omega), fa3 37 (by omega), fa2 37 (by omega)]] at p11_1
              have hps : G 48 10 = -1 → w = 0 → r_10 ≤ 2673 ∨ r_10 = 1000000 := by intro hf h0; have hz := hks (by omega) s.toNat (by have e92 := p8_1 (by omega); rw [show w.toNat = 0 from by omega] at e92; omega); have hk37 := a_37 hA s.toNat; have he := hen h0 (A 37 s.toNat).toNat (by omega) (by rw [show (((A 37 s.toNat).toNat : Nat) : Int) = A 37 s.toNat from by omega]; exact hz); have hh := p11_1 h0; rw [show (85 * A 37 s.toNat).toNat = 85 * (A 37 s.toNat).toNat from by omega] at hh; exact hh (by first | exact he | (rw [show A_3 56 = A_3 56 from by rfl]; exact he) | (rw [show A34 56 = A_3 56 from by rw [fa34 56 (by omega), fa4 56 (by omega)]]; exact he))
              refine r_iastQ i_93_56 (Lth hly hth) (by omega) (by omega) (by omega) (fun A_12 eA_12 => ?_)
              have hA_12 : AQ A_12 := by rw [eA_12]; exact AUth hth hA_11 (by omega) (by omega)
              have xth_1 : A_12 th = fun i => if i = (off + s).toNat then r_10 else A_11 th i := by rw [eA_12, up2_f]
              have xth : A_12 th = fun i => if i = (off + s).toNat then r_10 else A_11 th i := by rw [xth_1]
              refine r_iinc (l' := [(0, .ref 48), (1, .ref th), (2, V off), (3, V w), (4, V (s + 1))]) i_93_57 rfl (by decide +kernel) rfl ?_
              refine r_go (t := 34) i_93_60 (by decide) ?_
              exact ih34B (s + 1) A_12 hA_12 (by intro a hh; rw [eA_12, up2_a (fun h => hh (Or.inr h)), fa11 a (fun h => hh (Or.inl h)), fa34 a (fun h => h.elim (fun h => hh (Or.inl h)) (fun h => hh (Or.inr h)))]) (by omega) (by first | (intro h; exact thV_c (by fail) (ht1 h)) | (intro h; exact thV_s (thV_c (by rw [fa11 th (by omega)]) (ht2 h)) (by omega) (by omega) xth (fun hs12 => hps h (by omega)))) (by omega)
        exact lp34B _ r_7 A_4 hA_4 (by intro a hh; rfl) (by omega) (by first | (intro h; exact thV_c (by rw [fa4 th (by omega), fa3 th (by omega)]) (ht1 h)) | (intro h; exact thV_s (thV_c (by fail) (ht2 h)) (by omega) (by omega) xth (fun hs12 => hps h (by omega)))) (Nat.lt_succ_self _)
  have lp2A3 : ∀ (nf : Nat) (w : Int) (A2 : Nat → Nat → Int), (AQ A2) → (∀ a, ¬ (a = 55 ∨ a = 56 ∨ a = th) → A2 a = A a) → (0 ≤ w ∧ w ≤ G 31 8) → (G 48 10 = -1 → thV A2 th off) → (14 - w).toNat < nf → Re L xs 93 2 [(0, .ref 48), (1, .ref th), (2, V off), (3, V w)] [] (HP ly F G A2 B) Q := by
    intro nf
    induction nf with
    | zero => intros; omega
    | succ nf ih2A3 =>
      intro w A2 hA2 fa2 hw ht1 hm2
      refine r_iload_n i_93_2 rfl ?_
      refine r_aload_n i_93_3 rfl ?_
      refine r_getF (v := .ref 31) i_93_4 rfl (hly 48 _ rfl) (hF.1 48 0 31 rfl) ?_
      refine r_getI i_93_7 rfl (hly 31 _ rfl) ?_
      have q_13 := g_31_8 hG
      refine r_cge (t := 69) i_93_10 (by decide) (by omega) (by omega) (fun u_14 => ?_) (fun u_14 => ?_)
      · skip
        exact r_vret i_93_69 rfl (K A2 hA2 (by intro a hh; rw [fa2 a (fun h => h.elim (fun h => hh (Or.inl h)) (fun h => h.elim (fun h => hh (Or.inr (Or.inl h))) (fun h => hh (Or.inr (Or.inr h)))))]) (by intro h; exact ht1 h))
      · skip
        refine r_aload_n i_93_13 rfl ?_
        refine r_iload_n i_93_14 rfl ?_
        refine r_cV (as := [V w]) i_93_15 rfl (by decide +kernel) (Nat.le_of_ble_eq_true rfl) (Nat.le_of_ble_eq_true rfl) (hly 48 _ rfl) rfl ?_
        refine c_94 (word := w) (q := q) hly hF hG hA2 (by omega) (by omega) (by exact spV_c (by rfl) (by rw [fa2 49 (by omega)]) (by rw [fa2 50 (by omega)]) hsp) (by exact hq) (by exact hfq) (by exact PC_c (by rw [fa2 q (by omega)]) hpc) (fun A_15 hA_15 fa15 p15_0 => ?_)
        show Re L xs 93 18 [(0, .ref 48), (1, .ref th), (2, V off), (3, V w)] [] (HP ly F G A_15 B) _
        refine r_aload_n i_93_18 rfl ?_
        refine r_getF (v := .ref 55) i_93_19 rfl (hly 48 _ rfl) (hF.1 48 7 55 rfl) ?_
        refine r_ldc (v := 1000000) i_93_22 (by decide) ?_
        refine r_cS (as := [V 1000000, .ref 55]) i_93_24 rfl (by decide +kernel) (Nat.le_of_ble_eq_true rfl) (Nat.le_of_ble_eq_true rfl) ?_
        refine c_41 (ra := 55) (v := 1000000) (rn := 680) hly hF hG hA_15 (by omega) (by exact hly 55 _ rfl) (by omega) (by exact fun A1 i h => au_55 h (by omega) (by omega)) (fun A_16 hA_16 fa16 p16_0 => ?_)
        show Re L xs 93 27 [(0, .ref 48), (1, .ref th), (2, V off), (3, V w)] [] (HP ly F G A_16 B) _
        have hen := p15_0
        rw [show A2 53 = A 53 from by rw [fa2 53 (by omega)]] at hen
        refine r_aload_n i_93_27 rfl ?_
        refine r_iload_n i_93_28 rfl ?_
        refine r_cV (as := [V w]) i_93_29 rfl (by decide +kernel) (Nat.le_of_ble_eq_true rfl) (Nat.le_of_ble_eq_true rfl) (hly 48 _ rfl) rfl ?_
        have q_17 := g_48_10 hG
        have q_18 := g_48_11 hG
        refine c_91 (word := w) hly hF hG hA_16 (by omega) (by omega) (by omega) (fun r_19 p19_0 p19_1 => ?_)
        show Re L xs 93 32 [(0, .ref 48), (1, .ref th), (2, V off), (3, V w)] [V r_19] (HP ly F G A_16 B) _
        refine r_istore (l' := [(0, .ref 48), (1, .ref th), (2, V off), (3, V w), (4, V r_19)]) i_93_32 (by decide +kernel) rfl ?_
        have lp34B : ∀ (nf : Nat) (s : Int) (A34 : Nat → Nat → Int), (AQ A34) → (∀ a, ¬ (a = 55 ∨ a = th) → A34 a = A_16 a) → (12 * w ≤ s ∧ s ≤ 12 * w + 12) → (G 48 10 = -1 → thV A34 th off) → (12 * w + 12 - s).toNat < nf → Re L xs 93 34 [(0, .ref 48), (1, .ref th), (2, V off), (3, V w), (4, V s)] [] (HP ly F G A34 B) Q := by
          intro nf
          induction nf with
          | zero => intros; omega
          | succ nf ih34B =>
            intro s A34 hA34 fa34 hs ht2 hm34
            refine r_iload i_93_34 rfl ?_
            refine r_aload_n i_93_36 rfl ?_
            refine r_iload_n i_93_37 rfl ?_
            refine r_cV (as := [V w]) i_93_38 rfl (by decide +kernel) (Nat.le_of_ble_eq_true rfl) (Nat.le_of_ble_eq_true rfl) (hly 48 _ rfl) rfl ?_
            refine c_92 (word := w) hly hF hG hA34 (by omega) (by omega) (by omega) (fun r_20 p20_0 p20_1 => ?_)
            show Re L xs 93 41 [(0, .ref 48), (1, .ref th), (2, V off), (3, V w), (4, V s)] [V r_20, V s] (HP ly F G A34 B) _
            rw [show A34 32 = A 32 from by rw [fa34 32 (by omega), fa16 32 (by omega), fa15 32 (by omega), fa2 32 (by omega)]] at p20_1
            refine r_cgt (t := 63) i_93_41 (by decide) (by omega) (by omega) (fun u_21 => ?_) (fun u_21 => ?_)
            · skip
              refine r_iinc (l' := [(0, .ref 48), (1, .ref th), (2, V off), (3, V (w + 1)), (4, V s)]) i_93_63 rfl (by decide +kernel) rfl ?_
              refine r_go (t := 2) i_93_66 (by decide) ?_
              exact lp2B _ (w + 1) s A34 hA34 (by intro a hh; rw [fa34 a (fun h => h.elim (fun h => hh (Or.inl h)) (fun h => hh (Or.inr (Or.inr h)))), fa16 a (fun h => hh (Or.inl h)), fa15 a (fun h => hh (Or.inr (Or.inl h))), fa2 a (fun h => h.elim (fun h => hh (Or.inl h)) (fun h => h.elim (fun h => hh (Or.inr (Or.inl h))) (fun h => hh (Or.inr (Or.inr h)))))]) (by omega) (by first | (intro _; exact hth0) | exact ht2) (Nat.lt_succ_self _)
            · skip
              refine r_aload_n i_93_44 rfl ?_
              refine r_iload_n i_93_45 rfl ?_
              refine r_iload i_93_46 rfl ?_
              refine r_iadd i_93_48 ?_
              refine r_aload_n i_93_49 rfl ?_
              refine r_iload_n i_93_50 rfl ?_
              refine r_iload i_93_51 rfl ?_
              refine r_cV (as := [V s, V w]) i_93_53 rfl (by decide +kernel) (Nat.le_of_ble_eq_true rfl) (Nat.le_of_ble_eq_true rfl) (hly 48 _ rfl) rfl ?_
              refine c_96 (word := w) (slot := s) hly hF hG hA34 (by omega) (by omega) (by omega) (by omega) (by exact spV_c (by rfl) (by rw [fa34 49 (by omega), fa16 49 (by omega), fa15 49 (by omega), fa2 49 (by omega)]) (by rw [fa34 50 (by omega), fa16 50 (by omega), fa15 50 (by omega), fa2 50 (by omega)]) hsp) (by exact RS_c (by rw [fa34 54 (by omega), fa16 54 (by omega), fa15 54 (by omega), fa2 54 (by omega)]) hrs) (fun r_22 A_23 hA_23 fa23 p23_0 p23_1 => ?_)
              show Re L xs 93 56 [(0, .ref 48), (1, .ref th), (2, V off), (3, V w), (4, V s)] [V r_22, V (off + s), .ref th] (HP ly F G A_23 B) _
              rw [show A34 56 = A_15 56 from by rw [fa34 56 (by omega), fa16 56 (by omega)]] at p23_1
              rw [show A34 37 = A 37 from by rw [fa34 37 (by omega), fa16 37 (by omega), fa15 37 (by omega), fa2 37 (by omega)]] at p23_1
              have hps : G 48 10 = -1 → w = 0 → r_22 ≤ 2673 ∨ r_22 = 1000000 := by intro hf h0; have hz := hks (by omega) s.toNat (by have e92 := p20_1 (by omega); rw [show w.toNat = 0 from by omega] at e92; omega); have hk37 := a_37 hA s.toNat; have he := hen h0 (A 37 s.toNat).toNat (by omega) (by rw [show (((A 37 s.toNat).toNat : Nat) : Int) = A 37 s.toNat from by omega]; exact hz); have hh := p23_1 h0; rw [show (85 * A 37 s.toNat).toNat = 85 * (A 37 s.toNat).toNat from by omega] at hh; exact hh (by first | exact he | (rw [show A_15 56 = A_15 56 from by rfl]; exact he) | (rw [show A34 56 = A_15 56 from by rw [fa34 56 (by omega), fa16 56 (by omega)]]; exact he))
              refine r_iastQ i_93_56 (Lth hly hth) (by omega) (by omega) (by omega) (fun A_24 eA_24 => ?_)
              have hA_24 : AQ A_24 := by rw [eA_24]; exact AUth hth hA_23 (by omega) (by omega)
              have xth_1 : A_24 th = fun i => if i = (off + s).toNat then r_22 else A_23 th i := by rw [eA_24, up2_f]
              have xth : A_24 th = fun i => if i = (off + s).toNat then r_22 else A_23 th i := by rw [xth_1]
              refine r_iinc (l' := [(0, .ref 48), (1, .ref th), (2, V off), (3, V w), (4, V (s + 1))]) i_93_57 rfl (by decide +kernel) rfl ?_
              refine r_go (t := 34) i_93_60 (by decide) ?_
              exact ih34B (s + 1) A_24 hA_24 (by intro a hh; rw [eA_24, up2_a (fun h => hh (Or.inr h)), fa23 a (fun h => hh (Or.inl h)), fa34 a (fun h => h.elim (fun h => hh (Or.inl h)) (fun h => hh (Or.inr h)))]) (by omega) (by first | (intro h; exact thV_c (by fail) (ht1 h)) | (intro h; exact thV_s (thV_c (by rw [fa23 th (by omega)]) (ht2 h)) (by omega) (by omega) xth (fun hs12 => hps h (by omega)))) (by omega)
        exact lp34B _ r_19 A_16 hA_16 (by intro a hh; rfl) (by omega) (by first | (intro h; exact thV_c (by rw [fa16 th (by omega), fa15 th (by omega)]) (ht1 h)) | (intro h; exact thV_s (thV_c (by fail) (ht2 h)) (by omega) (by omega) xth (fun hs12 => hps h (by omega)))) (Nat.lt_succ_self _)
  exact lp2A3 _ 0 A hA (by intro a hh; rfl) (by omega) (by first | (intro _; exact hth0) | exact ht2) (Nat.lt_succ_self _)
