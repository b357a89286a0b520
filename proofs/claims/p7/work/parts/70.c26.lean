set_option maxHeartbeats 4000000 in
theorem c_103 {L : Nat} {xs : Nat → Int32} {ly : List LK} {F : Nat → Nat → Value} {G A : Nat → Nat → Int} {B : Nat → Nat → Int64} {Q : Option Value → AH → Prop} {gap : Int} (hly : LyOk ly) (hF : RfOk F) (hG : GO G) (hA : AQ A) (in_gap : inR gap) (hci : CI F G A) (hty : tyV ly F) (K : ∀ (r : Int64) (ly' : List LK) (F' : Nat → Nat → Value) (G' : Nat → Nat → Int) (A' : Nat → Nat → Int) (B' : Nat → Nat → Int64), (LyOk ly') → (RfOk F') → (GO G') → (AQ A') → (∀ a k, ¬ ((a = 48 ∧ k = 4) ∨ (a = 57 ∧ k = 3) ∨ (a = 57 ∧ k = 4)) → F' a k = F a k) → (∀ a k, ¬ (a < 90) → G' a k = G a k) → (∀ a, ¬ (a < 91) → A' a = A a) → (CI F' G' A') → (tyV ly' F') → Q (some (.long r)) (HP ly' F' G' A' B')) : Re L xs 103 0 [(0, .ref 0), (1, V gap)] [] (HP ly F G A B) Q := by
  obtain ⟨x, z, y, u, hcv⟩ := hci
  have hcv2 := hcv
  obtain ⟨⟨⟨hx, hxz⟩, ⟨hy, hyu⟩, ⟨hb, hrb⟩, ⟨hl, hsl⟩, hwq, hpcs, hrs, hln, hch, hcb, hrv⟩, hf8, hsw, hcr⟩ := hcv2
  have hz : z = 3 ∨ z = 61 := by omega
  have hu : u = 80 ∨ u = 85 := by omega
  have hq : x + 17 = 20 ∨ x + 17 = 78 ∨ x + 17 = 52 := by omega
  have hc : ∀ w : Nat, (w : Int) < G 31 8 → 1 ≤ A 32 w := fun w hw => (hcr w hw).1
  have z8 := g_31_8 hG
  refine r_iload_n i_103_0 rfl ?_
  refine r_cS (as := [V gap]) i_103_1 rfl (by decide +kernel) (Nat.le_of_ble_eq_true rfl) (Nat.le_of_ble_eq_true rfl) ?_
  refine c_104 (g := gap) hly hF hG hA (by omega) (fun r_1 p1_0 p1_1 => ?_)
  show Re L xs 103 4 [(0, .ref 0), (1, V gap)] [V r_1] (HP ly F G A B) _
  refine r_ne0 (t := 11) i_103_4 (by decide) (by omega) (fun u_2 => ?_) (fun u_2 => ?_)
  · skip
    refine r_aload_n i_103_11 rfl ?_
    refine r_getF (v := .ref 42) i_103_12 rfl (hly 0 _ rfl) (hF.1 0 4 42 rfl) ?_
    refine r_cV (as := []) i_103_15 rfl (by decide +kernel) (Nat.le_of_ble_eq_true rfl) (Nat.le_of_ble_eq_true rfl) (hly 42 _ rfl) rfl ?_
    have q_3 := g_31_8 hG
    refine c_101 (q := x + 17) hly hF hG hA (by exact hc) (by exact hrs) (by exact hpcs) (by exact hwq) (by exact hsw) (by exact hq) (by exact hf8) (fun r_4 F_5 G_6 A_7 hF_5 hG_6 hA_7 ff_7 fg_7 fa_7 p7_0 p7_1 p7_2 p7_3 p7_4 p7_5 => ?_)
    show Re L xs 103 18 [(0, .ref 0), (1, V gap)] [V r_4] (HP ly F_5 G_6 A_7 B) _
    refine r_eq0 (t := 32) i_103_18 (by decide) (by omega) (fun u_8 => ?_) (fun u_8 => ?_)
    · skip
      refine r_lconst i_103_32 ?_
      show Re L xs 103 33 [(0, .ref 0), (1, V gap)] [.long (Int64.ofNat 0)] (HP ly F_5 G_6 A_7 B) _
      exact r_lret i_103_33 rfl (K (Int64.ofNat 0) ly F_5 G_6 A_7 B hly hF_5 hG_6 hA_7 (by intro a k hh; rw [ff_7 a k (fun h => hh (Or.inl h))]) (by intro a k hh; rw [fg_7 a k (by omega)]) (by intro a hh; rw [fa_7 a (by omega)]) (by first | exact ⟨x, z, y, u, hcv⟩ | exact CI_w hcv (by intro a k hh; rw [ff_7 a k (by omega)]) (by intro a k hh; rw [fg_7 a k (by omega)]) (by intro a hh; rw [fa_7 a (by omega)]) (wqF_c (ff_zz 48 4 (by omega)) p7_0) zzp0 (SWV_c (fg_zz 42 10 (by omega)) (fg_zz 31 8 (by omega)) (fg_zz 48 9 (by omega)) (fg_zz 42 7 (by omega)) (fa_zz 49 (by omega)) (fa_zz 50 (by omega)) (fa_zz 32 (by omega)) (fa_zz 53 (by omega)) (fa_zz 37 (by omega)) p7_2) | exact CI_w hcv (by intro a k hh; rw [ff_7 a k (by omega)]) (by intro a k hh; rw [fg_7 a k (by omega)]) (by intro a hh; rw [fa_7 a (by omega)]) p7_0 p7_1 p7_2) (by first | exact hty | exact zzp1 | exact tyV_c (by rw [ff_7 57 3 (by omega)]) (by rw [ff_7 57 4 (by omega)]) hty))
    · skip
      refine r_aload_n i_103_21 rfl ?_
      refine r_getF (v := .ref 42) i_103_22 rfl (hly 0 _ rfl) (hF_5.1 0 4 42 rfl) ?_
      refine r_iload_n i_103_25 rfl ?_
      refine r_cV (as := [V gap]) i_103_26 rfl (by decide +kernel) (Nat.le_of_ble_eq_true rfl) (Nat.le_of_ble_eq_true rfl) (hly 42 _ rfl) rfl ?_
      have q_9 := g_42_10 hG_6
      have q_10 := g_42_7 hG_6
      refine c_105 (gap := gap) hly hF_5 hG_6 hA_7 (by omega) (by exact p7_1) (by exact PCs_c (by rw [fa_7 20 (by omega)]) (by rw [fa_7 78 (by omega)]) (by rw [fa_7 52 (by omega)]) hpcs) (by exact p7_0) (by exact p7_2) (by exact p7_3) (by omega) (by omega) (by exact tyV_c (by rw [ff_7 57 3 (by omega)]) (by rw [ff_7 57 4 (by omega)]) hty) (fun r_11 ly_12 F_13 G_14 A_15 B_16 hly_12 hF_13 hG_14 hA_15 ff_16 fg_16 fa_16 p16_0 p16_1 => ?_)
      show Re L xs 103 29 [(0, .ref 0), (1, V gap)] [.long r_11] (HP ly_12 F_13 G_14 A_15 B_16) _
      refine r_go (t := 33) i_103_29 (by decide) ?_
      exact r_lret i_103_33 rfl (K r_11 ly_12 F_13 G_14 A_15 B_16 hly_12 hF_13 hG_14 hA_15 (by intro a k hh; rw [ff_16 a k (fun h => h.elim (fun h => hh (Or.inr (Or.inl h))) (fun h => hh (Or.inr (Or.inr h)))), ff_7 a k (fun h => hh (Or.inl h))]) (by intro a k hh; rw [fg_16 a k (by omega), fg_7 a k (by omega)]) (by intro a hh; rw [fa_16 a (by omega), fa_7 a (by omega)]) (by first | exact ⟨x, z, y, u, hcv⟩ | exact CI_w hcv (by intro a k hh; rw [ff_16 a k (by omega), ff_7 a k (by omega)]) (by intro a k hh; rw [fg_16 a k (by omega), fg_7 a k (by omega)]) (by intro a hh; rw [fa_16 a (by omega), fa_7 a (by omega)]) (wqF_c (ff_16 48 4 (by omega)) p7_0) p16_0 (SWV_c (fg_16 42 10 (by omega)) (fg_16 31 8 (by omega)) (fg_16 48 9 (by omega)) (fg_16 42 7 (by omega)) (fa_16 49 (by omega)) (fa_16 50 (by omega)) (fa_16 32 (by omega)) (fa_16 53 (by omega)) (fa_16 37 (by omega)) p7_2) | exact CI_w hcv (by intro a k hh; rw [ff_16 a k (by omega), ff_7 a k (by omega)]) (by intro a k hh; rw [fg_16 a k (by omega), fg_7 a k (by omega)]) (by intro a hh; rw [fa_16 a (by omega), fa_7 a (by omega)]) p7_0 p7_1 p7_2) (by first | exact hty | exact p16_1 | exact tyV_c (by rfl) (by rfl) hty))
  · skip
    refine r_ldc2 (v := -1) i_103_7 (by decide) ?_
    exact r_lret i_103_10 rfl (K ((-1)) ly F G A B hly hF hG hA (by intro a k hh; rfl) (by intro a k hh; rfl) (by intro a hh; rfl) (by first | exact ⟨x, z, y, u, hcv⟩ | exact CI_w hcv (by intro a k hh; rfl) (by intro a k hh; rfl) (by intro a hh; rfl) (wqF_c (ff_zz 48 4 (by omega)) zzp0) zzp0 (SWV_c (fg_zz 42 10 (by omega)) (fg_zz 31 8 (by omega)) (fg_zz 48 9 (by omega)) (fg_zz 42 7 (by omega)) (fa_zz 49 (by omega)) (fa_zz 50 (by omega)) (fa_zz 32 (by omega)) (fa_zz 53 (by omega)) (fa_zz 37 (by omega)) zzp2) | exact CI_w hcv (by intro a k hh; rfl) (by intro a k hh; rfl) (by intro a hh; rfl) zzp0 zzp1 zzp2) (by first | exact hty | exact zzp1 | exact tyV_c (by rfl) (by rfl) hty))
