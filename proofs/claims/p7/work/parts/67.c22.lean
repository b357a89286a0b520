set_option maxHeartbeats 4000000 in
theorem c_76 {L : Nat} {xs : Nat → Int32} {ly : List LK} {F : Nat → Nat → Value} {G A : Nat → Nat → Int} {B : Nat → Nat → Int64} {Q : Option Value → AH → Prop} {word : Int} {reading : Int} {what : Int} (hly : LyOk ly) (hF : RfOk F) (hG : GO G) (hA : AQ A) (in_word : inR word) (in_reading : inR reading) (in_what : inR what) (hci : CI F G A) (K : ∀ (r : Int) (F' : Nat → Nat → Value) (G' : Nat → Nat → Int) (A' : Nat → Nat → Int), (RfOk F') → (GO G') → (AQ A') → (∀ a k, ¬ ((a = 48 ∧ k = 4)) → F' a k = F a k) → (∀ a k, ¬ (a < 90) → G' a k = G a k) → (∀ a, ¬ (a < 91) → A' a = A a) → (CI F' G' A') → Q (some (V r)) (HP ly F' G' A' B)) : Re L xs 76 0 [(0, .ref 0), (1, V word), (2, V reading), (3, V what)] [] (HP ly F G A B) Q := by
  obtain ⟨x, z, y, u, hcv⟩ := hci
  have hcv2 := hcv
  obtain ⟨⟨⟨hx, hxz⟩, ⟨hy, hyu⟩, ⟨hb, hrb⟩, ⟨hl, hsl⟩, hwq, hpcs, hrs, hln, hch, hcb, hrv⟩, hf8, hsw, hcr⟩ := hcv2
  have hz : z = 3 ∨ z = 61 := by omega
  have hu : u = 80 ∨ u = 85 := by omega
  have hq : x + 17 = 20 ∨ x + 17 = 78 ∨ x + 17 = 52 := by omega
  have hc : ∀ w : Nat, (w : Int) < G 31 8 → 1 ≤ A 32 w := fun w hw => (hcr w hw).1
  have z8 := g_31_8 hG
  have z32 := a_32 hA word.toNat
  refine r_aload_n i_76_0 rfl ?_
  refine r_getF (v := .ref 31) i_76_1 rfl (hly 0 _ rfl) (hF.1 0 3 31 rfl) ?_
  refine r_iload_n i_76_4 rfl ?_
  refine r_iload_n i_76_5 rfl ?_
  refine r_cV (as := [V reading, V word]) i_76_6 rfl (by decide +kernel) (Nat.le_of_ble_eq_true rfl) (Nat.le_of_ble_eq_true rfl) (hly 31 _ rfl) rfl ?_
  have q_1 := g_31_8 hG
  refine c_77 (word := word) (reading := reading) hly hF hG hA (by omega) (by omega) (fun r_2 p2_0 => ?_)
  show Re L xs 76 9 [(0, .ref 0), (1, V word), (2, V reading), (3, V what)] [V r_2] (HP ly F G A B) _
  refine r_istore (l' := [(0, .ref 0), (1, V word), (2, V reading), (3, V what), (4, V r_2)]) i_76_9 (by decide +kernel) rfl ?_
  refine r_iload i_76_11 rfl ?_
  refine r_iconst i_76_13 ?_
  refine r_cne (t := 19) i_76_14 (by decide) (by omega) (by omega) (fun u_3 => ?_) (fun u_3 => ?_)
  · skip
    refine r_iload_n i_76_19 rfl ?_
    rcases (show (what < 0 ∨ 5 < what) ∨ what = 0 ∨ what = 1 ∨ what = 2 ∨ what = 3 ∨ what = 4 ∨ what = 5 by omega) with u_4 | u_4 | u_4 | u_4 | u_4 | u_4 | u_4
    · refine r_tabO (t := 138) i_76_20 (by decide) (by omega) u_4 ?_
      refine r_iconst i_76_138 ?_
      exact r_iret i_76_139 rfl rfl (K ((-1)) F G A hF hG hA (by intro a k hh; rfl) (by intro a k hh; rfl) (by intro a hh; rfl) (by exact ⟨x, z, y, u, hcv⟩))
    · refine r_tabI (t := 60) (off := 40) i_76_20 (by omega) (by omega) (by rw [u_4]; decide) (by decide) ?_
      refine r_aload_n i_76_60 rfl ?_
      refine r_getF (v := .ref 31) i_76_61 rfl (hly 0 _ rfl) (hF.1 0 3 31 rfl) ?_
      refine r_getF (v := .ref 37) i_76_64 rfl (hly 31 _ rfl) (hF.1 31 3 37 rfl) ?_
      refine r_iload i_76_67 rfl ?_
      refine r_iald i_76_69 (hly 37 _ rfl) (by omega) (by omega) (by omega) ?_
      have q_5 := a_37 hA (r_2.toNat)
      exact r_iret i_76_70 rfl rfl (K (A 37 (r_2.toNat)) F G A hF hG hA (by intro a k hh; rfl) (by intro a k hh; rfl) (by intro a hh; rfl) (by exact ⟨x, z, y, u, hcv⟩))
    · refine r_tabI (t := 71) (off := 51) i_76_20 (by omega) (by omega) (by rw [u_4]; decide) (by decide) ?_
      refine r_aload_n i_76_71 rfl ?_
      refine r_getF (v := .ref 31) i_76_72 rfl (hly 0 _ rfl) (hF.1 0 3 31 rfl) ?_
      refine r_getF (v := .ref 38) i_76_75 rfl (hly 31 _ rfl) (hF.1 31 4 38 rfl) ?_
      refine r_iload i_76_78 rfl ?_
      refine r_iald i_76_80 (hly 38 _ rfl) (by omega) (by omega) (by omega) ?_
      have q_6 := a_38 hA (r_2.toNat)
      exact r_iret i_76_81 rfl rfl (K (A 38 (r_2.toNat)) F G A hF hG hA (by intro a k hh; rfl) (by intro a k hh; rfl) (by intro a hh; rfl) (by exact ⟨x, z, y, u, hcv⟩))
    · refine r_tabI (t := 82) (off := 62) i_76_20 (by omega) (by omega) (by rw [u_4]; decide) (by decide) ?_
      refine r_aload_n i_76_82 rfl ?_
      refine r_getF (v := .ref 31) i_76_83 rfl (hly 0 _ rfl) (hF.1 0 3 31 rfl) ?_
      refine r_getF (v := .ref 33) i_76_86 rfl (hly 31 _ rfl) (hF.1 31 1 33 rfl) ?_
      refine r_iload_n i_76_89 rfl ?_
      refine r_iald i_76_90 (hly 33 _ rfl) (by omega) (by omega) (by omega) ?_
      have q_7 := a_33 hA (word.toNat)
      refine r_aload_n i_76_91 rfl ?_
      refine r_getF (v := .ref 31) i_76_92 rfl (hly 0 _ rfl) (hF.1 0 3 31 rfl) ?_
      refine r_getF (v := .ref 39) i_76_95 rfl (hly 31 _ rfl) (hF.1 31 5 39 rfl) ?_
      refine r_iload i_76_98 rfl ?_
      refine r_iald i_76_100 (hly 39 _ rfl) (by omega) (by omega) (by omega) ?_
      have q_8 := a_39 hA (r_2.toNat)
      refine r_iadd i_76_101 ?_
      exact r_iret i_76_102 rfl rfl (K ((A 33 (word.toNat)) + (A 39 (r_2.toNat))) F G A hF hG hA (by intro a k hh; rfl) (by intro a k hh; rfl) (by intro a hh; rfl) (by exact ⟨x, z, y, u, hcv⟩))
    · refine r_tabI (t := 103) (off := 83) i_76_20 (by omega) (by omega) (by rw [u_4]; decide) (by decide) ?_
      refine r_aload_n i_76_103 rfl ?_
      refine r_getF (v := .ref 31) i_76_104 rfl (hly 0 _ rfl) (hF.1 0 3 31 rfl) ?_
      refine r_getF (v := .ref 34) i_76_107 rfl (hly 31 _ rfl) (hF.1 31 2 34 rfl) ?_
      refine r_getF (v := .ref 36) i_76_110 rfl (hly 34 _ rfl) (hF.1 34 1 36 rfl) ?_
      refine r_iload i_76_113 rfl ?_
      refine r_iald i_76_115 (hly 36 _ rfl) (by omega) (by omega) (by omega) ?_
      have q_9 := a_36 hA (r_2.toNat)
      exact r_iret i_76_116 rfl rfl (K (A 36 (r_2.toNat)) F G A hF hG hA (by intro a k hh; rfl) (by intro a k hh; rfl) (by intro a hh; rfl) (by exact ⟨x, z, y, u, hcv⟩))
    · refine r_tabI (t := 117) (off := 97) i_76_20 (by omega) (by omega) (by rw [u_4]; decide) (by decide) ?_
      refine r_aload_n i_76_117 rfl ?_
      refine r_getF (v := .ref 31) i_76_118 rfl (hly 0 _ rfl) (hF.1 0 3 31 rfl) ?_
      refine r_getF (v := .ref 40) i_76_121 rfl (hly 31 _ rfl) (hF.1 31 6 40 rfl) ?_
      refine r_iload i_76_124 rfl ?_
      refine r_iald i_76_126 (hly 40 _ rfl) (by omega) (by omega) (by omega) ?_
      have q_10 := a_40 hA (r_2.toNat)
      exact r_iret i_76_127 rfl rfl (K (A 40 (r_2.toNat)) F G A hF hG hA (by intro a k hh; rfl) (by intro a k hh; rfl) (by intro a hh; rfl) (by exact ⟨x, z, y, u, hcv⟩))
    · refine r_tabI (t := 128) (off := 108) i_76_20 (by omega) (by omega) (by rw [u_4]; decide) (by decide) ?_
      refine r_aload_n i_76_128 rfl ?_
      refine r_getF (v := .ref 42) i_76_129 rfl (hly 0 _ rfl) (hF.1 0 4 42 rfl) ?_
      refine r_iload i_76_132 rfl ?_
      refine r_cV (as := [V r_2]) i_76_134 rfl (by decide +kernel) (Nat.le_of_ble_eq_true rfl) (Nat.le_of_ble_eq_true rfl) (hly 42 _ rfl) rfl ?_
      refine c_78 (slot := r_2) (q := x + 17) hly hF hG hA (by omega) (by exact hc) (by exact hrs) (by exact hpcs) (by exact hwq) (by exact hsw) (by exact hq) (by exact hf8) (by omega) (fun r_11 F_12 G_13 A_14 hF_12 hG_13 hA_14 ff_14 fg_14 fa_14 p14_0 p14_1 p14_2 p14_3 => ?_)
      show Re L xs 76 137 [(0, .ref 0), (1, V word), (2, V reading), (3, V what), (4, V r_2)] [V r_11] (HP ly F_12 G_13 A_14 B) _
      exact r_iret i_76_137 rfl rfl (K r_11 F_12 G_13 A_14 hF_12 hG_13 hA_14 (by intro a k hh; rw [ff_14 a k (fun h => hh h)]) (by intro a k hh; rw [fg_14 a k (by omega)]) (by intro a hh; rw [fa_14 a (by omega)]) (by exact CI_w hcv (by intro a k hh; rw [ff_14 a k (by omega)]) (by intro a k hh; rw [fg_14 a k (by omega)]) (by intro a hh; rw [fa_14 a (by omega)]) p14_0 p14_1 p14_2))
  · skip
    refine r_iconst i_76_17 ?_
    exact r_iret i_76_18 rfl rfl (K ((-1)) F G A hF hG hA (by intro a k hh; rfl) (by intro a k hh; rfl) (by intro a hh; rfl) (by exact ⟨x, z, y, u, hcv⟩))
set_option maxHeartbeats 4000000 in
theorem c_100 {L : Nat} {xs : Nat → Int32} {ly : List LK} {F : Nat → Nat → Value} {G A : Nat → Nat → Int} {B : Nat → Nat → Int64} {Q : Option Value → AH → Prop}  (hly : LyOk ly) (hF : RfOk F) (hG : GO G) (hA : AQ A) (hci : CI F G A) (K : ∀ (r : Int) (F' : Nat → Nat → Value) (G' : Nat → Nat → Int) (A' : Nat → Nat → Int), (RfOk F') → (GO G') → (AQ A') → (∀ a k, ¬ ((a = 48 ∧ k = 4)) → F' a k = F a k) → (∀ a k, ¬ (a < 90) → G' a k = G a k) → (∀ a, ¬ (a < 91) → A' a = A a) → (CI F' G' A') → Q (some (V r)) (HP ly F' G' A' B)) : Re L xs 100 0 [(0, .ref 0)] [] (HP ly F G A B) Q := by
  obtain ⟨x, z, y, u, hcv⟩ := hci
  have hcv2 := hcv
  obtain ⟨⟨⟨hx, hxz⟩, ⟨hy, hyu⟩, ⟨hb, hrb⟩, ⟨hl, hsl⟩, hwq, hpcs, hrs, hln, hch, hcb, hrv⟩, hf8, hsw, hcr⟩ := hcv2
  have hz : z = 3 ∨ z = 61 := by omega
  have hu : u = 80 ∨ u = 85 := by omega
  have hq : x + 17 = 20 ∨ x + 17 = 78 ∨ x + 17 = 52 := by omega
  have hc : ∀ w : Nat, (w : Int) < G 31 8 → 1 ≤ A 32 w := fun w hw => (hcr w hw).1
  have z8 := g_31_8 hG
  refine r_aload_n i_100_0 rfl ?_
  refine r_getF (v := .ref 42) i_100_1 rfl (hly 0 _ rfl) (hF.1 0 4 42 rfl) ?_
  refine r_cV (as := []) i_100_4 rfl (by decide +kernel) (Nat.le_of_ble_eq_true rfl) (Nat.le_of_ble_eq_true rfl) (hly 42 _ rfl) rfl ?_
  have q_1 := g_31_8 hG
  refine c_101 (q := x + 17) hly hF hG hA (by exact hc) (by exact hrs) (by exact hpcs) (by exact hwq) (by exact hsw) (by exact hq) (by exact hf8) (fun r_2 F_3 G_4 A_5 hF_3 hG_4 hA_5 ff_5 fg_5 fa_5 p5_0 p5_1 p5_2 p5_3 p5_4 p5_5 => ?_)
  show Re L xs 100 7 [(0, .ref 0)] [V r_2] (HP ly F_3 G_4 A_5 B) _
  refine r_eq0 (t := 20) i_100_7 (by decide) (by omega) (fun u_6 => ?_) (fun u_6 => ?_)
  · skip
    refine r_bipush i_100_20 (by decide) ?_
    exact r_iret i_100_22 rfl rfl (K ((-2)) F_3 G_4 A_5 hF_3 hG_4 hA_5 (by intro a k hh; rw [ff_5 a k (fun h => hh h)]) (by intro a k hh; rw [fg_5 a k (by omega)]) (by intro a hh; rw [fa_5 a (by omega)]) (by exact CI_w hcv (by intro a k hh; rw [ff_5 a k (by omega)]) (by intro a k hh; rw [fg_5 a k (by omega)]) (by intro a hh; rw [fa_5 a (by omega)]) p5_0 p5_1 p5_2))
  · skip
    refine r_aload_n i_100_10 rfl ?_
    refine r_getF (v := .ref 42) i_100_11 rfl (hly 0 _ rfl) (hF_3.1 0 4 42 rfl) ?_
    refine r_getI i_100_14 rfl (hly 42 _ rfl) ?_
    have q_7 := g_42_7 hG_4
    refine r_go (t := 22) i_100_17 (by decide) ?_
    exact r_iret i_100_22 rfl rfl (K (G_4 42 7) F_3 G_4 A_5 hF_3 hG_4 hA_5 (by intro a k hh; rw [ff_5 a k (fun h => hh h)]) (by intro a k hh; rw [fg_5 a k (by omega)]) (by intro a hh; rw [fa_5 a (by omega)]) (by exact CI_w hcv (by intro a k hh; rw [ff_5 a k (by omega)]) (by intro a k hh; rw [fg_5 a k (by omega)]) (by intro a hh; rw [fa_5 a (by omega)]) p5_0 p5_1 p5_2))
set_option maxHeartbeats 4000000 in
theorem c_102 {L : Nat} {xs : Nat → Int32} {ly : List LK} {F : Nat → Nat → Value} {G A : Nat → Nat → Int} {B : Nat → Nat → Int64} {Q : Option Value → AH → Prop} {word : Int} (hly : LyOk ly) (hF : RfOk F) (hG : GO G) (hA : AQ A) (in_word : inR word) (hci : CI F G A) (K : ∀ (r : Int) (F' : Nat → Nat → Value) (G' : Nat → Nat → Int) (A' : Nat → Nat → Int), (RfOk F') → (GO G') → (AQ A') → (∀ a k, ¬ ((a = 48 ∧ k = 4)) → F' a k = F a k) → (∀ a k, ¬ (a < 90) → G' a k = G a k) → (∀ a, ¬ (a < 91) → A' a = A a) → (CI F' G' A') → Q (some (V r)) (HP ly F' G' A' B)) : Re L xs 102 0 [(0, .ref 0), (1, V word)] [] (HP ly F G A B) Q := by
  obtain ⟨x, z, y, u, hcv⟩ := hci
  have hcv2 := hcv
  obtain ⟨⟨⟨hx, hxz⟩, ⟨hy, hyu⟩, ⟨hb, hrb⟩, ⟨hl, hsl⟩, hwq, hpcs, hrs, hln, hch, hcb, hrv⟩, hf8, hsw, hcr⟩ := hcv2
  have hz : z = 3 ∨ z = 61 := by omega
  have hu : u = 80 ∨ u = 85 := by omega
  have hq : x + 17 = 20 ∨ x + 17 = 78 ∨ x + 17 = 52 := by omega
  have hc : ∀ w : Nat, (w : Int) < G 31 8 → 1 ≤ A 32 w := fun w hw => (hcr w hw).1
  have z8 := g_31_8 hG
  refine r_aload_n i_102_0 rfl ?_
  refine r_getF (v := .ref 31) i_102_1 rfl (hly 0 _ rfl) (hF.1 0 3 31 rfl) ?_
  refine r_iload_n i_102_4 rfl ?_
  refine r_cV (as := [V word]) i_102_5 rfl (by decide +kernel) (Nat.le_of_ble_eq_true rfl) (Nat.le_of_ble_eq_true rfl) (hly 31 _ rfl) rfl ?_
  have q_1 := g_31_8 hG
  refine c_75 (word := word) hly hF hG hA (by omega) (fun r_2 p2_0 p2_1 => ?_)
  show Re L xs 102 8 [(0, .ref 0), (1, V word)] [V r_2] (HP ly F G A B) _
  refine r_eq0 (t := 33) i_102_8 (by decide) (by omega) (fun u_3 => ?_) (fun u_3 => ?_)
  · skip
    refine r_iconst i_102_33 ?_
    exact r_iret i_102_34 rfl rfl (K ((-1)) F G A hF hG hA (by intro a k hh; rfl) (by intro a k hh; rfl) (by intro a hh; rfl) (by first | exact ⟨x, z, y, u, hcv⟩ | exact CI_w hcv (by intro a k hh; rfl) (by intro a k hh; rfl) (by intro a hh; rfl) zzp0 zzp1 zzp2))
  · skip
    refine r_aload_n i_102_11 rfl ?_
    refine r_getF (v := .ref 42) i_102_12 rfl (hly 0 _ rfl) (hF.1 0 4 42 rfl) ?_
    refine r_cV (as := []) i_102_15 rfl (by decide +kernel) (Nat.le_of_ble_eq_true rfl) (Nat.le_of_ble_eq_true rfl) (hly 42 _ rfl) rfl ?_
    refine c_101 (q := x + 17) hly hF hG hA (by exact hc) (by exact hrs) (by exact hpcs) (by exact hwq) (by exact hsw) (by exact hq) (by exact hf8) (fun r_4 F_5 G_6 A_7 hF_5 hG_6 hA_7 ff_7 fg_7 fa_7 p7_0 p7_1 p7_2 p7_3 p7_4 p7_5 => ?_)
    show Re L xs 102 18 [(0, .ref 0), (1, V word)] [V r_4] (HP ly F_5 G_6 A_7 B) _
    refine r_eq0 (t := 33) i_102_18 (by decide) (by omega) (fun u_8 => ?_) (fun u_8 => ?_)
    · skip
      refine r_iconst i_102_33 ?_
      exact r_iret i_102_34 rfl rfl (K ((-1)) F_5 G_6 A_7 hF_5 hG_6 hA_7 (by intro a k hh; rw [ff_7 a k (fun h => hh h)]) (by intro a k hh; rw [fg_7 a k (by omega)]) (by intro a hh; rw [fa_7 a (by omega)]) (by first | exact ⟨x, z, y, u, hcv⟩ | exact CI_w hcv (by intro a k hh; rw [ff_7 a k (by omega)]) (by intro a k hh; rw [fg_7 a k (by omega)]) (by intro a hh; rw [fa_7 a (by omega)]) p7_0 p7_1 p7_2))
    · skip
      refine r_aload_n i_102_21 rfl ?_
      refine r_getF (v := .ref 42) i_102_22 rfl (hly 0 _ rfl) (hF_5.1 0 4 42 rfl) ?_
      refine r_getF (v := .ref 44) i_102_25 rfl (hly 42 _ rfl) (hF_5.1 42 4 44 rfl) ?_
      refine r_iload_n i_102_28 rfl ?_
      refine r_iald i_102_29 (hly 44 _ rfl) (by omega) (by omega) (by omega) ?_
      have q_9 := a_44 hA_7 (word.toNat)
      refine r_go (t := 34) i_102_30 (by decide) ?_
      exact r_iret i_102_34 rfl rfl (K (A_7 44 (word.toNat)) F_5 G_6 A_7 hF_5 hG_6 hA_7 (by intro a k hh; rw [ff_7 a k (fun h => hh h)]) (by intro a k hh; rw [fg_7 a k (by omega)]) (by intro a hh; rw [fa_7 a (by omega)]) (by first | exact ⟨x, z, y, u, hcv⟩ | exact CI_w hcv (by intro a k hh; rw [ff_7 a k (by omega)]) (by intro a k hh; rw [fg_7 a k (by omega)]) (by intro a hh; rw [fa_7 a (by omega)]) p7_0 p7_1 p7_2))
set_option maxHeartbeats 4000000 in
theorem c_115 {L : Nat} {xs : Nat → Int32} {ly : List LK} {F : Nat → Nat → Value} {G A : Nat → Nat → Int} {B : Nat → Nat → Int64} {Q : Option Value → AH → Prop} {word : Int} {gap : Int} (hly : LyOk ly) (hF : RfOk F) (hG : GO G) (hA : AQ A) (in_word : inR word) (in_gap : inR gap) (hci : CI F G A) (K : ∀ (r : Int) (F' : Nat → Nat → Value) (G' : Nat → Nat → Int) (A' : Nat → Nat → Int), (RfOk F') → (GO G') → (AQ A') → (∀ a k, ¬ ((a = 48 ∧ k = 4)) → F' a k = F a k) → (∀ a k, ¬ (a < 90) → G' a k = G a k) → (∀ a, ¬ (a < 91) → A' a = A a) → (CI F' G' A') → Q (some (V r)) (HP ly F' G' A' B)) : Re L xs 115 0 [(0, .ref 0), (1, V word), (2, V gap)] [] (HP ly F G A B) Q := by
  obtain ⟨x, z, y, u, hcv⟩ := hci
  have hcv2 := hcv
  obtain ⟨⟨⟨hx, hxz⟩, ⟨hy, hyu⟩, ⟨hb, hrb⟩, ⟨hl, hsl⟩, hwq, hpcs, hrs, hln, hch, hcb, hrv⟩, hf8, hsw, hcr⟩ := hcv2
  have hz : z = 3 ∨ z = 61 := by omega
  have hu : u = 80 ∨ u = 85 := by omega
  have hq : x + 17 = 20 ∨ x + 17 = 78 ∨ x + 17 = 52 := by omega
  have hc : ∀ w : Nat, (w : Int) < G 31 8 → 1 ≤ A 32 w := fun w hw => (hcr w hw).1
  have z8 := g_31_8 hG
  refine r_aload_n i_115_0 rfl ?_
  refine r_getF (v := .ref 31) i_115_1 rfl (hly 0 _ rfl) (hF.1 0 3 31 rfl) ?_
  refine r_iload_n i_115_4 rfl ?_
  refine r_cV (as := [V word]) i_115_5 rfl (by decide +kernel) (Nat.le_of_ble_eq_true rfl) (Nat.le_of_ble_eq_true rfl) (hly 31 _ rfl) rfl ?_
  have q_1 := g_31_8 hG
  refine c_75 (word := word) hly hF hG hA (by omega) (fun r_2 p2_0 p2_1 => ?_)
  show Re L xs 115 8 [(0, .ref 0), (1, V word), (2, V gap)] [V r_2] (HP ly F G A B) _
  refine r_eq0 (t := 28) i_115_8 (by decide) (by omega) (fun u_3 => ?_) (fun u_3 => ?_)
  · skip
    refine r_iconst i_115_28 ?_
    exact r_iret i_115_29 rfl rfl (K ((-1)) F G A hF hG hA (by intro a k hh; rfl) (by intro a k hh; rfl) (by intro a hh; rfl) (by first | exact ⟨x, z, y, u, hcv⟩ | exact CI_w hcv (by intro a k hh; rfl) (by intro a k hh; rfl) (by intro a hh; rfl) zzp0 zzp1 zzp2))
  · skip
    refine r_iload_n i_115_11 rfl ?_
    refine r_cS (as := [V gap]) i_115_12 rfl (by decide +kernel) (Nat.le_of_ble_eq_true rfl) (Nat.le_of_ble_eq_true rfl) ?_
    refine c_104 (g := gap) hly hF hG hA (by omega) (fun r_4 p4_0 p4_1 => ?_)
    show Re L xs 115 15 [(0, .ref 0), (1, V word), (2, V gap)] [V r_4] (HP ly F G A B) _
    refine r_eq0 (t := 28) i_115_15 (by decide) (by omega) (fun u_5 => ?_) (fun u_5 => ?_)
    · skip
      refine r_iconst i_115_28 ?_
      exact r_iret i_115_29 rfl rfl (K ((-1)) F G A hF hG hA (by intro a k hh; rfl) (by intro a k hh; rfl) (by intro a hh; rfl) (by first | exact ⟨x, z, y, u, hcv⟩ | exact CI_w hcv (by intro a k hh; rfl) (by intro a k hh; rfl) (by intro a hh; rfl) zzp0 zzp1 zzp2))
    · skip
      refine r_aload_n i_115_18 rfl ?_
      refine r_getF (v := .ref 42) i_115_19 rfl (hly 0 _ rfl) (hF.1 0 4 42 rfl) ?_
      refine r_cV (as := []) i_115_22 rfl (by decide +kernel) (Nat.le_of_ble_eq_true rfl) (Nat.le_of_ble_eq_true rfl) (hly 42 _ rfl) rfl ?_
      refine c_101 (q := x + 17) hly hF hG hA (by exact hc) (by exact hrs) (by exact hpcs) (by exact hwq) (by exact hsw) (by exact hq) (by exact hf8) (fun r_6 F_7 G_8 A_9 hF_7 hG_8 hA_9 ff_9 fg_9 fa_9 p9_0 p9_1 p9_2 p9_3 p9_4 p9_5 => ?_)
      show Re L xs 115 25 [(0, .ref 0), (1, V word), (2, V gap)] [V r_6] (HP ly F_7 G_8 A_9 B) _
      refine r_ne0 (t := 30) i_115_25 (by decide) (by omega) (fun u_10 => ?_) (fun u_10 => ?_)
      · skip
        refine r_aload_n i_115_30 rfl ?_
        refine r_getF (v := .ref 42) i_115_31 rfl (hly 0 _ rfl) (hF_7.1 0 4 42 rfl) ?_
        refine r_iload_n i_115_34 rfl ?_
        refine r_iload_n i_115_35 rfl ?_
        refine r_cV (as := [V gap, V word]) i_115_36 rfl (by decide +kernel) (Nat.le_of_ble_eq_true rfl) (Nat.le_of_ble_eq_true rfl) (hly 42 _ rfl) rfl ?_
        refine c_116 (word := word) (gap := gap) hly hF_7 hG_8 hA_9 (by omega) (by omega) (by omega) (by omega) (fun r_11 p11_0 p11_1 => ?_)
        show Re L xs 115 39 [(0, .ref 0), (1, V word), (2, V gap)] [V r_11] (HP ly F_7 G_8 A_9 B) _
        refine r_eq0 (t := 46) i_115_39 (by decide) (by omega) (fun u_12 => ?_) (fun u_12 => ?_)
        · skip
          refine r_iconst i_115_46 ?_
          exact r_iret i_115_47 rfl rfl (K 0 F_7 G_8 A_9 hF_7 hG_8 hA_9 (by intro a k hh; rw [ff_9 a k (fun h => hh h)]) (by intro a k hh; rw [fg_9 a k (by omega)]) (by intro a hh; rw [fa_9 a (by omega)]) (by first | exact ⟨x, z, y, u, hcv⟩ | exact CI_w hcv (by intro a k hh; rw [ff_9 a k (by omega)]) (by intro a k hh; rw [fg_9 a k (by omega)]) (by intro a hh; rw [fa_9 a (by omega)]) p9_0 p9_1 p9_2))
        · skip
          refine r_iconst i_115_42 ?_
          refine r_go (t := 47) i_115_43 (by decide) ?_
          exact r_iret i_115_47 rfl rfl (K 1 F_7 G_8 A_9 hF_7 hG_8 hA_9 (by intro a k hh; rw [ff_9 a k (fun h => hh h)]) (by intro a k hh; rw [fg_9 a k (by omega)]) (by intro a hh; rw [fa_9 a (by omega)]) (by first | exact ⟨x, z, y, u, hcv⟩ | exact CI_w hcv (by intro a k hh; rw [ff_9 a k (by omega)]) (by intro a k hh; rw [fg_9 a k (by omega)]) (by intro a hh; rw [fa_9 a (by omega)]) p9_0 p9_1 p9_2))
      · skip
        refine r_iconst i_115_28 ?_
        exact r_iret i_115_29 rfl rfl (K ((-1)) F_7 G_8 A_9 hF_7 hG_8 hA_9 (by intro a k hh; rw [ff_9 a k (fun h => hh h)]) (by intro a k hh; rw [fg_9 a k (by omega)]) (by intro a hh; rw [fa_9 a (by omega)]) (by first | exact ⟨x, z, y, u, hcv⟩ | exact CI_w hcv (by intro a k hh; rw [ff_9 a k (by omega)]) (by intro a k hh; rw [fg_9 a k (by omega)]) (by intro a hh; rw [fa_9 a (by omega)]) p9_0 p9_1 p9_2))
set_option maxHeartbeats 4000000 in
theorem c_120 {L : Nat} {xs : Nat → Int32} {ly : List LK} {F : Nat → Nat → Value} {G A : Nat → Nat → Int} {B : Nat → Nat → Int64} {Q : Option Value → AH → Prop} {gap : Int} {k : Int} (hly : LyOk ly) (hF : RfOk F) (hG : GO G) (hA : AQ A) (in_gap : inR gap) (in_k : inR k) (hci : CI F G A) (K : ∀ (r : Int) (F' : Nat → Nat → Value) (G' : Nat → Nat → Int) (A' : Nat → Nat → Int), (RfOk F') → (GO G') → (AQ A') → (∀ a k, ¬ ((a = 48 ∧ k = 4)) → F' a k = F a k) → (∀ a k, ¬ (a < 90) → G' a k = G a k) → (∀ a, ¬ (a < 91) → A' a = A a) → (CI F' G' A') → Q (some (V r)) (HP ly F' G' A' B)) : Re L xs 120 0 [(0, .ref 0), (1, V gap), (2, V k)] [] (HP ly F G A B) Q := by
  obtain ⟨x, z, y, u, hcv⟩ := hci
  have hcv2 := hcv
  obtain ⟨⟨⟨hx, hxz⟩, ⟨hy, hyu⟩, ⟨hb, hrb⟩, ⟨hl, hsl⟩, hwq, hpcs, hrs, hln, hch, hcb, hrv⟩, hf8, hsw, hcr⟩ := hcv2
  have hz : z = 3 ∨ z = 61 := by omega
  have hu : u = 80 ∨ u = 85 := by omega
  have hq : x + 17 = 20 ∨ x + 17 = 78 ∨ x + 17 = 52 := by omega
  have hc : ∀ w : Nat, (w : Int) < G 31 8 → 1 ≤ A 32 w := fun w hw => (hcr w hw).1
  have z8 := g_31_8 hG
  refine r_iload_n i_120_0 rfl ?_
  refine r_cS (as := [V gap]) i_120_1 rfl (by decide +kernel) (Nat.le_of_ble_eq_true rfl) (Nat.le_of_ble_eq_true rfl) ?_
  refine c_104 (g := gap) hly hF hG hA (by omega) (fun r_1 p1_0 p1_1 => ?_)
  show Re L xs 120 4 [(0, .ref 0), (1, V gap), (2, V k)] [V r_1] (HP ly F G A B) _
  refine r_eq0 (t := 22) i_120_4 (by decide) (by omega) (fun u_2 => ?_) (fun u_2 => ?_)
  · skip
    refine r_iconst i_120_22 ?_
    exact r_iret i_120_23 rfl rfl (K ((-1)) F G A hF hG hA (by intro a k hh; rfl) (by intro a k hh; rfl) (by intro a hh; rfl) (by first | exact ⟨x, z, y, u, hcv⟩ | exact CI_w hcv (by intro a k hh; rfl) (by intro a k hh; rfl) (by intro a hh; rfl) zzp0 zzp1 zzp2))
  · skip
    refine r_iload_n i_120_7 rfl ?_
    refine r_lt0 (t := 22) i_120_8 (by decide) (by omega) (fun u_3 => ?_) (fun u_3 => ?_)
    · skip
      refine r_iconst i_120_22 ?_
      exact r_iret i_120_23 rfl rfl (K ((-1)) F G A hF hG hA (by intro a k hh; rfl) (by intro a k hh; rfl) (by intro a hh; rfl) (by first | exact ⟨x, z, y, u, hcv⟩ | exact CI_w hcv (by intro a k hh; rfl) (by intro a k hh; rfl) (by intro a hh; rfl) zzp0 zzp1 zzp2))
    · skip
      refine r_iload_n i_120_11 rfl ?_
      refine r_aload_n i_120_12 rfl ?_
      refine r_getF (v := .ref y) i_120_13 rfl (hly 0 _ rfl) hl ?_
      refine r_getI i_120_16 rfl (Ly_0 hly hy) ?_
      have q_4 := Gy_0_4 hG hy
      refine r_clt (t := 24) i_120_19 (by decide) (by omega) (by omega) (fun u_5 => ?_) (fun u_5 => ?_)
      · skip
        refine r_aload_n i_120_24 rfl ?_
        refine r_getF (v := .ref y) i_120_25 rfl (hly 0 _ rfl) hl ?_
        refine r_iload_n i_120_28 rfl ?_
        refine r_cV (as := [V k]) i_120_29 rfl (by decide +kernel) (Nat.le_of_ble_eq_true rfl) (Nat.le_of_ble_eq_true rfl) (Ly_0 hly hy) rfl ?_
        refine c_121 (y := y) (k := k) hly hF hG hA (by omega) (by omega) (fun r_6 p6_0 p6_1 => ?_)
        show Re L xs 120 32 [(0, .ref 0), (1, V gap), (2, V k)] [V r_6] (HP ly F G A B) _
        refine r_istore_n (l' := [(0, .ref 0), (1, V gap), (2, V k), (3, V r_6)]) i_120_32 (by decide +kernel) rfl ?_
        refine r_iload_n i_120_33 rfl ?_
        refine r_iconst i_120_34 ?_
        refine r_ceq (t := 60) i_120_35 (by decide) (by omega) (by omega) (fun u_7 => ?_) (fun u_7 => ?_)
        · skip
          refine r_aload_n i_120_60 rfl ?_
          refine r_getF (v := .ref y) i_120_61 rfl (hly 0 _ rfl) hl ?_
          refine r_getF (v := .ref (y + 1)) i_120_64 rfl (Ly_0 hly hy) (Ry_0_0 hF hy) ?_
          refine r_iload_n i_120_67 rfl ?_
          refine r_cald i_120_68 (Ly_1 hly hy) (by omega) (by omega) (by omega) ?_
          have q_8 := Ay_1 hA hy (k.toNat)
          exact r_iret i_120_69 rfl rfl (K (A (y + 1) (k.toNat)) F G A hF hG hA (by intro a k hh; rfl) (by intro a k hh; rfl) (by intro a hh; rfl) (by first | exact ⟨x, z, y, u, hcv⟩ | exact CI_w hcv (by intro a k hh; rfl) (by intro a k hh; rfl) (by intro a hh; rfl) zzp0 zzp1 zzp2))
        · skip
          refine r_aload_n i_120_38 rfl ?_
          refine r_getF (v := .ref 42) i_120_39 rfl (hly 0 _ rfl) (hF.1 0 4 42 rfl) ?_
          refine r_cV (as := []) i_120_42 rfl (by decide +kernel) (Nat.le_of_ble_eq_true rfl) (Nat.le_of_ble_eq_true rfl) (hly 42 _ rfl) rfl ?_
          have q_9 := g_31_8 hG
          refine c_101 (q := x + 17) hly hF hG hA (by exact hc) (by exact hrs) (by exact hpcs) (by exact hwq) (by exact hsw) (by exact hq) (by exact hf8) (fun r_10 F_11 G_12 A_13 hF_11 hG_12 hA_13 ff_13 fg_13 fa_13 p13_0 p13_1 p13_2 p13_3 p13_4 p13_5 => ?_)
          show Re L xs 120 45 [(0, .ref 0), (1, V gap), (2, V k), (3, V r_6)] [V r_10] (HP ly F_11 G_12 A_13 B) _
          refine r_eq0 (t := 60) i_120_45 (by decide) (by omega) (fun u_14 => ?_) (fun u_14 => ?_)
          · skip
            refine r_aload_n i_120_60 rfl ?_
            refine r_getF (v := .ref y) i_120_61 rfl (hly 0 _ rfl) (by rw [ff_13 0 7 (by omega)]; exact hl) ?_
            refine r_getF (v := .ref (y + 1)) i_120_64 rfl (Ly_0 hly hy) (Ry_0_0 hF_11 hy) ?_
            refine r_iload_n i_120_67 rfl ?_
            refine r_cald i_120_68 (Ly_1 hly hy) (by omega) (by omega) (by omega) ?_
            rw [show A_13 (y + 1) = A (y + 1) from by rw [fa_13 (y + 1) (by omega)]]
            have q_15 := Ay_1 hA hy (k.toNat)
            exact r_iret i_120_69 rfl rfl (K (A (y + 1) (k.toNat)) F_11 G_12 A_13 hF_11 hG_12 hA_13 (by intro a k hh; rw [ff_13 a k (fun h => hh h)]) (by intro a k hh; rw [fg_13 a k (by omega)]) (by intro a hh; rw [fa_13 a (by omega)]) (by first | exact ⟨x, z, y, u, hcv⟩ | exact CI_w hcv (by intro a k hh; rw [ff_13 a k (by omega)]) (by intro a k hh; rw [fg_13 a k (by omega)]) (by intro a hh; rw [fa_13 a (by omega)]) p13_0 p13_1 p13_2))
          · skip
            refine r_aload_n i_120_48 rfl ?_
            refine r_getF (v := .ref 42) i_120_49 rfl (hly 0 _ rfl) (hF_11.1 0 4 42 rfl) ?_
            refine r_iload_n i_120_52 rfl ?_
            refine r_iload_n i_120_53 rfl ?_
            refine r_cV (as := [V gap, V r_6]) i_120_54 rfl (by decide +kernel) (Nat.le_of_ble_eq_true rfl) (Nat.le_of_ble_eq_true rfl) (hly 42 _ rfl) rfl ?_
            refine c_116 (word := r_6) (gap := gap) hly hF_11 hG_12 hA_13 (by omega) (by omega) (by omega) (by omega) (fun r_16 p16_0 p16_1 => ?_)
            show Re L xs 120 57 [(0, .ref 0), (1, V gap), (2, V k), (3, V r_6)] [V r_16] (HP ly F_11 G_12 A_13 B) _
            refine r_ne0 (t := 70) i_120_57 (by decide) (by omega) (fun u_17 => ?_) (fun u_17 => ?_)
            · skip
              have zl := Ay_3 hA hy r_6.toNat
              refine r_aload_n i_120_70 rfl ?_
              refine r_getF (v := .ref 31) i_120_71 rfl (hly 0 _ rfl) (hF_11.1 0 3 31 rfl) ?_
              refine r_getF (v := .ref 34) i_120_74 rfl (hly 31 _ rfl) (hF_11.1 31 2 34 rfl) ?_
              refine r_aload_n i_120_77 rfl ?_
              refine r_getF (v := .ref 42) i_120_78 rfl (hly 0 _ rfl) (hF_11.1 0 4 42 rfl) ?_
              refine r_iload_n i_120_81 rfl ?_
              refine r_iload_n i_120_82 rfl ?_
              refine r_cV (as := [V gap, V r_6]) i_120_83 rfl (by decide +kernel) (Nat.le_of_ble_eq_true rfl) (Nat.le_of_ble_eq_true rfl) (hly 42 _ rfl) rfl ?_
              refine c_122 (word := r_6) (gap := gap) hly hF_11 hG_12 hA_13 (by omega) (by omega) (by omega) (by omega) (by exact p16_1 (by omega)) (fun r_18 p18_0 => ?_)
              show Re L xs 120 86 [(0, .ref 0), (1, V gap), (2, V k), (3, V r_6)] [V r_18, .ref 34] (HP ly F_11 G_12 A_13 B) _
              refine r_iload_n i_120_86 rfl ?_
              refine r_aload_n i_120_87 rfl ?_
              refine r_getF (v := .ref y) i_120_88 rfl (hly 0 _ rfl) (by rw [ff_13 0 7 (by omega)]; exact hl) ?_
              refine r_getF (v := .ref (y + 2)) i_120_91 rfl (Ly_0 hly hy) (Ry_0_1 hF_11 hy) ?_
              refine r_iload_n i_120_94 rfl ?_
              refine r_iald i_120_95 (Ly_2 hly hy) (by omega) (by omega) (by omega) ?_
              rw [show A_13 (y + 2) = A (y + 2) from by rw [fa_13 (y + 2) (by omega)]]
              have q_19 := Ay_2 hA hy (r_6.toNat)
              refine r_isub i_120_96 ?_
              refine r_cV (as := [V (k - (A (y + 2) (r_6.toNat))), V r_18]) i_120_97 rfl (by decide +kernel) (Nat.le_of_ble_eq_true rfl) (Nat.le_of_ble_eq_true rfl) (hly 34 _ rfl) rfl ?_
              refine c_32 (f := 34) (index := r_18) (k := k - (A (y + 2) (r_6.toNat))) (cap := 168) hly hF_11 hG_12 hA_13 (by omega) (by omega) (by exact Fm_s) (by omega) (by omega) (fun r_20 p20_0 => ?_)
              show Re L xs 120 100 [(0, .ref 0), (1, V gap), (2, V k), (3, V r_6)] [V r_20] (HP ly F_11 G_12 A_13 B) _
              exact r_iret i_120_100 rfl rfl (K r_20 F_11 G_12 A_13 hF_11 hG_12 hA_13 (by intro a k hh; rw [ff_13 a k (fun h => hh h)]) (by intro a k hh; rw [fg_13 a k (by omega)]) (by intro a hh; rw [fa_13 a (by omega)]) (by first | exact ⟨x, z, y, u, hcv⟩ | exact CI_w hcv (by intro a k hh; rw [ff_13 a k (by omega)]) (by intro a k hh; rw [fg_13 a k (by omega)]) (by intro a hh; rw [fa_13 a (by omega)]) p13_0 p13_1 p13_2))
            · skip
              refine r_aload_n i_120_60 rfl ?_
              refine r_getF (v := .ref y) i_120_61 rfl (hly 0 _ rfl) (by rw [ff_13 0 7 (by omega)]; exact hl) ?_
              refine r_getF (v := .ref (y + 1)) i_120_64 rfl (Ly_0 hly hy) (Ry_0_0 hF_11 hy) ?_
              refine r_iload_n i_120_67 rfl ?_
              refine r_cald i_120_68 (Ly_1 hly hy) (by omega) (by omega) (by omega) ?_
              rw [show A_13 (y + 1) = A (y + 1) from by rw [fa_13 (y + 1) (by omega)]]
              have q_21 := Ay_1 hA hy (k.toNat)
              exact r_iret i_120_69 rfl rfl (K (A (y + 1) (k.toNat)) F_11 G_12 A_13 hF_11 hG_12 hA_13 (by intro a k hh; rw [ff_13 a k (fun h => hh h)]) (by intro a k hh; rw [fg_13 a k (by omega)]) (by intro a hh; rw [fa_13 a (by omega)]) (by first | exact ⟨x, z, y, u, hcv⟩ | exact CI_w hcv (by intro a k hh; rw [ff_13 a k (by omega)]) (by intro a k hh; rw [fg_13 a k (by omega)]) (by intro a hh; rw [fa_13 a (by omega)]) p13_0 p13_1 p13_2))
      · skip
        refine r_iconst i_120_22 ?_
        exact r_iret i_120_23 rfl rfl (K ((-1)) F G A hF hG hA (by intro a k hh; rfl) (by intro a k hh; rfl) (by intro a hh; rfl) (by first | exact ⟨x, z, y, u, hcv⟩ | exact CI_w hcv (by intro a k hh; rfl) (by intro a k hh; rfl) (by intro a hh; rfl) zzp0 zzp1 zzp2))
set_option maxHeartbeats 4000000 in
theorem c_127 {L : Nat} {xs : Nat → Int32} {ly : List LK} {F : Nat → Nat → Value} {G A : Nat → Nat → Int} {B : Nat → Nat → Int64} {Q : Option Value → AH → Prop} {gap : Int} (hly : LyOk ly) (hF : RfOk F) (hG : GO G) (hA : AQ A) (in_gap : inR gap) (hci : CI F G A) (K : ∀ (r : Int) (F' : Nat → Nat → Value) (G' : Nat → Nat → Int) (A' : Nat → Nat → Int), (RfOk F') → (GO G') → (AQ A') → (∀ a k, ¬ ((a = 48 ∧ k = 4)) → F' a k = F a k) → (∀ a k, ¬ (a < 90) → G' a k = G a k) → (∀ a, ¬ (a < 91) → A' a = A a) → (CI F' G' A') → Q (some (V r)) (HP ly F' G' A' B)) : Re L xs 127 0 [(0, .ref 0), (1, V gap)] [] (HP ly F G A B) Q := by
  obtain ⟨x, z, y, u, hcv⟩ := hci
  have hcv2 := hcv
  obtain ⟨⟨⟨hx, hxz⟩, ⟨hy, hyu⟩, ⟨hb, hrb⟩, ⟨hl, hsl⟩, hwq, hpcs, hrs, hln, hch, hcb, hrv⟩, hf8, hsw, hcr⟩ := hcv2
  have hz : z = 3 ∨ z = 61 := by omega
  have hu : u = 80 ∨ u = 85 := by omega
  have hq : x + 17 = 20 ∨ x + 17 = 78 ∨ x + 17 = 52 := by omega
  have hc : ∀ w : Nat, (w : Int) < G 31 8 → 1 ≤ A 32 w := fun w hw => (hcr w hw).1
  have z8 := g_31_8 hG
  refine r_iload_n i_127_0 rfl ?_
  refine r_cS (as := [V gap]) i_127_1 rfl (by decide +kernel) (Nat.le_of_ble_eq_true rfl) (Nat.le_of_ble_eq_true rfl) ?_
  refine c_104 (g := gap) hly hF hG hA (by omega) (fun r_1 p1_0 p1_1 => ?_)
  show Re L xs 127 4 [(0, .ref 0), (1, V gap)] [V r_1] (HP ly F G A B) _
  refine r_eq0 (t := 28) i_127_4 (by decide) (by omega) (fun u_2 => ?_) (fun u_2 => ?_)
  · skip
    refine r_iconst i_127_28 ?_
    exact r_iret i_127_29 rfl rfl (K ((-1)) F G A hF hG hA (by intro a k hh; rfl) (by intro a k hh; rfl) (by intro a hh; rfl) (by first | exact ⟨x, z, y, u, hcv⟩ | exact CI_w hcv (by intro a k hh; rfl) (by intro a k hh; rfl) (by intro a hh; rfl) zzp0 zzp0 (SWV_c (fg_zz 42 10 (by omega)) (fg_zz 31 8 (by omega)) (fg_zz 48 9 (by omega)) (fg_zz 42 7 (by omega)) (fa_zz 49 (by omega)) (fa_zz 50 (by omega)) (fa_zz 32 (by omega)) (fa_zz 53 (by omega)) (fa_zz 37 (by omega)) zzp2) | exact CI_w hcv (by intro a k hh; rfl) (by intro a k hh; rfl) (by intro a hh; rfl) zzp0 zzp1 zzp2))
  · skip
    refine r_aload_n i_127_7 rfl ?_
    refine r_getF (v := .ref 42) i_127_8 rfl (hly 0 _ rfl) (hF.1 0 4 42 rfl) ?_
    refine r_cV (as := []) i_127_11 rfl (by decide +kernel) (Nat.le_of_ble_eq_true rfl) (Nat.le_of_ble_eq_true rfl) (hly 42 _ rfl) rfl ?_
    have q_3 := g_31_8 hG
    refine c_101 (q := x + 17) hly hF hG hA (by exact hc) (by exact hrs) (by exact hpcs) (by exact hwq) (by exact hsw) (by exact hq) (by exact hf8) (fun r_4 F_5 G_6 A_7 hF_5 hG_6 hA_7 ff_7 fg_7 fa_7 p7_0 p7_1 p7_2 p7_3 p7_4 p7_5 => ?_)
    show Re L xs 127 14 [(0, .ref 0), (1, V gap)] [V r_4] (HP ly F_5 G_6 A_7 B) _
    refine r_eq0 (t := 28) i_127_14 (by decide) (by omega) (fun u_8 => ?_) (fun u_8 => ?_)
    · skip
      refine r_iconst i_127_28 ?_
      exact r_iret i_127_29 rfl rfl (K ((-1)) F_5 G_6 A_7 hF_5 hG_6 hA_7 (by intro a k hh; rw [ff_7 a k (fun h => hh h)]) (by intro a k hh; rw [fg_7 a k (by omega)]) (by intro a hh; rw [fa_7 a (by omega)]) (by first | exact ⟨x, z, y, u, hcv⟩ | exact CI_w hcv (by intro a k hh; rw [ff_7 a k (by omega)]) (by intro a k hh; rw [fg_7 a k (by omega)]) (by intro a hh; rw [fa_7 a (by omega)]) p7_0 zzp0 (SWV_c (fg_zz 42 10 (by omega)) (fg_zz 31 8 (by omega)) (fg_zz 48 9 (by omega)) (fg_zz 42 7 (by omega)) (fa_zz 49 (by omega)) (fa_zz 50 (by omega)) (fa_zz 32 (by omega)) (fa_zz 53 (by omega)) (fa_zz 37 (by omega)) p7_2) | exact CI_w hcv (by intro a k hh; rw [ff_7 a k (by omega)]) (by intro a k hh; rw [fg_7 a k (by omega)]) (by intro a hh; rw [fa_7 a (by omega)]) p7_0 p7_1 p7_2))
    · skip
      refine r_aload_n i_127_17 rfl ?_
      refine r_getF (v := .ref 42) i_127_18 rfl (hly 0 _ rfl) (hF_5.1 0 4 42 rfl) ?_
      refine r_iload_n i_127_21 rfl ?_
      refine r_cV (as := [V gap]) i_127_22 rfl (by decide +kernel) (Nat.le_of_ble_eq_true rfl) (Nat.le_of_ble_eq_true rfl) (hly 42 _ rfl) rfl ?_
      have q_9 := g_42_10 hG_6
      have q_10 := g_42_7 hG_6
      refine c_128 (gap := gap) hly hF_5 hG_6 hA_7 (by omega) (by exact p7_1) (by exact PCs_c (by rw [fa_7 20 (by omega)]) (by rw [fa_7 78 (by omega)]) (by rw [fa_7 52 (by omega)]) hpcs) (by exact p7_0) (by exact p7_2) (by exact p7_3) (by omega) (by omega) (fun r_11 G_12 A_13 hG_12 hA_13 fg_13 fa_13 p13_0 => ?_)
      show Re L xs 127 25 [(0, .ref 0), (1, V gap)] [V r_11] (HP ly F_5 G_12 A_13 B) _
      refine r_go (t := 29) i_127_25 (by decide) ?_
      exact r_iret i_127_29 rfl rfl (K r_11 F_5 G_12 A_13 hF_5 hG_12 hA_13 (by intro a k hh; rw [ff_7 a k (fun h => hh h)]) (by intro a k hh; rw [fg_13 a k (by omega), fg_7 a k (by omega)]) (by intro a hh; rw [fa_13 a (by omega), fa_7 a (by omega)]) (by first | exact ⟨x, z, y, u, hcv⟩ | exact CI_w hcv (by intro a k hh; rw [ff_7 a k (by omega)]) (by intro a k hh; rw [fg_13 a k (by omega), fg_7 a k (by omega)]) (by intro a hh; rw [fa_13 a (by omega), fa_7 a (by omega)]) p7_0 p13_0 (SWV_c (fg_13 42 10 (by omega)) (fg_13 31 8 (by omega)) (fg_13 48 9 (by omega)) (fg_13 42 7 (by omega)) (fa_13 49 (by omega)) (fa_13 50 (by omega)) (fa_13 32 (by omega)) (fa_13 53 (by omega)) (fa_13 37 (by omega)) p7_2) | exact CI_w hcv (by intro a k hh; rw [ff_7 a k (by omega)]) (by intro a k hh; rw [fg_13 a k (by omega), fg_7 a k (by omega)]) (by intro a hh; rw [fa_13 a (by omega), fa_7 a (by omega)]) p7_0 p7_1 p7_2))
