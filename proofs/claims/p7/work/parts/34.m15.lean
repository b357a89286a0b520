set_option maxHeartbeats 4000000 in
theorem c_192 {L : Nat} {xs : Nat → Int32} {ly : List LK} {F : Nat → Nat → Value} {G A : Nat → Nat → Int} {B : Nat → Nat → Int64} {Q : Option Value → AH → Prop} {p : Int} {r0 : Int} {m : Int} {cost : Int} (hly : LyOk ly) (hF : RfOk F) (hG : GO G) (hA : AQ A) (in_p : inR p) (in_r0 : inR r0) (in_m : inR m) (in_cost : inR cost) (hp : 0 ≤ p ∧ p < G 90 38) (hr : 0 ≤ r0 ∧ r0 < 182) (hm : 0 ≤ m ∧ m ≤ 2000) (hc : 0 ≤ cost ∧ cost ≤ 1000000) (K : ∀ (r : Int), (0 ≤ r ∧ r ≤ 1) → (r = 1 ↔ chB G A p m cost r0) → Q (some (V r)) (HP ly F G A B)) : Re L xs 192 0 [(0, .ref 90), (1, V p), (2, V r0), (3, V m), (4, V cost)] [] (HP ly F G A B) Q := by
  have z38 := g_90_38 hG
  have z56 := g_90_56 hG
  refine r_aload_n i_192_0 rfl ?_
  refine r_getI i_192_1 rfl (hly 90 _ rfl) ?_
  have q_1 := g_90_56 hG
  refine r_iload_n i_192_4 rfl ?_
  refine r_isub i_192_5 ?_
  refine r_aload_n i_192_6 rfl ?_
  refine r_iload_n i_192_7 rfl ?_
  refine r_cV (as := [V r0]) i_192_8 rfl (by decide +kernel) (Nat.le_of_ble_eq_true rfl) (Nat.le_of_ble_eq_true rfl) (hly 90 _ rfl) rfl ?_
  refine c_179 (r0 := r0) hly hF hG hA (by omega) (by omega) (fun r_2 p2_0 p2_1 => ?_)
  show Re L xs 192 11 [(0, .ref 90), (1, V p), (2, V r0), (3, V m), (4, V cost)] [V r_2, V ((G 90 56) - m)] (HP ly F G A B) _
  refine r_isub i_192_11 ?_
  refine r_istore (l' := [(0, .ref 90), (1, V p), (2, V r0), (3, V m), (4, V cost), (5, V (((G 90 56) - m) - r_2))]) i_192_12 (by decide +kernel) rfl ?_
  refine r_iload i_192_14 rfl ?_
  refine r_lt0 (t := 27) i_192_16 (by decide) (by omega) (fun c_3 => ?_) (fun c_3 => ?_)
  · skip
    refine r_iconst i_192_27 ?_
    exact r_iret i_192_28 rfl (nar_Z (by omega)) (K 0 (by omega) (by unfold chB; rw [← p2_0]; constructor <;> (intro h; exfalso; omega)))
  · skip
    refine r_iload i_192_19 rfl ?_
    refine r_sipush i_192_21 (by decide) ?_
    refine r_clt (t := 29) i_192_24 (by decide) (by omega) (by omega) (fun c_4 => ?_) (fun c_4 => ?_)
    · skip
      have jn67 : ∀ (b : Int), (b = byV A (G 90 32) p r0) → (0 ≤ b ∧ b ≤ 1000000) → Re L xs 192 67 [(0, .ref 90), (1, V p), (2, V r0), (3, V m), (4, V cost), (5, V (((G 90 56) - m) - r_2))] [V b] (HP ly F G A B) Q := by
        intro b  hb hb1
        refine r_istore (l' := [(0, .ref 90), (1, V p), (2, V r0), (3, V m), (4, V cost), (5, V (((G 90 56) - m) - r_2)), (6, V b)]) i_192_67 (by decide +kernel) rfl ?_
        refine r_iload i_192_69 rfl ?_
        refine r_iload i_192_71 rfl ?_
        refine r_iadd i_192_73 ?_
        refine r_aload_n i_192_74 rfl ?_
        refine r_getF (v := .ref 124) i_192_75 rfl (hly 90 _ rfl) (hF.1 90 49 124 rfl) ?_
        refine r_iload_n i_192_78 rfl ?_
        refine r_iald i_192_79 (hly 124 _ rfl) (by omega) (by omega) (by omega) ?_
        have q_5 := a_124 hA (r0.toNat)
        refine r_iadd i_192_80 ?_
        refine r_aload_n i_192_81 rfl ?_
        refine r_iload_n i_192_82 rfl ?_
        refine r_iload_n i_192_83 rfl ?_
        refine r_iload i_192_84 rfl ?_
        refine r_cV (as := [V (((G 90 56) - m) - r_2), V r0, V p]) i_192_86 rfl (by decide +kernel) (Nat.le_of_ble_eq_true rfl) (Nat.le_of_ble_eq_true rfl) (hly 90 _ rfl) rfl ?_
        have q_6 := g_90_38 hG
        refine c_183 (p := p) (r0 := r0) (m := ((G 90 56) - m) - r_2) hly hF hG hA (by omega) (by omega) (by omega) (by omega) (by omega) (by omega) (fun r_7 p7_0 p7_1 => ?_)
        show Re L xs 192 89 [(0, .ref 90), (1, V p), (2, V r0), (3, V m), (4, V cost), (5, V (((G 90 56) - m) - r_2)), (6, V b)] [V r_7, V ((cost + b) + (A 124 (r0.toNat)))] (HP ly F G A B) _
        refine r_iadd i_192_89 ?_
        refine r_aload_n i_192_90 rfl ?_
        refine r_getI i_192_91 rfl (hly 90 _ rfl) ?_
        have q_8 := g_90_57 hG
        refine r_cne (t := 101) i_192_94 (by decide) (by omega) (by omega) (fun c_9 => ?_) (fun c_9 => ?_)
        · skip
          refine r_iconst i_192_101 ?_
          exact r_iret i_192_102 rfl (nar_Z (by omega)) (K 0 (by omega) (by unfold chB; rw [← p2_0, ← hb, ← p7_0]; constructor <;> (intro h; first | exact ⟨by omega, by omega, by omega⟩ | omega)))
        · skip
          refine r_iconst i_192_97 ?_
          refine r_go (t := 102) i_192_98 (by decide) ?_
          exact r_iret i_192_102 rfl (nar_Z (by omega)) (K 1 (by omega) (by unfold chB; rw [← p2_0, ← hb, ← p7_0]; constructor <;> (intro h; first | exact ⟨by omega, by omega, by omega⟩ | omega)))
      refine r_iload_n i_192_29 rfl ?_
      refine r_ne0 (t := 37) i_192_30 (by decide) (by omega) (fun c_10 => ?_) (fun c_10 => ?_)
      · skip
        have z130 := a_130 hA (p - 1).toNat
        refine r_aload_n i_192_37 rfl ?_
        refine r_aload_n i_192_38 rfl ?_
        refine r_getF (v := .ref 123) i_192_39 rfl (hly 90 _ rfl) (hF.1 90 48 123 rfl) ?_
        refine r_bipush i_192_42 (by decide) ?_
        refine r_iload_n i_192_44 rfl ?_
        refine r_iconst i_192_45 ?_
        refine r_isub i_192_46 ?_
        refine r_imul i_192_47 ?_
        refine r_aload_n i_192_48 rfl ?_
        refine r_getF (v := .ref 130) i_192_49 rfl (hly 90 _ rfl) (hF.1 90 60 130 rfl) ?_
        refine r_iload_n i_192_52 rfl ?_
        refine r_iconst i_192_53 ?_
        refine r_isub i_192_54 ?_
        refine r_iald i_192_55 (hly 130 _ rfl) (by omega) (by omega) (by omega) ?_
        have q_11 := a_130 hA ((p - 1).toNat)
        refine r_iadd i_192_56 ?_
        refine r_iald i_192_57 (hly 123 _ rfl) (by omega) (by omega) (by omega) ?_
        have q_12 := a_123 hA (((13 * (p - 1)) + (A 130 ((p - 1).toNat))).toNat)
        refine r_aload_n i_192_58 rfl ?_
        refine r_getF (v := .ref 123) i_192_59 rfl (hly 90 _ rfl) (hF.1 90 48 123 rfl) ?_
        refine r_iload_n i_192_62 rfl ?_
        refine r_iald i_192_63 (hly 123 _ rfl) (by omega) (by omega) (by omega) ?_
        have q_13 := a_123 hA (r0.toNat)
        refine r_cV (as := [V (A 123 (r0.toNat)), V (A 123 (((13 * (p - 1)) + (A 130 ((p - 1).toNat))).toNat))]) i_192_64 rfl (by decide +kernel) (Nat.le_of_ble_eq_true rfl) (Nat.le_of_ble_eq_true rfl) (hly 90 _ rfl) rfl ?_
        have q_14 := g_90_32 hG
        refine c_181 (a := A 123 (((13 * (p - 1)) + (A 130 ((p - 1).toNat))).toNat)) (c := A 123 (r0.toNat)) hly hF hG hA (by omega) (by omega) (by omega) (by omega) (fun r_15 p15_0 p15_1 => ?_)
        show Re L xs 192 67 [(0, .ref 90), (1, V p), (2, V r0), (3, V m), (4, V cost), (5, V (((G 90 56) - m) - r_2))] [V r_15] (HP ly F G A B) _
        exact jn67 r_15  (by first | (unfold byV; rw [if_pos (by omega)]; done) | (unfold byV; rw [if_neg (by omega)]; exact p15_0)) (by omega)
      · skip
        refine r_iconst i_192_33 ?_
        refine r_go (t := 67) i_192_34 (by decide) ?_
        exact jn67 0  (by first | (unfold byV; rw [if_pos (by omega)]; done) | (unfold byV; rw [if_neg (by omega)]; exact zzp0)) (by omega)
    · skip
      refine r_iconst i_192_27 ?_
      exact r_iret i_192_28 rfl (nar_Z (by omega)) (K 0 (by omega) (by unfold chB; rw [← p2_0]; constructor <;> (intro h; exfalso; omega)))
set_option maxHeartbeats 4000000 in
theorem c_191 {L : Nat} {xs : Nat → Int32} {ly : List LK} {F : Nat → Nat → Value} {G A : Nat → Nat → Int} {B : Nat → Nat → Int64} {Q : Option Value → AH → Prop}  (hly : LyOk ly) (hF : RfOk F) (hG : GO G) (hA : AQ A) (hk : KN G A) (hb : G 90 57 < 1000000) (K : ∀ (A' : Nat → Nat → Int), (AQ A') → (∀ a, ¬ (a = 130) → A' a = A a) → (KN G A') → Q none (HP ly F G A' B)) : Re L xs 191 0 [(0, .ref 90)] [] (HP ly F G A B) Q := by
  have z38 := g_90_38 hG
  have z57 := g_90_57 hG
  have z56 := g_90_56 hG
  refine r_iconst i_191_0 ?_
  refine r_istore_n (l' := [(0, .ref 90), (1, V 0)]) i_191_1 (by decide +kernel) rfl ?_
  refine r_iconst i_191_2 ?_
  refine r_istore_n (l' := [(0, .ref 90), (1, V 0), (2, V 0)]) i_191_3 (by decide +kernel) rfl ?_
  refine r_iconst i_191_4 ?_
  refine r_istore_n (l' := [(0, .ref 90), (1, V 0), (2, V 0), (3, V 0)]) i_191_5 (by decide +kernel) rfl ?_
  have lp6B : ∀ (nf : Nat) (m : Int) (cost : Int) (p : Int) (l4 : Int) (A6 : Nat → Nat → Int), (AQ A6) → (∀ a, ¬ (a = 130) → A6 a = A a) → (0 ≤ p ∧ p ≤ G 90 38) → (KN G A6) → (chI G A6 p m cost) → (20 - p).toNat < nf → Re L xs 191 6 [(0, .ref 90), (1, V m), (2, V cost), (3, V p), (4, V l4)] [] (HP ly F G A6 B) Q := by
    intro nf
    induction nf with
    | zero => intros; omega
    | succ nf ih6B =>
      intro m cost p l4 A6 hA6 fa6 hp hkn hci hm6
      refine r_iload_n i_191_6 rfl ?_
      refine r_aload_n i_191_7 rfl ?_
      refine r_getI i_191_8 rfl (hly 90 _ rfl) ?_
      have q_1 := g_90_38 hG
      refine r_cge (t := 116) i_191_11 (by decide) (by omega) (by omega) (fun c_2 => ?_) (fun c_2 => ?_)
      · skip
        exact r_vret i_191_116 rfl (K A6 hA6 (by intro a hh; rw [fa6 a (by omega)]) (by exact hkn))
      · skip
        obtain ⟨rs, hrs0, hrs1, hrs2⟩ := ch_ex hA6 hkn hb hp.1 (by omega) hci
        have htr := tR hkn (by omega) hb
        have z122 := a_122 hA6 p.toNat
        have hcr : 0 ≤ m ∧ m ≤ 168 ∧ 0 ≤ cost ∧ cost ≤ 1000000 := ⟨hci.2.1, hci.2.2.1, hci.2.2.2.1, hci.2.2.2.2.1⟩
        refine r_bipush i_191_14 (by decide) ?_
        refine r_iload_n i_191_16 rfl ?_
        refine r_imul i_191_17 ?_
        refine r_istore (l' := [(0, .ref 90), (1, V m), (2, V cost), (3, V p), (4, V (13 * p))]) i_191_18 (by decide +kernel) rfl ?_
        have lp20B : ∀ (nf : Nat) (r : Int), (13 * p ≤ r ∧ r ≤ rs) → (rs - r).toNat < nf → Re L xs 191 20 [(0, .ref 90), (1, V m), (2, V cost), (3, V p), (4, V r)] [] (HP ly F G A6 B) Q := by
          intro nf
          induction nf with
          | zero => intros; omega
          | succ nf ih20B =>
            intro r  hr hm20
            refine r_aload_n i_191_20 rfl ?_
            refine r_iload_n i_191_21 rfl ?_
            refine r_iload i_191_22 rfl ?_
            refine r_iload_n i_191_24 rfl ?_
            refine r_iload_n i_191_25 rfl ?_
            refine r_cV (as := [V cost, V m, V r, V p]) i_191_26 rfl (by decide +kernel) (Nat.le_of_ble_eq_true rfl) (Nat.le_of_ble_eq_true rfl) (hly 90 _ rfl) rfl ?_
            refine c_192 (p := p) (r0 := r) (m := m) (cost := cost) hly hF hG hA6 (by omega) (by omega) (by omega) (by omega) (by omega) (by omega) (by omega) (by omega) (fun r_3 p3_0 p3_1 => ?_)
            show Re L xs 191 29 [(0, .ref 90), (1, V m), (2, V cost), (3, V p), (4, V r)] [V r_3] (HP ly F G A6 B) _
            refine r_ne0 (t := 38) i_191_29 (by decide) (by omega) (fun c_4 => ?_) (fun c_4 => ?_)
            · skip
              refine r_iload_n i_191_38 rfl ?_
              have jn78 : ∀ (b : Int), (b = byV A6 (G 90 32) p r) → Re L xs 191 78 [(0, .ref 90), (1, V m), (2, V cost), (3, V p), (4, V r)] [V b, V cost] (HP ly F G A6 B) Q := by
                intro b  hbb
                refine r_aload_n i_191_78 rfl ?_
                refine r_getF (v := .ref 124) i_191_79 rfl (hly 90 _ rfl) (hF.1 90 49 124 rfl) ?_
                refine r_iload i_191_82 rfl ?_
                refine r_iald i_191_84 (hly 124 _ rfl) (by omega) (by omega) (by omega) ?_
                rw [show A6 124 = A 124 from by rw [fa6 124 (by omega)]]
                have q_5 := a_124 hA (r.toNat)
                refine r_iadd i_191_85 ?_
                refine r_iadd i_191_86 ?_
                refine r_istore_n (l' := [(0, .ref 90), (1, V m), (2, V (cost + (b + (A 124 (r.toNat))))), (3, V p), (4, V r)]) i_191_87 (by decide +kernel) rfl ?_
                refine r_iload_n i_191_88 rfl ?_
                refine r_aload_n i_191_89 rfl ?_
                refine r_iload i_191_90 rfl ?_
                refine r_cV (as := [V r]) i_191_92 rfl (by decide +kernel) (Nat.le_of_ble_eq_true rfl) (Nat.le_of_ble_eq_true rfl) (hly 90 _ rfl) rfl ?_
                refine c_179 (r0 := r) hly hF hG hA6 (by omega) (by omega) (fun r_6 p6_0 p6_1 => ?_)
                show Re L xs 191 95 [(0, .ref 90), (1, V m), (2, V (cost + (b + (A 124 (r.toNat))))), (3, V p), (4, V r)] [V r_6, V m] (HP ly F G A6 B) _
                refine r_iadd i_191_95 ?_
                refine r_istore_n (l' := [(0, .ref 90), (1, V (m + r_6)), (2, V (cost + (b + (A 124 (r.toNat))))), (3, V p), (4, V r)]) i_191_96 (by decide +kernel) rfl ?_
                refine r_aload_n i_191_97 rfl ?_
                refine r_getF (v := .ref 130) i_191_98 rfl (hly 90 _ rfl) (hF.1 90 60 130 rfl) ?_
                refine r_iload_n i_191_101 rfl ?_
                refine r_iload i_191_102 rfl ?_
                refine r_bipush i_191_104 (by decide) ?_
                refine r_iload_n i_191_106 rfl ?_
                refine r_imul i_191_107 ?_
                refine r_isub i_191_108 ?_
                refine r_iastQ i_191_109 (hly 130 _ rfl) (by omega) (by omega) (by omega) (fun A_7 eA_7 => ?_)
                have hA_7 : AQ A_7 := by rw [eA_7]; exact au_130 hA6 (by omega) (by omega)
                have x130_1 : A_7 130 = fun i => if i = p.toNat then r - (13 * p) else A6 130 i := by rw [eA_7, up2_f]
                have x130 : A_7 130 = fun i => if i = p.toNat then r - (13 * p) else A6 130 i := by rw [x130_1]
                refine r_iinc (l' := [(0, .ref 90), (1, V (m + r_6)), (2, V (cost + (b + (A 124 (r.toNat))))), (3, V (p + 1)), (4, V r)]) i_191_110 rfl (by decide +kernel) rfl ?_
                refine r_go (t := 6) i_191_113 (by decide) ?_
                exact ih6B (m + r_6) (cost + (b + (A 124 (r.toNat)))) (p + 1) r A_7 hA_7 (by intro a hh; rw [eA_7, up2_a (by omega), fa6 a (by omega)]) (by omega) (by first | exact KN_130 (by intro a hh; rw [eA_7, up2_a (by omega)]) hkn | exact hk) (by first | exact ⟨fun _ => ⟨rfl, rfl⟩, Int.le_refl _, by omega, Int.le_refl _, by omega, fun h => by omega⟩ | (rw [hbb, p6_0, show A 124 = A6 124 from (fa6 124 (by decide)).symm]; exact ch_st hA6 hA_7 hci hp.1 (by omega) (by omega) ((p3_1).mp (by omega)) (by omega) (by omega) x130 (by intro a hh; rw [eA_7, up2_a (by omega)]))) (by omega)
              refine r_iload_n i_191_39 rfl ?_
              refine r_ne0 (t := 47) i_191_40 (by decide) (by omega) (fun c_8 => ?_) (fun c_8 => ?_)
              · skip
                have z130 := a_130 hA6 (p - 1).toNat
                refine r_aload_n i_191_47 rfl ?_
                refine r_aload_n i_191_48 rfl ?_
                refine r_getF (v := .ref 123) i_191_49 rfl (hly 90 _ rfl) (hF.1 90 48 123 rfl) ?_
                refine r_bipush i_191_52 (by decide) ?_
                refine r_iload_n i_191_54 rfl ?_
                refine r_iconst i_191_55 ?_
                refine r_isub i_191_56 ?_
                refine r_imul i_191_57 ?_
                refine r_aload_n i_191_58 rfl ?_
                refine r_getF (v := .ref 130) i_191_59 rfl (hly 90 _ rfl) (hF.1 90 60 130 rfl) ?_
                refine r_iload_n i_191_62 rfl ?_
                refine r_iconst i_191_63 ?_
                refine r_isub i_191_64 ?_
                refine r_iald i_191_65 (hly 130 _ rfl) (by omega) (by omega) (by omega) ?_
                have q_9 := a_130 hA6 ((p - 1).toNat)
                refine r_iadd i_191_66 ?_
                refine r_iald i_191_67 (hly 123 _ rfl) (by omega) (by omega) (by omega) ?_
                rw [show A6 123 = A 123 from by rw [fa6 123 (by omega)]]
                have q_10 := a_123 hA (((13 * (p - 1)) + (A6 130 ((p - 1).toNat))).toNat)
                refine r_aload_n i_191_68 rfl ?_
                refine r_getF (v := .ref 123) i_191_69 rfl (hly 90 _ rfl) (hF.1 90 48 123 rfl) ?_
                refine r_iload i_191_72 rfl ?_
                refine r_iald i_191_74 (hly 123 _ rfl) (by omega) (by omega) (by omega) ?_
                rw [show A6 123 = A 123 from by rw [fa6 123 (by omega)]]
                have q_11 := a_123 hA (r.toNat)
                refine r_cV (as := [V (A 123 (r.toNat)), V (A 123 (((13 * (p - 1)) + (A6 130 ((p - 1).toNat))).toNat))]) i_191_75 rfl (by decide +kernel) (Nat.le_of_ble_eq_true rfl) (Nat.le_of_ble_eq_true rfl) (hly 90 _ rfl) rfl ?_
                have q_12 := g_90_32 hG
                refine c_181 (a := A 123 (((13 * (p - 1)) + (A6 130 ((p - 1).toNat))).toNat)) (c := A 123 (r.toNat)) hly hF hG hA6 (by omega) (by omega) (by omega) (by omega) (fun r_13 p13_0 p13_1 => ?_)
                show Re L xs 191 78 [(0, .ref 90), (1, V m), (2, V cost), (3, V p), (4, V r)] [V r_13, V cost] (HP ly F G A6 B) _
                exact jn78 r_13  (by first | (unfold byV; rw [if_pos (by omega)]; done) | (unfold byV; rw [if_neg (by omega), fa6 123 (by decide)]; exact p13_0))
              · skip
                refine r_iconst i_191_43 ?_
                refine r_go (t := 78) i_191_44 (by decide) ?_
                exact jn78 0  (by first | (unfold byV; rw [if_pos (by omega)]; done) | (unfold byV; rw [if_neg (by omega), fa6 123 (by decide)]; exact zzp0))
            · skip
              refine r_iinc (l' := [(0, .ref 90), (1, V m), (2, V cost), (3, V p), (4, V (r + 1))]) i_191_32 rfl (by decide +kernel) rfl ?_
              refine r_go (t := 20) i_191_35 (by decide) ?_
              exact ih20B (r + 1)  (by first | omega | exact if e : r = rs then (by exfalso; subst e; have hh := (p3_1).mpr hrs2; omega) else (by omega)) (by exact if e : r = rs then (by exfalso; subst e; have hh := (p3_1).mpr hrs2; omega) else (by omega))
        exact lp20B _ (13 * p)  (by first | omega | exact if e : r = rs then (by exfalso; subst e; have hh := (zzp1).mpr hrs2; omega) else (by omega)) (Nat.lt_succ_self _)
  have lp6A123 : ∀ (nf : Nat) (m : Int) (cost : Int) (p : Int) (A6 : Nat → Nat → Int), (AQ A6) → (∀ a, ¬ (a = 130) → A6 a = A a) → (0 ≤ p ∧ p ≤ G 90 38) → (KN G A6) → (chI G A6 p m cost) → (20 - p).toNat < nf → Re L xs 191 6 [(0, .ref 90), (1, V m), (2, V cost), (3, V p)] [] (HP ly F G A6 B) Q := by
    intro nf
    induction nf with
    | zero => intros; omega
    | succ nf ih6A123 =>
      intro m cost p A6 hA6 fa6 hp hkn hci hm6
      refine r_iload_n i_191_6 rfl ?_
      refine r_aload_n i_191_7 rfl ?_
      refine r_getI i_191_8 rfl (hly 90 _ rfl) ?_
      have q_14 := g_90_38 hG
      refine r_cge (t := 116) i_191_11 (by decide) (by omega) (by omega) (fun c_15 => ?_) (fun c_15 => ?_)
      · skip
        exact r_vret i_191_116 rfl (K A6 hA6 (by intro a hh; rw [fa6 a (by omega)]) (by exact hkn))
      · skip
        obtain ⟨rs, hrs0, hrs1, hrs2⟩ := ch_ex hA6 hkn hb hp.1 (by omega) hci
        have htr := tR hkn (by omega) hb
        have z122 := a_122 hA6 p.toNat
        have hcr : 0 ≤ m ∧ m ≤ 168 ∧ 0 ≤ cost ∧ cost ≤ 1000000 := ⟨hci.2.1, hci.2.2.1, hci.2.2.2.1, hci.2.2.2.2.1⟩
        refine r_bipush i_191_14 (by decide) ?_
        refine r_iload_n i_191_16 rfl ?_
        refine r_imul i_191_17 ?_
        refine r_istore (l' := [(0, .ref 90), (1, V m), (2, V cost), (3, V p), (4, V (13 * p))]) i_191_18 (by decide +kernel) rfl ?_
        have lp20B : ∀ (nf : Nat) (r : Int), (13 * p ≤ r ∧ r ≤ rs) → (rs - r).toNat < nf → Re L xs 191 20 [(0, .ref 90), (1, V m), (2, V cost), (3, V p), (4, V r)] [] (HP ly F G A6 B) Q := by
          intro nf
          induction nf with
          | zero => intros; omega
          | succ nf ih20B =>
            intro r  hr hm20
            refine r_aload_n i_191_20 rfl ?_
            refine r_iload_n i_191_21 rfl ?_
            refine r_iload i_191_22 rfl ?_
            refine r_iload_n i_191_24 rfl ?_
            refine r_iload_n i_191_25 rfl ?_
            refine r_cV (as := [V cost, V m, V r, V p]) i_191_26 rfl (by decide +kernel) (Nat.le_of_ble_eq_true rfl) (Nat.le_of_ble_eq_true rfl) (hly 90 _ rfl) rfl ?_
            refine c_192 (p := p) (r0 := r) (m := m) (cost := cost) hly hF hG hA6 (by omega) (by omega) (by omega) (by omega) (by omega) (by omega) (by omega) (by omega) (fun r_16 p16_0 p16_1 => ?_)
            show Re L xs 191 29 [(0, .ref 90), (1, V m), (2, V cost), (3, V p), (4, V r)] [V r_16] (HP ly F G A6 B) _
            refine r_ne0 (t := 38) i_191_29 (by decide) (by omega) (fun c_17 => ?_) (fun c_17 => ?_)
            · skip
              refine r_iload_n i_191_38 rfl ?_
              have jn78 : ∀ (b : Int), (b = byV A6 (G 90 32) p r) → Re L xs 191 78 [(0, .ref 90), (1, V m), (2, V cost), (3, V p), (4, V r)] [V b, V cost] (HP ly F G A6 B) Q := by
                intro b  hbb
                refine r_aload_n i_191_78 rfl ?_
                refine r_getF (v := .ref 124) i_191_79 rfl (hly 90 _ rfl) (hF.1 90 49 124 rfl) ?_
                refine r_iload i_191_82 rfl ?_
                refine r_iald i_191_84 (hly 124 _ rfl) (by omega) (by omega) (by omega) ?_
                rw [show A6 124 = A 124 from by rw [fa6 124 (by omega)]]
                have q_18 := a_124 hA (r.toNat)
                refine r_iadd i_191_85 ?_
                refine r_iadd i_191_86 ?_
                refine r_istore_n (l' := [(0, .ref 90), (1, V m), (2, V (cost + (b + (A 124 (r.toNat))))), (3, V p), (4, V r)]) i_191_87 (by decide +kernel) rfl ?_
                refine r_iload_n i_191_88 rfl ?_
                refine r_aload_n i_191_89 rfl ?_
                refine r_iload i_191_90 rfl ?_
                refine r_cV (as := [V r]) i_191_92 rfl (by decide +kernel) (Nat.le_of_ble_eq_true rfl) (Nat.le_of_ble_eq_true rfl) (hly 90 _ rfl) rfl ?_
                refine c_179 (r0 := r) hly hF hG hA6 (by omega) (by omega) (fun r_19 p19_0 p19_1 => ?_)
                show Re L xs 191 95 [(0, .ref 90), (1, V m), (2, V (cost + (b + (A 124 (r.toNat))))), (3, V p), (4, V r)] [V r_19, V m] (HP ly F G A6 B) _
                refine r_iadd i_191_95 ?_
                refine r_istore_n (l' := [(0, .ref 90), (1, V (m + r_19)), (2, V (cost + (b + (A 124 (r.toNat))))), (3, V p), (4, V r)]) i_191_96 (by decide +kernel) rfl ?_
                refine r_aload_n i_191_97 rfl ?_
                refine r_getF (v := .ref 130) i_191_98 rfl (hly 90 _ rfl) (hF.1 90 60 130 rfl) ?_
                refine r_iload_n i_191_101 rfl ?_
                refine r_iload i_191_102 rfl ?_
                refine r_bipush i_191_104 (by decide) ?_
                refine r_iload_n i_191_106 rfl ?_
                refine r_imul i_191_107 ?_
                refine r_isub i_191_108 ?_
                refine r_iastQ i_191_109 (hly 130 _ rfl) (by omega) (by omega) (by omega) (fun A_20 eA_20 => ?_)
                have hA_20 : AQ A_20 := by rw [eA_20]; exact au_130 hA6 (by omega) (by omega)
                have x130_1 : A_20 130 = fun i => if i = p.toNat then r - (13 * p) else A6 130 i := by rw [eA_20, up2_f]
                have x130 : A_20 130 = fun i => if i = p.toNat then r - (13 * p) else A6 130 i := by rw [x130_1]
                refine r_iinc (l' := [(0, .ref 90), (1, V (m + r_19)), (2, V (cost + (b + (A 124 (r.toNat))))), (3, V (p + 1)), (4, V r)]) i_191_110 rfl (by decide +kernel) rfl ?_
                refine r_go (t := 6) i_191_113 (by decide) ?_
                exact lp6B _ (m + r_19) (cost + (b + (A 124 (r.toNat)))) (p + 1) r A_20 hA_20 (by intro a hh; rw [eA_20, up2_a (by omega), fa6 a (by omega)]) (by omega) (by first | exact KN_130 (by intro a hh; rw [eA_20, up2_a (by omega)]) hkn | exact hk) (by first | exact ⟨fun _ => ⟨rfl, rfl⟩, Int.le_refl _, by omega, Int.le_refl _, by omega, fun h => by omega⟩ | (rw [hbb, p19_0, show A 124 = A6 124 from (fa6 124 (by decide)).symm]; exact ch_st hA6 hA_20 hci hp.1 (by omega) (by omega) ((p16_1).mp (by omega)) (by omega) (by omega) x130 (by intro a hh; rw [eA_20, up2_a (by omega)]))) (Nat.lt_succ_self _)
              refine r_iload_n i_191_39 rfl ?_
              refine r_ne0 (t := 47) i_191_40 (by decide) (by omega) (fun c_21 => ?_) (fun c_21 => ?_)
              · skip
                have z130 := a_130 hA6 (p - 1).toNat
                refine r_aload_n i_191_47 rfl ?_
                refine r_aload_n i_191_48 rfl ?_
                refine r_getF (v := .ref 123) i_191_49 rfl (hly 90 _ rfl) (hF.1 90 48 123 rfl) ?_
                refine r_bipush i_191_52 (by decide) ?_
                refine r_iload_n i_191_54 rfl ?_
                refine r_iconst i_191_55 ?_
                refine r_isub i_191_56 ?_
                refine r_imul i_191_57 ?_
                refine r_aload_n i_191_58 rfl ?_
                refine r_getF (v := .ref 130) i_191_59 rfl (hly 90 _ rfl) (hF.1 90 60 130 rfl) ?_
                refine r_iload_n i_191_62 rfl ?_
                refine r_iconst i_191_63 ?_
                refine r_isub i_191_64 ?_
                refine r_iald i_191_65 (hly 130 _ rfl) (by omega) (by omega) (by omega) ?_
                have q_22 := a_130 hA6 ((p - 1).toNat)
                refine r_iadd i_191_66 ?_
                refine r_iald i_191_67 (hly 123 _ rfl) (by omega) (by omega) (by omega) ?_
                rw [show A6 123 = A 123 from by rw [fa6 123 (by omega)]]
                have q_23 := a_123 hA (((13 * (p - 1)) + (A6 130 ((p - 1).toNat))).toNat)
                refine r_aload_n i_191_68 rfl ?_
                refine r_getF (v := .ref 123) i_191_69 rfl (hly 90 _ rfl) (hF.1 90 48 123 rfl) ?_
                refine r_iload i_191_72 rfl ?_
                refine r_iald i_191_74 (hly 123 _ rfl) (by omega) (by omega) (by omega) ?_
                rw [show A6 123 = A 123 from by rw [fa6 123 (by omega)]]
                have q_24 := a_123 hA (r.toNat)
                refine r_cV (as := [V (A 123 (r.toNat)), V (A 123 (((13 * (p - 1)) + (A6 130 ((p - 1).toNat))).toNat))]) i_191_75 rfl (by decide +kernel) (Nat.le_of_ble_eq_true rfl) (Nat.le_of_ble_eq_true rfl) (hly 90 _ rfl) rfl ?_
                have q_25 := g_90_32 hG
                refine c_181 (a := A 123 (((13 * (p - 1)) + (A6 130 ((p - 1).toNat))).toNat)) (c := A 123 (r.toNat)) hly hF hG hA6 (by omega) (by omega) (by omega) (by omega) (fun r_26 p26_0 p26_1 => ?_)
                show Re L xs 191 78 [(0, .ref 90), (1, V m), (2, V cost), (3, V p), (4, V r)] [V r_26, V cost] (HP ly F G A6 B) _
                exact jn78 r_26  (by first | (unfold byV; rw [if_pos (by omega)]; done) | (unfold byV; rw [if_neg (by omega), fa6 123 (by decide)]; exact p26_0))
              · skip
                refine r_iconst i_191_43 ?_
                refine r_go (t := 78) i_191_44 (by decide) ?_
                exact jn78 0  (by first | (unfold byV; rw [if_pos (by omega)]; done) | (unfold byV; rw [if_neg (by omega), fa6 123 (by decide)]; exact zzp0))
            · skip
              refine r_iinc (l' := [(0, .ref 90), (1, V m), (2, V cost), (3, V p), (4, V (r + 1))]) i_191_32 rfl (by decide +kernel) rfl ?_
              refine r_go (t := 20) i_191_35 (by decide) ?_
              exact ih20B (r + 1)  (by first | omega | exact if e : r = rs then (by exfalso; subst e; have hh := (p16_1).mpr hrs2; omega) else (by omega)) (by exact if e : r = rs then (by exfalso; subst e; have hh := (p16_1).mpr hrs2; omega) else (by omega))
        exact lp20B _ (13 * p)  (by first | omega | exact if e : r = rs then (by exfalso; subst e; have hh := (zzp1).mpr hrs2; omega) else (by omega)) (Nat.lt_succ_self _)
  exact lp6A123 _ 0 0 0 A hA (by intro a hh; rfl) (by omega) (by first | exact KN_130 (by fail) hkn | exact hk) (by first | exact ⟨fun _ => ⟨rfl, rfl⟩, Int.le_refl _, by omega, Int.le_refl _, by omega, fun h => by omega⟩ | (rw [hbb, zzp0, show A 124 = A6 124 from (fa6 124 (by decide)).symm]; exact ch_st hA6 hA hci hp.1 (by omega) (by omega) ((zzp1).mp (by omega)) (by omega) (by omega) x130 (by fail))) (Nat.lt_succ_self _)
set_option maxHeartbeats 4000000 in
theorem c_190 {L : Nat} {xs : Nat → Int32} {ly : List LK} {F : Nat → Nat → Value} {G A : Nat → Nat → Int} {B : Nat → Nat → Int64} {Q : Option Value → AH → Prop} {p : Int} (hly : LyOk ly) (hF : RfOk F) (hG : GO G) (hA : AQ A) (in_p : inR p) (hm : MI G A) (K : ∀ (r : Int) (G' : Nat → Nat → Int) (A' : Nat → Nat → Int), (GO G') → (AQ A') → (∀ a k, ¬ ((a = 90 ∧ k = 53) ∨ (a = 90 ∧ k = 56) ∨ (a = 90 ∧ k = 57) ∨ (a = 90 ∧ k = 58)) → G' a k = G a k) → (∀ a, ¬ (a = 121 ∨ a = 122 ∨ a = 123 ∨ a = 124 ∨ a = 125 ∨ a = 126 ∨ a = 128 ∨ a = 129 ∨ a = 130) → A' a = A a) → (MI G' A') → Q (some (V r)) (HP ly F G' A' B)) : Re L xs 190 0 [(0, .ref 90), (1, V p)] [] (HP ly F G A B) Q := by
  have z38 := g_90_38 hG
  refine r_aload_n i_190_0 rfl ?_
  refine r_iload_n i_190_1 rfl ?_
  refine r_cV (as := [V p]) i_190_2 rfl (by decide +kernel) (Nat.le_of_ble_eq_true rfl) (Nat.le_of_ble_eq_true rfl) (hly 90 _ rfl) rfl ?_
  have q_1 := g_90_38 hG
  refine c_160 (p := p) hly hF hG hA (by omega) (fun r_2 p2_0 p2_1 => ?_)
  show Re L xs 190 5 [(0, .ref 90), (1, V p)] [V r_2] (HP ly F G A B) _
  refine r_eq0 (t := 15) i_190_5 (by decide) (by omega) (fun c_3 => ?_) (fun c_3 => ?_)
  · skip
    refine r_iconst i_190_15 ?_
    exact r_iret i_190_16 rfl rfl (K ((-1)) G A hG hA (by intro a k hh; rfl) (by intro a hh; rfl) (by first | exact hm | exact zzp0))
  · skip
    refine r_aload_n i_190_8 rfl ?_
    refine r_cV (as := []) i_190_9 rfl (by decide +kernel) (Nat.le_of_ble_eq_true rfl) (Nat.le_of_ble_eq_true rfl) (hly 90 _ rfl) rfl ?_
    refine c_189  hly hF hG hA (by omega) (fun r_4 G_5 A_6 hG_5 hA_6 fg6 fa6 p6_0 p6_1 p6_2 => ?_)
    show Re L xs 190 12 [(0, .ref 90), (1, V p)] [V r_4] (HP ly F G_5 A_6 B) _
    refine r_ge0 (t := 17) i_190_12 (by decide) (by omega) (fun c_7 => ?_) (fun c_7 => ?_)
    · skip
      refine r_aload_n i_190_17 rfl ?_
      refine r_cV (as := []) i_190_18 rfl (by decide +kernel) (Nat.le_of_ble_eq_true rfl) (Nat.le_of_ble_eq_true rfl) (hly 90 _ rfl) rfl ?_
      have q_8 := g_90_57 hG_5
      refine c_191  hly hF hG_5 hA_6 (by exact p6_1) (by omega) (fun A_9 hA_9 fa9 p9_0 => ?_)
      show Re L xs 190 21 [(0, .ref 90), (1, V p)] [] (HP ly F G_5 A_9 B) _
      refine r_aload_n i_190_21 rfl ?_
      refine r_getF (v := .ref 130) i_190_22 rfl (hly 90 _ rfl) (hF.1 90 60 130 rfl) ?_
      refine r_iload_n i_190_25 rfl ?_
      refine r_iald i_190_26 (hly 130 _ rfl) (by omega) (by omega) (by omega) ?_
      have q_10 := a_130 hA_9 (p.toNat)
      exact r_iret i_190_27 rfl rfl (K (A_9 130 (p.toNat)) G_5 A_9 hG_5 hA_9 (by intro a k hh; rw [fg6 a k (by omega)]) (by intro a hh; rw [fa9 a (by omega), fa6 a (by omega)]) (by exact MI_kn hm (by intro a k hh; rw [fg6 a k (by omega)]) (by intro a hh; rw [fa9 a (by omega), fa6 a (by omega)]) p9_0))
    · skip
      refine r_iconst i_190_15 ?_
      exact r_iret i_190_16 rfl rfl (K ((-1)) G_5 A_6 hG_5 hA_6 (by intro a k hh; rw [fg6 a k (by omega)]) (by intro a hh; rw [fa6 a (by omega)]) (by first | exact hm | exact p6_0))
