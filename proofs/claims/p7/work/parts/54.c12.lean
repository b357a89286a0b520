set_option maxHeartbeats 4000000 in
theorem c_96 {L : Nat} {xs : Nat → Int32} {ly : List LK} {F : Nat → Nat → Value} {G A : Nat → Nat → Int} {B : Nat → Nat → Int64} {Q : Option Value → AH → Prop} {word : Int} {slot : Int} (hly : LyOk ly) (hF : RfOk F) (hG : GO G) (hA : AQ A) (in_word : inR word) (in_slot : inR slot) (hw : 0 ≤ word ∧ word < G 31 8) (hsl : 12 * word ≤ slot ∧ slot ≤ 12 * word + 11) (hsp : spV G A) (hrs : RS A) (K : ∀ (r : Int) (A' : Nat → Nat → Int), (AQ A') → (∀ a, ¬ (a = 55) → A' a = A a) → (0 ≤ r ∧ r ≤ 1000000) → (word = 0 → A 56 (85 * A 37 slot.toNat).toNat = 0 → r ≤ 2673 ∨ r = 1000000) → Q (some (V r)) (HP ly F G A' B)) : Re L xs 96 0 [(0, .ref 48), (1, V word), (2, V slot)] [] (HP ly F G A B) Q := by
  have z8 := g_31_8 hG
  have hs := hsp word.toNat (by omega)
  have z49 := a_49 hA word.toNat
  have z50 := a_50 hA word.toNat
  have z49b := a_49 hA (word - 1).toNat
  have z50b := a_50 hA (word - 1).toNat
  have jn16 : ∀ (low : Int), ((word = 0 → low = 0) ∧ (0 < word → low = A 49 (word - 1).toNat)) → Re L xs 96 16 [(0, .ref 48), (1, V word), (2, V slot)] [V low] (HP ly F G A B) Q := by
    intro low  hlw
    refine r_istore_n (l' := [(0, .ref 48), (1, V word), (2, V slot), (3, V low)]) i_96_16 (by decide +kernel) rfl ?_
    have jn33 : ∀ (high : Int), ((word = 0 → high = 0) ∧ (0 < word → high = A 50 (word - 1).toNat)) → Re L xs 96 33 [(0, .ref 48), (1, V word), (2, V slot), (3, V low)] [V high] (HP ly F G A B) Q := by
      intro high  hhg
      have hsb : 0 < word → 0 ≤ A 50 (word - 1).toNat - A 49 (word - 1).toNat ∧ A 50 (word - 1).toNat - A 49 (word - 1).toNat ≤ 84 := fun h => hsp (word - 1).toNat (by omega)
      refine r_istore (l' := [(0, .ref 48), (1, V word), (2, V slot), (3, V low), (4, V high)]) i_96_33 (by decide +kernel) rfl ?_
      refine r_aload_n i_96_35 rfl ?_
      refine r_getF (v := .ref 31) i_96_36 rfl (hly 48 _ rfl) (hF.1 48 0 31 rfl) ?_
      refine r_getF (v := .ref 37) i_96_39 rfl (hly 31 _ rfl) (hF.1 31 3 37 rfl) ?_
      refine r_iload_n i_96_42 rfl ?_
      refine r_iald i_96_43 (hly 37 _ rfl) (by omega) (by omega) (by omega) ?_
      have q_1 := a_37 hA (slot.toNat)
      refine r_istore (l' := [(0, .ref 48), (1, V word), (2, V slot), (3, V low), (4, V high), (5, V (A 37 (slot.toNat)))]) i_96_44 (by decide +kernel) rfl ?_
      refine r_aload_n i_96_46 rfl ?_
      refine r_getF (v := .ref 51) i_96_47 rfl (hly 48 _ rfl) (hF.1 48 3 51 rfl) ?_
      refine r_iload_n i_96_50 rfl ?_
      refine r_iald i_96_51 (hly 51 _ rfl) (by omega) (by omega) (by omega) ?_
      have q_2 := a_51 hA (slot.toNat)
      refine r_istore (l' := [(0, .ref 48), (1, V word), (2, V slot), (3, V low), (4, V high), (5, V (A 37 (slot.toNat))), (6, V (A 51 (slot.toNat)))]) i_96_52 (by decide +kernel) rfl ?_
      refine r_aload_n i_96_54 rfl ?_
      refine r_iload_n i_96_55 rfl ?_
      refine r_iload i_96_56 rfl ?_
      refine r_cV (as := [V (A 37 (slot.toNat)), V word]) i_96_58 rfl (by decide +kernel) (Nat.le_of_ble_eq_true rfl) (Nat.le_of_ble_eq_true rfl) (hly 48 _ rfl) rfl ?_
      refine c_90 (word := word) (kind := A 37 (slot.toNat)) hly hF hG hA (by omega) (by omega) (by omega) (fun r_3 p3_0 => ?_)
      show Re L xs 96 61 [(0, .ref 48), (1, V word), (2, V slot), (3, V low), (4, V high), (5, V (A 37 (slot.toNat))), (6, V (A 51 (slot.toNat)))] [V r_3] (HP ly F G A B) _
      refine r_iload i_96_61 rfl ?_
      refine r_iadd i_96_63 ?_
      refine r_istore (l' := [(0, .ref 48), (1, V word), (2, V slot), (3, V low), (4, V high), (5, V (A 37 (slot.toNat))), (6, V (A 51 (slot.toNat))), (7, V (r_3 + (A 51 (slot.toNat))))]) i_96_64 (by decide +kernel) rfl ?_
      refine r_iload i_96_66 rfl ?_
      refine r_bipush i_96_68 (by decide) ?_
      refine r_imul i_96_70 ?_
      refine r_iload_n i_96_71 rfl ?_
      refine r_isub i_96_72 ?_
      refine r_istore (l' := [(0, .ref 48), (1, V word), (2, V slot), (3, V low), (4, V high), (5, V (A 37 (slot.toNat))), (6, V (A 51 (slot.toNat))), (7, V (r_3 + (A 51 (slot.toNat)))), (8, V (((A 37 (slot.toNat)) * 85) - low))]) i_96_73 (by decide +kernel) rfl ?_
      refine r_iload i_96_75 rfl ?_
      refine r_bipush i_96_77 (by decide) ?_
      refine r_imul i_96_79 ?_
      refine r_aload_n i_96_80 rfl ?_
      refine r_getF (v := .ref 49) i_96_81 rfl (hly 48 _ rfl) (hF.1 48 1 49 rfl) ?_
      refine r_iload_n i_96_84 rfl ?_
      refine r_iald i_96_85 (hly 49 _ rfl) (by omega) (by omega) (by omega) ?_
      have q_4 := a_49 hA (word.toNat)
      refine r_isub i_96_86 ?_
      refine r_iload i_96_87 rfl ?_
      refine r_iadd i_96_89 ?_
      refine r_istore (l' := [(0, .ref 48), (1, V word), (2, V slot), (3, V low), (4, V high), (5, V (A 37 (slot.toNat))), (6, V (A 51 (slot.toNat))), (7, V (r_3 + (A 51 (slot.toNat)))), (8, V (((A 37 (slot.toNat)) * 85) - low)), (9, V ((((A 37 (slot.toNat)) * 85) - (A 49 (word.toNat))) + (A 51 (slot.toNat))))]) i_96_90 (by decide +kernel) rfl ?_
      refine r_iload i_96_92 rfl ?_
      refine r_aload_n i_96_94 rfl ?_
      refine r_getF (v := .ref 50) i_96_95 rfl (hly 48 _ rfl) (hF.1 48 2 50 rfl) ?_
      refine r_iload_n i_96_98 rfl ?_
      refine r_iald i_96_99 (hly 50 _ rfl) (by omega) (by omega) (by omega) ?_
      have q_5 := a_50 hA (word.toNat)
      refine r_iload i_96_100 rfl ?_
      refine r_isub i_96_102 ?_
      refine r_min (r := (0, 0, 0)) i_96_103 (by decide +kernel) (Nat.le_of_ble_eq_true rfl) (by omega) (by omega) (fun m_6 em_6 => ?_)
      refine r_istore (l' := [(0, .ref 48), (1, V word), (2, V slot), (3, V low), (4, V high), (5, V (A 37 (slot.toNat))), (6, V (A 51 (slot.toNat))), (7, V (r_3 + (A 51 (slot.toNat)))), (8, V (((A 37 (slot.toNat)) * 85) - low)), (9, V ((((A 37 (slot.toNat)) * 85) - (A 49 (word.toNat))) + (A 51 (slot.toNat)))), (10, V m_6)]) i_96_106 (by decide +kernel) rfl ?_
      refine r_ldc (v := 1000000) i_96_108 (by decide) ?_
      refine r_istore (l' := [(0, .ref 48), (1, V word), (2, V slot), (3, V low), (4, V high), (5, V (A 37 (slot.toNat))), (6, V (A 51 (slot.toNat))), (7, V (r_3 + (A 51 (slot.toNat)))), (8, V (((A 37 (slot.toNat)) * 85) - low)), (9, V ((((A 37 (slot.toNat)) * 85) - (A 49 (word.toNat))) + (A 51 (slot.toNat)))), (10, V m_6), (11, V 1000000)]) i_96_110 (by decide +kernel) rfl ?_
      refine r_iload_n i_96_112 rfl ?_
      refine r_aload_n i_96_113 rfl ?_
      refine r_getF (v := .ref 49) i_96_114 rfl (hly 48 _ rfl) (hF.1 48 1 49 rfl) ?_
      refine r_iload_n i_96_117 rfl ?_
      refine r_iald i_96_118 (hly 49 _ rfl) (by omega) (by omega) (by omega) ?_
      refine r_iload i_96_119 rfl ?_
      refine r_isub i_96_121 ?_
      refine r_max (r := (0, 0, 0)) i_96_122 (by decide +kernel) (Nat.le_of_ble_eq_true rfl) (by omega) (by omega) (fun m_7 em_7 => ?_)
      refine r_istore (l' := [(0, .ref 48), (1, V word), (2, V slot), (3, V low), (4, V high), (5, V (A 37 (slot.toNat))), (6, V (A 51 (slot.toNat))), (7, V (r_3 + (A 51 (slot.toNat)))), (8, V (((A 37 (slot.toNat)) * 85) - low)), (9, V ((((A 37 (slot.toNat)) * 85) - (A 49 (word.toNat))) + (A 51 (slot.toNat)))), (10, V m_6), (11, V 1000000), (12, V m_7)]) i_96_125 (by decide +kernel) rfl ?_
      have lp127B : ∀ (nf : Nat) (least : Int) (mk : Int) (l13 : Int) (A127 : Nat → Nat → Int), (AQ A127) → (∀ a, ¬ (a = 55) → A127 a = A a) → (low ≤ mk ∧ A 49 word.toNat - (A 51 (slot.toNat)) ≤ mk ∧ mk ≤ 1000) → (0 ≤ least ∧ least ≤ 1000000) → (word = 0 → A 56 (85 * A 37 slot.toNat).toNat = 0 → least ≤ 2673 ∨ least = 1000000) → (1000 - mk).toNat < nf → Re L xs 96 127 [(0, .ref 48), (1, V word), (2, V slot), (3, V low), (4, V high), (5, V (A 37 (slot.toNat))), (6, V (A 51 (slot.toNat))), (7, V (r_3 + (A 51 (slot.toNat)))), (8, V (((A 37 (slot.toNat)) * 85) - low)), (9, V ((((A 37 (slot.toNat)) * 85) - (A 49 (word.toNat))) + (A 51 (slot.toNat)))), (10, V m_6), (11, V least), (12, V mk), (13, V l13)] [] (HP ly F G A127 B) Q := by
        intro nf
        induction nf with
        | zero => intros; omega
        | succ nf ih127B =>
          intro least mk l13 A127 hA127 fa127 hmk hls hle hm127
          refine r_iload i_96_127 rfl ?_
          refine r_iload i_96_129 rfl ?_
          refine r_cgt (t := 207) i_96_131 (by decide) (by omega) (by omega) (fun u_8 => ?_) (fun u_8 => ?_)
          · skip
            refine r_iload i_96_207 rfl ?_
            exact r_iret i_96_209 rfl rfl (K least A127 hA127 (by intro a hh; rw [fa127 a (fun h => hh h)]) (by omega) (by exact hle))
          · skip
            refine r_aload_n i_96_134 rfl ?_
            refine r_getF (v := .ref 56) i_96_135 rfl (hly 48 _ rfl) (hF.1 48 8 56 rfl) ?_
            refine r_iload i_96_138 rfl ?_
            refine r_iload i_96_140 rfl ?_
            refine r_iadd i_96_142 ?_
            refine r_iald i_96_143 (hly 56 _ rfl) (by omega) (by omega) (by omega) ?_
            rw [show A127 56 = A 56 from by rw [fa127 56 (by omega)]]
            have q_9 := a_56 hA (((((A 37 (slot.toNat)) * 85) - low) + mk).toNat)
            refine r_aload_n i_96_144 rfl ?_
            refine r_getF (v := .ref 31) i_96_145 rfl (hly 48 _ rfl) (hF.1 48 0 31 rfl) ?_
            refine r_getF (v := .ref 38) i_96_148 rfl (hly 31 _ rfl) (hF.1 31 4 38 rfl) ?_
            refine r_iload_n i_96_151 rfl ?_
            refine r_iald i_96_152 (hly 38 _ rfl) (by omega) (by omega) (by omega) ?_
            rw [show A127 38 = A 38 from by rw [fa127 38 (by omega)]]
            have q_10 := a_38 hA (slot.toNat)
            refine r_iadd i_96_153 ?_
            refine r_istore (l' := [(0, .ref 48), (1, V word), (2, V slot), (3, V low), (4, V high), (5, V (A 37 (slot.toNat))), (6, V (A 51 (slot.toNat))), (7, V (r_3 + (A 51 (slot.toNat)))), (8, V (((A 37 (slot.toNat)) * 85) - low)), (9, V ((((A 37 (slot.toNat)) * 85) - (A 49 (word.toNat))) + (A 51 (slot.toNat)))), (10, V m_6), (11, V least), (12, V mk), (13, V ((A 56 (((((A 37 (slot.toNat)) * 85) - low) + mk).toNat)) + (A 38 (slot.toNat))))]) i_96_154 (by decide +kernel) rfl ?_
            refine r_aload_n i_96_156 rfl ?_
            refine r_getF (v := .ref 55) i_96_157 rfl (hly 48 _ rfl) (hF.1 48 7 55 rfl) ?_
            refine r_iload i_96_160 rfl ?_
            refine r_iload i_96_162 rfl ?_
            refine r_iadd i_96_164 ?_
            refine r_aload_n i_96_165 rfl ?_
            refine r_getF (v := .ref 55) i_96_166 rfl (hly 48 _ rfl) (hF.1 48 7 55 rfl) ?_
            refine r_iload i_96_169 rfl ?_
            refine r_iload i_96_171 rfl ?_
            refine r_iadd i_96_173 ?_
            refine r_iald i_96_174 (hly 55 _ rfl) (by omega) (by omega) (by omega) ?_
            have q_11 := a_55 hA127 ((((((A 37 (slot.toNat)) * 85) - (A 49 (word.toNat))) + (A 51 (slot.toNat))) + mk).toNat)
            refine r_iload i_96_175 rfl ?_
            refine r_min (r := (0, 0, 0)) i_96_177 (by decide +kernel) (Nat.le_of_ble_eq_true rfl) (by omega) (by omega) (fun m_12 em_12 => ?_)
            refine r_iastQ i_96_180 (hly 55 _ rfl) (by omega) (by omega) (by omega) (fun A_13 eA_13 => ?_)
            have hA_13 : AQ A_13 := by rw [eA_13]; exact au_55 hA127 (by omega) (by omega)
            refine r_iload i_96_181 rfl ?_
            refine r_iload i_96_183 rfl ?_
            refine r_aload_n i_96_185 rfl ?_
            refine r_getF (v := .ref 54) i_96_186 rfl (hly 48 _ rfl) (hF.1 48 6 54 rfl) ?_
            refine r_iload i_96_189 rfl ?_
            refine r_iload i_96_191 rfl ?_
            refine r_iadd i_96_193 ?_
            refine r_iald i_96_194 (hly 54 _ rfl) (by omega) (by omega) (by omega) ?_
            rw [show A_13 54 = A 54 from by rw [eA_13, up2_a (by omega), fa127 54 (by omega)]]
            have q_14 := a_54 hA (((r_3 + (A 51 (slot.toNat))) + mk).toNat)
            have h1 := hrs ((r_3 + (A 51 (slot.toNat))) + mk).toNat (by omega)
            rw [show ((((r_3 + (A 51 (slot.toNat))) + mk).toNat / 680 : Nat) : Int) = word from by omega] at h1
            have h56 : word = 0 → A 56 ((((A 37 (slot.toNat)) * 85) - low) + mk).toNat = A 56 (85 * A 37 slot.toNat).toNat := fun h => by rw [show (((A 37 (slot.toNat)) * 85) - low) + mk = 85 * A 37 slot.toNat from by omega]
            refine r_iadd i_96_195 ?_
            refine r_min (r := (0, 0, 0)) i_96_196 (by decide +kernel) (Nat.le_of_ble_eq_true rfl) (by omega) (by omega) (fun m_15 em_15 => ?_)
            refine r_istore (l' := [(0, .ref 48), (1, V word), (2, V slot), (3, V low), (4, V high), (5, V (A 37 (slot.toNat))), (6, V (A 51 (slot.toNat))), (7, V (r_3 + (A 51 (slot.toNat)))), (8, V (((A 37 (slot.toNat)) * 85) - low)), (9, V ((((A 37 (slot.toNat)) * 85) - (A 49 (word.toNat))) + (A 51 (slot.toNat)))), (10, V m_6), (11, V m_15), (12, V mk), (13, V ((A 56 (((((A 37 (slot.toNat)) * 85) - low) + mk).toNat)) + (A 38 (slot.toNat))))]) i_96_199 (by decide +kernel) rfl ?_
            refine r_iinc (l' := [(0, .ref 48), (1, V word), (2, V slot), (3, V low), (4, V high), (5, V (A 37 (slot.toNat))), (6, V (A 51 (slot.toNat))), (7, V (r_3 + (A 51 (slot.toNat)))), (8, V (((A 37 (slot.toNat)) * 85) - low)), (9, V ((((A 37 (slot.toNat)) * 85) - (A 49 (word.toNat))) + (A 51 (slot.toNat)))), (10, V m_6), (11, V m_15), (12, V (mk + 1)), (13, V ((A 56 (((((A 37 (slot.toNat)) * 85) - low) + mk).toNat)) + (A 38 (slot.toNat))))]) i_96_201 rfl (by decide +kernel) rfl ?_
            refine r_go (t := 127) i_96_204 (by decide) ?_
            exact ih127B m_15 (mk + 1) ((A 56 (((((A 37 (slot.toNat)) * 85) - low) + mk).toNat)) + (A 38 (slot.toNat))) A_13 hA_13 (by intro a hh; rw [eA_13, up2_a (fun h => hh h), fa127 a (fun h => hh h)]) (by omega) (by omega) (by first | (intro h0 hh; exact .inr rfl) | (intro h0 hh; have e1 := hle h0 hh; have e2 := h56 h0; omega)) (by omega)
      have lp127A1112 : ∀ (nf : Nat) (least : Int) (mk : Int) (A127 : Nat → Nat → Int), (AQ A127) → (∀ a, ¬ (a = 55) → A127 a = A a) → (low ≤ mk ∧ A 49 word.toNat - (A 51 (slot.toNat)) ≤ mk ∧ mk ≤ 1000) → (0 ≤ least ∧ least ≤ 1000000) → (word = 0 → A 56 (85 * A 37 slot.toNat).toNat = 0 → least ≤ 2673 ∨ least = 1000000) → (1000 - mk).toNat < nf → Re L xs 96 127 [(0, .ref 48), (1, V word), (2, V slot), (3, V low), (4, V high), (5, V (A 37 (slot.toNat))), (6, V (A 51 (slot.toNat))), (7, V (r_3 + (A 51 (slot.toNat)))), (8, V (((A 37 (slot.toNat)) * 85) - low)), (9, V ((((A 37 (slot.toNat)) * 85) - (A 49 (word.toNat))) + (A 51 (slot.toNat)))), (10, V m_6), (11, V least), (12, V mk)] [] (HP ly F G A127 B) Q := by
        intro nf
        induction nf with
        | zero => intros; omega
        | succ nf ih127A1112 =>
          intro least mk A127 hA127 fa127 hmk hls hle hm127
          refine r_iload i_96_127 rfl ?_
          refine r_iload i_96_129 rfl ?_
          refine r_cgt (t := 207) i_96_131 (by decide) (by omega) (by omega) (fun u_16 => ?_) (fun u_16 => ?_)
          · skip
            refine r_iload i_96_207 rfl ?_
            exact r_iret i_96_209 rfl rfl (K least A127 hA127 (by intro a hh; rw [fa127 a (fun h => hh h)]) (by omega) (by exact hle))
          · skip
            refine r_aload_n i_96_134 rfl ?_
            refine r_getF (v := .ref 56) i_96_135 rfl (hly 48 _ rfl) (hF.1 48 8 56 rfl) ?_
            refine r_iload i_96_138 rfl ?_
            refine r_iload i_96_140 rfl ?_
            refine r_iadd i_96_142 ?_
            refine r_iald i_96_143 (hly 56 _ rfl) (by omega) (by omega) (by omega) ?_
            rw [show A127 56 = A 56 from by rw [fa127 56 (by omega)]]
            have q_17 := a_56 hA (((((A 37 (slot.toNat)) * 85) - low) + mk).toNat)
            refine r_aload_n i_96_144 rfl ?_
            refine r_getF (v := .ref 31) i_96_145 rfl (hly 48 _ rfl) (hF.1 48 0 31 rfl) ?_
            refine r_getF (v := .ref 38) i_96_148 rfl (hly 31 _ rfl) (hF.1 31 4 38 rfl) ?_
            refine r_iload_n i_96_151 rfl ?_
            refine r_iald i_96_152 (hly 38 _ rfl) (by omega) (by omega) (by omega) ?_
            rw [show A127 38 = A 38 from by rw [fa127 38 (by omega)]]
            have q_18 := a_38 hA (slot.toNat)
            refine r_iadd i_96_153 ?_
            refine r_istore (l' := [(0, .ref 48), (1, V word), (2, V slot), (3, V low), (4, V high), (5, V (A 37 (slot.toNat))), (6, V (A 51 (slot.toNat))), (7, V (r_3 + (A 51 (slot.toNat)))), (8, V (((A 37 (slot.toNat)) * 85) - low)), (9, V ((((A 37 (slot.toNat)) * 85) - (A 49 (word.toNat))) + (A 51 (slot.toNat)))), (10, V m_6), (11, V least), (12, V mk), (13, V ((A 56 (((((A 37 (slot.toNat)) * 85) - low) + mk).toNat)) + (A 38 (slot.toNat))))]) i_96_154 (by decide +kernel) rfl ?_
            refine r_aload_n i_96_156 rfl ?_
            refine r_getF (v := .ref 55) i_96_157 rfl (hly 48 _ rfl) (hF.1 48 7 55 rfl) ?_
            refine r_iload i_96_160 rfl ?_
            refine r_iload i_96_162 rfl ?_
            refine r_iadd i_96_164 ?_
            refine r_aload_n i_96_165 rfl ?_
            refine r_getF (v := .ref 55) i_96_166 rfl (hly 48 _ rfl) (hF.1 48 7 55 rfl) ?_
            refine r_iload i_96_169 rfl ?_
            refine r_iload i_96_171 rfl ?_
            refine r_iadd i_96_173 ?_
            refine r_iald i_96_174 (hly 55 _ rfl) (by omega) (by omega) (by omega) ?_
            have q_19 := a_55 hA127 ((((((A 37 (slot.toNat)) * 85) - (A 49 (word.toNat))) + (A 51 (slot.toNat))) + mk).toNat)
            refine r_iload i_96_175 rfl ?_
            refine r_min (r := (0, 0, 0)) i_96_177 (by decide +kernel) (Nat.le_of_ble_eq_true rfl) (by omega) (by omega) (fun m_20 em_20 => ?_)
            refine r_iastQ i_96_180 (hly 55 _ rfl) (by omega) (by omega) (by omega) (fun A_21 eA_21 => ?_)
            have hA_21 : AQ A_21 := by rw [eA_21]; exact au_55 hA127 (by omega) (by omega)
            refine r_iload i_96_181 rfl ?_
            refine r_iload i_96_183 rfl ?_
            refine r_aload_n i_96_185 rfl ?_
            refine r_getF (v := .ref 54) i_96_186 rfl (hly 48 _ rfl) (hF.1 48 6 54 rfl) ?_
            refine r_iload i_96_189 rfl ?_
            refine r_iload i_96_191 rfl ?_
            refine r_iadd i_96_193 ?_
            refine r_iald i_96_194 (hly 54 _ rfl) (by omega) (by omega) (by omega) ?_
            rw [show A_21 54 = A 54 from by rw [eA_21, up2_a (by omega), fa127 54 (by omega)]]
            have q_22 := a_54 hA (((r_3 + (A 51 (slot.toNat))) + mk).toNat)
            have h1 := hrs ((r_3 + (A 51 (slot.toNat))) + mk).toNat (by omega)
            rw [show ((((r_3 + (A 51 (slot.toNat))) + mk).toNat / 680 : Nat) : Int) = word from by omega] at h1
            have h56 : word = 0 → A 56 ((((A 37 (slot.toNat)) * 85) - low) + mk).toNat = A 56 (85 * A 37 slot.toNat).toNat := fun h => by rw [show (((A 37 (slot.toNat)) * 85) - low) + mk = 85 * A 37 slot.toNat from by omega]
            refine r_iadd i_96_195 ?_
            refine r_min (r := (0, 0, 0)) i_96_196 (by decide +kernel) (Nat.le_of_ble_eq_true rfl) (by omega) (by omega) (fun m_23 em_23 => ?_)
            refine r_istore (l' := [(0, .ref 48), (1, V word), (2, V slot), (3, V low), (4, V high), (5, V (A 37 (slot.toNat))), (6, V (A 51 (slot.toNat))), (7, V (r_3 + (A 51 (slot.toNat)))), (8, V (((A 37 (slot.toNat)) * 85) - low)), (9, V ((((A 37 (slot.toNat)) * 85) - (A 49 (word.toNat))) + (A 51 (slot.toNat)))), (10, V m_6), (11, V m_23), (12, V mk), (13, V ((A 56 (((((A 37 (slot.toNat)) * 85) - low) + mk).toNat)) + (A 38 (slot.toNat))))]) i_96_199 (by decide +kernel) rfl ?_
            refine r_iinc (l' := [(0, .ref 48), (1, V word), (2, V slot), (3, V low), (4, V high), (5, V (A 37 (slot.toNat))), (6, V (A 51 (slot.toNat))), (7, V (r_3 + (A 51 (slot.toNat)))), (8, V (((A 37 (slot.toNat)) * 85) - low)), (9, V ((((A 37 (slot.toNat)) * 85) - (A 49 (word.toNat))) + (A 51 (slot.toNat)))), (10, V m_6), (11, V m_23), (12, V (mk + 1)), (13, V ((A 56 (((((A 37 (slot.toNat)) * 85) - low) + mk).toNat)) + (A 38 (slot.toNat))))]) i_96_201 rfl (by decide +kernel) rfl ?_
            refine r_go (t := 127) i_96_204 (by decide) ?_
            exact lp127B _ m_23 (mk + 1) ((A 56 (((((A 37 (slot.toNat)) * 85) - low) + mk).toNat)) + (A 38 (slot.toNat))) A_21 hA_21 (by intro a hh; rw [eA_21, up2_a (fun h => hh h), fa127 a (fun h => hh h)]) (by omega) (by omega) (by first | (intro h0 hh; exact .inr rfl) | (intro h0 hh; have e1 := hle h0 hh; have e2 := h56 h0; omega)) (Nat.lt_succ_self _)
      exact lp127A1112 _ 1000000 m_7 A hA (by intro a hh; rfl) (by omega) (by omega) (by first | (intro h0 hh; exact .inr rfl) | (intro h0 hh; have e1 := hle h0 hh; have e2 := h56 h0; omega)) (Nat.lt_succ_self _)
    refine r_iload_n i_96_17 rfl ?_
    refine r_ne0 (t := 25) i_96_18 (by decide) (by omega) (fun u_24 => ?_) (fun u_24 => ?_)
    · skip
      refine r_aload_n i_96_25 rfl ?_
      refine r_getF (v := .ref 50) i_96_26 rfl (hly 48 _ rfl) (hF.1 48 2 50 rfl) ?_
      refine r_iload_n i_96_29 rfl ?_
      refine r_iconst i_96_30 ?_
      refine r_isub i_96_31 ?_
      refine r_iald i_96_32 (hly 50 _ rfl) (by omega) (by omega) (by omega) ?_
      have q_25 := a_50 hA ((word - 1).toNat)
      exact jn33 (A 50 ((word - 1).toNat))  (by omega)
    · skip
      refine r_iconst i_96_21 ?_
      refine r_go (t := 33) i_96_22 (by decide) ?_
      exact jn33 0  (by omega)
  refine r_iload_n i_96_0 rfl ?_
  refine r_ne0 (t := 8) i_96_1 (by decide) (by omega) (fun u_26 => ?_) (fun u_26 => ?_)
  · skip
    refine r_aload_n i_96_8 rfl ?_
    refine r_getF (v := .ref 49) i_96_9 rfl (hly 48 _ rfl) (hF.1 48 1 49 rfl) ?_
    refine r_iload_n i_96_12 rfl ?_
    refine r_iconst i_96_13 ?_
    refine r_isub i_96_14 ?_
    refine r_iald i_96_15 (hly 49 _ rfl) (by omega) (by omega) (by omega) ?_
    have q_27 := a_49 hA ((word - 1).toNat)
    exact jn16 (A 49 ((word - 1).toNat))  (by omega)
  · skip
    refine r_iconst i_96_4 ?_
    refine r_go (t := 16) i_96_5 (by decide) ?_
    exact jn16 0  (by omega)
