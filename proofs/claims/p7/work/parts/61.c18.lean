set_option maxHeartbeats 4000000 in
theorem c_108 {L : Nat} {xs : Nat → Int32} {ly : List LK} {F : Nat → Nat → Value} {G A : Nat → Nat → Int} {B : Nat → Nat → Int64} {Q : Option Value → AH → Prop} {word : Int} {kind : Int} {marks : Int} (hly : LyOk ly) (hF : RfOk F) (hG : GO G) (hA : AQ A) (in_word : inR word) (in_kind : inR kind) (in_marks : inR marks) (hw : 0 ≤ word ∧ word ≤ 13) (K : ∀ (r : Int), (r = (kind * 85 + marks - A 49 word.toNat) * 101) → Q (some (V r)) (HP ly F G A B)) : Re L xs 108 0 [(0, .ref 57), (1, V word), (2, V kind), (3, V marks)] [] (HP ly F G A B) Q := by
  refine r_iload_n i_108_0 rfl ?_
  refine r_bipush i_108_1 (by decide) ?_
  refine r_imul i_108_3 ?_
  refine r_iload_n i_108_4 rfl ?_
  refine r_iadd i_108_5 ?_
  refine r_aload_n i_108_6 rfl ?_
  refine r_getF (v := .ref 48) i_108_7 rfl (hly 57 _ rfl) (hF.1 57 0 48 rfl) ?_
  refine r_getF (v := .ref 49) i_108_10 rfl (hly 48 _ rfl) (hF.1 48 1 49 rfl) ?_
  refine r_iload_n i_108_13 rfl ?_
  refine r_iald i_108_14 (hly 49 _ rfl) (by omega) (by omega) (by omega) ?_
  have q_1 := a_49 hA (word.toNat)
  refine r_isub i_108_15 ?_
  refine r_bipush i_108_16 (by decide) ?_
  refine r_imul i_108_18 ?_
  exact r_iret i_108_19 rfl rfl (K ((((kind * 85) + marks) - (A 49 (word.toNat))) * 101) (by omega))
set_option maxHeartbeats 4000000 in
theorem c_107 {L : Nat} {xs : Nat → Int32} {ly : List LK} {F : Nat → Nat → Value} {G A : Nat → Nat → Int} {B : Nat → Nat → Int64} {Q : Option Value → AH → Prop} {la : Nat} {word : Int} (hly : LyOk ly) (hF : RfOk F) (hG : GO G) (hA : AQ A) (in_word : inR word) (hla : ly[la]? = some (.inr (.long, 68680))) (hw : 0 ≤ word ∧ word < G 31 8) (hsp : spV G A) (K : ∀ (B' : Nat → Nat → Int64), (∀ a, ¬ a = la → B' a = B a) → (hnZ A B' la word 8) → Q none (HP ly F G A B')) : Re L xs 107 0 [(0, .ref 57), (1, .ref la), (2, V word)] [] (HP ly F G A B) Q := by
  have z8 := g_31_8 hG
  have hs := hsp word.toNat (by omega)
  have z49 := a_49 hA word.toNat
  refine r_iconst i_107_0 ?_
  refine r_istore_n (l' := [(0, .ref 57), (1, .ref la), (2, V word), (3, V 0)]) i_107_1 (by decide +kernel) rfl ?_
  have lp2B : ∀ (nf : Nat) (kd : Int) (l4 : Int) (B2 : Nat → Nat → Int64), (0 ≤ kd ∧ kd ≤ 8) → (∀ a, ¬ a = la → B2 a = B a) → (hnZ A B2 la word kd) → (8 - kd).toNat < nf → Re L xs 107 2 [(0, .ref 57), (1, .ref la), (2, V word), (3, V kd), (4, V l4)] [] (HP ly F G A B2) Q := by
    intro nf
    induction nf with
    | zero => intros; omega
    | succ nf ih2B =>
      intro kd l4 B2  hkk hfr hz hm2
      refine r_iload_n i_107_2 rfl ?_
      refine r_bipush i_107_3 (by decide) ?_
      refine r_cge (t := 68) i_107_5 (by decide) (by omega) (by omega) (fun u_1 => ?_) (fun u_1 => ?_)
      · skip
        exact r_vret i_107_68 rfl (K B2 (by exact hfr) (by rw [show (8 : Int) = kd from by omega]; exact hz))
      · skip
        refine r_aload_n i_107_8 rfl ?_
        refine r_getF (v := .ref 48) i_107_9 rfl (hly 57 _ rfl) (hF.1 57 0 48 rfl) ?_
        refine r_iload_n i_107_12 rfl ?_
        refine r_iload_n i_107_13 rfl ?_
        refine r_cV (as := [V kd, V word]) i_107_14 rfl (by decide +kernel) (Nat.le_of_ble_eq_true rfl) (Nat.le_of_ble_eq_true rfl) (hly 48 _ rfl) rfl ?_
        refine c_88 (word := word) (kind := kd) hly hF hG hA (by omega) (by omega) (by omega) (fun r_2 p2_0 p2_1 => ?_)
        show Re L xs 107 17 [(0, .ref 57), (1, .ref la), (2, V word), (3, V kd), (4, V l4)] [V r_2] (HP ly F G A B2) _
        refine r_eq0 (t := 62) i_107_17 (by decide) (by omega) (fun u_3 => ?_) (fun u_3 => ?_)
        · skip
          refine r_iinc (l' := [(0, .ref 57), (1, .ref la), (2, V word), (3, V (kd + 1)), (4, V l4)]) i_107_62 rfl (by decide +kernel) rfl ?_
          refine r_go (t := 2) i_107_65 (by decide) ?_
          exact ih2B (kd + 1) l4 B2  (by omega) (by first | (intro a ha; rfl) | exact hfr | (intro a ha; rw [zzp1 a ha]; exact hfr a ha)) (by first | exact hnZ_0 | exact hnZ_n hz (fun hb => by have := p2_1.mpr hb; omega) | exact hnZ_f hz zzp0 (by omega) (by omega) (by omega)) (by omega)
        · skip
          refine r_aload_n i_107_20 rfl ?_
          refine r_iload_n i_107_21 rfl ?_
          refine r_iload_n i_107_22 rfl ?_
          refine r_aload_n i_107_23 rfl ?_
          refine r_getF (v := .ref 48) i_107_24 rfl (hly 57 _ rfl) (hF.1 57 0 48 rfl) ?_
          refine r_getF (v := .ref 49) i_107_27 rfl (hly 48 _ rfl) (hF.1 48 1 49 rfl) ?_
          refine r_iload_n i_107_30 rfl ?_
          refine r_iald i_107_31 (hly 49 _ rfl) (by omega) (by omega) (by omega) ?_
          have q_4 := a_49 hA (word.toNat)
          refine r_cV (as := [V (A 49 (word.toNat)), V kd, V word]) i_107_32 rfl (by decide +kernel) (Nat.le_of_ble_eq_true rfl) (Nat.le_of_ble_eq_true rfl) (hly 57 _ rfl) rfl ?_
          refine c_108 (word := word) (kind := kd) (marks := A 49 (word.toNat)) hly hF hG hA (by omega) (by omega) (by omega) (by omega) (fun r_5 p5_0 => ?_)
          show Re L xs 107 35 [(0, .ref 57), (1, .ref la), (2, V word), (3, V kd), (4, V l4)] [V r_5] (HP ly F G A B2) _
          refine r_istore (l' := [(0, .ref 57), (1, .ref la), (2, V word), (3, V kd), (4, V r_5)]) i_107_35 (by decide +kernel) rfl ?_
          refine r_aload_n i_107_37 rfl ?_
          refine r_iload i_107_38 rfl ?_
          refine r_aload_n i_107_40 rfl ?_
          refine r_iload_n i_107_41 rfl ?_
          refine r_iload_n i_107_42 rfl ?_
          refine r_aload_n i_107_43 rfl ?_
          refine r_getF (v := .ref 48) i_107_44 rfl (hly 57 _ rfl) (hF.1 57 0 48 rfl) ?_
          refine r_getF (v := .ref 50) i_107_47 rfl (hly 48 _ rfl) (hF.1 48 2 50 rfl) ?_
          refine r_iload_n i_107_50 rfl ?_
          refine r_iald i_107_51 (hly 50 _ rfl) (by omega) (by omega) (by omega) ?_
          have q_6 := a_50 hA (word.toNat)
          refine r_cV (as := [V (A 50 (word.toNat)), V kd, V word]) i_107_52 rfl (by decide +kernel) (Nat.le_of_ble_eq_true rfl) (Nat.le_of_ble_eq_true rfl) (hly 57 _ rfl) rfl ?_
          refine c_108 (word := word) (kind := kd) (marks := A 50 (word.toNat)) hly hF hG hA (by omega) (by omega) (by omega) (by omega) (fun r_7 p7_0 => ?_)
          show Re L xs 107 55 [(0, .ref 57), (1, .ref la), (2, V word), (3, V kd), (4, V r_5)] [V r_7, V r_5, .ref la] (HP ly F G A B2) _
          refine r_bipush i_107_55 (by decide) ?_
          refine r_iadd i_107_57 ?_
          refine r_lconst i_107_58 ?_
          show Re L xs 107 59 [(0, .ref 57), (1, .ref la), (2, V word), (3, V kd), (4, V r_5)] [.long (Int64.ofNat 0), V (r_7 + 101), V r_5, .ref la] (HP ly F G A B2) _
          refine r_cS (as := [.long (Int64.ofNat 0), V (r_7 + 101), V r_5, .ref la]) i_107_59 rfl (by decide +kernel) (Nat.le_of_ble_eq_true rfl) (Nat.le_of_ble_eq_true rfl) ?_
          refine c_109 (ra := la) (fr := r_5) (to := r_7 + 101) (v := Int64.ofNat 0) (rn := 68680) hly hF hG hA (by omega) (by omega) (by exact hla) (by omega) (by omega) (fun B_8 p8_0 p8_1 => ?_)
          show Re L xs 107 62 [(0, .ref 57), (1, .ref la), (2, V word), (3, V kd), (4, V r_5)] [] (HP ly F G A B_8) _
          refine r_iinc (l' := [(0, .ref 57), (1, .ref la), (2, V word), (3, V (kd + 1)), (4, V r_5)]) i_107_62 rfl (by decide +kernel) rfl ?_
          refine r_go (t := 2) i_107_65 (by decide) ?_
          exact ih2B (kd + 1) r_5 B_8  (by omega) (by first | (intro a ha; rfl) | exact hfr | (intro a ha; rw [p8_1 a ha]; exact hfr a ha)) (by first | exact hnZ_0 | exact hnZ_n hz (fun hb => by have := p2_1.mpr hb; omega) | exact hnZ_f hz p8_0 (by omega) (by omega) (by omega)) (by omega)
  have lp2A3 : ∀ (nf : Nat) (kd : Int) (B2 : Nat → Nat → Int64), (0 ≤ kd ∧ kd ≤ 8) → (∀ a, ¬ a = la → B2 a = B a) → (hnZ A B2 la word kd) → (8 - kd).toNat < nf → Re L xs 107 2 [(0, .ref 57), (1, .ref la), (2, V word), (3, V kd)] [] (HP ly F G A B2) Q := by
    intro nf
    induction nf with
    | zero => intros; omega
    | succ nf ih2A3 =>
      intro kd B2  hkk hfr hz hm2
      refine r_iload_n i_107_2 rfl ?_
      refine r_bipush i_107_3 (by decide) ?_
      refine r_cge (t := 68) i_107_5 (by decide) (by omega) (by omega) (fun u_9 => ?_) (fun u_9 => ?_)
      · skip
        exact r_vret i_107_68 rfl (K B2 (by exact hfr) (by rw [show (8 : Int) = kd from by omega]; exact hz))
      · skip
        refine r_aload_n i_107_8 rfl ?_
        refine r_getF (v := .ref 48) i_107_9 rfl (hly 57 _ rfl) (hF.1 57 0 48 rfl) ?_
        refine r_iload_n i_107_12 rfl ?_
        refine r_iload_n i_107_13 rfl ?_
        refine r_cV (as := [V kd, V word]) i_107_14 rfl (by decide +kernel) (Nat.le_of_ble_eq_true rfl) (Nat.le_of_ble_eq_true rfl) (hly 48 _ rfl) rfl ?_
        refine c_88 (word := word) (kind := kd) hly hF hG hA (by omega) (by omega) (by omega) (fun r_10 p10_0 p10_1 => ?_)
        show Re L xs 107 17 [(0, .ref 57), (1, .ref la), (2, V word), (3, V kd)] [V r_10] (HP ly F G A B2) _
        refine r_eq0 (t := 62) i_107_17 (by decide) (by omega) (fun u_11 => ?_) (fun u_11 => ?_)
        · skip
          refine r_iinc (l' := [(0, .ref 57), (1, .ref la), (2, V word), (3, V (kd + 1))]) i_107_62 rfl (by decide +kernel) rfl ?_
          refine r_go (t := 2) i_107_65 (by decide) ?_
          exact ih2A3 (kd + 1) B2  (by omega) (by first | (intro a ha; rfl) | exact hfr | (intro a ha; rw [zzp1 a ha]; exact hfr a ha)) (by first | exact hnZ_0 | exact hnZ_n hz (fun hb => by have := p10_1.mpr hb; omega) | exact hnZ_f hz zzp0 (by omega) (by omega) (by omega)) (by omega)
        · skip
          refine r_aload_n i_107_20 rfl ?_
          refine r_iload_n i_107_21 rfl ?_
          refine r_iload_n i_107_22 rfl ?_
          refine r_aload_n i_107_23 rfl ?_
          refine r_getF (v := .ref 48) i_107_24 rfl (hly 57 _ rfl) (hF.1 57 0 48 rfl) ?_
          refine r_getF (v := .ref 49) i_107_27 rfl (hly 48 _ rfl) (hF.1 48 1 49 rfl) ?_
          refine r_iload_n i_107_30 rfl ?_
          refine r_iald i_107_31 (hly 49 _ rfl) (by omega) (by omega) (by omega) ?_
          have q_12 := a_49 hA (word.toNat)
          refine r_cV (as := [V (A 49 (word.toNat)), V kd, V word]) i_107_32 rfl (by decide +kernel) (Nat.le_of_ble_eq_true rfl) (Nat.le_of_ble_eq_true rfl) (hly 57 _ rfl) rfl ?_
          refine c_108 (word := word) (kind := kd) (marks := A 49 (word.toNat)) hly hF hG hA (by omega) (by omega) (by omega) (by omega) (fun r_13 p13_0 => ?_)
          show Re L xs 107 35 [(0, .ref 57), (1, .ref la), (2, V word), (3, V kd)] [V r_13] (HP ly F G A B2) _
          refine r_istore (l' := [(0, .ref 57), (1, .ref la), (2, V word), (3, V kd), (4, V r_13)]) i_107_35 (by decide +kernel) rfl ?_
          refine r_aload_n i_107_37 rfl ?_
          refine r_iload i_107_38 rfl ?_
          refine r_aload_n i_107_40 rfl ?_
          refine r_iload_n i_107_41 rfl ?_
          refine r_iload_n i_107_42 rfl ?_
          refine r_aload_n i_107_43 rfl ?_
          refine r_getF (v := .ref 48) i_107_44 rfl (hly 57 _ rfl) (hF.1 57 0 48 rfl) ?_
          refine r_getF (v := .ref 50) i_107_47 rfl (hly 48 _ rfl) (hF.1 48 2 50 rfl) ?_
          refine r_iload_n i_107_50 rfl ?_
          refine r_iald i_107_51 (hly 50 _ rfl) (by omega) (by omega) (by omega) ?_
          have q_14 := a_50 hA (word.toNat)
          refine r_cV (as := [V (A 50 (word.toNat)), V kd, V word]) i_107_52 rfl (by decide +kernel) (Nat.le_of_ble_eq_true rfl) (Nat.le_of_ble_eq_true rfl) (hly 57 _ rfl) rfl ?_
          refine c_108 (word := word) (kind := kd) (marks := A 50 (word.toNat)) hly hF hG hA (by omega) (by omega) (by omega) (by omega) (fun r_15 p15_0 => ?_)
          show Re L xs 107 55 [(0, .ref 57), (1, .ref la), (2, V word), (3, V kd), (4, V r_13)] [V r_15, V r_13, .ref la] (HP ly F G A B2) _
          refine r_bipush i_107_55 (by decide) ?_
          refine r_iadd i_107_57 ?_
          refine r_lconst i_107_58 ?_
          show Re L xs 107 59 [(0, .ref 57), (1, .ref la), (2, V word), (3, V kd), (4, V r_13)] [.long (Int64.ofNat 0), V (r_15 + 101), V r_13, .ref la] (HP ly F G A B2) _
          refine r_cS (as := [.long (Int64.ofNat 0), V (r_15 + 101), V r_13, .ref la]) i_107_59 rfl (by decide +kernel) (Nat.le_of_ble_eq_true rfl) (Nat.le_of_ble_eq_true rfl) ?_
          refine c_109 (ra := la) (fr := r_13) (to := r_15 + 101) (v := Int64.ofNat 0) (rn := 68680) hly hF hG hA (by omega) (by omega) (by exact hla) (by omega) (by omega) (fun B_16 p16_0 p16_1 => ?_)
          show Re L xs 107 62 [(0, .ref 57), (1, .ref la), (2, V word), (3, V kd), (4, V r_13)] [] (HP ly F G A B_16) _
          refine r_iinc (l' := [(0, .ref 57), (1, .ref la), (2, V word), (3, V (kd + 1)), (4, V r_13)]) i_107_62 rfl (by decide +kernel) rfl ?_
          refine r_go (t := 2) i_107_65 (by decide) ?_
          exact lp2B _ (kd + 1) r_13 B_16  (by omega) (by first | (intro a ha; rfl) | exact hfr | (intro a ha; rw [p16_1 a ha]; exact hfr a ha)) (by first | exact hnZ_0 | exact hnZ_n hz (fun hb => by have := p10_1.mpr hb; omega) | exact hnZ_f hz p16_0 (by omega) (by omega) (by omega)) (Nat.lt_succ_self _)
  exact lp2A3 _ 0 B  (by omega) (by first | (intro a ha; rfl) | exact hfr | (intro a ha; rw [zzp1 a ha]; exact hfr a ha)) (by first | exact hnZ_0 | exact hnZ_n hz (fun hb => by have := zzp1.mpr hb; omega) | exact hnZ_f hz zzp0 (by omega) (by omega) (by omega)) (Nat.lt_succ_self _)
set_option maxHeartbeats 4000000 in
theorem c_110 {L : Nat} {xs : Nat → Int32} {ly : List LK} {F : Nat → Nat → Value} {G A : Nat → Nat → Int} {B : Nat → Nat → Int64} {Q : Option Value → AH → Prop} {best : Int} {la : Nat} (hly : LyOk ly) (hF : RfOk F) (hG : GO G) (hA : AQ A) (in_best : inR best) (hbs : 0 ≤ best ∧ best ≤ 2673) (hn : 0 < G 31 8) (hsp : spV G A) (hrs : RS A) (hla : ly[la]? = some (.inr (.long, 68680))) (hf3 : F 57 3 = .ref la) (hh : hnV A B la 0) (K : ∀ (B' : Nat → Nat → Int64), (∀ a, ¬ a = la → B' a = B a) → (hnV A B' la 0) → Q none (HP ly F G A B')) : Re L xs 110 0 [(0, .ref 57), (1, V best)] [] (HP ly F G A B) Q := by
  have z8 := g_31_8 hG
  have hs := hsp (0 : Int).toNat (by omega)
  have z49 := a_49 hA (0 : Int).toNat
  refine r_iconst i_110_0 ?_
  refine r_istore_n (l' := [(0, .ref 57), (1, V best), (2, V 0)]) i_110_1 (by decide +kernel) rfl ?_
  have lp2B : ∀ (nf : Nat) (s : Int) (l3 : Int) (l4 : Int) (l5 : Int) (B2 : Nat → Nat → Int64), (0 ≤ s ∧ s ≤ 12) → (∀ a, ¬ a = la → B2 a = B a) → (hnV A B2 la 0) → (12 - s).toNat < nf → Re L xs 110 2 [(0, .ref 57), (1, V best), (2, V s), (3, V l3), (4, V l4), (5, V l5)] [] (HP ly F G A B2) Q := by
    intro nf
    induction nf with
    | zero => intros; omega
    | succ nf ih2B =>
      intro s l3 l4 l5 B2  hs2 hfr hv1 hm2
      refine r_iload_n i_110_2 rfl ?_
      refine r_aload_n i_110_3 rfl ?_
      refine r_getF (v := .ref 31) i_110_4 rfl (hly 57 _ rfl) (hF.1 57 1 31 rfl) ?_
      refine r_getF (v := .ref 32) i_110_7 rfl (hly 31 _ rfl) (hF.1 31 0 32 rfl) ?_
      refine r_iconst i_110_10 ?_
      refine r_iald i_110_11 (hly 32 _ rfl) (by omega) (by omega) (by omega) ?_
      have q_1 := a_32 hA (0)
      show Re L xs 110 12 [(0, .ref 57), (1, V best), (2, V s), (3, V l3), (4, V l4), (5, V l5)] [V (A 32 (0)), V s] (HP ly F G A B2) _
      refine r_cge (t := 99) i_110_12 (by decide) (by omega) (by omega) (fun u_2 => ?_) (fun u_2 => ?_)
      · skip
        exact r_vret i_110_99 rfl (K B2 (by exact hfr) (by exact hv1))
      · skip
        refine r_aload_n i_110_15 rfl ?_
        refine r_getF (v := .ref 31) i_110_16 rfl (hly 57 _ rfl) (hF.1 57 1 31 rfl) ?_
        refine r_getF (v := .ref 37) i_110_19 rfl (hly 31 _ rfl) (hF.1 31 3 37 rfl) ?_
        refine r_iload_n i_110_22 rfl ?_
        refine r_iald i_110_23 (hly 37 _ rfl) (by omega) (by omega) (by omega) ?_
        have q_3 := a_37 hA (s.toNat)
        refine r_istore_n (l' := [(0, .ref 57), (1, V best), (2, V s), (3, V (A 37 (s.toNat))), (4, V l4), (5, V l5)]) i_110_24 (by decide +kernel) rfl ?_
        refine r_aload_n i_110_25 rfl ?_
        refine r_getF (v := .ref 48) i_110_26 rfl (hly 57 _ rfl) (hF.1 57 0 48 rfl) ?_
        refine r_getF (v := .ref 51) i_110_29 rfl (hly 48 _ rfl) (hF.1 48 3 51 rfl) ?_
        refine r_iload_n i_110_32 rfl ?_
        refine r_iald i_110_33 (hly 51 _ rfl) (by omega) (by omega) (by omega) ?_
        have q_4 := a_51 hA (s.toNat)
        refine r_istore (l' := [(0, .ref 57), (1, V best), (2, V s), (3, V (A 37 (s.toNat))), (4, V (A 51 (s.toNat))), (5, V l5)]) i_110_34 (by decide +kernel) rfl ?_
        refine r_aload_n i_110_36 rfl ?_
        refine r_getF (v := .ref 31) i_110_37 rfl (hly 57 _ rfl) (hF.1 57 1 31 rfl) ?_
        refine r_getF (v := .ref 38) i_110_40 rfl (hly 31 _ rfl) (hF.1 31 4 38 rfl) ?_
        refine r_iload_n i_110_43 rfl ?_
        refine r_iald i_110_44 (hly 38 _ rfl) (by omega) (by omega) (by omega) ?_
        have q_5 := a_38 hA (s.toNat)
        refine r_aload_n i_110_45 rfl ?_
        refine r_getF (v := .ref 48) i_110_46 rfl (hly 57 _ rfl) (hF.1 57 0 48 rfl) ?_
        refine r_iconst i_110_49 ?_
        refine r_iload_n i_110_50 rfl ?_
        refine r_iload i_110_51 rfl ?_
        refine r_cV (as := [V (A 51 (s.toNat)), V (A 37 (s.toNat)), V 0]) i_110_53 rfl (by decide +kernel) (Nat.le_of_ble_eq_true rfl) (Nat.le_of_ble_eq_true rfl) (hly 48 _ rfl) rfl ?_
        have q_6 := g_31_8 hG
        refine c_98 (word := 0) (kind := A 37 (s.toNat)) (marks := A 51 (s.toNat)) hly hF hG hA (by omega) (by omega) (by omega) (by omega) (by omega) (by exact spV_c (by rfl) (by rfl) (by rfl) hsp) (by omega) (fun r_7 p7_0 p7_1 => ?_)
        show Re L xs 110 56 [(0, .ref 57), (1, V best), (2, V s), (3, V (A 37 (s.toNat))), (4, V (A 51 (s.toNat))), (5, V l5)] [V r_7, V (A 38 (s.toNat))] (HP ly F G A B2) _
        refine r_iadd i_110_56 ?_
        refine r_iload_n i_110_57 rfl ?_
        refine r_isub i_110_58 ?_
        refine r_istore (l' := [(0, .ref 57), (1, V best), (2, V s), (3, V (A 37 (s.toNat))), (4, V (A 51 (s.toNat))), (5, V (((A 38 (s.toNat)) + r_7) - best))]) i_110_59 (by decide +kernel) rfl ?_
        refine r_iload i_110_61 rfl ?_
        refine r_lt0 (t := 93) i_110_63 (by decide) (by omega) (fun u_8 => ?_) (fun u_8 => ?_)
        · skip
          refine r_iinc (l' := [(0, .ref 57), (1, V best), (2, V (s + 1)), (3, V (A 37 (s.toNat))), (4, V (A 51 (s.toNat))), (5, V (((A 38 (s.toNat)) + r_7) - best))]) i_110_93 rfl (by decide +kernel) rfl ?_
          refine r_go (t := 2) i_110_96 (by decide) ?_
          exact ih2B (s + 1) (A 37 (s.toNat)) (A 51 (s.toNat)) (((A 38 (s.toNat)) + r_7) - best) B2  (by omega) (by first | (intro a ha; rfl) | exact hfr | (intro a ha; rw [eB2, up2_a ha]; exact hfr a ha)) (by first | exact hh | exact hv1 | (rcases p7_1 with hx | ⟨hx1, hx2, hx3⟩; exfalso; omega; exact hnV_u (kind0 := A 37 s.toNat) (m0 := A 51 s.toNat - A 49 (0 : Int).toNat) (lo0 := (((A 38 (s.toNat)) + r_7) - best)) hv1 eB2 (by rw [zzp0]; omega) (by omega) (by omega) (by omega) hs.2 hx3.symm (by omega))) (by omega)
        · skip
          refine r_iload i_110_66 rfl ?_
          refine r_bipush i_110_68 (by decide) ?_
          refine r_cge (t := 93) i_110_70 (by decide) (by omega) (by omega) (fun u_9 => ?_) (fun u_9 => ?_)
          · skip
            refine r_iinc (l' := [(0, .ref 57), (1, V best), (2, V (s + 1)), (3, V (A 37 (s.toNat))), (4, V (A 51 (s.toNat))), (5, V (((A 38 (s.toNat)) + r_7) - best))]) i_110_93 rfl (by decide +kernel) rfl ?_
            refine r_go (t := 2) i_110_96 (by decide) ?_
            exact ih2B (s + 1) (A 37 (s.toNat)) (A 51 (s.toNat)) (((A 38 (s.toNat)) + r_7) - best) B2  (by omega) (by first | (intro a ha; rfl) | exact hfr | (intro a ha; rw [eB2, up2_a ha]; exact hfr a ha)) (by first | exact hh | exact hv1 | (rcases p7_1 with hx | ⟨hx1, hx2, hx3⟩; exfalso; omega; exact hnV_u (kind0 := A 37 s.toNat) (m0 := A 51 s.toNat - A 49 (0 : Int).toNat) (lo0 := (((A 38 (s.toNat)) + r_7) - best)) hv1 eB2 (by rw [zzp0]; omega) (by omega) (by omega) (by omega) hs.2 hx3.symm (by omega))) (by omega)
          · skip
            refine r_aload_n i_110_73 rfl ?_
            refine r_getF (v := .ref la) i_110_74 rfl (hly 57 _ rfl) hf3 ?_
            refine r_aload_n i_110_77 rfl ?_
            refine r_iconst i_110_78 ?_
            refine r_iload_n i_110_79 rfl ?_
            refine r_iload i_110_80 rfl ?_
            refine r_cV (as := [V (A 51 (s.toNat)), V (A 37 (s.toNat)), V 0]) i_110_82 rfl (by decide +kernel) (Nat.le_of_ble_eq_true rfl) (Nat.le_of_ble_eq_true rfl) (hly 57 _ rfl) rfl ?_
            refine c_108 (word := 0) (kind := A 37 (s.toNat)) (marks := A 51 (s.toNat)) hly hF hG hA (by omega) (by omega) (by omega) (by omega) (fun r_10 p10_0 => ?_)
            show Re L xs 110 85 [(0, .ref 57), (1, V best), (2, V s), (3, V (A 37 (s.toNat))), (4, V (A 51 (s.toNat))), (5, V (((A 38 (s.toNat)) + r_7) - best))] [V r_10, .ref la] (HP ly F G A B2) _
            refine r_iload i_110_85 rfl ?_
            refine r_iadd i_110_87 ?_
            refine re_nx i_110_88 rfl ?_
            refine r_lald i_110_89 (hla) (by omega) (by omega) (by omega) ?_
            refine r_lconst i_110_90 ?_
            show Re L xs 110 91 [(0, .ref 57), (1, V best), (2, V s), (3, V (A 37 (s.toNat))), (4, V (A 51 (s.toNat))), (5, V (((A 38 (s.toNat)) + r_7) - best))] [.long (Int64.ofNat 1), .long (B2 la (r_10 + (((A 38 (s.toNat)) + r_7) - best)).toNat), V (r_10 + (((A 38 (s.toNat)) + r_7) - best)), .ref la] (HP ly F G A B2) _
            refine re_nx i_110_91 rfl ?_
            refine r_lastQ i_110_92 (hla) (by omega) (by omega) (by omega) (fun B_11 eB_11 => ?_)
            refine r_iinc (l' := [(0, .ref 57), (1, V best), (2, V (s + 1)), (3, V (A 37 (s.toNat))), (4, V (A 51 (s.toNat))), (5, V (((A 38 (s.toNat)) + r_7) - best))]) i_110_93 rfl (by decide +kernel) rfl ?_
            refine r_go (t := 2) i_110_96 (by decide) ?_
            exact ih2B (s + 1) (A 37 (s.toNat)) (A 51 (s.toNat)) (((A 38 (s.toNat)) + r_7) - best) B_11  (by omega) (by first | (intro a ha; rfl) | exact hfr | (intro a ha; rw [eB_11, up2_a ha]; exact hfr a ha)) (by first | exact hh | exact hv1 | (rcases p7_1 with hx | ⟨hx1, hx2, hx3⟩; exfalso; omega; exact hnV_u (kind0 := A 37 s.toNat) (m0 := A 51 s.toNat - A 49 (0 : Int).toNat) (lo0 := (((A 38 (s.toNat)) + r_7) - best)) hv1 eB_11 (by rw [p10_0]; omega) (by omega) (by omega) (by omega) hs.2 hx3.symm (by omega))) (by omega)
  have lp2A2 : ∀ (nf : Nat) (s : Int) (B2 : Nat → Nat → Int64), (0 ≤ s ∧ s ≤ 12) → (∀ a, ¬ a = la → B2 a = B a) → (hnV A B2 la 0) → (12 - s).toNat < nf → Re L xs 110 2 [(0, .ref 57), (1, V best), (2, V s)] [] (HP ly F G A B2) Q := by
    intro nf
    induction nf with
    | zero => intros; omega
    | succ nf ih2A2 =>
      intro s B2  hs2 hfr hv1 hm2
      refine r_iload_n i_110_2 rfl ?_
      refine r_aload_n i_110_3 rfl ?_
      refine r_getF (v := .ref 31) i_110_4 rfl (hly 57 _ rfl) (hF.1 57 1 31 rfl) ?_
      refine r_getF (v := .ref 32) i_110_7 rfl (hly 31 _ rfl) (hF.1 31 0 32 rfl) ?_
      refine r_iconst i_110_10 ?_
      refine r_iald i_110_11 (hly 32 _ rfl) (by omega) (by omega) (by omega) ?_
      have q_12 := a_32 hA (0)
      show Re L xs 110 12 [(0, .ref 57), (1, V best), (2, V s)] [V (A 32 (0)), V s] (HP ly F G A B2) _
      refine r_cge (t := 99) i_110_12 (by decide) (by omega) (by omega) (fun u_13 => ?_) (fun u_13 => ?_)
      · skip
        exact r_vret i_110_99 rfl (K B2 (by exact hfr) (by exact hv1))
      · skip
        refine r_aload_n i_110_15 rfl ?_
        refine r_getF (v := .ref 31) i_110_16 rfl (hly 57 _ rfl) (hF.1 57 1 31 rfl) ?_
        refine r_getF (v := .ref 37) i_110_19 rfl (hly 31 _ rfl) (hF.1 31 3 37 rfl) ?_
        refine r_iload_n i_110_22 rfl ?_
        refine r_iald i_110_23 (hly 37 _ rfl) (by omega) (by omega) (by omega) ?_
        have q_14 := a_37 hA (s.toNat)
        refine r_istore_n (l' := [(0, .ref 57), (1, V best), (2, V s), (3, V (A 37 (s.toNat)))]) i_110_24 (by decide +kernel) rfl ?_
        refine r_aload_n i_110_25 rfl ?_
        refine r_getF (v := .ref 48) i_110_26 rfl (hly 57 _ rfl) (hF.1 57 0 48 rfl) ?_
        refine r_getF (v := .ref 51) i_110_29 rfl (hly 48 _ rfl) (hF.1 48 3 51 rfl) ?_
        refine r_iload_n i_110_32 rfl ?_
        refine r_iald i_110_33 (hly 51 _ rfl) (by omega) (by omega) (by omega) ?_
        have q_15 := a_51 hA (s.toNat)
        refine r_istore (l' := [(0, .ref 57), (1, V best), (2, V s), (3, V (A 37 (s.toNat))), (4, V (A 51 (s.toNat)))]) i_110_34 (by decide +kernel) rfl ?_
        refine r_aload_n i_110_36 rfl ?_
        refine r_getF (v := .ref 31) i_110_37 rfl (hly 57 _ rfl) (hF.1 57 1 31 rfl) ?_
        refine r_getF (v := .ref 38) i_110_40 rfl (hly 31 _ rfl) (hF.1 31 4 38 rfl) ?_
        refine r_iload_n i_110_43 rfl ?_
        refine r_iald i_110_44 (hly 38 _ rfl) (by omega) (by omega) (by omega) ?_
        have q_16 := a_38 hA (s.toNat)
        refine r_aload_n i_110_45 rfl ?_
        refine r_getF (v := .ref 48) i_110_46 rfl (hly 57 _ rfl) (hF.1 57 0 48 rfl) ?_
        refine r_iconst i_110_49 ?_
        refine r_iload_n i_110_50 rfl ?_
        refine r_iload i_110_51 rfl ?_
        refine r_cV (as := [V (A 51 (s.toNat)), V (A 37 (s.toNat)), V 0]) i_110_53 rfl (by decide +kernel) (Nat.le_of_ble_eq_true rfl) (Nat.le_of_ble_eq_true rfl) (hly 48 _ rfl) rfl ?_
        have q_17 := g_31_8 hG
        refine c_98 (word := 0) (kind := A 37 (s.toNat)) (marks := A 51 (s.toNat)) hly hF hG hA (by omega) (by omega) (by omega) (by omega) (by omega) (by exact spV_c (by rfl) (by rfl) (by rfl) hsp) (by omega) (fun r_18 p18_0 p18_1 => ?_)
        show Re L xs 110 56 [(0, .ref 57), (1, V best), (2, V s), (3, V (A 37 (s.toNat))), (4, V (A 51 (s.toNat)))] [V r_18, V (A 38 (s.toNat))] (HP ly F G A B2) _
        refine r_iadd i_110_56 ?_
        refine r_iload_n i_110_57 rfl ?_
        refine r_isub i_110_58 ?_
        refine r_istore (l' := [(0, .ref 57), (1, V best), (2, V s), (3, V (A 37 (s.toNat))), (4, V (A 51 (s.toNat))), (5, V (((A 38 (s.toNat)) + r_18) - best))]) i_110_59 (by decide +kernel) rfl ?_
        refine r_iload i_110_61 rfl ?_
        refine r_lt0 (t := 93) i_110_63 (by decide) (by omega) (fun u_19 => ?_) (fun u_19 => ?_)
        · skip
          refine r_iinc (l' := [(0, .ref 57), (1, V best), (2, V (s + 1)), (3, V (A 37 (s.toNat))), (4, V (A 51 (s.toNat))), (5, V (((A 38 (s.toNat)) + r_18) - best))]) i_110_93 rfl (by decide +kernel) rfl ?_
          refine r_go (t := 2) i_110_96 (by decide) ?_
          exact lp2B _ (s + 1) (A 37 (s.toNat)) (A 51 (s.toNat)) (((A 38 (s.toNat)) + r_18) - best) B2  (by omega) (by first | (intro a ha; rfl) | exact hfr | (intro a ha; rw [eB2, up2_a ha]; exact hfr a ha)) (by first | exact hh | exact hv1 | (rcases p18_1 with hx | ⟨hx1, hx2, hx3⟩; exfalso; omega; exact hnV_u (kind0 := A 37 s.toNat) (m0 := A 51 s.toNat - A 49 (0 : Int).toNat) (lo0 := (((A 38 (s.toNat)) + r_18) - best)) hv1 eB2 (by rw [zzp0]; omega) (by omega) (by omega) (by omega) hs.2 hx3.symm (by omega))) (Nat.lt_succ_self _)
        · skip
          refine r_iload i_110_66 rfl ?_
          refine r_bipush i_110_68 (by decide) ?_
          refine r_cge (t := 93) i_110_70 (by decide) (by omega) (by omega) (fun u_20 => ?_) (fun u_20 => ?_)
          · skip
            refine r_iinc (l' := [(0, .ref 57), (1, V best), (2, V (s + 1)), (3, V (A 37 (s.toNat))), (4, V (A 51 (s.toNat))), (5, V (((A 38 (s.toNat)) + r_18) - best))]) i_110_93 rfl (by decide +kernel) rfl ?_
            refine r_go (t := 2) i_110_96 (by decide) ?_
            exact lp2B _ (s + 1) (A 37 (s.toNat)) (A 51 (s.toNat)) (((A 38 (s.toNat)) + r_18) - best) B2  (by omega) (by first | (intro a ha; rfl) | exact hfr | (intro a ha; rw [eB2, up2_a ha]; exact hfr a ha)) (by first | exact hh | exact hv1 | (rcases p18_1 with hx | ⟨hx1, hx2, hx3⟩; exfalso; omega; exact hnV_u (kind0 := A 37 s.toNat) (m0 := A 51 s.toNat - A 49 (0 : Int).toNat) (lo0 := (((A 38 (s.toNat)) + r_18) - best)) hv1 eB2 (by rw [zzp0]; omega) (by omega) (by omega) (by omega) hs.2 hx3.symm (by omega))) (Nat.lt_succ_self _)
          · skip
            refine r_aload_n i_110_73 rfl ?_
            refine r_getF (v := .ref la) i_110_74 rfl (hly 57 _ rfl) hf3 ?_
            refine r_aload_n i_110_77 rfl ?_
            refine r_iconst i_110_78 ?_
            refine r_iload_n i_110_79 rfl ?_
            refine r_iload i_110_80 rfl ?_
            refine r_cV (as := [V (A 51 (s.toNat)), V (A 37 (s.toNat)), V 0]) i_110_82 rfl (by decide +kernel) (Nat.le_of_ble_eq_true rfl) (Nat.le_of_ble_eq_true rfl) (hly 57 _ rfl) rfl ?_
            refine c_108 (word := 0) (kind := A 37 (s.toNat)) (marks := A 51 (s.toNat)) hly hF hG hA (by omega) (by omega) (by omega) (by omega) (fun r_21 p21_0 => ?_)
            show Re L xs 110 85 [(0, .ref 57), (1, V best), (2, V s), (3, V (A 37 (s.toNat))), (4, V (A 51 (s.toNat))), (5, V (((A 38 (s.toNat)) + r_18) - best))] [V r_21, .ref la] (HP ly F G A B2) _
            refine r_iload i_110_85 rfl ?_
            refine r_iadd i_110_87 ?_
            refine re_nx i_110_88 rfl ?_
            refine r_lald i_110_89 (hla) (by omega) (by omega) (by omega) ?_
            refine r_lconst i_110_90 ?_
            show Re L xs 110 91 [(0, .ref 57), (1, V best), (2, V s), (3, V (A 37 (s.toNat))), (4, V (A 51 (s.toNat))), (5, V (((A 38 (s.toNat)) + r_18) - best))] [.long (Int64.ofNat 1), .long (B2 la (r_21 + (((A 38 (s.toNat)) + r_18) - best)).toNat), V (r_21 + (((A 38 (s.toNat)) + r_18) - best)), .ref la] (HP ly F G A B2) _
            refine re_nx i_110_91 rfl ?_
            refine r_lastQ i_110_92 (hla) (by omega) (by omega) (by omega) (fun B_22 eB_22 => ?_)
            refine r_iinc (l' := [(0, .ref 57), (1, V best), (2, V (s + 1)), (3, V (A 37 (s.toNat))), (4, V (A 51 (s.toNat))), (5, V (((A 38 (s.toNat)) + r_18) - best))]) i_110_93 rfl (by decide +kernel) rfl ?_
            refine r_go (t := 2) i_110_96 (by decide) ?_
            exact lp2B _ (s + 1) (A 37 (s.toNat)) (A 51 (s.toNat)) (((A 38 (s.toNat)) + r_18) - best) B_22  (by omega) (by first | (intro a ha; rfl) | exact hfr | (intro a ha; rw [eB_22, up2_a ha]; exact hfr a ha)) (by first | exact hh | exact hv1 | (rcases p18_1 with hx | ⟨hx1, hx2, hx3⟩; exfalso; omega; exact hnV_u (kind0 := A 37 s.toNat) (m0 := A 51 s.toNat - A 49 (0 : Int).toNat) (lo0 := (((A 38 (s.toNat)) + r_18) - best)) hv1 eB_22 (by rw [p21_0]; omega) (by omega) (by omega) (by omega) hs.2 hx3.symm (by omega))) (Nat.lt_succ_self _)
  exact lp2A2 _ 0 B  (by omega) (by first | (intro a ha; rfl) | exact hfr | (intro a ha; rw [eB, up2_a ha]; exact hfr a ha)) (by first | exact hh | exact hv1 | (rcases zzp1 with hx | ⟨hx1, hx2, hx3⟩; exfalso; omega; exact hnV_u (kind0 := A 37 s.toNat) (m0 := A 51 s.toNat - A 49 (0 : Int).toNat) (lo0 := 0) hv1 eB (by rw [zzp0]; omega) (by omega) (by omega) (by omega) hs.2 hx3.symm (by omega))) (Nat.lt_succ_self _)
set_option maxHeartbeats 4000000 in
theorem c_112 {L : Nat} {xs : Nat → Int32} {ly : List LK} {F : Nat → Nat → Value} {G A : Nat → Nat → Int} {B : Nat → Nat → Int64} {Q : Option Value → AH → Prop} {row : Int} {la : Nat} (hly : LyOk ly) (hF : RfOk F) (hG : GO G) (hA : AQ A) (in_row : inR row) (hrw : 0 ≤ row ∧ row + 101 ≤ 68680) (hla : ly[la]? = some (.inr (.long, 68680))) (hf3 : F 57 3 = .ref la) (K : ∀ (r : Int), (0 ≤ r ∧ r ≤ 101) → (r < 101 → ¬ B la (row + r).toNat = Int64.ofNat 0) → Q (some (V r)) (HP ly F G A B)) : Re L xs 112 0 [(0, .ref 57), (1, V row)] [] (HP ly F G A B) Q := by
  refine r_iconst i_112_0 ?_
  refine r_istore_n (l' := [(0, .ref 57), (1, V row), (2, V 0)]) i_112_1 (by decide +kernel) rfl ?_
  have lp2B : ∀ (nf : Nat) (o : Int), (0 ≤ o ∧ o ≤ 101) → (101 - o).toNat < nf → Re L xs 112 2 [(0, .ref 57), (1, V row), (2, V o)] [] (HP ly F G A B) Q := by
    intro nf
    induction nf with
    | zero => intros; omega
    | succ nf ih2B =>
      intro o  ho hm2
      refine r_iload_n i_112_2 rfl ?_
      refine r_bipush i_112_3 (by decide) ?_
      refine r_cge (t := 29) i_112_5 (by decide) (by omega) (by omega) (fun u_1 => ?_) (fun u_1 => ?_)
      · skip
        refine r_bipush i_112_29 (by decide) ?_
        exact r_iret i_112_31 rfl rfl (K 101 (by omega) (by intro h; exfalso; omega))
      · skip
        refine r_aload_n i_112_8 rfl ?_
        refine r_getF (v := .ref la) i_112_9 rfl (hly 57 _ rfl) hf3 ?_
        refine r_iload_n i_112_12 rfl ?_
        refine r_iload_n i_112_13 rfl ?_
        refine r_iadd i_112_14 ?_
        refine r_lald i_112_15 (hla) (by omega) (by omega) (by omega) ?_
        refine r_lconst i_112_16 ?_
        show Re L xs 112 17 [(0, .ref 57), (1, V row), (2, V o)] [.long (Int64.ofNat 0), .long (B la (row + o).toNat)] (HP ly F G A B) _
        refine re_nx i_112_17 rfl ?_
        obtain ⟨u_2, eu_2, ru_2⟩ := lcmp_I (B la (row + o).toNat) (Int64.ofNat 0)
        rw [eu_2]
        refine r_eq0 (t := 23) i_112_18 (by decide) (by omega) (fun u_3 => ?_) (fun u_3 => ?_)
        · skip
          refine r_iinc (l' := [(0, .ref 57), (1, V row), (2, V (o + 1))]) i_112_23 rfl (by decide +kernel) rfl ?_
          refine r_go (t := 2) i_112_26 (by decide) ?_
          exact ih2B (o + 1)  (by omega) (by omega)
        · skip
          refine r_iload_n i_112_21 rfl ?_
          exact r_iret i_112_22 rfl rfl (K o (by omega) (by intro _ he; have := ru_2.2.2.mpr he; omega))
  exact lp2B _ 0  (by omega) (Nat.lt_succ_self _)
