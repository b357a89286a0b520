set_option maxHeartbeats 4000000 in
theorem c_106b {L : Nat} {xs : Nat → Int32} {ly : List LK} {F : Nat → Nat → Value} {G A : Nat → Nat → Int} {B : Nat → Nat → Int64} {Q : Option Value → AH → Prop} {best : Int} {la lb q : Nat} (hly : LyOk ly) (hF : RfOk F) (hG : GO G) (hA : AQ A) (in_best : inR best) (hbs : 0 ≤ best ∧ best ≤ 2673) (hn : 0 < G 31 8) (hsp : spV G A) (hrs : RS A) (hq : q = 20 ∨ q = 78 ∨ q = 52) (hfq : F 48 4 = .ref q) (hpc : PC A q) (hla : ly[la]? = some (.inr (.long, 68680))) (hlb : ly[lb]? = some (.inr (.long, 68680))) (hab : ¬ la = lb) (hf3 : F 57 3 = .ref la) (hf4 : F 57 4 = .ref lb) (K : ∀ (F' : Nat → Nat → Value) (B' : Nat → Nat → Int64), (RfOk F') → (∀ a k, ¬ ((a = 57 ∧ k = 3) ∨ (a = 57 ∧ k = 4)) → F' a k = F a k) → ((F' 57 3 = .ref la ∧ F' 57 4 = .ref lb) ∨ (F' 57 3 = .ref lb ∧ F' 57 4 = .ref la)) → Q none (HP ly F' G A B')) : Re L xs 106 36 [(0, .ref 57), (1, V best)] [] (HP ly F G A B) Q := by
  have z8 := g_31_8 hG
  refine r_aload_n i_106_36 rfl ?_
  refine r_aload_n i_106_37 rfl ?_
  refine r_getF (v := .ref la) i_106_38 rfl (hly 57 _ rfl) hf3 ?_
  refine r_iconst i_106_41 ?_
  refine r_cV (as := [V 0, .ref la]) i_106_42 rfl (by decide +kernel) (Nat.le_of_ble_eq_true rfl) (Nat.le_of_ble_eq_true rfl) (hly 57 _ rfl) rfl ?_
  have q_1 := g_31_8 hG
  refine c_107 (la := la) (word := 0) hly hF hG hA (by omega) (by exact hla) (by omega) (by exact spV_c (by rfl) (by rfl) (by rfl) hsp) (fun B_2 p2_0 p2_1 => ?_)
  show Re L xs 106 45 [(0, .ref 57), (1, V best)] [] (HP ly F G A B_2) _
  refine r_aload_n i_106_45 rfl ?_
  refine r_iload_n i_106_46 rfl ?_
  refine r_cV (as := [V best]) i_106_47 rfl (by decide +kernel) (Nat.le_of_ble_eq_true rfl) (Nat.le_of_ble_eq_true rfl) (hly 57 _ rfl) rfl ?_
  refine c_110 (best := best) (la := la) hly hF hG hA (by omega) (by omega) (by omega) (by exact spV_c (by rfl) (by rfl) (by rfl) hsp) (by exact RS_c (by rfl) hrs) (by exact hla) (by exact hf3) (by exact hnZ_V p2_1 rfl) (fun B_3 p3_0 p3_1 => ?_)
  show Re L xs 106 50 [(0, .ref 57), (1, V best)] [] (HP ly F G A B_3) _
  refine r_iconst i_106_50 ?_
  refine r_istore_n (l' := [(0, .ref 57), (1, V best), (2, V 1)]) i_106_51 (by decide +kernel) rfl ?_
  have lp52B : ∀ (nf : Nat) (l1 : Nat) (l2 : Nat) (w : Int) (F52 : Nat → Nat → Value) (B52 : Nat → Nat → Int64), (RfOk F52) → (∀ a k, ¬ ((a = 57 ∧ k = 3) ∨ (a = 57 ∧ k = 4)) → F52 a k = F a k) → (1 ≤ w ∧ w ≤ 14) → (F52 57 3 = .ref l1) → (F52 57 4 = .ref l2) → ((l1 = la ∧ l2 = lb) ∨ (l1 = lb ∧ l2 = la)) → (ly[l1]? = some (.inr (.long, 68680))) → (ly[l2]? = some (.inr (.long, 68680))) → (¬ l1 = l2) → (hnV A B52 l1 (w - 1)) → (14 - w).toNat < nf → Re L xs 106 52 [(0, .ref 57), (1, V best), (2, V w), (3, .ref l2)] [] (HP ly F52 G A B52) Q := by
    intro nf
    induction nf with
    | zero => intros; omega
    | succ nf ih52B =>
      intro l1 l2 w F52 B52 hF52 ff52 hw h1 h2 hc12 hl1 hl2 h12 hv hm52
      refine r_iload_n i_106_52 rfl ?_
      refine r_aload_n i_106_53 rfl ?_
      refine r_getF (v := .ref 31) i_106_54 rfl (hly 57 _ rfl) (hF52.1 57 1 31 rfl) ?_
      refine r_getI i_106_57 rfl (hly 31 _ rfl) ?_
      refine r_cge (t := 101) i_106_60 (by decide) (by omega) (by omega) (fun u_4 => ?_) (fun u_4 => ?_)
      · skip
        have hfin : (F52 57 3 = .ref la ∧ F52 57 4 = .ref lb) ∨ (F52 57 3 = .ref lb ∧ F52 57 4 = .ref la) := by rcases hc12 with ⟨e1, e2⟩ | ⟨e1, e2⟩; exact .inl ⟨by rw [h1, e1], by rw [h2, e2]⟩; exact .inr ⟨by rw [h1, e1], by rw [h2, e2]⟩
        refine r_aload_n i_106_101 rfl ?_
        refine r_cV (as := []) i_106_102 rfl (by decide +kernel) (Nat.le_of_ble_eq_true rfl) (Nat.le_of_ble_eq_true rfl) (hly 57 _ rfl) rfl ?_
        refine c_114 (la := l1) hly hF52 hG hA (by omega) (by exact spV_c (by rfl) (by rfl) (by rfl) hsp) (by exact hl1) (by exact h1) (fun B_5 => ?_)
        show Re L xs 106 105 [(0, .ref 57), (1, V best), (2, V w), (3, .ref l2)] [] (HP ly F52 G A B_5) _
        exact r_vret i_106_105 rfl (K F52 B_5 hF52 (by intro a k hh; rw [ff52 a k (fun h => h.elim (fun h => hh (Or.inl h)) (fun h => hh (Or.inr h)))]) (by exact hfin))
      · skip
        refine r_aload_n i_106_63 rfl ?_
        refine r_aload_n i_106_64 rfl ?_
        refine r_getF (v := .ref l2) i_106_65 rfl (hly 57 _ rfl) h2 ?_
        refine r_iload_n i_106_68 rfl ?_
        refine r_cV (as := [V w, .ref l2]) i_106_69 rfl (by decide +kernel) (Nat.le_of_ble_eq_true rfl) (Nat.le_of_ble_eq_true rfl) (hly 57 _ rfl) rfl ?_
        refine c_107 (la := l2) (word := w) hly hF52 hG hA (by omega) (by exact hl2) (by omega) (by exact spV_c (by rfl) (by rfl) (by rfl) hsp) (fun B_6 p6_0 p6_1 => ?_)
        show Re L xs 106 72 [(0, .ref 57), (1, V best), (2, V w), (3, .ref l2)] [] (HP ly F52 G A B_6) _
        refine r_aload_n i_106_72 rfl ?_
        refine r_iload_n i_106_73 rfl ?_
        refine r_cV (as := [V w]) i_106_74 rfl (by decide +kernel) (Nat.le_of_ble_eq_true rfl) (Nat.le_of_ble_eq_true rfl) (hly 57 _ rfl) rfl ?_
        refine c_111 (word := w) (la := l1) (lb := l2) (q := q) hly hF52 hG hA (by omega) (by omega) (by exact spV_c (by rfl) (by rfl) (by rfl) hsp) (by exact RS_c (by rfl) hrs) (by exact hq) (by rw [ff52 48 4 (by omega)]; exact hfq) (by exact hpc) (by exact hl1) (by exact hl2) (by exact h12) (by exact h1) (by exact h2) (by exact hnZ_V p6_1 rfl) (by exact hnV_c (p6_0 l1 h12) hv) (fun B_7 p7_0 p7_1 => ?_)
        show Re L xs 106 77 [(0, .ref 57), (1, V best), (2, V w), (3, .ref l2)] [] (HP ly F52 G A B_7) _
        refine r_aload_n i_106_77 rfl ?_
        refine r_getF (v := .ref l1) i_106_78 rfl (hly 57 _ rfl) h1 ?_
        refine r_astore_n (l' := [(0, .ref 57), (1, V best), (2, V w), (3, .ref l1)]) i_106_81 (by decide +kernel) rfl ?_
        refine r_aload_n i_106_82 rfl ?_
        refine r_aload_n i_106_83 rfl ?_
        refine r_getF (v := .ref l2) i_106_84 rfl (hly 57 _ rfl) h2 ?_
        refine r_putRQ i_106_87 (by decide +kernel) (hly 57 _ rfl) (fun F_8 eF_8 => ?_)
        have hF_8 : RfOk F_8 := by rw [eF_8]; exact RfOk.up hF52 rfl (by omega)
        refine r_aload_n i_106_90 rfl ?_
        refine r_aload_n i_106_91 rfl ?_
        refine r_putRQ i_106_92 (by decide +kernel) (hly 57 _ rfl) (fun F_9 eF_9 => ?_)
        have hF_9 : RfOk F_9 := by rw [eF_9]; exact RfOk.up hF_8 rfl (by omega)
        refine r_iinc (l' := [(0, .ref 57), (1, V best), (2, V (w + 1)), (3, .ref l1)]) i_106_95 rfl (by decide +kernel) rfl ?_
        refine r_go (t := 52) i_106_98 (by decide) ?_
        exact ih52B l2 l1 (w + 1) F_9 B_7 hF_9 (by intro a k hh; rw [eF_9, up2_n (fun h => hh (Or.inr h)), eF_8, up2_n (fun h => hh (Or.inl h)), ff52 a k (fun h => h.elim (fun h => hh (Or.inl h)) (fun h => hh (Or.inr h)))]) (by omega) (by first | exact hf3 | rw [eF_9, up2_n (by omega), eF_8, up2_s]) (by first | exact hf4 | rw [eF_9, up2_s]) (by omega) (by first | exact hla | exact hl2) (by first | exact hlb | exact hl1) (by omega) (by first | exact hnV_e (by omega) p3_1 | exact hnV_e (by omega) p7_1) (by omega)
  have lp52A2 : ∀ (nf : Nat) (l1 : Nat) (l2 : Nat) (w : Int) (F52 : Nat → Nat → Value) (B52 : Nat → Nat → Int64), (RfOk F52) → (∀ a k, ¬ ((a = 57 ∧ k = 3) ∨ (a = 57 ∧ k = 4)) → F52 a k = F a k) → (1 ≤ w ∧ w ≤ 14) → (F52 57 3 = .ref l1) → (F52 57 4 = .ref l2) → ((l1 = la ∧ l2 = lb) ∨ (l1 = lb ∧ l2 = la)) → (ly[l1]? = some (.inr (.long, 68680))) → (ly[l2]? = some (.inr (.long, 68680))) → (¬ l1 = l2) → (hnV A B52 l1 (w - 1)) → (14 - w).toNat < nf → Re L xs 106 52 [(0, .ref 57), (1, V best), (2, V w)] [] (HP ly F52 G A B52) Q := by
    intro nf
    induction nf with
    | zero => intros; omega
    | succ nf ih52A2 =>
      intro l1 l2 w F52 B52 hF52 ff52 hw h1 h2 hc12 hl1 hl2 h12 hv hm52
      refine r_iload_n i_106_52 rfl ?_
      refine r_aload_n i_106_53 rfl ?_
      refine r_getF (v := .ref 31) i_106_54 rfl (hly 57 _ rfl) (hF52.1 57 1 31 rfl) ?_
      refine r_getI i_106_57 rfl (hly 31 _ rfl) ?_
      refine r_cge (t := 101) i_106_60 (by decide) (by omega) (by omega) (fun u_10 => ?_) (fun u_10 => ?_)
      · skip
        have hfin : (F52 57 3 = .ref la ∧ F52 57 4 = .ref lb) ∨ (F52 57 3 = .ref lb ∧ F52 57 4 = .ref la) := by rcases hc12 with ⟨e1, e2⟩ | ⟨e1, e2⟩; exact .inl ⟨by rw [h1, e1], by rw [h2, e2]⟩; exact .inr ⟨by rw [h1, e1], by rw [h2, e2]⟩
        refine r_aload_n i_106_101 rfl ?_
        refine r_cV (as := []) i_106_102 rfl (by decide +kernel) (Nat.le_of_ble_eq_true rfl) (Nat.le_of_ble_eq_true rfl) (hly 57 _ rfl) rfl ?_
        refine c_114 (la := l1) hly hF52 hG hA (by omega) (by exact spV_c (by rfl) (by rfl) (by rfl) hsp) (by exact hl1) (by exact h1) (fun B_11 => ?_)
        show Re L xs 106 105 [(0, .ref 57), (1, V best), (2, V w)] [] (HP ly F52 G A B_11) _
        exact r_vret i_106_105 rfl (K F52 B_11 hF52 (by intro a k hh; rw [ff52 a k (fun h => h.elim (fun h => hh (Or.inl h)) (fun h => hh (Or.inr h)))]) (by exact hfin))
      · skip
        refine r_aload_n i_106_63 rfl ?_
        refine r_aload_n i_106_64 rfl ?_
        refine r_getF (v := .ref l2) i_106_65 rfl (hly 57 _ rfl) h2 ?_
        refine r_iload_n i_106_68 rfl ?_
        refine r_cV (as := [V w, .ref l2]) i_106_69 rfl (by decide +kernel) (Nat.le_of_ble_eq_true rfl) (Nat.le_of_ble_eq_true rfl) (hly 57 _ rfl) rfl ?_
        refine c_107 (la := l2) (word := w) hly hF52 hG hA (by omega) (by exact hl2) (by omega) (by exact spV_c (by rfl) (by rfl) (by rfl) hsp) (fun B_12 p12_0 p12_1 => ?_)
        show Re L xs 106 72 [(0, .ref 57), (1, V best), (2, V w)] [] (HP ly F52 G A B_12) _
        refine r_aload_n i_106_72 rfl ?_
        refine r_iload_n i_106_73 rfl ?_
        refine r_cV (as := [V w]) i_106_74 rfl (by decide +kernel) (Nat.le_of_ble_eq_true rfl) (Nat.le_of_ble_eq_true rfl) (hly 57 _ rfl) rfl ?_
        refine c_111 (word := w) (la := l1) (lb := l2) (q := q) hly hF52 hG hA (by omega) (by omega) (by exact spV_c (by rfl) (by rfl) (by rfl) hsp) (by exact RS_c (by rfl) hrs) (by exact hq) (by rw [ff52 48 4 (by omega)]; exact hfq) (by exact hpc) (by exact hl1) (by exact hl2) (by exact h12) (by exact h1) (by exact h2) (by exact hnZ_V p12_1 rfl) (by exact hnV_c (p12_0 l1 h12) hv) (fun B_13 p13_0 p13_1 => ?_)
        show Re L xs 106 77 [(0, .ref 57), (1, V best), (2, V w)] [] (HP ly F52 G A B_13) _
        refine r_aload_n i_106_77 rfl ?_
        refine r_getF (v := .ref l1) i_106_78 rfl (hly 57 _ rfl) h1 ?_
        refine r_astore_n (l' := [(0, .ref 57), (1, V best), (2, V w), (3, .ref l1)]) i_106_81 (by decide +kernel) rfl ?_
        refine r_aload_n i_106_82 rfl ?_
        refine r_aload_n i_106_83 rfl ?_
        refine r_getF (v := .ref l2) i_106_84 rfl (hly 57 _ rfl) h2 ?_
        refine r_putRQ i_106_87 (by decide +kernel) (hly 57 _ rfl) (fun F_14 eF_14 => ?_)
        have hF_14 : RfOk F_14 := by rw [eF_14]; exact RfOk.up hF52 rfl (by omega)
        refine r_aload_n i_106_90 rfl ?_
        refine r_aload_n i_106_91 rfl ?_
        refine r_putRQ i_106_92 (by decide +kernel) (hly 57 _ rfl) (fun F_15 eF_15 => ?_)
        have hF_15 : RfOk F_15 := by rw [eF_15]; exact RfOk.up hF_14 rfl (by omega)
        refine r_iinc (l' := [(0, .ref 57), (1, V best), (2, V (w + 1)), (3, .ref l1)]) i_106_95 rfl (by decide +kernel) rfl ?_
        refine r_go (t := 52) i_106_98 (by decide) ?_
        exact lp52B _ l2 l1 (w + 1) F_15 B_13 hF_15 (by intro a k hh; rw [eF_15, up2_n (fun h => hh (Or.inr h)), eF_14, up2_n (fun h => hh (Or.inl h)), ff52 a k (fun h => h.elim (fun h => hh (Or.inl h)) (fun h => hh (Or.inr h)))]) (by omega) (by first | exact hf3 | rw [eF_15, up2_n (by omega), eF_14, up2_s]) (by first | exact hf4 | rw [eF_15, up2_s]) (by omega) (by first | exact hla | exact hl2) (by first | exact hlb | exact hl1) (by omega) (by first | exact hnV_e (by omega) p3_1 | exact hnV_e (by omega) p13_1) (Nat.lt_succ_self _)
  exact lp52A2 _ la lb 1 F B_3 hF (by intro a k hh; rfl) (by omega) (by first | exact hf3 | rfl) (by first | exact hf4 | rfl) (by omega) (by first | exact hla | exact hl2) (by first | exact hlb | exact hl1) (by omega) (by first | exact hnV_e (by omega) p3_1 | exact hnV_e (by omega) zzp1) (Nat.lt_succ_self _)
