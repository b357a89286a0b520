section P65
variable {L : Nat} {xs : Nat → Int32} {mi pc : Nat} {l : AL} {st : List Value} {Q : Option Value → AH → Prop}
variable {ly : List LK} {F : Nat → Nat → Value} {G A : Nat → Nat → Int} {B B' : Nat → Nat → Int64}
theorem HP_cgB (h : ∀ a, a < ly.length → B' a = B a) : HP ly F G A B = HP ly F G A B' := by
  unfold HP
  congr 2
  funext a
  rcases Nat.lt_or_ge a ly.length with c | c
  · rw [h a c]
  · rw [List.getElem?_eq_none c]
theorem r_newL {n : Nat} {r : AR} (hi : a_ins mi pc = some (.newarray .long, r)) (hn : n * 8 ≤ 536870912) (kk : ∀ B1 : Nat → Nat → Int64, Re L xs mi (pc + 2) l (.ref ly.length :: st) (HP (ly ++ [.inr (.long, n)]) F G A B1) Q) : Re L xs mi pc l (V (n : Int) :: st) (HP ly F G A B) Q := by
  have hk := kk (fun a => if a = ly.length then (fun _ => 0) else B a)
  refine re_nx hi ?_ hk
  have hz : ¬ Int32.ofInt (n : Int) < 0 := fun e => by have := (oI_lt (a := (n : Int)) (b := 0) ⟨by omega, by omega⟩ (by decide)).mp e; omega
  have hc : (Int32.ofInt (n : Int)).toNatClampNeg = n := by rw [oI_cl (by omega) (by omega)]; omega
  rw [HP_cgB (B' := fun a => if a = ly.length then (fun _ => 0) else B a) (fun a ha => if_neg (by omega))]
  unfold a_st V
  dsimp only
  rw [hc]
  show (if ¬ Int32.ofInt (n : Int) < 0 ∧ n * 8 ≤ 536870912 then a_nx (pc + 2) l (.ref ly.length :: st) (h_ps _ n _) else none) = _
  rw [if_pos ⟨hz, hn⟩]
  have e := HP_ps (ly := ly) (F := F) (G := G) (A := A) (B := fun a => if a = ly.length then (fun _ => 0) else B a) (k := .inr (.long, n)) (c := .inl (.long, n, .inr (.inl (fun _ => 0)))) (n := n) rfl (by unfold hcl; dsimp only; rw [if_pos rfl, if_pos rfl])
  rw [e]
  rfl
end P65
theorem ly1_ok : LyOk ly1 := by
  intro a k h
  unfold ly1
  rw [List.getElem?_append_left (List.getElem?_eq_some_iff.mp h).1]
  exact h
theorem ly0_ok : LyOk ly0 := fun a k h => h
theorem ly1_136 : ly1[136]? = some (.inr (.long, 68680)) := by decide +kernel
theorem ly1_137 : ly1[137]? = some (.inr (.long, 68680)) := by decide +kernel
set_option maxHeartbeats 4000000 in
theorem c_106 {L : Nat} {xs : Nat → Int32} {ly : List LK} {F : Nat → Nat → Value} {G A : Nat → Nat → Int} {B : Nat → Nat → Int64} {Q : Option Value → AH → Prop} {best : Int} {q : Nat} (hly : LyOk ly) (hF : RfOk F) (hG : GO G) (hA : AQ A) (in_best : inR best) (hty : tyV ly F) (hbs : 0 ≤ best ∧ best ≤ 2673) (hn : 0 < G 31 8) (hsp : spV G A) (hrs : RS A) (hq : q = 20 ∨ q = 78 ∨ q = 52) (hfq : F 48 4 = .ref q) (hpc : PC A q) (K : ∀ (ly' : List LK) (F' : Nat → Nat → Value) (B' : Nat → Nat → Int64), (LyOk ly') → (RfOk F') → (∀ a k, ¬ ((a = 57 ∧ k = 3) ∨ (a = 57 ∧ k = 4)) → F' a k = F a k) → (tyV ly' F') → Q none (HP ly' F' G A B')) : Re L xs 106 0 [(0, .ref 57), (1, V best)] [] (HP ly F G A B) Q := by
  rcases hty with ⟨rfl, h3, h4⟩ | ⟨rfl, h34⟩
  · refine r_aload_n i_106_0 rfl ?_
    refine r_getF (v := .ref 59) i_106_1 rfl (hly 57 _ rfl) h3 ?_
    refine r_alen i_106_4 (hly 59 _ rfl) rfl ?_
    refine r_ldc (v := 68680) i_106_5 (by decide) ?_
    refine r_clt (t := 20) i_106_7 (by decide) (by omega) (by omega) (fun _ => ?_) (fun c => by omega)
    refine r_aload_n i_106_20 rfl ?_
    refine r_ldc (v := 68680) i_106_21 (by decide) ?_
    refine r_newL (n := 68680) i_106_23 (by decide) (fun B1 => ?_)
    have hlen : ly0.length = 136 := by decide +kernel
    rw [hlen]
    have hl1 : ∀ a k, ly0[a]? = some k → (ly0 ++ ([.inr (.long, 68680)] : List LK))[a]? = some k := fun a k h => by
      rw [List.getElem?_append_left (List.getElem?_eq_some_iff.mp h).1]
      exact h
    refine r_putRQ i_106_25 (by decide +kernel) (hl1 57 _ rfl) (fun F1 e1 => ?_)
    refine r_aload_n i_106_28 rfl ?_
    refine r_ldc (v := 68680) i_106_29 (by decide) ?_
    refine r_newL (n := 68680) i_106_31 (by decide) (fun B2 => ?_)
    rw [List.append_assoc]
    show Re L xs 106 33 [(0, .ref 57), (1, V best)] [.ref (ly0 ++ ([.inr (.long, 68680)] : List LK)).length, .ref 57] (HP ly1 F1 G A B2) Q
    rw [List.length_append, hlen]
    refine r_putRQ i_106_33 (by decide +kernel) (ly1_ok 57 _ rfl) (fun F2 e2 => ?_)
    have hF1 : RfOk F1 := by rw [e1]; exact RfOk.up hF rfl (by omega)
    have hF2 : RfOk F2 := by rw [e2]; exact RfOk.up hF1 rfl (by omega)
    have g3 : F2 57 3 = .ref 136 := by rw [e2, up2_n (by omega), e1, up2_s]
    have g4 : F2 57 4 = .ref 137 := by rw [e2, up2_s]; rfl
    have fr : ∀ a k, ¬ ((a = 57 ∧ k = 3) ∨ (a = 57 ∧ k = 4)) → F2 a k = F a k := fun a k hh => by rw [e2, up2_n (by omega), e1, up2_n (by omega)]
    refine c_106b (la := 136) (lb := 137) (q := q) ly1_ok hF2 hG hA in_best hbs hn hsp hrs hq (by rw [fr 48 4 (by omega)]; exact hfq) hpc ly1_136 ly1_137 (by decide) g3 g4 (fun F' B' hF' ff p0 => ?_)
    exact K ly1 F' B' ly1_ok hF' (fun a k hh => by rw [ff a k hh, fr a k hh]) (.inr ⟨rfl, p0⟩)
  · have key : ∀ la lb : Nat, ly1[la]? = some (.inr (.long, 68680)) → ly1[lb]? = some (.inr (.long, 68680)) → ¬ la = lb → F 57 3 = .ref la → F 57 4 = .ref lb → (∀ F' : Nat → Nat → Value, ((F' 57 3 = .ref la ∧ F' 57 4 = .ref lb) ∨ (F' 57 3 = .ref lb ∧ F' 57 4 = .ref la)) → tyV ly1 F') → Re L xs 106 0 [(0, .ref 57), (1, V best)] [] (HP ly1 F G A B) Q := by
      intro la lb hla hlb hab h3 h4 ht
      refine r_aload_n i_106_0 rfl ?_
      refine r_getF (v := .ref la) i_106_1 rfl (ly1_ok 57 _ rfl) h3 ?_
      refine r_alen i_106_4 hla rfl ?_
      refine r_ldc (v := 68680) i_106_5 (by decide) ?_
      refine r_clt (t := 20) i_106_7 (by decide) (by omega) (by omega) (fun c => by omega) (fun _ => ?_)
      refine r_aload_n i_106_10 rfl ?_
      refine r_getF (v := .ref lb) i_106_11 rfl (ly1_ok 57 _ rfl) h4 ?_
      refine r_alen i_106_14 hlb rfl ?_
      refine r_ldc (v := 68680) i_106_15 (by decide) ?_
      refine r_cge (t := 36) i_106_17 (by decide) (by omega) (by omega) (fun _ => ?_) (fun c => by omega)
      refine c_106b (la := la) (lb := lb) (q := q) ly1_ok hF hG hA in_best hbs hn hsp hrs hq hfq hpc hla hlb hab h3 h4 (fun F' B' hF' ff p0 => ?_)
      exact K ly1 F' B' ly1_ok hF' ff (ht F' p0)
    rcases h34 with ⟨h3, h4⟩ | ⟨h3, h4⟩
    · exact key 136 137 ly1_136 ly1_137 (by decide) h3 h4 (fun F' p0 => .inr ⟨rfl, p0⟩)
    · exact key 137 136 ly1_137 ly1_136 (by decide) h3 h4 (fun F' p0 => .inr ⟨rfl, p0.symm⟩)
