section C40
variable {L : Nat} {xs : Nat → Int32} {ly : List LK} {F : Nat → Nat → Value} {G A : Nat → Nat → Int} {B : Nat → Nat → Int64} {Q : Option Value → AH → Prop}
theorem c_33 {c : Int} (hly : LyOk ly) (hF : RfOk F) (hG : GO G) (hA : AQ A) (in_c : inR c) (hc : 0 ≤ c ∧ c ≤ 255) (K : ∀ r : Int, (0 ≤ r ∧ r ≤ 1) → Q (some (V r)) (HP ly F G A B)) : Re L xs 33 0 [(0, V c)] [] (HP ly F G A B) Q := s_33 hc K
theorem c_212 {s : UInt32} (hly : LyOk ly) (hF : RfOk F) (hG : GO G) (hA : AQ A) (hs : s.toNat < 9) (K : ∀ r : Int, (r = (sLn s : Int) ∧ r ≤ 10) → Q (some (V r)) (HP ly F G A B)) : Re L xs 212 0 [(0, .float s)] [] (HP ly F G A B) Q := by
  have hl : sLn s ≤ 10 := sLn_le ⟨s.toNat, hs⟩
  exact s_212 hs (K _ ⟨rfl, by omega⟩)
theorem c_215 {s : UInt32} {i : Int} (hly : LyOk ly) (hF : RfOk F) (hG : GO G) (hA : AQ A) (in_i : inR i) (hs : s.toNat < 9) (hi : 0 ≤ i ∧ i < (sLn s : Int)) (K : ∀ r : Int, (0 ≤ r ∧ r ≤ 255) → Q (some (V r)) (HP ly F G A B)) : Re L xs 215 0 [(0, .float s), (1, V i)] [] (HP ly F G A B) Q := s_215 hs hi.1 hi.2 K
end C40
/-- costs of pairs: told, or barred -/
def PC (A : Nat → Nat → Int) (q : Nat) : Prop := ∀ i : Nat, i < 64 → A q i ≤ 99 ∨ A q i = 1000000
/-- the tokens' forms lie within the text -/
def tkO (G A : Nat → Nat → Int) : Prop := ∀ i : Nat, (i : Int) < G 22 4 → A 23 i = 0 → A 24 i + A 25 i ≤ 2000
/-- nothing is learnt yet -/
def lz (G A : Nat → Nat → Int) (x : Nat) : Prop := ∀ w : Nat, (w : Int) < G (x + 1) 2 → A (x + 8) w = 0
/-- words of a line lie within it -/
def lnQ (s l : Nat → Int) (n k : Int) : Prop := ∀ j : Nat, (j : Int) < n → s j + l j ≤ k
section P40
variable {G A G' A' : Nat → Nat → Int} {x q : Nat}
theorem PC_up {j : Nat} {c : Int} (h : PC A q) (e : A' q = fun i => if i = j then c else A q i) (hc : c ≤ 99 ∨ c = 1000000) : PC A' q := by
  intro i hi
  rw [e]
  dsimp only
  by_cases c' : i = j
  · rw [if_pos c']
    exact hc
  · rw [if_neg c']
    exact h i hi
theorem PC_c (e : A' q = A q) (h : PC A q) : PC A' q := by
  unfold PC at h ⊢
  rw [e]
  exact h
theorem PC_0 (h : ∀ i : Nat, i < 64 → A q i = 0) : PC A q := fun i hi => .inl (by rw [h i hi]; omega)
theorem tkO_c (e1 : G' 22 4 = G 22 4) (e2 : A' 23 = A 23) (e3 : A' 24 = A 24) (e4 : A' 25 = A 25) (h : tkO G A) : tkO G' A' := by
  unfold tkO at h ⊢
  rw [e1, e2, e3, e4]
  exact h
theorem tkO_0 (e1 : G 22 4 = 0) : tkO G A := fun i hi => by omega
theorem tkO_a {n so at' le : Int} (en : G 22 4 = n) (en' : G' 22 4 = n + 1) (hn : 0 ≤ n) (h : tkO G A) (e2 : A' 23 = fun i => if i = n.toNat then so else A 23 i) (e3 : A' 24 = fun i => if i = n.toNat then at' else A 24 i) (e4 : A' 25 = fun i => if i = n.toNat then le else A 25 i) (hf : so = 0 → at' + le ≤ 2000) : tkO G' A' := by
  intro i hi
  rw [en'] at hi
  rw [e2, e3, e4]
  dsimp only
  by_cases c : i = n.toNat
  · rw [if_pos c, if_pos c, if_pos c]
    exact hf
  · rw [if_neg c, if_neg c, if_neg c]
    exact h i (by omega)
theorem lz_c (e1 : G' (x + 1) 2 = G (x + 1) 2) (e2 : A' (x + 8) = A (x + 8)) (h : lz G A x) : lz G' A' x := by
  unfold lz at h ⊢
  rw [e1, e2]
  exact h
theorem lz_w {n : Int} (en : G (x + 1) 2 = n) (e1 : G' (x + 1) 2 = n + 1) (hn : 0 ≤ n) (e2 : A' (x + 8) = fun i => if i = n.toNat then 0 else A (x + 8) i) (h : lz G A x) : lz G' A' x := by
  intro w hw
  rw [e1] at hw
  rw [e2]
  dsimp only
  by_cases c : w = n.toNat
  · rw [if_pos c]
  · rw [if_neg c]
    exact h w (by omega)
theorem fl_s {A1 A2 : Nat → Nat → Int} {ra : Nat} {fr k v : Int} (h : ∀ i : Nat, A1 ra i = if fr ≤ (i : Int) ∧ (i : Int) < k then v else A ra i) (e : A2 ra = fun i => if i = k.toNat then v else A1 ra i) (h0 : 0 ≤ fr) (h1 : fr ≤ k) : ∀ i : Nat, A2 ra i = if fr ≤ (i : Int) ∧ (i : Int) < k + 1 then v else A ra i := by
  intro i
  rw [e]
  dsimp only
  by_cases c : i = k.toNat
  · rw [if_pos c, if_pos (by omega)]
  · rw [if_neg c, h i]
    by_cases d : fr ≤ (i : Int) ∧ (i : Int) < k
    · rw [if_pos d, if_pos (by omega)]
    · rw [if_neg d, if_neg (by omega)]
theorem fb_s {B0 B1 B2 : Nat → Nat → Int64} {ra : Nat} {fr k : Int} {v : Int64} (h : ∀ i : Nat, B1 ra i = if fr ≤ (i : Int) ∧ (i : Int) < k then v else B0 ra i) (e : B2 = up2 B1 ra k.toNat v) (h0 : 0 ≤ fr) (h1 : fr ≤ k) : ∀ i : Nat, B2 ra i = if fr ≤ (i : Int) ∧ (i : Int) < k + 1 then v else B0 ra i := by
  intro i
  rw [e]
  by_cases c : i = k.toNat
  · rw [c, up2_s, if_pos (by omega)]
  · rw [up2_n (fun z => c z.2), h i]
    by_cases d : fr ≤ (i : Int) ∧ (i : Int) < k
    · rw [if_pos d, if_pos (by omega)]
    · rw [if_neg d, if_neg (by omega)]
theorem lnQ_b {s l s' l' : Nat → Int} {n k m v n' : Int} (h : lnQ s l n k) (hn : 0 ≤ n) (e1 : s' = fun i => if i = n.toNat then k else s i) (e2 : l' = fun i => if i = m.toNat then v else l i) (hm : m = n) (hv : v ≤ 1) (hn' : n' = n + 1) : lnQ s' l' n' (k + 1) := by
  subst hm
  subst hn'
  intro j hj
  rw [e1, e2]
  dsimp only
  by_cases c : j = m.toNat
  · rw [if_pos c, if_pos c]
    omega
  · rw [if_neg c, if_neg c]
    have := h j (by omega)
    omega
theorem lnQ_e {s l l' : Nat → Int} {n k run m v : Int} (h : lnQ s l n k) (hn : 1 ≤ n) (hr : s (n - 1).toNat + run = k) (e2 : l' = fun i => if i = m.toNat then v else l i) (hm : m = n - 1) (hv : v = run + 1) : lnQ s l' n (k + 1) := by
  subst hm
  subst hv
  intro j hj
  rw [e2]
  dsimp only
  by_cases c : j = (n - 1).toNat
  · rw [if_pos c, c]
    omega
  · rw [if_neg c]
    have := h j hj
    omega
theorem lnQ_k {s l : Nat → Int} {n k k' : Int} (h : lnQ s l n k) (hk : k ≤ k') : lnQ s l n k' := fun j hj => by have := h j hj; omega
end P40
