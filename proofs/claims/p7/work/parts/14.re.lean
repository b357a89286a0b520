/-! A LOGIC OVER THE ABSTRACT MACHINE'S RUNS: Re .. Q: the run from here ends, with Q -/
def Re (L : Nat) (xs : Nat → Int32) (mi pc : Nat) (l : AL) (st : List Value) (h : AH) (Q : Option Value → AH → Prop) : Prop := ∃ f r h', a_run L xs f mi pc l st h = some (r, h') ∧ Q r h'
/-- a value of an int -/
abbrev V (z : Int) : Value := .int (Int32.ofInt z)
section RE
variable {L : Nat} {xs : Nat → Int32} {mi pc : Nat} {l : AL} {st : List Value} {h : AH} {Q : Option Value → AH → Prop}
theorem a_run_up : ∀ (f : Nat) {mi pc : Nat} {l : AL} {st : List Value} {h : AH} {x : Option Value × AH}, a_run L xs f mi pc l st h = some x → ∀ k, a_run L xs (f + k) mi pc l st h = some x
  | 0, _, _, _, _, _, _, z, _ => by cases z
  | f + 1, mi, pc, l, st, h, x, z, k => by
    rw [show f + 1 + k = (f + k) + 1 by omega]
    unfold a_run at z ⊢
    split at z
    · cases z
    · rename_i i r hi
      try rw [hi]
      try dsimp only
      split at z
      · cases z
      · rename_i hs
        try rw [hs]
        exact a_run_up f z k
      · rename_i hs
        try rw [hs]
        exact z
      · rename_i hs
        try rw [hs]
        try dsimp only
        split at z
        · cases z
        · rename_i hc
          rw [a_run_up f hc k]
          exact a_run_up f z k
theorem Re.mono {Q' : Option Value → AH → Prop} (H : Re L xs mi pc l st h Q) (k : ∀ r h', Q r h' → Q' r h') : Re L xs mi pc l st h Q' := by
  obtain ⟨f, r, h', h1, h2⟩ := H
  exact ⟨f, r, h', h1, k r h' h2⟩
theorem re_nx {i : Instr} {r : AR} {pc' : Nat} {l' : AL} {st' : List Value} {h' : AH} (hi : a_ins mi pc = some (i, r)) (hs : a_st L xs mi pc l st h i r = some (.inl (pc', l', st', h'))) (k : Re L xs mi pc' l' st' h' Q) : Re L xs mi pc l st h Q := by
  obtain ⟨f, r, h', h1, h2⟩ := k
  refine ⟨f + 1, r, h', ?_, h2⟩
  unfold a_run
  rw [hi]
  dsimp only
  rw [hs]
  exact h1
theorem re_ret {i : Instr} {r : AR} {v : Option Value} (hi : a_ins mi pc = some (i, r)) (hs : a_st L xs mi pc l st h i r = some (.inr (.inl v))) (k : Q v h) : Re L xs mi pc l st h Q := by
  refine ⟨1, v, h, ?_, k⟩
  unfold a_run
  rw [hi]
  dsimp only
  rw [hs]
theorem re_call {i : Instr} {r : AR} {mj : Nat} {as rest : List Value} (hi : a_ins mi pc = some (i, r)) (hs : a_st L xs mi pc l st h i r = some (.inr (.inr (mj, as, rest)))) (k : Re L xs mj 0 (lv_args 0 as) [] h (fun v h' => Re L xs mi (pc + 3) l (v.toList ++ rest) h' Q)) : Re L xs mi pc l st h Q := by
  obtain ⟨f, v, h1, e1, g, r2, h2, e2, hq⟩ := k
  refine ⟨f + g + 1, r2, h2, ?_, hq⟩
  unfold a_run
  rw [hi]
  dsimp only
  rw [hs]
  dsimp only
  rw [a_run_up f e1 g]
  dsimp only
  rw [Nat.add_comm f g]
  exact a_run_up g e2 f
abbrev inR (z : Int) : Prop := -2147483648 ≤ z ∧ z < 2147483648
theorem oI {z : Int} (h : inR z) : (Int32.ofInt z).toInt = z := Int32.toInt_ofInt_of_le (by simpa using h.1) (by simpa using h.2)
theorem oI_lt {a b : Int} (ha : inR a) (hb : inR b) : Int32.ofInt a < Int32.ofInt b ↔ a < b := by rw [Int32.lt_iff_toInt_lt, oI ha, oI hb]
theorem oI_le {a b : Int} (ha : inR a) (hb : inR b) : Int32.ofInt a ≤ Int32.ofInt b ↔ a ≤ b := by rw [Int32.le_iff_toInt_le, oI ha, oI hb]
theorem oI_eq {a b : Int} (ha : inR a) (hb : inR b) : Int32.ofInt a = Int32.ofInt b ↔ a = b := by rw [← Int32.toInt_inj, oI ha, oI hb]
theorem oI_add (a b : Int) : Int32.ofInt a + Int32.ofInt b = Int32.ofInt (a + b) := (Int32.ofInt_add a b).symm
theorem oI_sub (a b : Int) : Int32.ofInt a - Int32.ofInt b = Int32.ofInt (a - b) := (Int32.ofInt_sub a b).symm
theorem oI_mul (a b : Int) : Int32.ofInt a * Int32.ofInt b = Int32.ofInt (a * b) := (Int32.ofInt_mul a b).symm
theorem oI_cl {z : Int} (h : 0 ≤ z) (h2 : z < 2147483648) : (Int32.ofInt z).toNatClampNeg = z.toNat := by
  show (Int32.ofInt z).toInt.toNat = z.toNat
  rw [oI ⟨by omega, h2⟩]
theorem oI_of (x : Int32) : x = Int32.ofInt x.toInt := (Int32.ofInt_toInt x).symm
-- pure rows
theorem r_iconst {v : Int} {r : AR} (hi : a_ins mi pc = some (.iconst v, r)) (k : Re L xs mi (pc + 1) l (V v :: st) h Q) : Re L xs mi pc l st h Q := re_nx hi rfl k
theorem r_bipush {v : Int} {r : AR} (hi : a_ins mi pc = some (.bipush v, r)) (hv : (Int8.ofInt v).toInt32 = Int32.ofInt v) (k : Re L xs mi (pc + 2) l (V v :: st) h Q) : Re L xs mi pc l st h Q := re_nx hi rfl (by rw [hv]; exact k)
theorem r_sipush {v : Int} {r : AR} (hi : a_ins mi pc = some (.sipush v, r)) (hv : (Int16.ofInt v).toInt32 = Int32.ofInt v) (k : Re L xs mi (pc + 3) l (V v :: st) h Q) : Re L xs mi pc l st h Q := re_nx hi rfl (by rw [hv]; exact k)
theorem r_lconst {v : Fin 2} {r : AR} (hi : a_ins mi pc = some (.lconst v, r)) (k : Re L xs mi (pc + 1) l (.long (Int64.ofNat v) :: st) h Q) : Re L xs mi pc l st h Q := re_nx hi rfl k
theorem r_ldc {i x p : Nat} {v : Int} (hi : a_ins mi pc = some (.ldc i, (0, x, p))) (hv : i_V.getD x 0 = Int32.ofInt v) (k : Re L xs mi (pc + 2) l (V v :: st) h Q) : Re L xs mi pc l st h Q := re_nx hi rfl (by rw [hv]; exact k)
theorem r_ldcw {i x p : Nat} {v : Int} (hi : a_ins mi pc = some (.ldc_w i, (0, x, p))) (hv : i_V.getD x 0 = Int32.ofInt v) (k : Re L xs mi (pc + 3) l (V v :: st) h Q) : Re L xs mi pc l st h Q := re_nx hi rfl (by rw [hv]; exact k)
theorem r_ldcs {i x p : Nat} {s : UInt32} (hi : a_ins mi pc = some (.ldc i, (1, x, p))) (hv : UInt32.ofNat x = s) (k : Re L xs mi (pc + 2) l (.float s :: st) h Q) : Re L xs mi pc l st h Q := re_nx hi rfl (by rw [hv]; exact k)
theorem r_ldc2 {i x p : Nat} {v : Int64} (hi : a_ins mi pc = some (.ldc2_w i, (0, x, p))) (hv : l_V.getD x 0 = v) (k : Re L xs mi (pc + 3) l (.long v :: st) h Q) : Re L xs mi pc l st h Q := re_nx hi rfl (by rw [hv]; exact k)
theorem r_iload_n {n : Fin 4} {r : AR} {x : Int32} (hi : a_ins mi pc = some (.iload_n n, r)) (hg : l_g l n = some (.int x)) (k : Re L xs mi (pc + 1) l (.int x :: st) h Q) : Re L xs mi pc l st h Q := re_nx hi (by show (match l_g l n with | some (.int x) => a_nx (pc + 1) l (.int x :: st) h | _ => none) = _; rw [hg]; rfl) k
theorem r_iload {n : Nat} {r : AR} {x : Int32} (hi : a_ins mi pc = some (.iload n, r)) (hg : l_g l n = some (.int x)) (k : Re L xs mi (pc + 2) l (.int x :: st) h Q) : Re L xs mi pc l st h Q := re_nx hi (by show (match l_g l n with | some (.int x) => a_nx (pc + 2) l (.int x :: st) h | _ => none) = _; rw [hg]; rfl) k
theorem r_lload_n {n : Fin 4} {r : AR} {x : Int64} (hi : a_ins mi pc = some (.lload_n n, r)) (hg : l_g l n = some (.long x)) (k : Re L xs mi (pc + 1) l (.long x :: st) h Q) : Re L xs mi pc l st h Q := re_nx hi (by show (match l_g l n with | some (.long x) => a_nx (pc + 1) l (.long x :: st) h | _ => none) = _; rw [hg]; rfl) k
theorem r_lload {n : Nat} {r : AR} {x : Int64} (hi : a_ins mi pc = some (.lload n, r)) (hg : l_g l n = some (.long x)) (k : Re L xs mi (pc + 2) l (.long x :: st) h Q) : Re L xs mi pc l st h Q := re_nx hi (by show (match l_g l n with | some (.long x) => a_nx (pc + 2) l (.long x :: st) h | _ => none) = _; rw [hg]; rfl) k
theorem r_aload_n {n : Fin 4} {r : AR} {x : Nat} (hi : a_ins mi pc = some (.aload_n n, r)) (hg : l_g l n = some (.ref x)) (k : Re L xs mi (pc + 1) l (.ref x :: st) h Q) : Re L xs mi pc l st h Q := re_nx hi (by show (match l_g l n with | some (.ref x) => a_nx (pc + 1) l (.ref x :: st) h | some (.float x) => if x = 3000 then none else a_nx (pc + 1) l (.float x :: st) h | _ => none) = _; rw [hg]; rfl) k
theorem r_aload {n : Nat} {r : AR} {x : Nat} (hi : a_ins mi pc = some (.aload n, r)) (hg : l_g l n = some (.ref x)) (k : Re L xs mi (pc + 2) l (.ref x :: st) h Q) : Re L xs mi pc l st h Q := re_nx hi (by show (match l_g l n with | some (.ref x) => a_nx (pc + 2) l (.ref x :: st) h | some (.float x) => if x = 3000 then none else a_nx (pc + 2) l (.float x :: st) h | _ => none) = _; rw [hg]; rfl) k
theorem r_aloads_n {n : Fin 4} {r : AR} {x : UInt32} (hi : a_ins mi pc = some (.aload_n n, r)) (hg : l_g l n = some (.float x)) (hx : ¬ x = 3000) (k : Re L xs mi (pc + 1) l (.float x :: st) h Q) : Re L xs mi pc l st h Q := re_nx hi (by show (match l_g l n with | some (.ref x) => a_nx (pc + 1) l (.ref x :: st) h | some (.float x) => if x = 3000 then none else a_nx (pc + 1) l (.float x :: st) h | _ => none) = _; rw [hg]; dsimp only; rw [if_neg hx]; rfl) k
theorem r_istore_n {n : Fin 4} {r : AR} {x : Int32} {l' : AL} (hi : a_ins mi pc = some (.istore_n n, r)) (hn : (n : Nat) < m_l mi) (hl : l_s l n (.int x) = l') (k : Re L xs mi (pc + 1) l' st h Q) : Re L xs mi pc l (.int x :: st) h Q := re_nx hi (by show (if (n : Nat) < m_l mi then a_nx (pc + 1) (l_s l n (.int x)) st h else none) = _; rw [if_pos hn, hl]; rfl) k
theorem r_istore {n : Nat} {r : AR} {x : Int32} {l' : AL} (hi : a_ins mi pc = some (.istore n, r)) (hn : n < m_l mi) (hl : l_s l n (.int x) = l') (k : Re L xs mi (pc + 2) l' st h Q) : Re L xs mi pc l (.int x :: st) h Q := re_nx hi (by show (if n < m_l mi then a_nx (pc + 2) (l_s l n (.int x)) st h else none) = _; rw [if_pos hn, hl]; rfl) k
theorem r_astore_n {n : Fin 4} {r : AR} {x : Nat} {l' : AL} (hi : a_ins mi pc = some (.astore_n n, r)) (hn : (n : Nat) < m_l mi) (hl : l_s l n (.ref x) = l') (k : Re L xs mi (pc + 1) l' st h Q) : Re L xs mi pc l (.ref x :: st) h Q := re_nx hi (by show (if (n : Nat) < m_l mi then a_nx (pc + 1) (l_s l n (.ref x)) st h else none) = _; rw [if_pos hn, hl]; rfl) k
theorem r_astore {n : Nat} {r : AR} {x : Nat} {l' : AL} (hi : a_ins mi pc = some (.astore n, r)) (hn : n < m_l mi) (hl : l_s l n (.ref x) = l') (k : Re L xs mi (pc + 2) l' st h Q) : Re L xs mi pc l (.ref x :: st) h Q := re_nx hi (by show (if n < m_l mi then a_nx (pc + 2) (l_s l n (.ref x)) st h else none) = _; rw [if_pos hn, hl]; rfl) k
theorem r_lstore_n {n : Fin 4} {r : AR} {x : Int64} {l' : AL} (hi : a_ins mi pc = some (.lstore_n n, r)) (hn : (n : Nat) + 1 < m_l mi) (hl : l_s2 l n (.long x) = l') (k : Re L xs mi (pc + 1) l' st h Q) : Re L xs mi pc l (.long x :: st) h Q := re_nx hi (by show (if (n : Nat) + 1 < m_l mi then a_nx (pc + 1) (l_s2 l n (.long x)) st h else none) = _; rw [if_pos hn, hl]; rfl) k
theorem r_iinc {n : Nat} {v z : Int} {r : AR} {l' : AL} (hi : a_ins mi pc = some (.iinc n v, r)) (hg : l_g l n = some (V z)) (hn : n < m_l mi) (hl : l_s l n (V (z + v)) = l') (k : Re L xs mi (pc + 3) l' st h Q) : Re L xs mi pc l st h Q := re_nx hi (by show (match l_g l n with | some (.int x) => if n < m_l mi then a_nx (pc + 3) (l_s l n (.int (x + Int32.ofInt v))) st h else none | _ => none) = _; rw [hg]; dsimp only; rw [if_pos hn, oI_add, hl]; rfl) k
theorem r_iadd {a b : Int} {r : AR} (hi : a_ins mi pc = some (.iadd, r)) (k : Re L xs mi (pc + 1) l (V (a + b) :: st) h Q) : Re L xs mi pc l (V b :: V a :: st) h Q := re_nx hi rfl (by rw [oI_add]; exact k)
theorem r_isub {a b : Int} {r : AR} (hi : a_ins mi pc = some (.isub, r)) (k : Re L xs mi (pc + 1) l (V (a - b) :: st) h Q) : Re L xs mi pc l (V b :: V a :: st) h Q := re_nx hi rfl (by rw [oI_sub]; exact k)
theorem r_imul {a b : Int} {r : AR} (hi : a_ins mi pc = some (.imul, r)) (k : Re L xs mi (pc + 1) l (V (a * b) :: st) h Q) : Re L xs mi pc l (V b :: V a :: st) h Q := re_nx hi rfl (by rw [oI_mul]; exact k)
/-- any operation of two ints, its answer given as a number -/
theorem r_bin {x y v : Int32} {z : Int} {i : Instr} {r : AR} (hi : a_ins mi pc = some (i, r)) (hs : a_st L xs mi pc l (.int y :: .int x :: st) h i r = some (.inl (pc + 1, l, .int v :: st, h))) (hv : v = Int32.ofInt z) (k : Re L xs mi (pc + 1) l (V z :: st) h Q) : Re L xs mi pc l (.int y :: .int x :: st) h Q := re_nx hi hs (by rw [hv]; exact k)
theorem r_un {x v : Int32} {z : Int} {i : Instr} {r : AR} (hi : a_ins mi pc = some (i, r)) (hs : a_st L xs mi pc l (.int x :: st) h i r = some (.inl (pc + 1, l, .int v :: st, h))) (hv : v = Int32.ofInt z) (k : Re L xs mi (pc + 1) l (V z :: st) h Q) : Re L xs mi pc l (.int x :: st) h Q := re_nx hi hs (by rw [hv]; exact k)
theorem r_go {off : Int} {r : AR} {t : Nat} (hi : a_ins mi pc = some (.goto off, r)) (ht : (pc : Int) + off = (t : Int)) (k : Re L xs mi t l st h Q) : Re L xs mi pc l st h Q := re_nx hi (by show a_go pc off l st h = _; unfold a_go; rw [if_pos (by omega), ht]; rfl) k
theorem a_br_t {c : Prop} [Decidable c] {off : Int} {t : Nat} (hc : c) (ht : (pc : Int) + off = (t : Int)) : a_br c pc off l st h = some (.inl (t, l, st, h)) := by unfold a_br; rw [if_pos (by omega), if_pos hc, ht]; rfl
theorem a_br_f {c : Prop} [Decidable c] {off : Int} {t : Nat} (hc : ¬ c) (ht : (pc : Int) + off = (t : Int)) : a_br c pc off l st h = some (.inl (pc + 3, l, st, h)) := by unfold a_br; rw [if_pos (by omega), if_neg hc]; rfl
end RE
