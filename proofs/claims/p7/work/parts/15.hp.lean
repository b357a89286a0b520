/-! CELLS BY A LAYOUT AND DATA: F fields that are references or longs, G int fields, A int arrays, B long arrays -/
abbrev LK : Type := Nat ⊕ (FieldType × Nat)
def isI (ci k : Nat) : Bool := match c_R[ci]? with
  | some (_, _, _, ty) => (match ty k with
    | .int => true
    | .boolean => true
    | .byte => true
    | .char => true
    | .short => true
    | _ => false)
  | none => false
def nF (ci : Nat) : Nat := match c_R[ci]? with
  | some (_, _, N, _) => N
  | none => 0
def fsl (ci : Nat) (f : Nat → Value) (g : Nat → Int) : List Value := (List.range (nF ci)).map (fun k => if isI ci k = true then V (g k) else f k)
def lkn (k : LK) : Nat := match k with
  | .inl ci => nF ci
  | .inr (_, n) => n
def up2 {α : Type} (f : Nat → Nat → α) (a k : Nat) (v : α) : Nat → Nat → α := fun x y => if x = a ∧ y = k then v else f x y
def hcl (k : LK) (f : Nat → Value) (g a : Nat → Int) (b : Nat → Int64) : AC := match k with
  | .inl ci => .inr (ci, fsl ci f g)
  | .inr (t, n) => if t = .long then .inl (.long, n, .inr (.inl b)) else .inl (t, n, .inl (fun i => Int32.ofInt (a i)))
def HP (ly : List LK) (F : Nat → Nat → Value) (G A : Nat → Nat → Int) (B : Nat → Nat → Int64) : AH := (ly.length, (ly.map lkn).sum, fun a => match ly[a]? with
  | some k => hcl k (F a) (G a) (A a) (B a)
  | none => .inr (0, []))
theorem up2_s {α : Type} (f : Nat → Nat → α) (a k : Nat) (v : α) : up2 f a k v a k = v := by simp [up2]
theorem up2_n {α : Type} {f : Nat → Nat → α} {a k x y : Nat} {v : α} (h : ¬ (x = a ∧ y = k)) : up2 f a k v x y = f x y := by simp only [up2, if_neg h]
theorem up2_a {α : Type} {f : Nat → Nat → α} {a k x : Nat} {v : α} (h : ¬ x = a) : up2 f a k v x = f x := by funext y; exact up2_n (fun z => h z.1)
section HPS
variable {ly : List LK} {F : Nat → Nat → Value} {G A : Nat → Nat → Int} {B : Nat → Nat → Int64}
theorem ly_lt {a : Nat} {k : LK} (h : ly[a]? = some k) : a < ly.length := (List.getElem?_eq_some_iff.mp h).1
theorem HP_cell {a : Nat} {k : LK} (h : ly[a]? = some k) : (HP ly F G A B).2.2 a = hcl k (F a) (G a) (A a) (B a) := by
  show (match ly[a]? with | some k => hcl k (F a) (G a) (A a) (B a) | none => .inr (0, [])) = _
  rw [h]
theorem HP_ob {a ci : Nat} (h : ly[a]? = some (.inl ci)) : h_ob (HP ly F G A B) a = some (ci, fsl ci (F a) (G a)) := by
  unfold h_ob
  rw [if_pos (show a < (HP ly F G A B).1 from ly_lt h), HP_cell h]
  rfl
theorem HP_ai {a n : Nat} {t : FieldType} (h : ly[a]? = some (.inr (t, n))) (ht : ¬ t = .long) : h_ai (HP ly F G A B) a t = some (n, fun i => Int32.ofInt (A a i)) := by
  unfold h_ai
  rw [if_pos (show a < (HP ly F G A B).1 from ly_lt h), HP_cell h]
  unfold hcl
  dsimp only
  rw [if_neg ht]
  dsimp only
  rw [if_pos rfl]
theorem HP_an {a n : Nat} {t t' : FieldType} (h : ly[a]? = some (.inr (t, n))) (ht : ¬ t = .long) (hn : ¬ t = t') : h_ai (HP ly F G A B) a t' = none := by
  unfold h_ai
  rw [if_pos (show a < (HP ly F G A B).1 from ly_lt h), HP_cell h]
  unfold hcl
  dsimp only
  rw [if_neg ht]
  dsimp only
  rw [if_neg hn]
theorem HP_al {a n : Nat} (h : ly[a]? = some (.inr (.long, n))) : h_al (HP ly F G A B) a = some (n, B a) := by
  unfold h_al
  rw [if_pos (show a < (HP ly F G A B).1 from ly_lt h), HP_cell h]
  unfold hcl
  dsimp only
  rw [if_pos rfl]
theorem fsl_get {ci k : Nat} {f : Nat → Value} {g : Nat → Int} (h : k < nF ci) : (fsl ci f g)[k]? = some (if isI ci k = true then V (g k) else f k) := by
  unfold fsl
  rw [List.getElem?_map, List.getElem?_range h]
  rfl
theorem fsl_len {ci : Nat} {f : Nat → Value} {g : Nat → Int} : (fsl ci f g).length = nF ci := by
  unfold fsl
  rw [List.length_map, List.length_range]
theorem fsl_set {ci k : Nat} {f f' : Nat → Value} {g g' : Nat → Int} {v : Value} (hk : (if isI ci k = true then V (g' k) else f' k) = v) (ho : ∀ j, ¬ j = k → (if isI ci j = true then V (g' j) else f' j) = (if isI ci j = true then V (g j) else f j)) : (fsl ci f g).set k v = fsl ci f' g' := by
  apply List.ext_getElem?
  intro j
  rcases Nat.lt_or_ge j (nF ci) with hj | hj
  · rw [List.getElem?_set, fsl_get hj, fsl_get hj]
    by_cases e : k = j
    · subst e
      rw [if_pos rfl, if_pos (by rw [fsl_len]; exact hj), hk]
    · rw [if_neg e, ho j (fun z => e z.symm)]
  · rw [List.getElem?_eq_none (by rw [List.length_set, fsl_len]; exact hj), List.getElem?_eq_none (by rw [fsl_len]; exact hj)]
theorem HP_up {a : Nat} {k : LK} {c : AC} {F' : Nat → Nat → Value} {G' A' : Nat → Nat → Int} {B' : Nat → Nat → Int64} (h : ly[a]? = some k) (hc : hcl k (F' a) (G' a) (A' a) (B' a) = c) (ho : ∀ x, ¬ x = a → F' x = F x ∧ G' x = G x ∧ A' x = A x ∧ B' x = B x) : h_up (HP ly F G A B) a c = HP ly F' G' A' B' := by
  show ((HP ly F G A B).1, (HP ly F G A B).2.1, va_up (HP ly F G A B).2.2 a c) = HP ly F' G' A' B'
  unfold HP
  congr 2
  funext x
  unfold va_up
  by_cases e : x = a
  · subst e
    rw [if_pos rfl, h]
    exact hc.symm
  · rw [if_neg e]
    obtain ⟨e1, e2, e3, e4⟩ := ho x e
    dsimp only
    rw [e1, e2, e3, e4]
theorem HP_upG {a ci k : Nat} {z : Int} (h : ly[a]? = some (.inl ci)) (hk : isI ci k = true) : h_up (HP ly F G A B) a (.inr (ci, (fsl ci (F a) (G a)).set k (V z))) = HP ly F (up2 G a k z) A B := by
  refine HP_up h ?_ (fun x hx => ⟨rfl, up2_a hx, rfl, rfl⟩)
  unfold hcl
  dsimp only
  rw [fsl_set (f' := F a) (g' := up2 G a k z a)]
  · rw [if_pos hk, up2_s]
  · intro j hj
    rw [up2_n (fun e => hj e.2)]
theorem HP_upF {a ci k : Nat} {v : Value} (h : ly[a]? = some (.inl ci)) (hk : isI ci k = false) : h_up (HP ly F G A B) a (.inr (ci, (fsl ci (F a) (G a)).set k v)) = HP ly (up2 F a k v) G A B := by
  refine HP_up h ?_ (fun x hx => ⟨up2_a hx, rfl, rfl, rfl⟩)
  unfold hcl
  dsimp only
  rw [fsl_set (f' := up2 F a k v a) (g' := G a)]
  · rw [hk, if_neg (by decide), up2_s]
  · intro j hj
    rw [up2_n (fun e => hj e.2)]
theorem HP_upA {a n j : Nat} {t : FieldType} {z : Int} (h : ly[a]? = some (.inr (t, n))) (ht : ¬ t = .long) : h_up (HP ly F G A B) a (.inl (t, n, .inl (upd (fun i => Int32.ofInt (A a i)) j (Int32.ofInt z)))) = HP ly F G (up2 A a j z) B := by
  refine HP_up h ?_ (fun x hx => ⟨rfl, rfl, up2_a hx, rfl⟩)
  unfold hcl
  dsimp only
  rw [if_neg ht]
  congr 4
  funext i
  unfold upd
  by_cases e : i = j
  · subst e
    rw [if_pos rfl, up2_s]
  · rw [if_neg e, up2_n (fun z => e z.2)]
theorem HP_upB {a n j : Nat} {v : Int64} (h : ly[a]? = some (.inr (.long, n))) : h_up (HP ly F G A B) a (.inl (.long, n, .inr (.inl (vp_updL (B a) j v)))) = HP ly F G A (up2 B a j v) := by
  refine HP_up h ?_ (fun x hx => ⟨rfl, rfl, rfl, up2_a hx⟩)
  unfold hcl
  dsimp only
  rw [if_pos rfl]
  congr 5
  funext i
  unfold vp_updL
  by_cases e : i = j
  · subst e
    rw [if_pos rfl, up2_s]
  · rw [if_neg e, up2_n (fun z => e z.2)]
end HPS
def Zr (n : Nat) (F : Nat → Nat → Value) (G A : Nat → Nat → Int) (B : Nat → Nat → Int64) : Prop := (∀ x, n ≤ x → ∀ k, F x k = .null ∧ G x k = 0 ∧ A x k = 0 ∧ B x k = 0)
theorem HP_ps {ly : List LK} {F : Nat → Nat → Value} {G A : Nat → Nat → Int} {B : Nat → Nat → Int64} {k : LK} {c : AC} {n : Nat} (hn : lkn k = n) (hc : hcl k (F ly.length) (G ly.length) (A ly.length) (B ly.length) = c) : h_ps (HP ly F G A B) n c = HP (ly ++ [k]) F G A B := by
  show ((HP ly F G A B).1 + 1, (HP ly F G A B).2.1 + n, va_up (HP ly F G A B).2.2 ly.length c) = HP (ly ++ [k]) F G A B
  unfold HP
  rw [List.length_append, List.map_append, List.sum_append]
  show _ = (ly.length + 1, (ly.map lkn).sum + (lkn k + 0), _)
  rw [hn]
  congr 2
  funext x
  unfold va_up
  by_cases e : x = ly.length
  · subst e
    rw [if_pos rfl, List.getElem?_append_right (Nat.le_refl _), Nat.sub_self]
    exact hc.symm
  · rw [if_neg e]
    dsimp only
    rcases Nat.lt_or_ge x ly.length with hx | hx
    · rw [List.getElem?_append_left hx]
    · rw [List.getElem?_eq_none hx, List.getElem?_eq_none (by rw [List.length_append]; show ly.length + 1 ≤ x; omega)]
