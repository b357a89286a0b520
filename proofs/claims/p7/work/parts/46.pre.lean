/-- while the readings of word p are made -/
def cqQ (A A' : Nat → Nat → Int) (p : Nat) (n : Int) : Prop := (∀ j : Nat, (j : Int) < A' 32 p → A' 40 (12 * p + j) < n) ∧ (∀ i, ¬ i = p → A' 32 i = A 32 i) ∧ (∀ i, (i < 12 * p ∨ 12 * p + 12 ≤ i) → A' 40 i = A 40 i)
/-- the readings of word p, as they are -/
def crV (A : Nat → Nat → Int) (p : Nat) (n : Int) : Prop := 1 ≤ A 32 p ∧ ∀ j : Nat, (j : Int) < A 32 p → A 40 (12 * p + j) < n
section P46
variable {A A0 A1 A2 : Nat → Nat → Int} {p : Nat} {n r w : Int}
theorem cq_0 (e : A2 32 = fun i => if i = p then 0 else A 32 i) (e2 : A2 40 = A 40) : cqQ A A2 p n := by
  refine ⟨fun j hj => ?_, fun i hi => by rw [e]; exact if_neg hi, fun i _ => by rw [e2]⟩
  rw [e] at hj
  simp at hj
  omega
theorem cq_s (h : cqQ A A1 p n) (e : A2 32 = A1 32) (e2 : A2 40 = A1 40) : cqQ A A2 p n := by
  unfold cqQ at h ⊢
  rw [e, e2]
  exact h
theorem cq_a (h : cqQ A A1 p n) (hw : w < n) (h0 : 0 ≤ A1 32 p) (h1 : A1 32 p ≤ 11) (hr : r = 12 * (p : Int) + A1 32 p) (e : A2 32 = fun i => if i = p then A1 32 p + 1 else A1 32 i) (e2 : A2 40 = fun i => if i = r.toNat then w else A1 40 i) : cqQ A A2 p n := by
  obtain ⟨g1, g2, g3⟩ := h
  refine ⟨fun j hj => ?_, fun i hi => ?_, fun i hi => ?_⟩
  · rw [e] at hj
    rw [e2]
    simp at hj
    show (if 12 * p + j = r.toNat then w else A1 40 (12 * p + j)) < n
    by_cases c : 12 * p + j = r.toNat
    · rw [if_pos c]
      exact hw
    · rw [if_neg c]
      exact g1 j (by omega)
  · rw [e]
    show (if i = p then _ else A1 32 i) = _
    rw [if_neg hi]
    exact g2 i hi
  · rw [e2]
    show (if i = r.toNat then w else A1 40 i) = _
    rw [if_neg (by omega)]
    exact g3 i hi
theorem cq_e {A3 : Nat → Nat → Int} (h : cqQ A A1 p n) (hw : w < n) (h0 : 0 ≤ A1 32 p) (h1 : A1 32 p ≤ 11) (hr : r = 12 * (p : Int) + A1 32 p) (e : A3 32 = fun i => if i = p then A1 32 p + 1 else A1 32 i) (e1 : A2 40 = fun i => if i = r.toNat then (-1) else A1 40 i) (e2 : A3 40 = fun i => if i = r.toNat then w else A2 40 i) : cqQ A A3 p n := by
  refine cq_a h hw h0 h1 hr e ?_
  rw [e2, e1]
  funext i
  by_cases c : i = r.toNat
  · rw [if_pos c, if_pos c]
  · rw [if_neg c, if_neg c]
    exact if_neg c
theorem cq_add (h1 : r = -1 → A2 32 = A1 32 ∧ A2 40 = A1 40 ∧ 12 ≤ A1 32 p) (h2 : ¬ r = -1 → r = 12 * (p : Int) + A1 32 p ∧ A1 32 p ≤ 11 ∧ A2 32 = (fun i => if i = p then A1 32 p + 1 else A1 32 i) ∧ A2 40 = (fun i => if i = r.toNat then (-1) else A1 40 i)) (h0 : 0 ≤ A1 32 p) (h : cqQ A A1 p n) (hn : 0 ≤ n) : cqQ A A2 p n := by
  by_cases c : r = -1
  · obtain ⟨a, b, -⟩ := h1 c
    exact cq_s h a b
  · obtain ⟨a, b, d, e⟩ := h2 c
    exact cq_a h (by omega) h0 b a d e
theorem ad_pos (h1 : r = -1 → A2 32 = A1 32 ∧ A2 40 = A1 40 ∧ 12 ≤ A1 32 p) (h2 : ¬ r = -1 → r = 12 * (p : Int) + A1 32 p ∧ A1 32 p ≤ 11 ∧ A2 32 = (fun i => if i = p then A1 32 p + 1 else A1 32 i) ∧ A2 40 = (fun i => if i = r.toNat then (-1) else A1 40 i)) (h0 : 0 ≤ A1 32 p) : 1 ≤ A2 32 p := by
  by_cases c : r = -1
  · obtain ⟨a, b, d⟩ := h1 c
    rw [a]
    omega
  · obtain ⟨a, b, d, e⟩ := h2 c
    rw [d]
    simp
    omega
theorem cr_s {v : Int} (hA : AQ A2) (h : ∀ q : Nat, (q : Int) < v → crV A1 q n) (hv : 0 ≤ v) (hq : cqQ A1 A2 v.toNat n) (h1 : 1 ≤ A2 32 v.toNat) : ∀ q : Nat, (q : Int) < v + 1 → crV A2 q n := by
  intro q hq2
  obtain ⟨g1, g2, g3⟩ := hq
  by_cases c : q = v.toNat
  · rw [c]
    exact ⟨h1, g1⟩
  · have hh := h q (by omega)
    refine ⟨by rw [g2 q c]; exact hh.1, fun j hj => ?_⟩
    have hr := a_32 hA q
    rw [g3 _ (by omega)]
    rw [g2 q c] at hj
    exact hh.2 j hj
theorem cr_c {q : Nat} (e : A2 32 = A1 32) (e2 : A2 40 = A1 40) (h : crV A1 q n) : crV A2 q n := by
  unfold crV at h ⊢
  rw [e, e2]
  exact h
end P46
