/-- the class between calls, but for what follows from its readings: x its book, z the reader's, y its line, u the spare one -/
abbrev CJ (x z y u : Nat) (F : Nat → Nat → Value) (G A : Nat → Nat → Int) : Prop := ((x = 3 ∨ x = 61) ∧ x + z = 64) ∧ ((y = 80 ∨ y = 85) ∧ y + u = 165) ∧ (F 0 6 = .ref x ∧ F 2 2 = .ref z) ∧ (F 0 7 = .ref y ∧ F 0 8 = .ref u) ∧ wqF F ∧ PCs A ∧ RS A ∧ lnQ (A (y + 2)) (A (y + 3)) (G y 5) 200 ∧ (∀ j : Nat, (j : Int) < G 27 3 → A 29 j < G (x + 1) 2) ∧ (∀ w : Nat, (w : Int) < G (x + 1) 2 → A (x + 8) w = cnt (A 29) (A 30) w (G 27 3).toNat) ∧ (G 2 6 = 0 → G 2 7 + G 2 8 ≤ 2000)
abbrev CV (x z y u : Nat) (F : Nat → Nat → Value) (G A : Nat → Nat → Int) : Prop := CJ x z y u F G A ∧ F 42 8 = .ref (x + 17) ∧ SWV G A ∧ (∀ p : Nat, (p : Int) < G 31 8 → crV A p (G (x + 1) 2))
def CI (F : Nat → Nat → Value) (G A : Nat → Nat → Int) : Prop := ∃ x z y u, CV x z y u F G A
section P64
variable {x z y u : Nat} {F F' : Nat → Nat → Value} {G A G' A' : Nat → Nat → Int}
theorem lnQ_c {s l s' l' : Nat → Int} {n n' k : Int} (e1 : s' = s) (e2 : l' = l) (e3 : n' = n) (h : lnQ s l n k) : lnQ s' l' n' k := by
  rw [e1, e2, e3]
  exact h
theorem wqF_c (e : F' 48 4 = F 48 4) (h : wqF F) : wqF F' := by
  obtain ⟨q, h1, h2⟩ := h
  exact ⟨q, by rw [e]; exact h1, h2⟩
theorem cb_le {e : Int} (h : ∀ w : Nat, (w : Int) < G (x + 1) 2 → A (x + 8) w = cnt (A 29) (A 30) w (G 27 3).toNat) (h0 : 0 ≤ e) (h1 : e < G (x + 1) 2) (hn : 0 ≤ G 27 3) : 0 ≤ A (x + 8) e.toNat ∧ A (x + 8) e.toNat ≤ G 27 3 := by
  have hl := h e.toNat (by omega)
  have := cnt_r (A 29) (A 30) ((e.toNat : Nat) : Int) (G 27 3).toNat
  omega
theorem cb_pos {j : Int} (hA : AQ A) (h : ∀ w : Nat, (w : Int) < G (x + 1) 2 → A (x + 8) w = cnt (A 29) (A 30) w (G 27 3).toNat) (hc : ∀ j : Nat, (j : Int) < G 27 3 → A 29 j < G (x + 1) 2) (h0 : 0 ≤ j) (h1 : j < G 27 3) (hk : A 30 j.toNat = 0) : 1 ≤ A (x + 8) (A 29 j.toNat).toNat := by
  have r := a_29 hA j.toNat
  have hj := hc j.toNat (by omega)
  have hl := h (A 29 j.toNat).toNat (by omega)
  have hp := cnt_pos (W := A 29) hk (G 27 3).toNat (by omega)
  rw [show ((((A 29 j.toNat).toNat : Nat)) : Int) = A 29 j.toNat from by omega] at hl
  omega
/-- a call that works the sheet out, or asks it -/
theorem CI_w (h : CV x z y u F G A) (eF : ∀ a k, ¬ ((a = 48 ∧ k = 4) ∨ (a = 57 ∧ k = 3) ∨ (a = 57 ∧ k = 4)) → F' a k = F a k) (eG : ∀ a k, ¬ (a = 42 ∨ a = 48) → G' a k = G a k) (eA : ∀ a, ¬ ((43 ≤ a ∧ a ≤ 46) ∨ (49 ≤ a ∧ a ≤ 51) ∨ (53 ≤ a ∧ a ≤ 56)) → A' a = A a) (hw : wqF F') (hr : RS A') (hs : SWV G' A') : CI F' G' A' := by
  obtain ⟨⟨⟨hx, hxz⟩, ⟨hy, hyu⟩, ⟨hb, hrb⟩, ⟨hl, hsl⟩, -, hp, -, hln, hch, hcb, hrv⟩, hf8, -, hcr⟩ := h
  have gx := eG (x + 1) 2 (by omega)
  have gy := eG y 5 (by omega)
  have gh := eG 27 3 (by omega)
  have gc := eG 31 8 (by omega)
  refine ⟨x, z, y, u, ⟨⟨hx, hxz⟩, ⟨hy, hyu⟩, ⟨by rw [eF 0 6 (by omega)]; exact hb, by rw [eF 2 2 (by omega)]; exact hrb⟩, ⟨by rw [eF 0 7 (by omega)]; exact hl, by rw [eF 0 8 (by omega)]; exact hsl⟩, hw, PCs_c (eA 20 (by omega)) (eA 78 (by omega)) (eA 52 (by omega)) hp, hr, lnQ_c (eA _ (by omega)) (eA _ (by omega)) gy hln, ?_, ?_, ?_⟩, by rw [eF 42 8 (by omega)]; exact hf8, hs, ?_⟩
  · rw [gh, gx, eA 29 (by omega)]
    exact hch
  · rw [gh, gx, eA 29 (by omega), eA 30 (by omega), eA (x + 8) (by omega)]
    exact hcb
  · rw [eG 2 6 (by omega), eG 2 7 (by omega), eG 2 8 (by omega)]
    exact hrv
  · rw [gc, gx]
    exact fun p hp => cr_c (eA 32 (by omega)) (eA 40 (by omega)) (hcr p hp)
/-- the tape, the metre: nothing that counts here, or the sheet is forgotten -/
theorem CI_t (h : CV x z y u F G A) (eF : ∀ a k, ¬ (a = 42 ∧ k = 8) → F' a k = F a k) (e8 : F' 42 8 = .ref (x + 17)) (eG : ∀ a k, ¬ (a = 0 ∨ (a = 42 ∧ k = 9) ∨ (a = 42 ∧ k = 10)) → G' a k = G a k) (e10 : G' 42 10 = G 42 10 ∨ G' 42 10 = 0) (eA : ∀ a, ¬ a = 1 → A' a = A a) : CI F' G' A' := by
  obtain ⟨⟨⟨hx, hxz⟩, ⟨hy, hyu⟩, ⟨hb, hrb⟩, ⟨hl, hsl⟩, hw, hp, hr, hln, hch, hcb, hrv⟩, hf8, hsw, hcr⟩ := h
  have gx := eG (x + 1) 2 (by omega)
  have gy := eG y 5 (by omega)
  have gh := eG 27 3 (by omega)
  have gc := eG 31 8 (by omega)
  refine ⟨x, z, y, u, ⟨⟨hx, hxz⟩, ⟨hy, hyu⟩, ⟨by rw [eF 0 6 (by omega)]; exact hb, by rw [eF 2 2 (by omega)]; exact hrb⟩, ⟨by rw [eF 0 7 (by omega)]; exact hl, by rw [eF 0 8 (by omega)]; exact hsl⟩, wqF_c (eF 48 4 (by omega)) hw, PCs_c (eA 20 (by omega)) (eA 78 (by omega)) (eA 52 (by omega)) hp, RS_c (eA 54 (by omega)) hr, lnQ_c (eA _ (by omega)) (eA _ (by omega)) gy hln, ?_, ?_, ?_⟩, e8, ?_, ?_⟩
  · rw [gh, gx, eA 29 (by omega)]
    exact hch
  · rw [gh, gx, eA 29 (by omega), eA 30 (by omega), eA (x + 8) (by omega)]
    exact hcb
  · rw [eG 2 6 (by omega), eG 2 7 (by omega), eG 2 8 (by omega)]
    exact hrv
  · rcases e10 with e | e
    · exact SWV_c e gc (eG 48 9 (by omega)) (eG 42 7 (by omega)) (eA 49 (by omega)) (eA 50 (by omega)) (eA 32 (by omega)) (eA 53 (by omega)) (eA 37 (by omega)) hsw
    · intro h1
      omega
  · rw [gc, gx]
    exact fun p hp => cr_c (eA 32 (by omega)) (eA 40 (by omega)) (hcr p hp)
/-- behind refresh -/
theorem CI_rf (h : CJ x z y u F G A) (eF : ∀ a k, ¬ (a = 42 ∧ k = 8) → F' a k = F a k) (eG : ∀ a k, ¬ ((a = 31 ∧ k = 8) ∨ (a = 42 ∧ k = 9) ∨ (a = 42 ∧ k = 10)) → G' a k = G a k) (eA : ∀ a, ¬ (a = 32 ∨ a = 35 ∨ a = 36 ∨ a = 37 ∨ a = 38 ∨ a = 40 ∨ a = 33 ∨ a = 39 ∨ a = 41) → A' a = A a) (p0 : F' 42 8 = .ref (x + 17)) (p1 : G' 31 8 = G y 5) (p2 : G' 42 10 = 0) (p3 : ∀ p : Nat, (p : Int) < G y 5 → crV A' p (G (x + 1) 2)) : CI F' G' A' := by
  obtain ⟨⟨hx, hxz⟩, ⟨hy, hyu⟩, ⟨hb, hrb⟩, ⟨hl, hsl⟩, hw, hp, hr, hln, hch, hcb, hrv⟩ := h
  have gx := eG (x + 1) 2 (by omega)
  have gy := eG y 5 (by omega)
  have gh := eG 27 3 (by omega)
  refine ⟨x, z, y, u, ⟨⟨hx, hxz⟩, ⟨hy, hyu⟩, ⟨by rw [eF 0 6 (by omega)]; exact hb, by rw [eF 2 2 (by omega)]; exact hrb⟩, ⟨by rw [eF 0 7 (by omega)]; exact hl, by rw [eF 0 8 (by omega)]; exact hsl⟩, wqF_c (eF 48 4 (by omega)) hw, PCs_c (eA 20 (by omega)) (eA 78 (by omega)) (eA 52 (by omega)) hp, RS_c (eA 54 (by omega)) hr, lnQ_c (eA _ (by omega)) (eA _ (by omega)) gy hln, ?_, ?_, ?_⟩, p0, ?_, ?_⟩
  · rw [gh, gx, eA 29 (by omega)]
    exact hch
  · rw [gh, gx, eA 29 (by omega), eA 30 (by omega), eA (x + 8) (by omega)]
    exact hcb
  · rw [eG 2 6 (by omega), eG 2 7 (by omega), eG 2 8 (by omega)]
    exact hrv
  · intro h1
    omega
  · rw [p1, gx]
    exact p3
/-- settle, ahead of refresh -/
theorem CJ_st {e n : Int} (h : CV x z y u F G A) (h0 : 0 ≤ e) (he : e < G (x + 1) 2) (hn : 0 ≤ n) (en : G 27 3 = n) (eG : ∀ a k, ¬ (a = 27 ∧ k = 3) → G' a k = G a k) (e3 : G' 27 3 = n + 1) (x8 : A' (x + 8) = fun i => if i = e.toNat then A (x + 8) e.toNat + 1 else A (x + 8) i) (x29 : A' 29 = fun i => if i = n.toNat then e else A 29 i) (x30 : A' 30 = fun i => if i = n.toNat then 0 else A 30 i) (eA : ∀ a, ¬ (a = x + 8 ∨ a = 28 ∨ a = 29 ∨ a = 30) → A' a = A a) : CJ x z y u F G' A' := by
  obtain ⟨⟨⟨hx, hxz⟩, ⟨hy, hyu⟩, hbb, hll, hw, hp, hr, hln, hch, hcb, hrv⟩, hf8, hsw, hcr⟩ := h
  have gx := eG (x + 1) 2 (by omega)
  have gy := eG y 5 (by omega)
  refine ⟨⟨hx, hxz⟩, ⟨hy, hyu⟩, hbb, hll, hw, PCs_c (eA 20 (by omega)) (eA 78 (by omega)) (eA 52 (by omega)) hp, RS_c (eA 54 (by omega)) hr, lnQ_c (eA _ (by omega)) (eA _ (by omega)) gy hln, fun j hj => ?_, fun w hw => ?_, ?_⟩
  · rw [e3] at hj
    rw [x29, gx]
    show (if j = n.toNat then e else A 29 j) < _
    by_cases c : j = n.toNat
    · rw [if_pos c]
      exact he
    · rw [if_neg c]
      exact hch j (by omega)
  · rw [gx] at hw
    have hl := hcb w hw
    rw [en] at hl
    rw [show (G' 27 3).toNat = n.toNat + 1 from by omega]
    unfold cnt
    rw [cnt_cg (W := A 29) (K := A 30) (W' := A' 29) (K' := A' 30) (w := (w : Int)) n.toNat (fun j hj => ⟨by rw [x29]; exact if_neg (by omega), by rw [x30]; exact if_neg (by omega)⟩), ← hl]
    have e1 : A' 30 n.toNat = 0 := by rw [x30]; exact if_pos rfl
    have e2 : A' 29 n.toNat = e := by rw [x29]; exact if_pos rfl
    rw [e1, e2, x8]
    show (if w = e.toNat then A (x + 8) e.toNat + 1 else A (x + 8) w) = _
    by_cases c : w = e.toNat
    · rw [if_pos c, if_pos ⟨rfl, by omega⟩, c]
    · rw [if_neg c, if_neg (by omega)]
      omega
  · rw [eG 2 6 (by omega), eG 2 7 (by omega), eG 2 8 (by omega)]
    exact hrv
theorem CJ_bk {j : Int} (h : CV x z y u F G A) (hA : AQ A) (hj0 : 0 ≤ j) (hj : j < G 27 3) (hk : A 30 j.toNat = 0) (x30 : A' 30 = fun i => if i = j.toNat then 1 else A 30 i) (x8 : A' (x + 8) = fun i => if i = (A 29 j.toNat).toNat then A (x + 8) (A 29 j.toNat).toNat - 1 else A (x + 8) i) (eA : ∀ a, ¬ (a = x + 8 ∨ a = 30) → A' a = A a) : CJ x z y u F G A' := by
  obtain ⟨⟨⟨hx, hxz⟩, ⟨hy, hyu⟩, hbb, hll, hw, hp, hr, hln, hch, hcb, hrv⟩, hf8, hsw, hcr⟩ := h
  have r := a_29 hA j.toNat
  refine ⟨⟨hx, hxz⟩, ⟨hy, hyu⟩, hbb, hll, hw, PCs_c (eA 20 (by omega)) (eA 78 (by omega)) (eA 52 (by omega)) hp, RS_c (eA 54 (by omega)) hr, lnQ_c (eA _ (by omega)) (eA _ (by omega)) rfl hln, ?_, fun w hw => ?_, hrv⟩
  · rw [eA 29 (by omega)]
    exact hch
  · have hl := hcb w hw
    have e1 : A' 30 j.toNat = 1 := by rw [x30]; exact if_pos rfl
    rw [eA 29 (by omega), cnt_bk (W := A 29) (w := (w : Int)) hk e1 (fun i hi => by rw [x30]; exact if_neg hi) (G 27 3).toNat (by omega), ← hl, x8]
    show (if w = (A 29 j.toNat).toNat then A (x + 8) (A 29 j.toNat).toNat - 1 else A (x + 8) w) = _
    by_cases c : w = (A 29 j.toNat).toNat
    · rw [if_pos c, if_pos (by omega), c]
    · rw [if_neg c, if_neg (by omega)]
      omega
/-- line, refused -/
theorem CI_lf (h : CV x z y u F G A) (eG : ∀ a k, ¬ (a = 0 ∨ a = u) → G' a k = G a k) (eA : ∀ a, ¬ (u + 1 ≤ a ∧ a ≤ u + 4) → A' a = A a) : CI F G' A' := by
  obtain ⟨⟨⟨hx, hxz⟩, ⟨hy, hyu⟩, hbb, hll, hw, hp, hr, hln, hch, hcb, hrv⟩, hf8, hsw, hcr⟩ := h
  have gx := eG (x + 1) 2 (by omega)
  have gy := eG y 5 (by omega)
  have gh := eG 27 3 (by omega)
  have gc := eG 31 8 (by omega)
  refine ⟨x, z, y, u, ⟨⟨hx, hxz⟩, ⟨hy, hyu⟩, hbb, hll, hw, PCs_c (eA 20 (by omega)) (eA 78 (by omega)) (eA 52 (by omega)) hp, RS_c (eA 54 (by omega)) hr, lnQ_c (eA _ (by omega)) (eA _ (by omega)) gy hln, ?_, ?_, ?_⟩, hf8, ?_, ?_⟩
  · rw [gh, gx, eA 29 (by omega)]
    exact hch
  · rw [gh, gx, eA 29 (by omega), eA 30 (by omega), eA (x + 8) (by omega)]
    exact hcb
  · rw [eG 2 6 (by omega), eG 2 7 (by omega), eG 2 8 (by omega)]
    exact hrv
  · exact SWV_c (eG 42 10 (by omega)) gc (eG 48 9 (by omega)) (eG 42 7 (by omega)) (eA 49 (by omega)) (eA 50 (by omega)) (eA 32 (by omega)) (eA 53 (by omega)) (eA 37 (by omega)) hsw
  · rw [gc, gx]
    exact fun p hp => cr_c (eA 32 (by omega)) (eA 40 (by omega)) (hcr p hp)
/-- line, taken, ahead of refresh -/
theorem CJ_ln (h : CV x z y u F G A) (eF : ∀ a k, ¬ (a = 0 ∧ (k = 7 ∨ k = 8)) → F' a k = F a k) (f7 : F' 0 7 = .ref u) (f8 : F' 0 8 = .ref y) (eG : ∀ a k, ¬ (a = 0 ∨ a = u) → G' a k = G a k) (eA : ∀ a, ¬ ((u + 1 ≤ a ∧ a ≤ u + 4) ∨ a = 28) → A' a = A a) (hq : lnQ (A' (u + 2)) (A' (u + 3)) (G' u 5) 200) : CJ x z u y F' G' A' := by
  obtain ⟨⟨⟨hx, hxz⟩, ⟨hy, hyu⟩, ⟨hb, hrb⟩, hll, hw, hp, hr, hln, hch, hcb, hrv⟩, hf8, hsw, hcr⟩ := h
  have gx := eG (x + 1) 2 (by omega)
  have gh := eG 27 3 (by omega)
  refine ⟨⟨hx, hxz⟩, ⟨by omega, by omega⟩, ⟨by rw [eF 0 6 (by omega)]; exact hb, by rw [eF 2 2 (by omega)]; exact hrb⟩, ⟨f7, f8⟩, wqF_c (eF 48 4 (by omega)) hw, PCs_c (eA 20 (by omega)) (eA 78 (by omega)) (eA 52 (by omega)) hp, RS_c (eA 54 (by omega)) hr, hq, ?_, ?_, ?_⟩
  · rw [gh, gx, eA 29 (by omega)]
    exact hch
  · rw [gh, gx, eA 29 (by omega), eA 30 (by omega), eA (x + 8) (by omega)]
    exact hcb
  · rw [eG 2 6 (by omega), eG 2 7 (by omega), eG 2 8 (by omega)]
    exact hrv
theorem PCs_z (hx : x = 3 ∨ x = 61) (hxz : x + z = 64) (h : PCs A) (e : A' (x + 17) = A (x + 17)) (e2 : A' 52 = A 52) (hz : PC A' (z + 17)) : PCs A' := by
  rcases hx with rfl | rfl
  · obtain rfl : z = 61 := by omega
    exact ⟨PC_c e h.1, hz, PC_c e2 h.2.2⟩
  · obtain rfl : z = 3 := by omega
    exact ⟨hz, PC_c e h.2.1, PC_c e2 h.2.2⟩
/-- book, refused -/
theorem CI_bf (h : CV x z y u F G A) (eG : ∀ a k, ¬ (a = 0 ∨ a = 2 ∨ a = 22 ∨ (z ≤ a ∧ a ≤ z + 18)) → G' a k = G a k) (eA : ∀ a, ¬ ((23 ≤ a ∧ a ≤ 26) ∨ (z ≤ a ∧ a ≤ z + 18)) → A' a = A a) (hz : PC A' (z + 17)) (hrv' : G' 2 6 = 0 → G' 2 7 + G' 2 8 ≤ 2000) : CI F G' A' := by
  obtain ⟨⟨⟨hx, hxz⟩, ⟨hy, hyu⟩, hbb, hll, hw, hp, hr, hln, hch, hcb, hrv⟩, hf8, hsw, hcr⟩ := h
  have gx := eG (x + 1) 2 (by omega)
  have gy := eG y 5 (by omega)
  have gh := eG 27 3 (by omega)
  have gc := eG 31 8 (by omega)
  refine ⟨x, z, y, u, ⟨⟨hx, hxz⟩, ⟨hy, hyu⟩, hbb, hll, hw, PCs_z hx hxz hp (eA _ (by omega)) (eA 52 (by omega)) hz, RS_c (eA 54 (by omega)) hr, lnQ_c (eA _ (by omega)) (eA _ (by omega)) gy hln, ?_, ?_, hrv'⟩, hf8, ?_, ?_⟩
  · rw [gh, gx, eA 29 (by omega)]
    exact hch
  · rw [gh, gx, eA 29 (by omega), eA 30 (by omega), eA (x + 8) (by omega)]
    exact hcb
  · exact SWV_c (eG 42 10 (by omega)) gc (eG 48 9 (by omega)) (eG 42 7 (by omega)) (eA 49 (by omega)) (eA 50 (by omega)) (eA 32 (by omega)) (eA 53 (by omega)) (eA 37 (by omega)) hsw
  · rw [gc, gx]
    exact fun p hp => cr_c (eA 32 (by omega)) (eA 40 (by omega)) (hcr p hp)
/-- book, taken, ahead of refresh -/
theorem CJ_b (h : CV x z y u F G A) (eF : ∀ a k, ¬ ((a = 0 ∧ k = 6) ∨ (a = 2 ∧ k = 2)) → F' a k = F a k) (f6 : F' 0 6 = .ref z) (f2 : F' 2 2 = .ref x) (eA : ∀ a, ¬ ((23 ≤ a ∧ a ≤ 26) ∨ (z ≤ a ∧ a ≤ z + 18)) → A' a = A a) (hz : PC A' (z + 17)) (hrv' : G' 2 6 = 0 → G' 2 7 + G' 2 8 ≤ 2000) (g5 : G' y 5 = 0) (g3 : G' 27 3 = 0) (hl : lz G' A' z) : CJ z x y u F' G' A' := by
  obtain ⟨⟨⟨hx, hxz⟩, ⟨hy, hyu⟩, hbb, ⟨hl7, hsl⟩, hw, hp, hr, hln, hch, hcb, hrv⟩, hf8, hsw, hcr⟩ := h
  refine ⟨⟨by omega, by omega⟩, ⟨hy, hyu⟩, ⟨f6, f2⟩, ⟨by rw [eF 0 7 (by omega)]; exact hl7, by rw [eF 0 8 (by omega)]; exact hsl⟩, wqF_c (eF 48 4 (by omega)) hw, PCs_z hx hxz hp (eA _ (by omega)) (eA 52 (by omega)) hz, RS_c (eA 54 (by omega)) hr, fun j hj => by omega, fun j hj => by omega, fun w hw => ?_, hrv'⟩
  rw [hl w hw, g3]
  rfl
end P64
def ly1 : List LK := ly0 ++ [.inr (.long, 68680), .inr (.long, 68680)]
/-- the tally's rows: not made yet, or made -/
def tyV (ly : List LK) (F : Nat → Nat → Value) : Prop := (ly = ly0 ∧ F 57 3 = .ref 59 ∧ F 57 4 = .ref 60) ∨ (ly = ly1 ∧ ((F 57 3 = .ref 136 ∧ F 57 4 = .ref 137) ∨ (F 57 3 = .ref 137 ∧ F 57 4 = .ref 136)))
theorem tyV_c {ly : List LK} {F F' : Nat → Nat → Value} (e3 : F' 57 3 = F 57 3) (e4 : F' 57 4 = F 57 4) (h : tyV ly F) : tyV ly F' := by
  unfold tyV at h ⊢
  rw [e3, e4]
  exact h
