theorem and31 (z : Int) : Int32.ofInt z &&& Int32.ofInt 31 = Int32.ofInt (z % 32) := by
  rw [pk_and (Int32.ofInt z) (m := Int32.ofInt 31) 5 (by decide)]
  show Int32.ofNat _ = _
  rw [← Int32.ofInt_eq_ofNat]
  congr 1
  have e : (Int32.ofInt z).toBitVec.toNat = (z % 4294967296).toNat := by
    show (BitVec.ofInt 32 z).toNat = _
    rw [BitVec.toNat_ofInt]
    rfl
  rw [e]
  omega
section P71
variable {F F' : Nat → Nat → Value} {G A G' A' : Nat → Nat → Int}
theorem MI_x (h : MI G A) (eG : ∀ k, G' 90 k = G 90 k) (eA : ∀ a, 91 ≤ a → A' a = A a) : MI G' A' := by
  have hd : dpo G' A' = dpo G A := by
    unfold dpo prV prW
    rw [eG, eG, eG, eG, eG, eG, eG, eA 123 (by decide), eA 124 (by decide), eA 126 (by decide), eA 122 (by decide), eA 106 (by decide), eA 128 (by decide), eA 129 (by decide)]
  refine ⟨?_, ?_, ?_, ?_, fun hk => ?_⟩
  · have := h.bk
    unfold bkV at this ⊢
    rw [eG, eA 107 (by decide), eA 98 (by decide), eA 99 (by decide), eA 108 (by decide), eA 103 (by decide), eA 104 (by decide), eA 106 (by decide), eA 111 (by decide), eA 112 (by decide)]
    exact this
  · have := h.ln
    unfold lnV at this ⊢
    rw [eG, eA 115 (by decide), eA 116 (by decide)]
    exact this
  · have := h.hd
    unfold hdV at this ⊢
    rw [eG, eG, eA 132 (by decide), eA 107 (by decide)]
    exact this
  · have := h.lt
    unfold ltV at this ⊢
    rw [eG, eA 127 (by decide), eA 132 (by decide), eA 135 (by decide)]
    exact this
  · rw [eG] at hk
    obtain ⟨a, b, c⟩ := h.kn hk
    refine ⟨by rw [eG]; exact a, ?_, by rw [hd]; exact c⟩
    unfold rdV rdW at b ⊢
    rw [eG, eG, eA 122 (by decide), eA 125 (by decide), eA 107 (by decide)]
    exact b
theorem MI_me (h : MI G A) (eG : ∀ a k, ¬ ((a = 90 ∧ k = 45) ∨ (a = 90 ∧ k = 53)) → G' a k = G a k) (h53 : G' 90 53 = 0) : MI G' A := by
  have g1 := eG 90 32 (by decide)
  have g3 := eG 90 66 (by decide)
  refine ⟨?_, ?_, ?_, ?_, fun hk => by omega⟩
  · rw [g1]
    exact h.bk
  · have := h.ln
    unfold lnV at this ⊢
    rw [eG 90 38 (by decide)]
    exact this
  · have := h.hd
    unfold hdV at this ⊢
    rw [g3, g1]
    exact this
  · have := h.lt
    unfold ltV at this ⊢
    rw [g3]
    exact this
theorem CI_x (h : CI F G A) (eF : ∀ a k, a < 90 → F' a k = F a k) (eG : ∀ a k, a < 90 → G' a k = G a k) (eA : ∀ a, a < 91 → A' a = A a) : CI F' G' A' := by
  obtain ⟨x, z, y, u, ⟨⟨hx, hxz⟩, ⟨hy, hyu⟩, ⟨hb, hrb⟩, ⟨hl, hsl⟩, hw, hp, hr, hln, hch, hcb, hrv⟩, hf8, hsw, hcr⟩ := h
  have gx := eG (x + 1) 2 (by omega)
  have gy := eG y 5 (by omega)
  have gh := eG 27 3 (by omega)
  have gc := eG 31 8 (by omega)
  refine ⟨x, z, y, u, ⟨⟨hx, hxz⟩, ⟨hy, hyu⟩, ⟨by rw [eF 0 6 (by omega)]; exact hb, by rw [eF 2 2 (by omega)]; exact hrb⟩, ⟨by rw [eF 0 7 (by omega)]; exact hl, by rw [eF 0 8 (by omega)]; exact hsl⟩, wqF_c (eF 48 4 (by omega)) hw, PCs_c (eA 20 (by omega)) (eA 78 (by omega)) (eA 52 (by omega)) hp, RS_c (eA 54 (by omega)) hr, lnQ_c (eA _ (by omega)) (eA _ (by omega)) gy hln, ?_, ?_, ?_⟩, by rw [eF 42 8 (by omega)]; exact hf8, ?_, ?_⟩
  · rw [gh, gx, eA 29 (by omega)]
    exact hch
  · rw [gh, gx, eA 29 (by omega), eA 30 (by omega), eA (x + 8) (by omega)]
    exact hcb
  · rw [eG 2 6 (by omega), eG 2 7 (by omega), eG 2 8 (by omega)]
    exact hrv
  · exact SWV_c (eG 42 10 (by omega)) gc (eG 48 9 (by omega)) (eG 42 7 (by omega)) (eA 49 (by omega)) (eA 50 (by omega)) (eA 32 (by omega)) (eA 53 (by omega)) (eA 37 (by omega)) hsw
  · rw [gc, gx]
    exact fun p hp => cr_c (eA 32 (by omega)) (eA 40 (by omega)) (hcr p hp)
theorem tyV_x {ly : List LK} (h : tyV ly F) (eF : ∀ a k, a < 90 → F' a k = F a k) : tyV ly F' := tyV_c (eF 57 3 (by omega)) (eF 57 4 (by omega)) h
end P71
