theorem idiv12 {a : Int} (h : 0 ≤ a) (h1 : a < 2147483648) : Int32.ofInt a / Int32.ofInt 12 = Int32.ofInt (a / 12) := by
  rw [← Int32.toInt_inj, Int32.toInt_div, oI ⟨by omega, by omega⟩, oI (z := 12) ⟨by omega, by omega⟩, oI ⟨by omega, by omega⟩, Int.tdiv_eq_ediv_of_nonneg h]
  exact Int.bmod_eq_of_le (by omega) (by omega)
theorem SWV_c {G A G' A' : Nat → Nat → Int} (e1 : G' 42 10 = G 42 10) (e2 : G' 31 8 = G 31 8) (e3 : G' 48 9 = G 48 9) (e4 : G' 42 7 = G 42 7) (a1 : A' 49 = A 49) (a2 : A' 50 = A 50) (a3 : A' 32 = A 32) (a4 : A' 53 = A 53) (a5 : A' 37 = A 37) (h : SWV G A) : SWV G' A' := by
  intro h1 h2
  rw [e1] at h1
  rw [e2] at h2
  rw [e3, e4]
  have hh := h h1 h2
  exact ⟨fun ho => ⟨spV_c e2 a1 a2 (hh.1 ho).1, ksV_c a3 a4 a5 (hh.1 ho).2⟩, hh.2⟩
/-- some reading of a word is near -/
def sureE (G A : Nat → Nat → Int) (th : Nat) (off word gap : Int) : Prop := ∃ s : Int, 12 * word ≤ s ∧ s < 12 * word + A 32 word.toNat ∧ A th (off + s).toNat ≤ G 42 7 + gap
/-- nothing is kept of the kinds ahead of K -/
def hnZ (A : Nat → Nat → Int) (B : Nat → Nat → Int64) (la : Nat) (w K : Int) : Prop := ∀ kind m lo : Int, 0 ≤ kind → kind < K → hkB (A 53 w.toNat) kind → 0 ≤ m → m ≤ A 50 w.toNat - A 49 w.toNat → 0 ≤ lo → lo < 101 → B la ((kind * 85 + m) * 101 + lo).toNat = Int64.ofNat 0
/-- what is kept is kept of states with a way behind them -/
def hnV (A : Nat → Nat → Int) (B : Nat → Nat → Int64) (la : Nat) (w : Int) : Prop := ∀ kind m lo : Int, 0 ≤ kind → kind < 8 → hkB (A 53 w.toNat) kind → 0 ≤ m → m ≤ A 50 w.toNat - A 49 w.toNat → 0 ≤ lo → lo < 101 → ¬ B la ((kind * 85 + m) * 101 + lo).toNat = Int64.ofNat 0 → A 54 (680 * w + 85 * kind + m).toNat < 1000000
section P55
variable {A A' : Nat → Nat → Int} {B B1 B2 : Nat → Nat → Int64} {la : Nat} {w K : Int}
theorem hnZ_0 : hnZ A B la w 0 := fun kind m lo h0 h1 => by omega
theorem hnZ_n (h : hnZ A B la w K) (hn : ¬ hkB (A 53 w.toNat) K) : hnZ A B la w (K + 1) := by
  intro kind m lo h0 h1 hk
  by_cases c : kind = K
  · rw [c] at hk
    exact absurd hk hn
  · exact h kind m lo h0 (by omega) hk
theorem hnZ_f {fr to : Int} (h : hnZ A B1 la w K) (e : ∀ i : Nat, B2 la i = if fr ≤ (i : Int) ∧ (i : Int) < to then Int64.ofNat 0 else B1 la i) (hf : fr = (K * 85) * 101) (ht : to = (K * 85 + (A 50 w.toNat - A 49 w.toNat)) * 101 + 101) (hK : 0 ≤ K) : hnZ A B2 la w (K + 1) := by
  intro kind m lo h0 h1 hk m0 m1 l0 l1
  rw [e]
  by_cases c : fr ≤ ((((kind * 85 + m) * 101 + lo).toNat : Nat) : Int) ∧ ((((kind * 85 + m) * 101 + lo).toNat : Nat) : Int) < to
  · rw [if_pos c]
  · rw [if_neg c]
    by_cases d : kind = K
    · exfalso
      subst d
      omega
    · exact h kind m lo h0 (by omega) hk m0 m1 l0 l1
theorem hnZ_V (h : hnZ A B la w K) (hK : K = 8) : hnV A B la w := by
  subst hK
  intro kind m lo h0 h1 hk m0 m1 l0 l1 hb
  exact absurd (h kind m lo h0 h1 hk m0 m1 l0 l1) hb
theorem hnV_u {i v0 : Int} {v : Int64} {kind0 m0 lo0 : Int} (h : hnV A B1 la w) (e : B2 = up2 B1 la i.toNat v) (hi : i = (kind0 * 85 + m0) * 101 + lo0) (k0 : 0 ≤ kind0 ∧ kind0 < 8) (hm : 0 ≤ m0 ∧ m0 ≤ 84) (hl : 0 ≤ lo0 ∧ lo0 < 101) (hsp : A 50 w.toNat - A 49 w.toNat ≤ 84) (hv : A 54 (680 * w + 85 * kind0 + m0).toNat = v0) (hv1 : v0 < 1000000) : hnV A B2 la w := by
  intro kind m lo h0 h1 hk g0 g1 l0 l1 hb
  by_cases c : ((kind * 85 + m) * 101 + lo).toNat = i.toNat
  · have : 680 * w + 85 * kind + m = 680 * w + 85 * kind0 + m0 := by omega
    rw [this]
    omega
  · rw [e, up2_n (fun z => c z.2)] at hb
    exact h kind m lo h0 h1 hk g0 g1 l0 l1 hb
theorem hnV_c (e : B2 la = B1 la) (h : hnV A B1 la w) : hnV A B2 la w := by
  unfold hnV at h ⊢
  rw [e]
  exact h
theorem hnV_e {w' : Int} (e : w' = w) (h : hnV A B la w) : hnV A B la w' := by rw [e]; exact h
end P55
