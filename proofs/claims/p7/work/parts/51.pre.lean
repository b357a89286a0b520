def mng (g : Nat → Int) (s : Nat) : Nat → Int
  | 0 => 12
  | n + 1 => if g (s + n) < mng g s n then g (s + n) else mng g s n
def mxg (g : Nat → Int) (s : Nat) : Nat → Int
  | 0 => 0
  | n + 1 => if mxg g s n < g (s + n) then g (s + n) else mxg g s n
def sg (f : Nat → Int) : Nat → Int
  | 0 => 0
  | n + 1 => sg f n + f n
theorem mng_s {g : Nat → Int} {s : Nat} {k a b m : Int} (hk : 0 ≤ k) (h : a = mng g s k.toNat) (hb : b = g (s + k.toNat)) (e : m ≤ a ∧ m ≤ b ∧ (m = a ∨ m = b)) : m = mng g s (k + 1).toNat := by
  rw [show (k + 1).toNat = k.toNat + 1 from by omega]
  unfold mng
  rw [← h, ← hb]
  by_cases c : b < a
  · rw [if_pos c]
    omega
  · rw [if_neg c]
    omega
theorem mxg_s {g : Nat → Int} {s : Nat} {k a b m : Int} (hk : 0 ≤ k) (h : a = mxg g s k.toNat) (hb : b = g (s + k.toNat)) (e : a ≤ m ∧ b ≤ m ∧ (m = a ∨ m = b)) : m = mxg g s (k + 1).toNat := by
  rw [show (k + 1).toNat = k.toNat + 1 from by omega]
  unfold mxg
  rw [← h, ← hb]
  by_cases c : a < b
  · rw [if_pos c]
    omega
  · rw [if_neg c]
    omega
theorem mg_rg {g : Nat → Int} {s : Nat} (hg : ∀ i, 0 ≤ g i ∧ g i ≤ 12) : ∀ n, (0 ≤ mng g s n ∧ mng g s n ≤ 12) ∧ (0 ≤ mxg g s n ∧ mxg g s n ≤ 12) ∧ (1 ≤ n → mng g s n ≤ mxg g s n)
  | 0 => ⟨⟨by show (0 : Int) ≤ 12; omega, Int.le_refl _⟩, ⟨Int.le_refl _, by show (0 : Int) ≤ 12; omega⟩, fun h => absurd h (by omega)⟩
  | n + 1 => by
    have ih := mg_rg (s := s) hg n
    have h0 := hg (s + n)
    have e1 : mng g s (n + 1) = if g (s + n) < mng g s n then g (s + n) else mng g s n := rfl
    have e2 : mxg g s (n + 1) = if mxg g s n < g (s + n) then g (s + n) else mxg g s n := rfl
    rw [e1, e2]
    refine ⟨?_, ?_, fun _ => ?_⟩ <;> (repeat' split) <;> omega
theorem sg_s {f : Nat → Int} {p a b : Int} (h : a = sg f p.toNat) (hb : b = f p.toNat) (hp : 0 ≤ p) : a + b = sg f (p + 1).toNat := by
  rw [show (p + 1).toNat = p.toNat + 1 from by omega, h, hb]
  rfl
def lfA (A : Nat → Nat → Int) (w : Nat) : Int := mng (A 51) (12 * w) (A 32 w).toNat
def mfA (A : Nat → Nat → Int) (w : Nat) : Int := mxg (A 51) (12 * w) (A 32 w).toNat
section P51
variable {G A A' : Nat → Nat → Int}
theorem lfA_c (e : A' 51 = A 51) (e2 : A' 32 = A 32) : lfA A' = lfA A := by funext w; unfold lfA; rw [e, e2]
theorem mfA_c (e : A' 51 = A 51) (e2 : A' 32 = A 32) : mfA A' = mfA A := by funext w; unfold mfA; rw [e, e2]
theorem lm_rg (hA : AQ A) (w : Nat) : (0 ≤ lfA A w ∧ lfA A w ≤ 12) ∧ (0 ≤ mfA A w ∧ mfA A w ≤ 12) ∧ (1 ≤ A 32 w → lfA A w ≤ mfA A w) := by
  have h := mg_rg (g := A 51) (s := 12 * w) (fun i => a_51 hA i) (A 32 w).toNat
  exact ⟨h.1, h.2.1, fun h1 => h.2.2 (by omega)⟩
theorem sg_d (hA : AQ A) {n : Int} (hc : ∀ w : Nat, (w : Int) < n → 1 ≤ A 32 w) : ∀ d m : Nat, ((m + d : Nat) : Int) ≤ n → 0 ≤ sg (lfA A) (m + d) - sg (lfA A) m ∧ sg (lfA A) (m + d) - sg (lfA A) m ≤ sg (mfA A) (m + d) - sg (mfA A) m ∧ sg (mfA A) (m + d) - sg (mfA A) m ≤ 12 * d
  | 0, m, _ => by
    rw [Nat.add_zero]
    omega
  | d + 1, m, h => by
    have ih := sg_d hA hc d m (by omega)
    have r := lm_rg hA (m + d)
    have h1 := r.2.2 (hc (m + d) (by omega))
    have e1 : sg (lfA A) (m + (d + 1)) = sg (lfA A) (m + d) + lfA A (m + d) := rfl
    have e2 : sg (mfA A) (m + (d + 1)) = sg (mfA A) (m + d) + mfA A (m + d) := rfl
    rw [e1, e2]
    omega
theorem sg_r (hA : AQ A) {n : Int} (hc : ∀ w : Nat, (w : Int) < n → 1 ≤ A 32 w) {a b : Int} (ha : 0 ≤ a) (hab : a ≤ b) (hb : b ≤ n) : 0 ≤ sg (lfA A) b.toNat - sg (lfA A) a.toNat ∧ sg (lfA A) b.toNat - sg (lfA A) a.toNat ≤ sg (mfA A) b.toNat - sg (mfA A) a.toNat ∧ sg (mfA A) b.toNat - sg (mfA A) a.toNat ≤ 12 * (b - a) := by
  have h := sg_d hA hc (b - a).toNat a.toNat (by omega)
  rw [show a.toNat + (b - a).toNat = b.toNat from by omega] at h
  omega
end P51
/-- the spans of the words' states -/
def spV (G A : Nat → Nat → Int) : Prop := ∀ w : Nat, (w : Int) < G 31 8 → 0 ≤ A 50 w - A 49 w ∧ A 50 w - A 49 w ≤ 84
def hkE (s k : Int) : Int := (Int32.ofInt (Int32.ofInt s >>> (Int32.ofInt k &&& 31)).toInt &&& Int32.ofInt 1).toInt
def hkB (s k : Int) : Prop := ¬ hkE s k = 0
def orE (a k : Int) : Int := (Int32.ofInt a ||| Int32.ofInt (Int32.ofInt 1 <<< (Int32.ofInt k &&& 31)).toInt).toInt
theorem orE_t : ∀ (a : Fin 256) (k : Fin 8), 0 ≤ orE a.val k.val ∧ orE a.val k.val ≤ 255 ∧ ¬ hkE (orE a.val k.val) k.val = 0 := by decide +kernel
theorem orE_u : ∀ (a : Fin 256) (k k' : Fin 8), ¬ hkE a.val k'.val = 0 → ¬ hkE (orE a.val k.val) k'.val = 0 := by decide +kernel
theorem orE_r {a k : Int} (h0 : 0 ≤ a) (h1 : a ≤ 255) (k0 : 0 ≤ k) (k1 : k ≤ 7) : 0 ≤ orE a k ∧ orE a k ≤ 255 ∧ hkB (orE a k) k := by
  have h := orE_t ⟨a.toNat, by omega⟩ ⟨k.toNat, by omega⟩
  dsimp only at h
  rw [show ((a.toNat : Nat) : Int) = a from by omega, show ((k.toNat : Nat) : Int) = k from by omega] at h
  exact h
theorem orE_k {a k k' : Int} (h0 : 0 ≤ a) (h1 : a ≤ 255) (k0 : 0 ≤ k) (k1 : k ≤ 7) (k2 : 0 ≤ k') (k3 : k' ≤ 7) (hb : hkB a k') : hkB (orE a k) k' := by
  have h := orE_u ⟨a.toNat, by omega⟩ ⟨k.toNat, by omega⟩ ⟨k'.toNat, by omega⟩
  dsimp only at h
  rw [show ((a.toNat : Nat) : Int) = a from by omega, show ((k.toNat : Nat) : Int) = k from by omega, show ((k'.toNat : Nat) : Int) = k' from by omega] at h
  exact h hb
/-- the first word's kinds are all in its set -/
def ksV (A : Nat → Nat → Int) : Prop := ∀ s : Nat, (s : Int) < A 32 0 → hkB (A 53 0) (A 37 s)
theorem ksV_c {A A' : Nat → Nat → Int} (e1 : A' 32 = A 32) (e2 : A' 53 = A 53) (e3 : A' 37 = A 37) (h : ksV A) : ksV A' := by
  unfold ksV at h ⊢
  rw [e1, e2, e3]
  exact h
theorem spV_c {G A G' A' : Nat → Nat → Int} (e0 : G' 31 8 = G 31 8) (e1 : A' 49 = A 49) (e2 : A' 50 = A 50) (h : spV G A) : spV G' A' := by
  unfold spV at h ⊢
  rw [e0, e1, e2]
  exact h
theorem ks_1 {A1 A2 : Nat → Nat → Int} {w s v : Int} (hA : AQ A1) (h : ∀ j : Nat, (j : Int) < s → hkB (A1 53 0) (A1 37 j)) (hw : w = 0) (hs : 0 ≤ s) (e : A2 53 = fun i => if i = w.toNat then v else A1 53 i) (hv : v = orE (A1 53 w.toNat) (A1 37 s.toNat)) (e3 : A2 37 = A1 37) : ∀ j : Nat, (j : Int) < s + 1 → hkB (A2 53 0) (A2 37 j) := by
  subst hw
  intro j hj
  have e0 : A2 53 0 = orE (A1 53 0) (A1 37 s.toNat) := by rw [e]; exact hv
  have r1 := a_53 hA 0
  have r2 := a_37 hA s.toNat
  have r3 := a_37 hA j
  rw [e0, e3]
  by_cases c : j = s.toNat
  · rw [c]
    exact (orE_r r1.1 r1.2 r2.1 r2.2).2.2
  · exact orE_k r1.1 r1.2 r2.1 r2.2 r3.1 r3.2 (h j (by omega))
theorem ks_2 {A1 A2 : Nat → Nat → Int} {w v : Int} (h : ksV A1) (hw : 0 < w) (e : A2 53 = fun i => if i = w.toNat then v else A1 53 i) (e2 : A2 32 = A1 32) (e3 : A2 37 = A1 37) : ksV A2 := by
  intro s hs
  have e0 : A2 53 0 = A1 53 0 := by rw [e]; exact if_neg (by omega)
  rw [e0, e3]
  rw [e2] at hs
  exact h s hs
/-- the table of what is behind: each entry is small, or far -/
def RS (A : Nat → Nat → Int) : Prop := ∀ i : Nat, i < 9520 → A 54 i ≤ 198 * (13 - ((i / 680 : Nat) : Int)) ∨ 1000000 ≤ A 54 i
theorem RS_c {A A' : Nat → Nat → Int} (e : A' 54 = A 54) (h : RS A) : RS A' := by
  unfold RS at h ⊢
  rw [e]
  exact h
theorem RS_fill {A A' : Nat → Nat → Int} {a b v : Int} (h : RS A) (e : ∀ i : Nat, A' 54 i = if a ≤ (i : Int) ∧ (i : Int) < b then v else A 54 i) (hv : v = 0 ∨ v = 1000000) : RS A' := by
  intro i hi
  rw [e i]
  by_cases c : a ≤ (i : Int) ∧ (i : Int) < b
  · rw [if_pos c]
    omega
  · rw [if_neg c]
    exact h i hi
theorem RS_up {A A' : Nat → Nat → Int} {j : Nat} {v : Int} (h : RS A) (e : A' 54 = fun i => if i = j then v else A 54 i) (hv : v ≤ 198 * (13 - ((j / 680 : Nat) : Int)) ∨ 1000000 ≤ v) : RS A' := by
  intro i hi
  rw [e]
  dsimp only
  by_cases c : i = j
  · rw [if_pos c, c]
    exact hv
  · rw [if_neg c]
    exact h i hi
theorem RS_v {a b w st rw' : Int} (ha : a ≤ 198 * (13 - w) ∨ 1000000 ≤ a) (hb : b ≤ 198 * (13 - (w + 1)) ∨ 1000000 ≤ b) (hb0 : 0 ≤ b) (hs0 : 0 ≤ st) (hs : st ≤ 198 ∨ 1000000 ≤ st) (e : rw' ≤ a ∧ rw' ≤ st + b ∧ (rw' = a ∨ rw' = st + b)) : rw' ≤ 198 * (13 - w) ∨ 1000000 ≤ rw' := by omega
/-- the array of pairs' costs that the walk holds -/
theorem Lq_0 {ly : List LK} {q : Nat} (hly : LyOk ly) (hq : q = 20 ∨ q = 78 ∨ q = 52) : ly[q]? = some (.inr (.int, 64)) := by
  rcases hq with rfl | rfl | rfl
  · exact hly 20 _ rfl
  · exact hly 78 _ rfl
  · exact hly 52 _ rfl
theorem Aq_0 {A : Nat → Nat → Int} {q : Nat} (h : AQ A) (hq : q = 20 ∨ q = 78 ∨ q = 52) (i : Nat) : 0 ≤ A q i ∧ A q i ≤ 1000000 := by
  rcases hq with rfl | rfl | rfl
  · exact a_20 h i
  · exact a_78 h i
  · exact a_52 h i
theorem Lth {ly : List LK} {th tl : Nat} (hly : LyOk ly) (hth : (th = 43 ∧ tl = 168) ∨ (th = 45 ∧ tl = 2352)) : ly[th]? = some (.inr (.int, tl)) := by
  rcases hth with ⟨rfl, rfl⟩ | ⟨rfl, rfl⟩
  · exact hly 43 _ rfl
  · exact hly 45 _ rfl
theorem Ath {A : Nat → Nat → Int} {th tl : Nat} (h : AQ A) (hth : (th = 43 ∧ tl = 168) ∨ (th = 45 ∧ tl = 2352)) (i : Nat) : 0 ≤ A th i ∧ A th i ≤ 3000000 := by
  rcases hth with ⟨rfl, -⟩ | ⟨rfl, -⟩
  · exact a_43 h i
  · exact a_45 h i
theorem AUth {A : Nat → Nat → Int} {th tl i : Nat} {z : Int} (hth : (th = 43 ∧ tl = 168) ∨ (th = 45 ∧ tl = 2352)) (h : AQ A) (h1 : 0 ≤ z) (h2 : z ≤ 3000000) : AQ (up2 A th i z) := by
  rcases hth with ⟨rfl, -⟩ | ⟨rfl, -⟩
  · exact au_43 h h1 h2
  · exact au_45 h h1 h2
/-- the first word's ways cost little, or there are none -/
def thV (A : Nat → Nat → Int) (th : Nat) (off : Int) : Prop := ∀ i : Nat, i < 12 → A th (off + i).toNat ≤ 2673 ∨ A th (off + i).toNat = 1000000
theorem thV_c {A A' : Nat → Nat → Int} {th : Nat} {off : Int} (e : A' th = A th) (h : thV A th off) : thV A' th off := by
  unfold thV at h ⊢
  rw [e]
  exact h
theorem thV_s {A A' : Nat → Nat → Int} {th : Nat} {off s v : Int} (h : thV A th off) (h0 : 0 ≤ off) (hs : 0 ≤ s) (e : A' th = fun i => if i = (off + s).toNat then v else A th i) (hv : s < 12 → v ≤ 2673 ∨ v = 1000000) : thV A' th off := by
  intro i hi
  rw [e]
  dsimp only
  by_cases c : (off + (i : Int)).toNat = (off + s).toNat
  · rw [if_pos c]
    exact hv (by omega)
  · rw [if_neg c]
    exact h i hi
theorem en_s {A1 A2 : Nat → Nat → Int} {s0 kind : Int} (h : ∀ j : Nat, (j : Int) < kind → hkB s0 j → A1 56 (85 * j) = 0) (hk0 : 0 ≤ kind) (hk : hkB s0 kind → A2 56 (85 * kind).toNat = 0) (ho : ∀ j : Nat, (j : Int) < kind → A2 56 (85 * j) = A1 56 (85 * j)) : ∀ j : Nat, (j : Int) < kind + 1 → hkB s0 j → A2 56 (85 * j) = 0 := by
  intro j hj hb
  by_cases c : (j : Int) = kind
  · rw [c] at hb
    have := hk hb
    rw [show (85 * kind).toNat = 85 * j from by omega] at this
    exact this
  · rw [ho j (by omega)]
    exact h j (by omega) hb
def SWV (G A : Nat → Nat → Int) : Prop := G 42 10 = 1 → 0 < G 31 8 → (G 48 9 = 1 → spV G A ∧ ksV A) ∧ (G 42 7 < 1000000 → G 48 9 = 1 ∧ G 42 7 ≤ 2673)
def wqF (F : Nat → Nat → Value) : Prop := ∃ q, F 48 4 = .ref q ∧ (q = 20 ∨ q = 78 ∨ q = 52)
def PCs (A : Nat → Nat → Int) : Prop := PC A 20 ∧ PC A 78 ∧ PC A 52
theorem PCs_q {A : Nat → Nat → Int} {q : Nat} (h : PCs A) (hq : q = 20 ∨ q = 78 ∨ q = 52) : PC A q := by
  rcases hq with rfl | rfl | rfl
  · exact h.1
  · exact h.2.1
  · exact h.2.2
theorem PCs_c {A A' : Nat → Nat → Int} (e1 : A' 20 = A 20) (e2 : A' 78 = A 78) (e3 : A' 52 = A 52) (h : PCs A) : PCs A' := ⟨PC_c e1 h.1, PC_c e2 h.2.1, PC_c e3 h.2.2⟩
