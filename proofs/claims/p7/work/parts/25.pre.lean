theorem oIr (n : Nat) : ((n : Int)).toNat = n := Int.toNat_natCast n
def mnf (f : Int → Int) : Nat → Int
  | 0 => 1000000
  | n + 1 => if f n < mnf f n then f n else mnf f n
theorem mnf_le (f : Int → Int) : ∀ n, mnf f n ≤ 1000000
  | 0 => Int.le_refl _
  | n + 1 => by
    have h := mnf_le f n
    unfold mnf
    by_cases e : f n < mnf f n
    · rw [if_pos e]
      omega
    · rw [if_neg e]
      exact h
theorem mnf_lb (f : Int → Int) : ∀ (n k : Nat), k < n → mnf f n ≤ f k
  | 0, k, h => absurd h (Nat.not_lt_zero _)
  | n + 1, k, h => by
    unfold mnf
    by_cases e : k = n
    · subst e
      by_cases e2 : f k < mnf f k
      · rw [if_pos e2]
        exact Int.le_refl _
      · rw [if_neg e2]
        omega
    · have g := mnf_lb f n k (by omega)
      by_cases e2 : f n < mnf f n
      · rw [if_pos e2]
        omega
      · rw [if_neg e2]
        exact g
theorem mnf_at (f : Int → Int) : ∀ n, mnf f n = 1000000 ∨ ∃ k : Nat, k < n ∧ mnf f n = f k
  | 0 => .inl rfl
  | n + 1 => by
    unfold mnf
    by_cases e : f n < mnf f n
    · rw [if_pos e]
      exact .inr ⟨n, by omega, rfl⟩
    · rw [if_neg e]
      rcases mnf_at f n with h | ⟨k, hk, h⟩
      · exact .inl h
      · exact .inr ⟨k, by omega, h⟩
theorem mnf_cg {f g : Int → Int} : ∀ n, (∀ k : Nat, k < n → f k = g k) → mnf f n = mnf g n
  | 0, _ => rfl
  | n + 1, h => by
    unfold mnf
    rw [mnf_cg n (fun k hk => h k (by omega)), h n (by omega)]
theorem mnf_nn {f : Int → Int} {n : Nat} (h : ∀ k : Nat, k < n → 0 ≤ f k) : 0 ≤ mnf f n := by
  rcases mnf_at f n with e | ⟨k, hk, e⟩
  · omega
  · rw [e]
    exact h k hk
theorem mnf_s (f : Int → Int) (n : Nat) : mnf f (n + 1) = if f n < mnf f n then f n else mnf f n := rfl
/-- the two tables of least costs, as they must be -/
abbrev DP : Type := Int × Int × (Int → Int) × (Int → Int) × (Int → Int) × (Int → Int → Prop) × (Int → Int → Int) × (Int → Int → Int → Int) × (Int → Int → Int → Int) × Int
def DP.n (d : DP) : Int := d.1
def DP.T (d : DP) : Int := d.2.1
def DP.K (d : DP) : Int → Int := d.2.2.1
def DP.C (d : DP) : Int → Int := d.2.2.2.1
def DP.M (d : DP) : Int → Int := d.2.2.2.2.1
def DP.S (d : DP) : Int → Int → Prop := d.2.2.2.2.2.1
def DP.pr (d : DP) : Int → Int → Int := d.2.2.2.2.2.2.1
def DP.ah (d : DP) : Int → Int → Int → Int := d.2.2.2.2.2.2.2.1
def DP.be (d : DP) : Int → Int → Int → Int := d.2.2.2.2.2.2.2.2.1
def DP.best (d : DP) : Int := d.2.2.2.2.2.2.2.2.2
def DP.go (d : DP) (p k m : Int) : Int := if p = d.n - 1 then (if m = 0 then 0 else 1000000) else mnf (fun k' => d.be (p + 1) k' m + d.pr k k') 8
def DP.cm (d : DP) (p r m : Int) : Int := if m < d.M r then 1000000 else if p = 0 then (if m = d.M r then d.C r else 1000000) else mnf (fun k' => d.ah (p - 1) k' (m - d.M r) + d.pr k' (d.K r) + d.C r) 8
abbrev DP.Rg (d : DP) : Prop := (∀ p r, d.S p r → 0 ≤ d.K r ∧ d.K r < 8) ∧ (∀ r, 0 ≤ d.C r) ∧ (∀ r, 0 ≤ d.M r) ∧ (∀ a c, 0 ≤ d.pr a c) ∧ (∀ p k m, 0 ≤ d.ah p k m ∧ d.ah p k m ≤ 1000000) ∧ (∀ p k m, 0 ≤ d.be p k m ∧ d.be p k m ≤ 1000000)
theorem DP.Rg.K {d : DP} (h : d.Rg) : ∀ p r, d.S p r → 0 ≤ d.K r ∧ d.K r < 8 := h.1
theorem DP.Rg.C {d : DP} (h : d.Rg) : ∀ r, 0 ≤ d.C r := h.2.1
theorem DP.Rg.M {d : DP} (h : d.Rg) : ∀ r, 0 ≤ d.M r := h.2.2.1
theorem DP.Rg.pr {d : DP} (h : d.Rg) : ∀ a c, 0 ≤ d.pr a c := h.2.2.2.1
theorem DP.Rg.ah {d : DP} (h : d.Rg) : ∀ p k m, 0 ≤ d.ah p k m ∧ d.ah p k m ≤ 1000000 := h.2.2.2.2.1
theorem DP.Rg.be {d : DP} (h : d.Rg) : ∀ p k m, 0 ≤ d.be p k m ∧ d.be p k m ≤ 1000000 := h.2.2.2.2.2
/-- 'ahead' is right for the readings of D -/
def DP.aD (d : DP) (D : Int → Int → Prop) : Prop := ∀ p k m, 0 ≤ p → p < d.n → 0 ≤ k → k < 8 → 0 ≤ m → m < 169 → (∀ r, d.S p r → D p r → d.K r = k → d.ah p k m ≤ d.cm p r m) ∧ (d.ah p k m = 1000000 ∨ ∃ r, d.S p r ∧ D p r ∧ d.K r = k ∧ d.ah p k m = d.cm p r m)
def DP.bD (d : DP) (D : Int → Int → Prop) : Prop := ∀ p k m, 0 ≤ p → p < d.n → 0 ≤ k → k < 8 → 0 ≤ m → m < 169 → (∀ r, d.S p r → D p r → d.K r = k → d.M r ≤ m → d.be p k m ≤ d.go p k (m - d.M r) + d.C r) ∧ (d.be p k m = 1000000 ∨ ∃ r, d.S p r ∧ D p r ∧ d.K r = k ∧ d.M r ≤ m ∧ d.be p k m = d.go p k (m - d.M r) + d.C r)
def DP.bs (d : DP) : Prop := (d.n = 0 → d.best = 0) ∧ (0 < d.n → 0 ≤ d.T → d.T < 169 → d.best = mnf (fun k => d.ah (d.n - 1) k d.T) 8) ∧ (0 < d.n → ¬ (0 ≤ d.T ∧ d.T < 169) → d.best = 1000000)
abbrev DP.Ok (d : DP) : Prop := d.Rg ∧ d.aD (fun _ _ => True) ∧ d.bD (fun _ _ => True) ∧ d.bs
theorem DP.Ok.rg {d : DP} (h : d.Ok) : d.Rg := h.1
theorem DP.Ok.a {d : DP} (h : d.Ok) : d.aD (fun _ _ => True) := h.2.1
theorem DP.Ok.b {d : DP} (h : d.Ok) : d.bD (fun _ _ => True) := h.2.2.1
theorem DP.Ok.s {d : DP} (h : d.Ok) : d.bs := h.2.2.2
theorem DP.go_nn {d : DP} (h : d.Rg) (p k m : Int) : 0 ≤ d.go p k m ∧ d.go p k m ≤ 1000000 := by
  unfold DP.go
  by_cases e : p = d.n - 1
  · rw [if_pos e]
    by_cases e2 : m = 0
    · rw [if_pos e2]
      omega
    · rw [if_neg e2]
      omega
  · rw [if_neg e]
    refine ⟨mnf_nn (fun k' _ => ?_), mnf_le _ _⟩
    have a := h.be (p + 1) k' m
    have b := h.pr k k'
    omega
theorem DP.cm_nn {d : DP} (h : d.Rg) (p r m : Int) : 0 ≤ d.cm p r m := by
  unfold DP.cm
  have c := h.C r
  by_cases e : m < d.M r
  · rw [if_pos e]
    omega
  · rw [if_neg e]
    by_cases e2 : p = 0
    · rw [if_pos e2]
      by_cases e3 : m = d.M r
      · rw [if_pos e3]
        exact c
      · rw [if_neg e3]
        omega
    · rw [if_neg e2]
      refine mnf_nn (fun k' _ => ?_)
      have a := h.ah (p - 1) k' (m - d.M r)
      have b := h.pr k' (d.K r)
      omega
theorem DP.best_le {d : DP} (h : d.bs) (hn : 0 ≤ d.n) : d.best ≤ 1000000 := by
  by_cases e1 : d.n = 0
  · rw [h.1 e1]
    omega
  · by_cases e2 : 0 ≤ d.T ∧ d.T < 169
    · rw [h.2.1 (by omega) e2.1 e2.2]
      exact mnf_le _ _
    · rw [h.2.2 (by omega) e2]
      omega
theorem DP.ge {d : DP} (h : d.Ok) (t0 : 0 ≤ d.T) (t1 : d.T < 169) (hn : 0 < d.n) : ∀ (j : Nat) (p r m m' : Int), p = d.n - 1 - j → 0 ≤ p → d.S p r → 0 ≤ m → 0 ≤ m' → m + m' = d.T → d.best ≤ d.cm p r m + d.go p (d.K r) m' := by
  intro j
  have hb := h.s.2.1 hn t0 t1
  have hbl := DP.best_le h.s (by omega)
  induction j with
  | zero =>
    intro p r m m' hp h0 hs hm hm' hT
    have ep : p = d.n - 1 := by omega
    have hk := h.rg.K p r hs
    have hc := DP.cm_nn h.rg p r m
    have hg := DP.go_nn h.rg p (d.K r) m'
    by_cases e : m' = 0
    · have em : m = d.T := by omega
      have a := (h.a p (d.K r) m h0 (by omega) hk.1 hk.2 hm (by omega)).1 r hs trivial rfl
      have b := mnf_lb (fun k => d.ah (d.n - 1) k d.T) 8 (d.K r).toNat (by omega)
      have e3 : (((d.K r).toNat : Nat) : Int) = d.K r := by omega
      rw [e3] at b
      try dsimp only at b
      rw [← ep, ← em] at b
      rw [← ep, ← em] at hb
      omega
    · have g : d.go p (d.K r) m' = 1000000 := by
        unfold DP.go
        rw [if_pos ep, if_neg e]
      omega
  | succ j ih =>
    intro p r m m' hp h0 hs hm hm' hT
    have ep : ¬ p = d.n - 1 := by omega
    have hk := h.rg.K p r hs
    have hc := DP.cm_nn h.rg p r m
    have eg : d.go p (d.K r) m' = mnf (fun k' => d.be (p + 1) k' m' + d.pr (d.K r) k') 8 := by
      unfold DP.go
      rw [if_neg ep]
    rcases mnf_at (fun k' => d.be (p + 1) k' m' + d.pr (d.K r) k') 8 with e | ⟨k, hk8, e⟩
    · omega
    · try dsimp only at e
      have hpr := h.rg.pr (d.K r) k
      rcases (h.b (p + 1) k m' (by omega) (by omega) (by omega) (by omega) hm' (by omega)).2 with e2 | ⟨r2, hs2, -, hk2, hM, e2⟩
      · omega
      · have hM0 := h.rg.M r2
        have i1 := ih (p + 1) r2 (m + d.M r2) (m' - d.M r2) (by omega) (by omega) hs2 (by omega) (by omega) (by omega)
        have a := (h.a p (d.K r) m h0 (by omega) hk.1 hk.2 hm (by omega)).1 r hs trivial rfl
        have c1 : d.cm (p + 1) r2 (m + d.M r2) ≤ d.ah p (d.K r) m + d.pr (d.K r) (d.K r2) + d.C r2 := by
          unfold DP.cm
          rw [if_neg (by omega), if_neg (by omega)]
          have b := mnf_lb (fun k' => d.ah (p + 1 - 1) k' (m + d.M r2 - d.M r2) + d.pr k' (d.K r2) + d.C r2) 8 (d.K r).toNat (by omega)
          have e3 : (((d.K r).toNat : Nat) : Int) = d.K r := by omega
          rw [e3] at b
          try dsimp only at b
          have e4 : p + 1 - 1 = p := by omega
          have e5 : m + d.M r2 - d.M r2 = m := by omega
          rw [e4, e5] at b ⊢
          exact b
        rw [hk2] at c1 i1
        omega
theorem DP.att {d : DP} (h : d.Ok) (hn : 0 < d.n) (hb : d.best < 1000000) : (0 ≤ d.T ∧ d.T < 169) ∧ ∀ (j : Nat) (p : Int), p = d.n - 1 - j → 0 ≤ p → ∃ r m, d.S p r ∧ 0 ≤ m ∧ m ≤ d.T ∧ d.cm p r m + d.go p (d.K r) (d.T - m) ≤ d.best := by
  have ht : 0 ≤ d.T ∧ d.T < 169 := by
    by_cases e : 0 ≤ d.T ∧ d.T < 169
    · exact e
    · have := h.s.2.2 hn e
      omega
  refine ⟨ht, fun j => ?_⟩
  have hbe := h.s.2.1 hn ht.1 ht.2
  induction j with
  | zero =>
    intro p hp h0
    have ep : p = d.n - 1 := by omega
    rcases mnf_at (fun k => d.ah (d.n - 1) k d.T) 8 with e | ⟨k, hk8, e⟩
    · omega
    · try dsimp only at e
      rcases (h.a (d.n - 1) k d.T (by omega) (by omega) (by omega) (by omega) ht.1 ht.2).2 with e2 | ⟨r, hs, -, hk, e2⟩
      · omega
      · refine ⟨r, d.T, by rw [ep]; exact hs, ht.1, Int.le_refl _, ?_⟩
        have g : d.go p (d.K r) (d.T - d.T) = 0 := by
          unfold DP.go
          rw [if_pos ep, if_pos (by omega)]
        rw [g, ep]
        omega
  | succ j ih =>
    intro p hp h0
    obtain ⟨r2, m, hs2, hm, hmT, hc⟩ := ih (p + 1) (by omega) (by omega)
    have hg := DP.go_nn h.rg (p + 1) (d.K r2) (d.T - m)
    have hM0 := h.rg.M r2
    have hk2 := h.rg.K _ _ hs2
    by_cases e : m < d.M r2
    · have : d.cm (p + 1) r2 m = 1000000 := by
        unfold DP.cm
        rw [if_pos e]
      omega
    · have ec : d.cm (p + 1) r2 m = mnf (fun k' => d.ah (p + 1 - 1) k' (m - d.M r2) + d.pr k' (d.K r2) + d.C r2) 8 := by
        unfold DP.cm
        rw [if_neg e, if_neg (by omega)]
      have e4 : p + 1 - 1 = p := by omega
      rw [e4] at ec
      rcases mnf_at (fun k' => d.ah p k' (m - d.M r2) + d.pr k' (d.K r2) + d.C r2) 8 with e1 | ⟨k, hk8, e1⟩
      · omega
      · try dsimp only at e1
        have hpr := h.rg.pr k (d.K r2)
        have hC := h.rg.C r2
        rcases (h.a p k (m - d.M r2) h0 (by omega) (by omega) (by omega) (by omega) (by omega)).2 with e2 | ⟨r, hs, -, hk, e2⟩
        · omega
        · refine ⟨r, m - d.M r2, hs, by omega, by omega, ?_⟩
          have eg : d.go p (d.K r) (d.T - (m - d.M r2)) = mnf (fun k' => d.be (p + 1) k' (d.T - (m - d.M r2)) + d.pr (d.K r) k') 8 := by
            unfold DP.go
            rw [if_neg (by omega)]
          have b := mnf_lb (fun k' => d.be (p + 1) k' (d.T - (m - d.M r2)) + d.pr (d.K r) k') 8 (d.K r2).toNat (by omega)
          have e3 : (((d.K r2).toNat : Nat) : Int) = d.K r2 := by omega
          rw [e3] at b
          try dsimp only at b
          have b2 := (h.b (p + 1) (d.K r2) (d.T - (m - d.M r2)) (by omega) (by omega) hk2.1 hk2.2 (by omega) (by omega)).1 r2 hs2 trivial rfl (by omega)
          have e5 : d.T - (m - d.M r2) - d.M r2 = d.T - m := by omega
          rw [e5] at b2
          rw [eg]
          rw [hk] at b ⊢
          omega
/-- a further reading is taken up into 'ahead' -/
theorem DP.aS {d e : DP} {D : Int → Int → Prop} {p r : Int} (h : d.aD D) (hs : d.S p r) (hk : 0 ≤ d.K r ∧ d.K r < 8) (hp : ∀ p' r', D p' r' → p' ≤ p)
    (en : e.n = d.n) (eK : e.K = d.K) (eC : e.C = d.C) (eM : e.M = d.M) (eS : e.S = d.S) (epr : e.pr = d.pr) (hM : ∀ r, 0 ≤ d.M r)
    (e1 : ∀ m, 0 ≤ m → m < 169 → e.ah p (d.K r) m = if d.cm p r m < d.ah p (d.K r) m then d.cm p r m else d.ah p (d.K r) m)
    (e2 : ∀ p' k m, 0 ≤ p' → 0 ≤ k → k < 8 → 0 ≤ m → m < 169 → ¬ (p' = p ∧ k = d.K r) → e.ah p' k m = d.ah p' k m) : e.aD (fun p' r' => D p' r' ∨ (p' = p ∧ r' = r)) := by
  have hcm : ∀ p' r' m, 0 ≤ p' → p' ≤ p → m < 169 → e.cm p' r' m = d.cm p' r' m := by
    intro p' r' m h0 hle hm
    unfold DP.cm
    rw [eM, eC, eK, epr]
    by_cases c1 : m < d.M r'
    · rw [if_pos c1, if_pos c1]
    · rw [if_neg c1, if_neg c1]
      by_cases c2 : p' = 0
      · rw [if_pos c2, if_pos c2]
      · rw [if_neg c2, if_neg c2]
        refine mnf_cg 8 (fun k hk8 => ?_)
        try dsimp only
        have := hM r'
        rw [e2 (p' - 1) k (m - d.M r') (by omega) (by omega) (by omega) (by omega) (by omega) (by omega)]
  intro p' k m h0 h1 k0 k1 m0 m1
  rw [en] at h1
  rw [eS, eK]
  obtain ⟨a, b⟩ := h p' k m h0 h1 k0 k1 m0 m1
  by_cases c : p' = p ∧ k = d.K r
  · obtain ⟨rfl, rfl⟩ := c
    have hv := e1 m m0 m1
    have hcr := hcm p' r m h0 (Int.le_refl _) m1
    by_cases c2 : d.cm p' r m < d.ah p' (d.K r) m
    · rw [if_pos c2] at hv
      refine ⟨fun r' hs' hd hk' => ?_, .inr ⟨r, hs, .inr ⟨rfl, rfl⟩, rfl, by rw [hv, hcr]⟩⟩
      rcases hd with hd | ⟨-, rfl⟩
      · have := a r' hs' hd hk'
        rw [hcm p' r' m h0 (Int.le_refl _) m1]
        omega
      · omega
    · rw [if_neg c2] at hv
      refine ⟨fun r' hs' hd hk' => ?_, ?_⟩
      · rw [hcm p' r' m h0 (Int.le_refl _) m1]
        rcases hd with hd | ⟨-, rfl⟩
        · have := a r' hs' hd hk'
          omega
        · omega
      · rcases b with b | ⟨r', b1, b2, b3, b4⟩
        · exact .inl (by omega)
        · exact .inr ⟨r', b1, .inl b2, b3, by rw [hcm p' r' m h0 (Int.le_refl _) m1]; omega⟩
  · have hv := e2 p' k m h0 k0 k1 m0 m1 c
    refine ⟨fun r' hs' hd hk' => ?_, ?_⟩
    · rcases hd with hd | ⟨rfl, rfl⟩
      · rw [hcm p' r' m h0 (hp _ _ hd) m1, hv]
        exact a r' hs' hd hk'
      · exact absurd ⟨rfl, hk'.symm⟩ c
    · rcases b with b | ⟨r', b1, b2, b3, b4⟩
      · exact .inl (by omega)
      · exact .inr ⟨r', b1, .inl b2, b3, by rw [hcm p' r' m h0 (hp _ _ b2) m1]; omega⟩
theorem DP.bS {d e : DP} {D : Int → Int → Prop} {p r : Int} (h : d.bD D) (hs : d.S p r) (hk : 0 ≤ d.K r ∧ d.K r < 8) (hp : ∀ p' r', D p' r' → p ≤ p') (hp0 : 0 ≤ p)
    (en : e.n = d.n) (eK : e.K = d.K) (eC : e.C = d.C) (eM : e.M = d.M) (eS : e.S = d.S) (epr : e.pr = d.pr) (hM : ∀ r, 0 ≤ d.M r)
    (e1 : ∀ m, d.M r ≤ m → m < 169 → e.be p (d.K r) m = if d.go p (d.K r) (m - d.M r) + d.C r < d.be p (d.K r) m then d.go p (d.K r) (m - d.M r) + d.C r else d.be p (d.K r) m)
    (e2 : ∀ p' k m, 0 ≤ p' → 0 ≤ k → k < 8 → 0 ≤ m → m < 169 → ¬ (p' = p ∧ k = d.K r ∧ d.M r ≤ m) → e.be p' k m = d.be p' k m) : e.bD (fun p' r' => D p' r' ∨ (p' = p ∧ r' = r)) := by
  have hgo : ∀ p' k m, p ≤ p' → 0 ≤ m → m < 169 → e.go p' k m = d.go p' k m := by
    intro p' k m hle hm hm1
    unfold DP.go
    rw [en, epr]
    by_cases c1 : p' = d.n - 1
    · rw [if_pos c1, if_pos c1]
    · rw [if_neg c1, if_neg c1]
      refine mnf_cg 8 (fun k hk8 => ?_)
      try dsimp only
      rw [e2 (p' + 1) k m (by omega) (by omega) (by omega) (by omega) (by omega) (by omega)]
  intro p' k m h0 h1 k0 k1 m0 m1
  rw [en] at h1
  rw [eS, eK, eM, eC]
  obtain ⟨a, b⟩ := h p' k m h0 h1 k0 k1 m0 m1
  by_cases c : p' = p ∧ k = d.K r ∧ d.M r ≤ m
  · obtain ⟨rfl, rfl, hMm⟩ := c
    have hv := e1 m hMm m1
    have hM0 := hM r
    have hcr := hgo p' (d.K r) (m - d.M r) (Int.le_refl _) (by omega) (by omega)
    by_cases c2 : d.go p' (d.K r) (m - d.M r) + d.C r < d.be p' (d.K r) m
    · rw [if_pos c2] at hv
      refine ⟨fun r' hs' hd hk' hM' => ?_, .inr ⟨r, hs, .inr ⟨rfl, rfl⟩, rfl, hMm, by rw [hv, hcr]⟩⟩
      rcases hd with hd | ⟨-, rfl⟩
      · have := a r' hs' hd hk' hM'
        have hM1 := hM r'
        rw [hgo p' (d.K r) (m - d.M r') (Int.le_refl _) (by omega) (by omega)]
        omega
      · omega
    · rw [if_neg c2] at hv
      refine ⟨fun r' hs' hd hk' hM' => ?_, ?_⟩
      · have hM1 := hM r'
        rw [hgo p' (d.K r) (m - d.M r') (Int.le_refl _) (by omega) (by omega)]
        rcases hd with hd | ⟨-, rfl⟩
        · have := a r' hs' hd hk' hM'
          omega
        · omega
      · rcases b with b | ⟨r', b1, b2, b3, b4, b5⟩
        · exact .inl (by omega)
        · have hM1 := hM r'
          exact .inr ⟨r', b1, .inl b2, b3, b4, by rw [hgo p' (d.K r) (m - d.M r') (Int.le_refl _) (by omega) (by omega)]; omega⟩
  · have hv := e2 p' k m h0 k0 k1 m0 m1 c
    refine ⟨fun r' hs' hd hk' hM' => ?_, ?_⟩
    · have hM1 := hM r'
      rcases hd with hd | ⟨rfl, rfl⟩
      · rw [hgo p' k (m - d.M r') (hp _ _ hd) (by omega) (by omega), hv]
        exact a r' hs' hd hk' hM'
      · exact absurd ⟨rfl, hk'.symm, hM'⟩ c
    · rcases b with b | ⟨r', b1, b2, b3, b4, b5⟩
      · exact .inl (by omega)
      · have hM1 := hM r'
        exact .inr ⟨r', b1, .inl b2, b3, b4, by rw [hgo p' k (m - d.M r') (hp _ _ b2) (by omega) (by omega)]; omega⟩
/-- how many hands stand at word w -/
def cnt (W K : Nat → Int) (w : Int) : Nat → Int
  | 0 => 0
  | n + 1 => cnt W K w n + (if K n = 0 ∧ W n = w then 1 else 0)
theorem cnt_r (W K : Nat → Int) (w : Int) : ∀ n, 0 ≤ cnt W K w n ∧ cnt W K w n ≤ n
  | 0 => ⟨Int.le_refl _, Int.le_refl _⟩
  | n + 1 => by
    have h := cnt_r W K w n
    unfold cnt
    by_cases e : K n = 0 ∧ W n = w
    · rw [if_pos e]
      omega
    · rw [if_neg e]
      omega
theorem cnt_cg {W K W' K' : Nat → Int} {w : Int} : ∀ n, (∀ j : Nat, j < n → W' j = W j ∧ K' j = K j) → cnt W' K' w n = cnt W K w n
  | 0, _ => rfl
  | n + 1, h => by
    unfold cnt
    rw [cnt_cg n (fun j hj => h j (by omega)), (h n (by omega)).1, (h n (by omega)).2]
theorem cnt_bk {W K K' : Nat → Int} {w : Int} {j : Nat} (hK : K j = 0) (hj : K' j = 1) (ho : ∀ i, ¬ i = j → K' i = K i) : ∀ n, j < n → cnt W K' w n = cnt W K w n - (if W j = w then 1 else 0)
  | 0, h => absurd h (Nat.not_lt_zero _)
  | n + 1, h => by
    unfold cnt
    by_cases e : j = n
    · subst e
      rw [cnt_cg (W := W) (K := K) (W' := W) (K' := K') (w := w) j (fun i hi => ⟨rfl, ho i (by omega)⟩), hj, hK]
      by_cases e2 : W j = w
      · rw [if_pos e2, if_neg (by omega), if_pos ⟨rfl, e2⟩]
        omega
      · rw [if_neg e2, if_neg (by omega), if_neg (fun z => e2 z.2)]
        omega
    · rw [cnt_bk hK hj ho n (by omega), ho n (fun z => e z.symm)]
      omega
theorem cnt_pos {W K : Nat → Int} {j : Nat} (hK : K j = 0) : ∀ n, j < n → 1 ≤ cnt W K (W j) n
  | 0, h => absurd h (Nat.not_lt_zero _)
  | n + 1, h => by
    unfold cnt
    by_cases e : j = n
    · subst e
      have := cnt_r W K (W j) j
      rw [if_pos ⟨hK, rfl⟩]
      omega
    · have := cnt_pos (W := W) hK n (by omega)
      by_cases e2 : K n = 0 ∧ W n = W j
      · rw [if_pos e2]
        omega
      · rw [if_neg e2]
        omega
def prW (A : Nat → Nat → Int) (bk a c : Int) : Int := if A 106 (64 * bk + 8 * a + c).toNat = -2 then 0 else if A 106 (64 * bk + 8 * a + c).toNat = -1 then 1000000 else A 106 (64 * bk + 8 * a + c).toNat
def prV (A : Nat → Nat → Int) (bk a c : Int) : Int := if 0 ≤ a ∧ a < 8 ∧ 0 ≤ c ∧ c < 8 then prW A bk a c else 0
theorem prV_nn {A : Nat → Nat → Int} (hA : AQ A) (bk a c : Int) : 0 ≤ prV A bk a c ∧ prV A bk a c ≤ 1000000 := by
  have h := a_106 hA (64 * bk + 8 * a + c).toNat
  unfold prV prW
  by_cases e0 : 0 ≤ a ∧ a < 8 ∧ 0 ≤ c ∧ c < 8
  · rw [if_pos e0]
    by_cases e : A 106 (64 * bk + 8 * a + c).toNat = -2
    · rw [if_pos e]
      omega
    · rw [if_neg e]
      by_cases e2 : A 106 (64 * bk + 8 * a + c).toNat = -1
      · rw [if_pos e2]
        omega
      · rw [if_neg e2]
        omega
  · rw [if_neg e0]
    omega
def dpo (G A : Nat → Nat → Int) : DP := (G 90 38, G 90 56, fun r => A 123 r.toNat, fun r => A 124 r.toNat, fun r => if G 90 45 = -1 then 0 else A 126 r.toNat, fun p r => 13 * p ≤ r ∧ r < 13 * p + A 122 p.toNat ∧ (¬ p = G 90 58 ∨ r = 13 * p + G 90 59), fun a c => prV A (G 90 32) a c, fun p k m => A 128 ((p * 8 + k) * 169 + m).toNat, fun p k m => A 129 ((p * 8 + k) * 169 + m).toNat, G 90 57)
theorem dpo_M {G A : Nat → Nat → Int} (hA : AQ A) (r : Int) : 0 ≤ (dpo G A).M r ∧ (dpo G A).M r ≤ 12 := by
  have h := a_126 hA r.toNat
  show 0 ≤ (if G 90 45 = -1 then 0 else A 126 r.toNat) ∧ (if G 90 45 = -1 then 0 else A 126 r.toNat) ≤ 12
  by_cases e : G 90 45 = -1
  · rw [if_pos e]
    omega
  · rw [if_neg e]
    exact h
theorem dpo_rg {G A : Nat → Nat → Int} (hA : AQ A) : (dpo G A).Rg := ⟨fun p r _ => by
    have h := a_123 hA r.toNat
    show 0 ≤ A 123 r.toNat ∧ A 123 r.toNat < 8
    omega, fun r => (a_124 hA r.toNat).1, fun r => (dpo_M hA r).1, fun a c => (prV_nn hA _ a c).1, fun p k m => a_128 hA _, fun p k m => a_129 hA _⟩
def lnV (G A : Nat → Nat → Int) : Prop := ∀ j : Nat, (j : Int) < G 90 38 → A 115 j + A 116 j ≤ 200
def hdV (G A : Nat → Nat → Int) : Prop := ∀ j : Nat, (j : Int) < G 90 66 → A 132 j < A 107 (G 90 32).toNat
def ltV (G A : Nat → Nat → Int) : Prop := ∀ w : Nat, w < 80 → A 127 w = cnt (A 132) (A 135) w (G 90 66).toNat
def rdW (G A : Nat → Nat → Int) (p : Nat) : Prop := ∀ j : Nat, (j : Int) < A 122 p → A 125 (13 * p + j) < A 107 (G 90 32).toNat
def rdV (G A : Nat → Nat → Int) (p : Nat) : Prop := 1 ≤ A 122 p ∧ A 122 p ≤ 12 ∧ rdW G A p
def KN (G A : Nat → Nat → Int) : Prop := G 90 58 = -1 ∧ (∀ p : Nat, (p : Int) < G 90 38 → rdV G A p) ∧ (dpo G A).Ok
abbrev MI (G A : Nat → Nat → Int) : Prop := (bkV A (G 90 32).toNat) ∧ (lnV G A) ∧ (hdV G A) ∧ (ltV G A) ∧ (G 90 53 = 1 → KN G A)
theorem MI.bk {G A : Nat → Nat → Int} (h : MI G A) : bkV A (G 90 32).toNat := h.1
theorem MI.ln {G A : Nat → Nat → Int} (h : MI G A) : lnV G A := h.2.1
theorem MI.hd {G A : Nat → Nat → Int} (h : MI G A) : hdV G A := h.2.2.1
theorem MI.lt {G A : Nat → Nat → Int} (h : MI G A) : ltV G A := h.2.2.2.1
theorem MI.kn {G A : Nat → Nat → Int} (h : MI G A) : G 90 53 = 1 → KN G A := h.2.2.2.2
/-- while the readings of place p are made: what they are so far, and that no other place's are touched -/
def rdQ (G A A' : Nat → Nat → Int) (p : Nat) : Prop := A' 122 p ≤ 12 ∧ rdW G A' p ∧ (∀ i, ¬ i = p → A' 122 i = A 122 i) ∧ (∀ i, (i < 13 * p ∨ 13 * p + 13 ≤ i) → A' 125 i = A 125 i) ∧ A' 107 = A 107
section RD
variable {G A A1 A2 : Nat → Nat → Int} {p : Nat}
theorem rdQ_0 (e : A2 122 = fun i => if i = p then 0 else A 122 i) (e2 : A2 125 = A 125) (e3 : A2 107 = A 107) : rdQ G A A2 p := by
  refine ⟨by rw [e]; simp, fun j hj => ?_, fun i hi => by rw [e]; exact if_neg hi, fun i _ => by rw [e2], e3⟩
  rw [e] at hj
  simp at hj
  omega
theorem rdQ_a (hA : AQ A1) {r w : Int} (h : rdQ G A A1 p) (hw : w < A 107 (G 90 32).toNat) (hr : r = 13 * (p : Int) + A1 122 p) (hm : A1 122 p ≤ 11) (e : A2 122 = fun i => if i = p then A1 122 p + 1 else A1 122 i) (e2 : A2 125 = fun i => if i = r.toNat then w else A1 125 i) (e3 : A2 107 = A1 107) : rdQ G A A2 p := by
  obtain ⟨h1, h2, h3, h4, h5⟩ := h
  have hr0 := a_122 hA p
  refine ⟨by rw [e]; simp; omega, fun j hj => ?_, fun i hi => ?_, fun i hi => ?_, e3.trans h5⟩
  · rw [e] at hj
    rw [e2, e3]
    simp at hj
    show (if 13 * p + j = r.toNat then w else A1 125 (13 * p + j)) < _
    by_cases c : 13 * p + j = r.toNat
    · rw [if_pos c, h5]
      exact hw
    · rw [if_neg c]
      exact h2 j (by omega)
  · rw [e]
    show (if i = p then _ else A1 122 i) = _
    rw [if_neg hi]
    exact h3 i hi
  · rw [e2]
    show (if i = r.toNat then w else A1 125 i) = _
    rw [if_neg (by omega)]
    exact h4 i hi
theorem rdQ_n (h : rdQ G A A1 p) (h1 : A2 122 p ≤ A1 122 p) (h2 : ∀ i, ¬ i = p → A2 122 i = A1 122 i) (e2 : A2 125 = A1 125) (e3 : A2 107 = A1 107) : rdQ G A A2 p := by
  obtain ⟨g1, g2, g3, g4, g5⟩ := h
  refine ⟨by omega, fun j hj => ?_, fun i hi => (h2 i hi).trans (g3 i hi), fun i hi => by rw [e2]; exact g4 i hi, e3.trans g5⟩
  rw [e2, e3]
  exact g2 j (by omega)
theorem rdQ_e (hA : AQ A1) (h : rdQ G A A1 p) (hm : A1 122 p ≤ 12) (h1 : A2 122 p ≤ 12) (h1' : A2 122 p ≤ A1 122 p + 1) (h2 : ∀ i, ¬ i = p → A2 122 i = A1 122 i) (e2 : ∀ i : Nat, ¬ i = (13 * (p : Int) + A1 122 p).toNat → A2 125 i = A1 125 i) (e4 : A2 125 (13 * (p : Int) + A1 122 p).toNat = -1 ∨ A2 122 p ≤ A1 122 p) (e3 : A2 107 = A1 107) (h0 : 0 ≤ A1 107 (G 90 32).toNat) : rdQ G A A2 p := by
  obtain ⟨g1, g2, g3, g4, g5⟩ := h
  have hr0 := a_122 hA p
  refine ⟨h1, fun j hj => ?_, fun i hi => (h2 i hi).trans (g3 i hi), fun i hi => by rw [e2 i (by omega)]; exact g4 i hi, e3.trans g5⟩
  rw [e3]
  by_cases c : 13 * p + j = (13 * (p : Int) + A1 122 p).toNat
  · rw [c]
    rcases e4 with d | d
    · rw [d]
      omega
    · omega
  · rw [e2 _ c]
    exact g2 j (by omega)
theorem rdV_f {A' : Nat → Nat → Int} {q : Nat} (h : rdV G A1 q) (hq : rdQ G A1 A' p) (hn : ¬ q = p) : rdV G A' q := by
  obtain ⟨h1, h2, h3⟩ := h
  obtain ⟨g1, g2, g3, g4, g5⟩ := hq
  refine ⟨by rw [g3 q hn]; exact h1, by rw [g3 q hn]; exact h2, fun j hj => ?_⟩
  rw [g3 q hn] at hj
  rw [g4 _ (by omega), g5]
  exact h3 j hj
end RD
theorem MI_fr {G A G' A' : Nat → Nat → Int} (h : MI G A) (hA : AQ A) (eG : ∀ a k, ¬ ((a = 90 ∧ k = 2) ∨ (a = 90 ∧ k = 3) ∨ (a = 90 ∧ k = 4) ∨ (a = 90 ∧ k = 5)) → G' a k = G a k) (eA : ∀ a, ¬ (a = 91 ∨ a = 92 ∨ a = 118 ∨ a = 119 ∨ a = 120) → A' a = A a) : MI G' A' := by
  have g1 := eG 90 32 (by decide)
  have g2 := eG 90 38 (by decide)
  have g3 := eG 90 66 (by decide)
  have g4 := eG 90 53 (by decide)
  have hd : dpo G' A' = dpo G A := by
    unfold dpo prV prW
    rw [g2, eG 90 56 (by decide), eG 90 45 (by decide), eG 90 58 (by decide), eG 90 59 (by decide), eG 90 57 (by decide), g1, eA 123 (by decide), eA 124 (by decide), eA 126 (by decide), eA 122 (by decide), eA 106 (by decide), eA 128 (by decide), eA 129 (by decide)]
  refine ⟨?_, ?_, ?_, ?_, fun hk => ?_⟩
  · have := h.bk
    unfold bkV at this ⊢
    rw [g1, eA 107 (by decide), eA 98 (by decide), eA 99 (by decide), eA 108 (by decide), eA 103 (by decide), eA 104 (by decide), eA 106 (by decide), eA 111 (by decide), eA 112 (by decide)]
    exact this
  · have := h.ln
    unfold lnV at this ⊢
    rw [g2, eA 115 (by decide), eA 116 (by decide)]
    exact this
  · have := h.hd
    unfold hdV at this ⊢
    rw [g3, g1, eA 132 (by decide), eA 107 (by decide)]
    exact this
  · have := h.lt
    unfold ltV at this ⊢
    rw [g3, eA 127 (by decide), eA 132 (by decide), eA 135 (by decide)]
    exact this
  · rw [g4] at hk
    obtain ⟨a, b, c⟩ := h.kn hk
    refine ⟨by rw [eG 90 58 (by decide)]; exact a, ?_, by rw [hd]; exact c⟩
    unfold rdV rdW at b ⊢
    rw [g2, g1, eA 122 (by decide), eA 125 (by decide), eA 107 (by decide)]
    exact b
theorem MI_ln {G A G' A' : Nat → Nat → Int} (h : MI G A) (eG : ∀ a k, ¬ ((a = 90 ∧ k = 2) ∨ (a = 90 ∧ k = 3) ∨ (a = 90 ∧ k = 4) ∨ (a = 90 ∧ k = 5) ∨ (a = 90 ∧ k = 38) ∨ (a = 90 ∧ k = 39) ∨ (a = 90 ∧ k = 40) ∨ (a = 90 ∧ k = 41) ∨ (a = 90 ∧ k = 53)) → G' a k = G a k) (eA : ∀ a, ¬ (a = 92 ∨ a = 114 ∨ a = 115 ∨ a = 116 ∨ a = 117 ∨ a = 118 ∨ a = 119 ∨ a = 120) → A' a = A a) (h53 : G' 90 53 = 0) (hl : ∀ j : Nat, (j : Int) < G' 90 38 → A' 115 j + A' 116 j ≤ 200) : MI G' A' := by
  have g1 := eG 90 32 (by decide)
  have g3 := eG 90 66 (by decide)
  refine ⟨?_, hl, ?_, ?_, fun hk => by omega⟩
  · have := h.bk
    unfold bkV at this ⊢
    rw [g1, eA 107 (by decide), eA 98 (by decide), eA 99 (by decide), eA 108 (by decide), eA 103 (by decide), eA 104 (by decide), eA 106 (by decide), eA 111 (by decide), eA 112 (by decide)]
    exact this
  · have := h.hd
    unfold hdV at this ⊢
    rw [g3, g1, eA 132 (by decide), eA 107 (by decide)]
    exact this
  · have := h.lt
    unfold ltV at this ⊢
    rw [g3, eA 127 (by decide), eA 132 (by decide), eA 135 (by decide)]
    exact this
theorem mnf_st {f : Int → Int} {k c v v2 : Int} (hk : 0 ≤ k) (hv : v = mnf f k.toNat) (hc : f k = c) (h2 : v2 = if c < v then c else v) : v2 = mnf f (k + 1).toNat := by
  have e : (k + 1).toNat = k.toNat + 1 := by omega
  have e2 : ((k.toNat : Nat) : Int) = k := by omega
  rw [e, mnf_s, e2, hc, ← hv, h2]
/-- a stretch of a table after the lesser of old and new was taken -/
def gaQ (A A' : Nat → Nat → Int) (a : Nat) (s lo hi : Int) (c : Int → Int) : Prop := (∀ m, lo ≤ m → m < hi → A' a (s + m).toNat = if c m < A a (s + m).toNat then c m else A a (s + m).toNat) ∧ (∀ i : Nat, ((i : Int) < s + lo ∨ s + hi ≤ i) → A' a i = A a i)
section GA
variable {G A A1 A2 : Nat → Nat → Int} {a : Nat} {s lo m v : Int} {c : Int → Int}
theorem gaQ_0 (hi : Int) (h : hi ≤ lo) : gaQ A A a s lo hi c := ⟨fun m h1 h2 => by omega, fun i _ => rfl⟩
theorem gaQ_s (h : gaQ A A1 a s lo m c) (h0 : 0 ≤ s + lo) (hm : lo ≤ m) (e : A2 a = fun i => if i = (s + m).toNat then v else A1 a i) (hv : v = if c m < A1 a (s + m).toNat then c m else A1 a (s + m).toNat) : gaQ A A2 a s lo (m + 1) c := by
  obtain ⟨h1, h2⟩ := h
  have eo : A1 a (s + m).toNat = A a (s + m).toNat := h2 _ (by omega)
  rw [eo] at hv
  refine ⟨fun m' g1 g2 => ?_, fun i hi => ?_⟩
  · rw [e]
    by_cases x : m' = m
    · subst x
      simp only [if_pos]
      exact hv
    · show (if (s + m').toNat = (s + m).toNat then v else A1 a (s + m').toNat) = _
      rw [if_neg (by omega)]
      exact h1 m' g1 (by omega)
  · rw [e]
    show (if i = (s + m).toNat then v else A1 a i) = _
    rw [if_neg (by omega)]
    exact h2 i (by omega)
end GA
theorem DP.aD_c {d e : DP} {D : Int → Int → Prop} (h : d.aD D) (en : e.n = d.n) (eK : e.K = d.K) (eC : e.C = d.C) (eM : e.M = d.M) (eS : e.S = d.S) (epr : e.pr = d.pr) (ea : e.ah = d.ah) : e.aD D := by
  unfold DP.aD DP.cm at h ⊢
  rw [en, eK, eC, eM, eS, epr, ea]
  exact h
theorem DP.bD_c {d e : DP} {D : Int → Int → Prop} (h : d.bD D) (en : e.n = d.n) (eK : e.K = d.K) (eC : e.C = d.C) (eM : e.M = d.M) (eS : e.S = d.S) (epr : e.pr = d.pr) (eb : e.be = d.be) : e.bD D := by
  unfold DP.bD DP.go at h ⊢
  rw [en, eK, eC, eM, eS, epr, eb]
  exact h
theorem DP.aD_D {d : DP} {D D' : Int → Int → Prop} (h : d.aD D) (e : ∀ p r, 0 ≤ p → p < d.n → d.S p r → (D p r ↔ D' p r)) : d.aD D' := by
  intro p k m h0 h1 k0 k1 m0 m1
  obtain ⟨a, b⟩ := h p k m h0 h1 k0 k1 m0 m1
  refine ⟨fun r hs hd hk => a r hs ((e p r h0 h1 hs).mpr hd) hk, ?_⟩
  rcases b with b | ⟨r, b1, b2, b3⟩
  · exact .inl b
  · exact .inr ⟨r, b1, (e p r h0 h1 b1).mp b2, b3⟩
theorem DP.bD_D {d : DP} {D D' : Int → Int → Prop} (h : d.bD D) (e : ∀ p r, 0 ≤ p → p < d.n → d.S p r → (D p r ↔ D' p r)) : d.bD D' := by
  intro p k m h0 h1 k0 k1 m0 m1
  obtain ⟨a, b⟩ := h p k m h0 h1 k0 k1 m0 m1
  refine ⟨fun r hs hd hk => a r hs ((e p r h0 h1 hs).mpr hd) hk, ?_⟩
  rcases b with b | ⟨r, b1, b2, b3⟩
  · exact .inl b
  · exact .inr ⟨r, b1, (e p r h0 h1 b1).mp b2, b3⟩
section DPO
variable {G A G' A' : Nat → Nat → Int} {D : Int → Int → Prop} {p r : Int}
theorem dpo_aD (hG : ∀ a k, ¬ (a = 90 ∧ k = 57) → G' a k = G a k) (hA : ∀ a, ¬ a = 129 → A' a = A a) (h : (dpo G A).aD D) : (dpo G' A').aD D := by
  refine DP.aD_c h ?_ ?_ ?_ ?_ ?_ ?_ ?_ <;> dsimp only [dpo, DP.n, DP.T, DP.K, DP.C, DP.M, DP.S, DP.pr, DP.ah, DP.be, DP.best, prV, prW]
  · rw [hG 90 38 (by decide)]
  · rw [hA 123 (by decide)]
  · rw [hA 124 (by decide)]
  · rw [hA 126 (by decide), hG 90 45 (by decide)]
  · rw [hA 122 (by decide), hG 90 58 (by decide), hG 90 59 (by decide)]
  · rw [hA 106 (by decide), hG 90 32 (by decide)]
  · rw [hA 128 (by decide)]
theorem dpo_bD (hG : ∀ a k, ¬ (a = 90 ∧ k = 57) → G' a k = G a k) (hA : ∀ a, ¬ a = 128 → A' a = A a) (h : (dpo G A).bD D) : (dpo G' A').bD D := by
  refine DP.bD_c h ?_ ?_ ?_ ?_ ?_ ?_ ?_ <;> dsimp only [dpo, DP.n, DP.T, DP.K, DP.C, DP.M, DP.S, DP.pr, DP.ah, DP.be, DP.best, prV, prW]
  · rw [hG 90 38 (by decide)]
  · rw [hA 123 (by decide)]
  · rw [hA 124 (by decide)]
  · rw [hA 126 (by decide), hG 90 45 (by decide)]
  · rw [hA 122 (by decide), hG 90 58 (by decide), hG 90 59 (by decide)]
  · rw [hA 106 (by decide), hG 90 32 (by decide)]
  · rw [hA 129 (by decide)]
theorem cm_fr {m : Int} (hA : AQ A) (hf : ∀ a, ¬ a = 128 → A' a = A a) (hp : 0 ≤ p) (hm : m < 169) (h : ∀ i : Nat, (i : Int) < p * 8 * 169 → A' 128 i = A 128 i) : (dpo G A').cm p r m = (dpo G A).cm p r m := by
  have hM := dpo_M (G := G) hA r
  have eM : (dpo G A').M = (dpo G A).M := by dsimp only [dpo, DP.n, DP.T, DP.K, DP.C, DP.M, DP.S, DP.pr, DP.ah, DP.be, DP.best]; rw [hf 126 (by decide)]
  have eC : (dpo G A').C = (dpo G A).C := by dsimp only [dpo, DP.n, DP.T, DP.K, DP.C, DP.M, DP.S, DP.pr, DP.ah, DP.be, DP.best]; rw [hf 124 (by decide)]
  have eK : (dpo G A').K = (dpo G A).K := by dsimp only [dpo, DP.n, DP.T, DP.K, DP.C, DP.M, DP.S, DP.pr, DP.ah, DP.be, DP.best]; rw [hf 123 (by decide)]
  have ep : (dpo G A').pr = (dpo G A).pr := by dsimp only [dpo, DP.n, DP.T, DP.K, DP.C, DP.M, DP.S, DP.pr, DP.ah, DP.be, DP.best, prV, prW]; rw [hf 106 (by decide)]
  unfold DP.cm
  rw [eM, eC, eK, ep]
  by_cases c1 : m < (dpo G A).M r
  · rw [if_pos c1, if_pos c1]
  · rw [if_neg c1, if_neg c1]
    by_cases c2 : p = 0
    · rw [if_pos c2, if_pos c2]
    · rw [if_neg c2, if_neg c2]
      refine mnf_cg 8 (fun k hk => ?_)
      show A' 128 (((p - 1) * 8 + (k : Int)) * 169 + (m - (dpo G A).M r)).toNat + _ + _ = A 128 (((p - 1) * 8 + (k : Int)) * 169 + (m - (dpo G A).M r)).toNat + _ + _
      rw [h _ (by omega)]
theorem go_fr {k m : Int} (hf : ∀ a, ¬ a = 129 → A' a = A a) (hp : 0 ≤ p) (hm0 : 0 ≤ m) (hm : m < 169) (h : ∀ i : Nat, (p + 1) * 8 * 169 ≤ (i : Int) → A' 129 i = A 129 i) : (dpo G A').go p k m = (dpo G A).go p k m := by
  have ep : (dpo G A').pr = (dpo G A).pr := by dsimp only [dpo, DP.n, DP.T, DP.K, DP.C, DP.M, DP.S, DP.pr, DP.ah, DP.be, DP.best, prV, prW]; rw [hf 106 (by decide)]
  unfold DP.go
  rw [ep]
  show (if p = G 90 38 - 1 then _ else _) = (if p = G 90 38 - 1 then _ else _)
  by_cases c1 : p = G 90 38 - 1
  · rw [if_pos c1, if_pos c1]
  · rw [if_neg c1, if_neg c1]
    refine mnf_cg 8 (fun k' hk => ?_)
    show A' 129 (((p + 1) * 8 + (k' : Int)) * 169 + m).toNat + _ = A 129 (((p + 1) * 8 + (k' : Int)) * 169 + m).toNat + _
    rw [h _ (by omega)]
/-- one call of goAhead -/
theorem aD_ga (hA : AQ A) (h : (dpo G A).aD D) (hs : (dpo G A).S p r) (hp0 : 0 ≤ p) (hp : ∀ p' r', D p' r' → p' ≤ p) (hf : ∀ a, ¬ a = 128 → A' a = A a) (q : gaQ A A' 128 ((p * 8 + A 123 r.toNat) * 169) 0 169 (fun m => (dpo G A).cm p r m)) : (dpo G A').aD (fun p' r' => D p' r' ∨ (p' = p ∧ r' = r)) := by
  have hk := a_123 hA r.toNat
  refine DP.aS h hs ⟨hk.1, by show A 123 r.toNat < 8; omega⟩ hp rfl ?_ ?_ ?_ ?_ ?_ (fun r => (dpo_M hA r).1) (fun m h0 h1 => ?_) (fun p' k m h0 k0 k1 m0 m1 hn => ?_)
  · dsimp only [dpo, DP.n, DP.T, DP.K, DP.C, DP.M, DP.S, DP.pr, DP.ah, DP.be, DP.best]; rw [hf 123 (by decide)]
  · dsimp only [dpo, DP.n, DP.T, DP.K, DP.C, DP.M, DP.S, DP.pr, DP.ah, DP.be, DP.best]; rw [hf 124 (by decide)]
  · dsimp only [dpo, DP.n, DP.T, DP.K, DP.C, DP.M, DP.S, DP.pr, DP.ah, DP.be, DP.best]; rw [hf 126 (by decide)]
  · dsimp only [dpo, DP.n, DP.T, DP.K, DP.C, DP.M, DP.S, DP.pr, DP.ah, DP.be, DP.best]; rw [hf 122 (by decide)]
  · dsimp only [dpo, DP.n, DP.T, DP.K, DP.C, DP.M, DP.S, DP.pr, DP.ah, DP.be, DP.best, prV, prW]; rw [hf 106 (by decide)]
  · exact q.1 m h0 h1
  · show A' 128 ((p' * 8 + k) * 169 + m).toNat = A 128 ((p' * 8 + k) * 169 + m).toNat
    refine q.2 _ ?_
    have hn' : ¬ (p' = p ∧ k = A 123 r.toNat) := hn
    have hne : ¬ p' * 8 + k = p * 8 + A 123 r.toNat := by omega
    omega
theorem bD_gb (hA : AQ A) (h : (dpo G A).bD D) (hs : (dpo G A).S p r) (hp0 : 0 ≤ p) (hp : ∀ p' r', D p' r' → p ≤ p') (hf : ∀ a, ¬ a = 129 → A' a = A a) (q : gaQ A A' 129 ((p * 8 + A 123 r.toNat) * 169) ((dpo G A).M r) 169 (fun m => (dpo G A).go p (A 123 r.toNat) (m - (dpo G A).M r) + A 124 r.toNat)) : (dpo G A').bD (fun p' r' => D p' r' ∨ (p' = p ∧ r' = r)) := by
  have hk := a_123 hA r.toNat
  have hM := dpo_M (G := G) hA r
  refine DP.bS h hs ⟨hk.1, by show A 123 r.toNat < 8; omega⟩ hp hp0 rfl ?_ ?_ ?_ ?_ ?_ (fun r => (dpo_M hA r).1) (fun m h0 h1 => ?_) (fun p' k m h0 k0 k1 m0 m1 hn => ?_)
  · dsimp only [dpo, DP.n, DP.T, DP.K, DP.C, DP.M, DP.S, DP.pr, DP.ah, DP.be, DP.best]; rw [hf 123 (by decide)]
  · dsimp only [dpo, DP.n, DP.T, DP.K, DP.C, DP.M, DP.S, DP.pr, DP.ah, DP.be, DP.best]; rw [hf 124 (by decide)]
  · dsimp only [dpo, DP.n, DP.T, DP.K, DP.C, DP.M, DP.S, DP.pr, DP.ah, DP.be, DP.best]; rw [hf 126 (by decide)]
  · dsimp only [dpo, DP.n, DP.T, DP.K, DP.C, DP.M, DP.S, DP.pr, DP.ah, DP.be, DP.best]; rw [hf 122 (by decide)]
  · dsimp only [dpo, DP.n, DP.T, DP.K, DP.C, DP.M, DP.S, DP.pr, DP.ah, DP.be, DP.best, prV, prW]; rw [hf 106 (by decide)]
  · exact q.1 m h0 h1
  · show A' 129 ((p' * 8 + k) * 169 + m).toNat = A 129 ((p' * 8 + k) * 169 + m).toNat
    refine q.2 _ ?_
    have hn' : ¬ (p' = p ∧ k = A 123 r.toNat ∧ (dpo G A).M r ≤ m) := hn
    by_cases e : p' * 8 + k = p * 8 + A 123 r.toNat
    · have : m < (dpo G A).M r := by omega
      omega
    · omega
theorem aD_nul (h : ∀ i : Nat, i < 18928 → A 128 i = 1000000) (hn : G 90 38 ≤ 14) (hD : ∀ p r, 0 ≤ p → (dpo G A).S p r → ¬ D p r) : (dpo G A).aD D := by
  intro p k m h0 h1 k0 k1 m0 m1
  have h1' : p < G 90 38 := h1
  refine ⟨fun r hs hd _ => absurd hd (hD p r h0 hs), .inl ?_⟩
  exact h _ (by omega)
theorem bD_nul (h : ∀ i : Nat, i < 18928 → A 129 i = 1000000) (hn : G 90 38 ≤ 14) (hD : ∀ p r, p < G 90 38 → (dpo G A).S p r → ¬ D p r) : (dpo G A).bD D := by
  intro p k m h0 h1 k0 k1 m0 m1
  have h1' : p < G 90 38 := h1
  refine ⟨fun r hs hd _ _ => absurd hd (hD p r h1' hs), .inl ?_⟩
  exact h _ (by omega)
end DPO
section B28
variable {G A A' : Nat → Nat → Int}
theorem bk_w {w : Int} (h : bkV A (G 90 32).toNat) (h0 : 0 ≤ G 90 32) (w0 : 0 ≤ w) (w1 : w < A 107 (G 90 32).toNat) : A 98 (80 * G 90 32 + w).toNat ≤ 7 ∧ A 99 (80 * G 90 32 + w).toNat ≤ 99 := by
  have := h.1 w.toNat (by omega)
  rw [show 80 * (G 90 32).toNat + w.toNat = (80 * G 90 32 + w).toNat from by omega] at this
  exact this
theorem bk_e {e : Int} (h : bkV A (G 90 32).toNat) (h0 : 0 ≤ G 90 32) (w0 : 20 * G 90 32 ≤ e) (w1 : e < 20 * G 90 32 + A 108 (G 90 32).toNat) : A 103 e.toNat ≤ 7 ∧ A 104 e.toNat ≤ 99 := by
  have := h.2.1 (e - 20 * G 90 32).toNat (by omega)
  rw [show 20 * (G 90 32).toNat + (e - 20 * G 90 32).toNat = e.toNat from by omega] at this
  exact this
theorem rdV_q {p : Nat} (q : rdQ G A A' p) (h : 1 ≤ A' 122 p) : rdV G A' p := ⟨h, q.1, q.2.1⟩
theorem dpo_S {p r : Int} (h : (dpo G A).S p r) : 13 * p ≤ r ∧ r < 13 * p + A 122 p.toNat ∧ (¬ p = G 90 58 ∨ r = 13 * p + G 90 59) := h
theorem aD_nx {p r : Int} (h : (dpo G A).aD (fun p' r' => p' < p ∨ (p' = p ∧ r' < r))) (hr : 13 * p + A 122 p.toNat ≤ r) : (dpo G A).aD (fun p' _ => p' < p + 1) := by
  refine DP.aD_D h (fun p' r' _ _ hs => ⟨fun c => by omega, fun c => ?_⟩)
  have hs' := dpo_S hs
  by_cases e : p' = p
  · subst e
    exact .inr ⟨rfl, by omega⟩
  · exact .inl (by omega)
theorem aD_fs {p : Int} (h : (dpo G A).aD (fun p' _ => p' < p)) : (dpo G A).aD (fun p' r' => p' < p ∨ (p' = p ∧ r' < 13 * p)) := by
  refine DP.aD_D h (fun p' r' _ _ hs => ⟨fun c => .inl c, fun c => ?_⟩)
  have hs' := dpo_S hs
  omega
theorem aD_sk {p r : Int} (h : (dpo G A).aD (fun p' r' => p' < p ∨ (p' = p ∧ r' < r))) (hr : ¬ (¬ p = G 90 58 ∨ r = 13 * p + G 90 59)) : (dpo G A).aD (fun p' r' => p' < p ∨ (p' = p ∧ r' < r + 1)) := by
  refine DP.aD_D h (fun p' r' _ _ hs => ⟨fun c => by omega, fun c => ?_⟩)
  have hs' := dpo_S hs
  by_cases e : p' = p
  · subst e
    refine .inr ⟨rfl, ?_⟩
    have : ¬ r' = r := by
      rintro rfl
      exact hr hs'.2.2
    omega
  · exact .inl (by omega)
theorem aD_ct {p r : Int} (hA : AQ A) (h : (dpo G A).aD (fun p' r' => p' < p ∨ (p' = p ∧ r' < r))) (hr : ¬ p = G 90 58 ∨ r = 13 * p + G 90 59) (h0 : 0 ≤ p) (h1 : 13 * p ≤ r) (h2 : r < 13 * p + A 122 p.toNat) (hf : ∀ a, ¬ a = 128 → A' a = A a) (q : gaQ A A' 128 ((p * 8 + A 123 r.toNat) * 169) 0 169 (fun m => (dpo G A).cm p r m)) : (dpo G A').aD (fun p' r' => p' < p ∨ (p' = p ∧ r' < r + 1)) := by
  refine DP.aD_D (aD_ga hA h ⟨h1, h2, hr⟩ h0 (fun p' r' c => by omega) hf q) (fun p' r' _ _ hs => ⟨fun c => by omega, fun c => by omega⟩)
theorem bD_nx {p r : Int} (h : (dpo G A).bD (fun p' r' => p < p' ∨ (p' = p ∧ r' < r))) (hr : 13 * p + A 122 p.toNat ≤ r) : (dpo G A).bD (fun p' _ => p + -1 < p') := by
  refine DP.bD_D h (fun p' r' _ _ hs => ⟨fun c => by omega, fun c => ?_⟩)
  have hs' := dpo_S hs
  by_cases e : p' = p
  · subst e
    exact .inr ⟨rfl, by omega⟩
  · exact .inl (by omega)
theorem bD_fs {p : Int} (h : (dpo G A).bD (fun p' _ => p < p')) : (dpo G A).bD (fun p' r' => p < p' ∨ (p' = p ∧ r' < 13 * p)) := by
  refine DP.bD_D h (fun p' r' _ _ hs => ⟨fun c => .inl c, fun c => ?_⟩)
  have hs' := dpo_S hs
  omega
theorem bD_sk {p r : Int} (h : (dpo G A).bD (fun p' r' => p < p' ∨ (p' = p ∧ r' < r))) (hr : ¬ (¬ p = G 90 58 ∨ r = 13 * p + G 90 59)) : (dpo G A).bD (fun p' r' => p < p' ∨ (p' = p ∧ r' < r + 1)) := by
  refine DP.bD_D h (fun p' r' _ _ hs => ⟨fun c => by omega, fun c => ?_⟩)
  have hs' := dpo_S hs
  by_cases e : p' = p
  · subst e
    refine .inr ⟨rfl, ?_⟩
    have : ¬ r' = r := by
      rintro rfl
      exact hr hs'.2.2
    omega
  · exact .inl (by omega)
theorem bD_ct {p r : Int} (hA : AQ A) (h : (dpo G A).bD (fun p' r' => p < p' ∨ (p' = p ∧ r' < r))) (hr : ¬ p = G 90 58 ∨ r = 13 * p + G 90 59) (h0 : 0 ≤ p) (h1 : 13 * p ≤ r) (h2 : r < 13 * p + A 122 p.toNat) (hf : ∀ a, ¬ a = 129 → A' a = A a) (q : gaQ A A' 129 ((p * 8 + A 123 r.toNat) * 169) ((dpo G A).M r) 169 (fun m => (dpo G A).go p (A 123 r.toNat) (m - (dpo G A).M r) + A 124 r.toNat)) : (dpo G A').bD (fun p' r' => p < p' ∨ (p' = p ∧ r' < r + 1)) := by
  refine DP.bD_D (bD_gb hA h ⟨h1, h2, hr⟩ h0 (fun p' r' c => by omega) hf q) (fun p' r' _ _ hs => ⟨fun c => by omega, fun c => by omega⟩)
theorem bs_mk {G' : Nat → Nat → Int} (eG : ∀ a k, ¬ (a = 90 ∧ k = 57) → G' a k = G a k) (h0 : G 90 38 = 0 → G' 90 57 = 0) (h1 : 0 < G 90 38 → 0 ≤ G 90 56 → G 90 56 < 169 → G' 90 57 = mnf (fun k => (dpo G A).ah (G 90 38 - 1) k (G 90 56)) 8) (h2 : 0 < G 90 38 → ¬ (0 ≤ G 90 56 ∧ G 90 56 < 169) → G' 90 57 = 1000000) : (dpo G' A).bs := by
  have e1 : (dpo G' A).n = G 90 38 := eG 90 38 (by decide)
  have e2 : (dpo G' A).T = G 90 56 := eG 90 56 (by decide)
  unfold DP.bs
  rw [e1, e2]
  exact ⟨h0, h1, h2⟩
theorem dpo_G {G' : Nat → Nat → Int} (h : ∀ a k, ¬ (a = 90 ∧ k = 53) → G' a k = G a k) : dpo G' A = dpo G A := by
  unfold dpo prV prW
  rw [h 90 38 (by decide), h 90 56 (by decide), h 90 45 (by decide), h 90 58 (by decide), h 90 59 (by decide), h 90 57 (by decide), h 90 32 (by decide)]
theorem MP_fr (fa : ∀ a, ¬ (a = 121 ∨ a = 122 ∨ a = 123 ∨ a = 124 ∨ a = 125 ∨ a = 126) → A' a = A a) (h : bkV A (G 90 32).toNat ∧ lnV G A ∧ hdV G A) : bkV A' (G 90 32).toNat ∧ lnV G A' ∧ hdV G A' := by
  unfold bkV lnV hdV at h ⊢
  rw [fa 107 (by decide), fa 98 (by decide), fa 99 (by decide), fa 108 (by decide), fa 103 (by decide), fa 104 (by decide), fa 106 (by decide), fa 111 (by decide), fa 112 (by decide), fa 115 (by decide), fa 116 (by decide), fa 132 (by decide)]
  exact h
theorem rdV_c {G' : Nat → Nat → Int} {q : Nat} (h : rdV G A q) (eb : G' 90 32 = G 90 32) (e2 : A' 122 = A 122) (e5 : A' 125 = A 125) (e7 : A' 107 = A 107) : rdV G' A' q := by
  unfold rdV rdW at h ⊢
  rw [eb, e2, e5, e7]
  exact h
theorem MI_kn {G' : Nat → Nat → Int} (h : MI G A) (eG : ∀ a k, ¬ ((a = 90 ∧ k = 53) ∨ (a = 90 ∧ k = 56) ∨ (a = 90 ∧ k = 57) ∨ (a = 90 ∧ k = 58) ∨ (a = 90 ∧ k = 59)) → G' a k = G a k) (fa : ∀ a, ¬ (a = 121 ∨ a = 122 ∨ a = 123 ∨ a = 124 ∨ a = 125 ∨ a = 126 ∨ a = 128 ∨ a = 129 ∨ a = 130) → A' a = A a) (k : KN G' A') : MI G' A' := by
  have g1 := eG 90 32 (by decide)
  have g3 := eG 90 66 (by decide)
  refine ⟨?_, ?_, ?_, ?_, fun _ => k⟩
  · have := h.bk
    unfold bkV at this ⊢
    rw [g1, fa 107 (by decide), fa 98 (by decide), fa 99 (by decide), fa 108 (by decide), fa 103 (by decide), fa 104 (by decide), fa 106 (by decide), fa 111 (by decide), fa 112 (by decide)]
    exact this
  · have := h.ln
    unfold lnV at this ⊢
    rw [eG 90 38 (by decide), fa 115 (by decide), fa 116 (by decide)]
    exact this
  · have := h.hd
    unfold hdV at this ⊢
    rw [g3, g1, fa 132 (by decide), fa 107 (by decide)]
    exact this
  · have := h.lt
    unfold ltV at this ⊢
    rw [g3, fa 127 (by decide), fa 132 (by decide), fa 135 (by decide)]
    exact this
theorem bk_init {rb b : Nat} (hb : b ≤ 1) (hr : rb = 1 - b) (x107 : A' 107 = fun i => if i = rb then 0 else A 107 i) (x108 : A' 108 = fun i => if i = rb then 0 else A 108 i) (x111 : A' 111 = fun i => if i = rb then 0 else A 111 i) (x112 : A' 112 = fun i => if i = rb then 50 else A 112 i) (x98 : A' 98 = A 98) (x99 : A' 99 = A 99) (x103 : A' 103 = A 103) (x104 : A' 104 = A 104) (hc : ∀ j : Nat, j < 64 → A' 106 (64 * rb + j) = -2) (ho : ∀ j : Nat, j < 64 → A' 106 (64 * b + j) = A 106 (64 * b + j)) : bkV A' rb ∧ bkE A A' b := by
  have hn : ¬ b = rb := by omega
  refine ⟨⟨fun j hj => ?_, fun j hj => ?_, fun j hj => by rw [hc j hj]; omega, by rw [x111]; simp, by rw [x112]; simp⟩, ⟨by rw [x107]; exact if_neg hn, by rw [x108]; exact if_neg hn, by rw [x111]; exact if_neg hn, by rw [x112]; exact if_neg hn⟩, fun j _ => by rw [x98, x99]; exact ⟨rfl, rfl⟩, fun j _ => by rw [x103, x104]; exact ⟨rfl, rfl⟩, ho⟩
  · rw [x107] at hj
    simp at hj
    omega
  · rw [x108] at hj
    simp at hj
    omega
/-- book, refused: the standing bank is as it was -/
theorem MI_bf {G' : Nat → Nat → Int} (h : MI G A) (hA : AQ A) (hb : 0 ≤ G 90 32 ∧ G 90 32 ≤ 1) (e : bkE A A' (G 90 32).toNat) (eG : ∀ a k, (a = 90 ∧ (k = 32 ∨ k = 38 ∨ k = 66 ∨ k = 53 ∨ k = 56 ∨ k = 57 ∨ k = 58 ∨ k = 59 ∨ k = 45)) → G' a k = G a k) (fa : ∀ a, (a = 115 ∨ a = 116 ∨ a = 122 ∨ a = 123 ∨ a = 124 ∨ a = 125 ∨ a = 126 ∨ a = 127 ∨ a = 128 ∨ a = 129 ∨ a = 132 ∨ a = 135) → A' a = A a) : MI G' A' := by
  have g1 := eG 90 32 (by decide)
  have g2 := eG 90 38 (by decide)
  have g3 := eG 90 66 (by decide)
  have e7 := e.1.1
  refine ⟨by rw [g1]; exact bkV_E hA e h.bk, ?_, ?_, ?_, fun hk => ?_⟩
  · have := h.ln
    unfold lnV at this ⊢
    rw [g2, fa 115 (by decide), fa 116 (by decide)]
    exact this
  · have := h.hd
    unfold hdV at this ⊢
    rw [g3, g1, fa 132 (by decide), e7]
    exact this
  · have := h.lt
    unfold ltV at this ⊢
    rw [g3, fa 127 (by decide), fa 132 (by decide), fa 135 (by decide)]
    exact this
  · rw [eG 90 53 (by decide)] at hk
    obtain ⟨a, b, c⟩ := h.kn hk
    refine ⟨by rw [eG 90 58 (by decide)]; exact a, ?_, ?_⟩
    · unfold rdV rdW at b ⊢
      rw [g2, g1, fa 122 (by decide), fa 125 (by decide), e7]
      exact b
    · have hpr : ∀ x y, 0 ≤ x → x < 8 → 0 ≤ y → y < 8 → prV A' (G 90 32) x y = prV A (G 90 32) x y := by
        intro x y x0 x1 y0 y1
        have := e.2.2.2 (8 * x + y).toNat (by omega)
        rw [show 64 * (G 90 32).toNat + (8 * x + y).toNat = (64 * G 90 32 + 8 * x + y).toNat from by omega] at this
        unfold prV prW
        rw [this]
      have hd : dpo G' A' = dpo G A := by
        have hp2 : (fun a c => prV A' (G 90 32) a c) = (fun a c => prV A (G 90 32) a c) := by
          funext x y
          by_cases c : 0 ≤ x ∧ x < 8 ∧ 0 ≤ y ∧ y < 8
          · exact hpr x y c.1 c.2.1 c.2.2.1 c.2.2.2
          · unfold prV
            rw [if_neg c, if_neg c]
        unfold dpo
        rw [g2, eG 90 56 (by decide), eG 90 45 (by decide), eG 90 58 (by decide), eG 90 59 (by decide), eG 90 57 (by decide), g1, fa 123 (by decide), fa 124 (by decide), fa 126 (by decide), fa 122 (by decide), fa 128 (by decide), fa 129 (by decide), hp2]
      rw [hd]
      exact c
theorem MI_bn {G' : Nat → Nat → Int} (hb : bkV A' (G' 90 32).toNat) (h38 : G' 90 38 = 0) (h66 : G' 90 66 = 0) (h53 : G' 90 53 = 0) (hl : ∀ j : Nat, (j : Int) < 80 → A' 127 j = 0) : MI G' A' := by
  refine ⟨hb, fun j hj => by omega, fun j hj => by omega, fun w hw => ?_, fun hk => by omega⟩
  rw [hl w (by omega), h66]
  rfl
end B28
theorem idiv2 {a : Int} (h : 0 ≤ a) (h1 : a < 2147483648) : Int32.ofInt a / Int32.ofInt 2 = Int32.ofInt (a / 2) := by
  rw [← Int32.toInt_inj, Int32.toInt_div, oI ⟨by omega, by omega⟩, oI (z := 2) ⟨by omega, by omega⟩, oI ⟨by omega, by omega⟩, Int.tdiv_eq_ediv_of_nonneg h]
  exact Int.bmod_eq_of_le (by omega) (by omega)
theorem irem2 {a : Int} (h : 0 ≤ a) (h1 : a < 2147483648) : Int32.ofInt a - Int32.ofInt a / Int32.ofInt 2 * Int32.ofInt 2 = Int32.ofInt (a % 2) := by
  rw [idiv2 h h1, oI_mul, oI_sub]
  congr 1
  omega
def byV (A : Nat → Nat → Int) (bk p r : Int) : Int := if p = 0 then 0 else prV A bk (A 123 (13 * (p - 1) + A 130 (p - 1).toNat).toNat) (A 123 r.toNat)
section B29
variable {G A A' : Nat → Nat → Int}
theorem dpo_130 (fa : ∀ a, ¬ a = 130 → A' a = A a) : dpo G A' = dpo G A := by
  unfold dpo prV prW
  rw [fa 123 (by decide), fa 124 (by decide), fa 126 (by decide), fa 122 (by decide), fa 106 (by decide), fa 128 (by decide), fa 129 (by decide)]
theorem KN_130 (fa : ∀ a, ¬ a = 130 → A' a = A a) (h : KN G A) : KN G A' := by
  unfold KN rdV rdW at h ⊢
  rw [dpo_130 fa, fa 122 (by decide), fa 125 (by decide), fa 107 (by decide)]
  exact h
/-- choose: what holds before place p is looked at -/
def chI (G A : Nat → Nat → Int) (p m cost : Int) : Prop := (p = 0 → m = 0 ∧ cost = 0) ∧ 0 ≤ m ∧ m ≤ 168 ∧ 0 ≤ cost ∧ cost ≤ 1000000 ∧ (0 < p → m ≤ G 90 56 ∧ A 130 (p - 1).toNat < A 122 (p - 1).toNat ∧ cost + (dpo G A).go (p - 1) (A 123 (13 * (p - 1) + A 130 (p - 1).toNat).toNat) (G 90 56 - m) = G 90 57)
def chB (G A : Nat → Nat → Int) (p m cost r : Int) : Prop := 0 ≤ G 90 56 - m - (dpo G A).M r ∧ G 90 56 - m - (dpo G A).M r < 169 ∧ cost + byV A (G 90 32) p r + A 124 r.toNat + (dpo G A).go p (A 123 r.toNat) (G 90 56 - m - (dpo G A).M r) = G 90 57
theorem ch_ex {p m cost : Int} (hA : AQ A) (hk : KN G A) (hb : G 90 57 < 1000000) (h0 : 0 ≤ p) (h1 : p < G 90 38) (h : chI G A p m cost) : ∃ r, 13 * p ≤ r ∧ r < 13 * p + A 122 p.toNat ∧ chB G A p m cost r := by
  obtain ⟨k1, k2, k3⟩ := hk
  obtain ⟨⟨t0, t1⟩, ha⟩ := DP.att k3 (show 0 < (dpo G A).n from by show 0 < G 90 38; omega) hb
  have t0' : 0 ≤ G 90 56 := t0
  have t1' : G 90 56 < 169 := t1
  obtain ⟨c1, c2, c3, c4, c5, c6⟩ := h
  by_cases e : p = 0
  · subst e
    obtain ⟨rfl, rfl⟩ := c1 rfl
    obtain ⟨r, m, hs, m0, mT, hle⟩ := ha (G 90 38 - 1).toNat 0 (by show (0 : Int) = G 90 38 - 1 - _; omega) (Int.le_refl _)
    have hs' := dpo_S hs
    have mT' : m ≤ G 90 56 := mT
    have hg := DP.go_nn k3.rg 0 ((dpo G A).K r) ((dpo G A).T - m)
    have hle' : (dpo G A).cm 0 r m + (dpo G A).go 0 ((dpo G A).K r) ((dpo G A).T - m) ≤ G 90 57 := hle
    have em : m = (dpo G A).M r ∧ (dpo G A).cm 0 r m = (dpo G A).C r := by
      unfold DP.cm at hle' ⊢
      by_cases c : m < (dpo G A).M r
      · rw [if_pos c] at hle'
        omega
      · rw [if_neg c, if_pos rfl] at hle' ⊢
        by_cases c' : m = (dpo G A).M r
        · rw [if_pos c']
          exact ⟨c', rfl⟩
        · rw [if_neg c'] at hle'
          omega
    have hge := DP.ge k3 t0 t1 (show 0 < (dpo G A).n from by show 0 < G 90 38; omega) (G 90 38 - 1).toNat 0 r m ((dpo G A).T - m) (by show (0 : Int) = G 90 38 - 1 - _; omega) (Int.le_refl _) hs m0 (by show 0 ≤ G 90 56 - m; omega) (by omega)
    have hge' : G 90 57 ≤ (dpo G A).cm 0 r m + (dpo G A).go 0 ((dpo G A).K r) ((dpo G A).T - m) := hge
    refine ⟨r, hs'.1, hs'.2.1, by omega, by omega, ?_⟩
    have hby : byV A (G 90 32) 0 r = 0 := if_pos rfl
    rw [hby, show G 90 56 - 0 - (dpo G A).M r = (dpo G A).T - m from by show _ = G 90 56 - m; omega]
    rw [em.2] at hle' hge'
    have eC : (dpo G A).C r = A 124 r.toNat := rfl
    have eK : (dpo G A).K r = A 123 r.toNat := rfl
    rw [eC, eK] at hle' hge'
    omega
  · obtain ⟨d1, d2, d3⟩ := c6 (by omega)
    have eg : (dpo G A).go (p - 1) (A 123 (13 * (p - 1) + A 130 (p - 1).toNat).toNat) (G 90 56 - m) = mnf (fun k' => (dpo G A).be (p - 1 + 1) k' (G 90 56 - m) + (dpo G A).pr (A 123 (13 * (p - 1) + A 130 (p - 1).toNat).toNat) k') 8 := by
      unfold DP.go
      rw [if_neg (by show ¬ p - 1 = G 90 38 - 1; omega)]
    rw [show p - 1 + 1 = p from by omega] at eg
    rcases mnf_at (fun k' => (dpo G A).be p k' (G 90 56 - m) + (dpo G A).pr (A 123 (13 * (p - 1) + A 130 (p - 1).toNat).toNat) k') 8 with e1 | ⟨k, hk8, e1⟩
    · omega
    · have hpr := k3.rg.pr (A 123 (13 * (p - 1) + A 130 (p - 1).toNat).toNat) k
      try dsimp only at e1
      rcases (k3.b p k (G 90 56 - m) h0 h1 (by omega) (by omega) (by omega) (by omega)).2 with e2 | ⟨r, hs, -, hk, hM, e2⟩
      · omega
      · have hs' := dpo_S hs
        have hM0 := dpo_M (G := G) hA r
        refine ⟨r, hs'.1, hs'.2.1, by omega, by omega, ?_⟩
        have hby : byV A (G 90 32) p r = (dpo G A).pr (A 123 (13 * (p - 1) + A 130 (p - 1).toNat).toNat) k := by
          unfold byV
          rw [if_neg e, ← hk]
          rfl
        have eC : (dpo G A).C r = A 124 r.toNat := rfl
        have eK : A 123 r.toNat = k := hk
        rw [hby, eK]
        rw [eC] at e2
        omega
theorem ch_st {p m cost r : Int} (hA : AQ A) (hA' : AQ A') (h : chI G A p m cost) (h0 : 0 ≤ p) (hr0 : 13 * p ≤ r) (hr : r < 13 * p + A 122 p.toNat) (hb : chB G A p m cost r) (hbk : G 90 57 ≤ 1000000) (ht : G 90 56 < 169) (x : A' 130 = fun i => if i = p.toNat then r - 13 * p else A 130 i) (fa : ∀ a, ¬ a = 130 → A' a = A a) : chI G A' (p + 1) (m + (dpo G A).M r) (cost + (byV A (G 90 32) p r + A 124 r.toNat)) := by
  obtain ⟨b1, b2, b3⟩ := hb
  obtain ⟨c1, c2, c3, c4, c5, c6⟩ := h
  have hM0 := dpo_M (G := G) hA r
  have hC := a_124 hA r.toNat
  have hby : 0 ≤ byV A (G 90 32) p r := by
    unfold byV
    by_cases e : p = 0
    · rw [if_pos e]
      omega
    · rw [if_neg e]
      exact (prV_nn hA _ _ _).1
  have hg := DP.go_nn (dpo_rg (G := G) hA) p (A 123 r.toNat) (G 90 56 - m - (dpo G A).M r)
  have e1 : p + 1 - 1 = p := by omega
  have e2 : A' 130 p.toNat = r - 13 * p := by rw [x]; exact if_pos rfl
  refine ⟨fun c => by omega, by omega, by omega, by omega, by omega, fun _ => ?_⟩
  rw [e1, e2, dpo_130 fa, fa 122 (by decide), fa 123 (by decide), show 13 * p + (r - 13 * p) = r from by omega, show G 90 56 - (m + (dpo G A).M r) = G 90 56 - m - (dpo G A).M r from by omega]
  exact ⟨by omega, by omega, by omega⟩
theorem tR (hk : KN G A) (hn : 0 < G 90 38) (hb : G 90 57 < 1000000) : 0 ≤ G 90 56 ∧ G 90 56 < 169 := (DP.att hk.2.2 hn hb).1
/-- at every place some reading is near the best -/
theorem nr_ex {p : Int} (h : (dpo G A).Ok) (hr : 1 ≤ A 122 p.toNat) (h0 : 0 ≤ p) (h1 : p < G 90 38) (hb : G 90 57 ≤ 1000000) : ∃ r, 0 ≤ r ∧ r < A 122 p.toNat ∧ (G 90 57 = 1000000 ∨ ((¬ p = G 90 58 ∨ 13 * p + r = 13 * p + G 90 59) ∧ ∃ m, 0 ≤ m ∧ m ≤ G 90 56 ∧ m < 169 ∧ G 90 56 - m < 169 ∧ (dpo G A).cm p (13 * p + r) m + (dpo G A).go p (A 123 (13 * p + r).toNat) (G 90 56 - m) ≤ G 90 57)) := by
  by_cases e : G 90 57 = 1000000
  · exact ⟨0, Int.le_refl _, by omega, .inl e⟩
  · obtain ⟨⟨t0, t1⟩, ha⟩ := DP.att h (show 0 < (dpo G A).n from by show 0 < G 90 38; omega) (show G 90 57 < 1000000 from by omega)
    have t0' : 0 ≤ G 90 56 := t0
    have t1' : G 90 56 < 169 := t1
    obtain ⟨r, m, hs, m0, mT, hle⟩ := ha (G 90 38 - 1 - p).toNat p (by show p = G 90 38 - 1 - _; omega) h0
    have hs' := dpo_S hs
    have mT' : m ≤ G 90 56 := mT
    have er : 13 * p + (r - 13 * p) = r := by omega
    refine ⟨r - 13 * p, by omega, by omega, .inr ⟨?_, m, m0, mT', by omega, by omega, ?_⟩⟩
    · rw [er]
      exact hs'.2.2
    · rw [er]
      exact hle
theorem ov_nn {r : Int} (hA : AQ A) (hk : KN G A) (hn : 0 < G 90 38) (hb : G 90 57 < 1000000) (h0 : 0 ≤ r) (hr : r < A 122 0) (hl : 0 ≤ G 90 56 - (dpo G A).M r) : G 90 57 ≤ A 124 r.toNat + (dpo G A).go 0 (A 123 r.toNat) (G 90 56 - (dpo G A).M r) := by
  have t := tR hk hn hb
  have hM0 := dpo_M (G := G) hA r
  have hge := DP.ge hk.2.2 t.1 t.2 hn (G 90 38 - 1).toNat 0 r ((dpo G A).M r) (G 90 56 - (dpo G A).M r) (by show (0 : Int) = G 90 38 - 1 - _; omega) (Int.le_refl _) ⟨by omega, by show r < 13 * 0 + A 122 0; omega, .inl (by rw [hk.1]; omega)⟩ hM0.1 hl (by show _ = G 90 56; omega)
  have ec : (dpo G A).cm 0 r ((dpo G A).M r) = A 124 r.toNat := by
    unfold DP.cm
    rw [if_neg (by omega), if_pos rfl, if_pos rfl]
    rfl
  rw [ec] at hge
  exact hge
theorem sp_more {p r kind m : Int} (hA : AQ A) (hk : KN G A) (hb : G 90 57 < 1000000) (h0 : 1 ≤ p) (h1 : p < G 90 38) (hr0 : 13 * p ≤ r) (hr : r < 13 * p + A 122 p.toNat) (k0 : 0 ≤ kind) (k1 : kind ≤ 7) (m0 : 0 ≤ m) (hl : 0 ≤ G 90 56 - (m + (dpo G A).M r)) : (dpo G A).go (p - 1) kind (G 90 56 - m) ≤ prV A (G 90 32) kind (A 123 r.toNat) + A 124 r.toNat + (dpo G A).go p (A 123 r.toNat) (G 90 56 - (m + (dpo G A).M r)) := by
  have t := tR hk (by omega) hb
  have hM0 := dpo_M (G := G) hA r
  have hK := a_123 hA r.toNat
  have hs : (dpo G A).S p r := ⟨hr0, hr, .inl (by rw [hk.1]; omega)⟩
  have eg : (dpo G A).go (p - 1) kind (G 90 56 - m) = mnf (fun k' => (dpo G A).be (p - 1 + 1) k' (G 90 56 - m) + (dpo G A).pr kind k') 8 := by
    unfold DP.go
    rw [if_neg (by show ¬ p - 1 = G 90 38 - 1; omega)]
  rw [show p - 1 + 1 = p from by omega] at eg
  have b := mnf_lb (fun k' => (dpo G A).be p k' (G 90 56 - m) + (dpo G A).pr kind k') 8 (A 123 r.toNat).toNat (by omega)
  have e3 : (((A 123 r.toNat).toNat : Nat) : Int) = A 123 r.toNat := by omega
  rw [e3] at b
  have b2 := (hk.2.2.b p (A 123 r.toNat) (G 90 56 - m) (by omega) h1 hK.1 (by omega) (by omega) (by omega)).1 r hs trivial rfl (by omega)
  rw [show G 90 56 - m - (dpo G A).M r = G 90 56 - (m + (dpo G A).M r) from by omega] at b2
  have eC : (dpo G A).C r = A 124 r.toNat := rfl
  have ep : (dpo G A).pr kind (A 123 r.toNat) = prV A (G 90 32) kind (A 123 r.toNat) := rfl
  rw [eC] at b2
  rw [ep] at b
  omega
end B29
section B30
variable {G A G' A' : Nat → Nat → Int}
theorem MI_st {w n : Int} (h : MI G A) (en : G 90 66 = n) (hw0 : 0 ≤ w) (hw1 : w < 80) (hw : w < A 107 (G 90 32).toNat) (hn : 0 ≤ n) (eG : ∀ a k, ¬ ((a = 90 ∧ k = 66) ∨ (a = 90 ∧ k = 53)) → G' a k = G a k) (h66 : G' 90 66 = n + 1) (h53 : G' 90 53 = 0) (x132 : A' 132 = fun i => if i = n.toNat then w else A 132 i) (x135 : A' 135 = fun i => if i = n.toNat then 0 else A 135 i) (x127 : A' 127 = fun i => if i = w.toNat then A 127 w.toNat + 1 else A 127 i) (fa : ∀ a, ¬ (a = 127 ∨ a = 132 ∨ a = 133 ∨ a = 134 ∨ a = 135) → A' a = A a) : MI G' A' := by
  have g1 := eG 90 32 (by decide)
  refine ⟨?_, ?_, fun j hj => ?_, fun v hv => ?_, fun hk => by omega⟩
  · have := h.bk
    unfold bkV at this ⊢
    rw [g1, fa 107 (by decide), fa 98 (by decide), fa 99 (by decide), fa 108 (by decide), fa 103 (by decide), fa 104 (by decide), fa 106 (by decide), fa 111 (by decide), fa 112 (by decide)]
    exact this
  · have := h.ln
    unfold lnV at this ⊢
    rw [eG 90 38 (by decide), fa 115 (by decide), fa 116 (by decide)]
    exact this
  · rw [h66] at hj
    rw [x132, g1, fa 107 (by decide)]
    show (if j = n.toNat then w else A 132 j) < _
    by_cases e : j = n.toNat
    · rw [if_pos e]
      exact hw
    · rw [if_neg e]
      exact h.hd j (by omega)
  · have hl := h.lt v hv
    rw [en] at hl
    rw [show (G' 90 66).toNat = n.toNat + 1 from by omega]
    unfold cnt
    rw [cnt_cg (W := A 132) (K := A 135) (W' := A' 132) (K' := A' 135) (w := (v : Int)) n.toNat (fun j hj => ⟨by rw [x132]; exact if_neg (by omega), by rw [x135]; exact if_neg (by omega)⟩), ← hl]
    have e1 : A' 135 n.toNat = 0 := by rw [x135]; exact if_pos rfl
    have e2 : A' 132 n.toNat = w := by rw [x132]; exact if_pos rfl
    rw [e1, e2, x127]
    show (if v = w.toNat then A 127 w.toNat + 1 else A 127 v) = _
    by_cases e : v = w.toNat
    · rw [if_pos e, if_pos ⟨rfl, by omega⟩, e]
    · rw [if_neg e, if_neg (by omega)]
      omega
theorem MI_tb {j : Int} (h : MI G A) (hA : AQ A) (hj0 : 0 ≤ j) (hj : j < G 90 66) (hk : A 135 j.toNat = 0) (eG : ∀ a k, ¬ (a = 90 ∧ k = 53) → G' a k = G a k) (h53 : G' 90 53 = 0) (x135 : A' 135 = fun i => if i = j.toNat then 1 else A 135 i) (x127 : A' 127 = fun i => if i = (A 132 j.toNat).toNat then A 127 (A 132 j.toNat).toNat - 1 else A 127 i) (fa : ∀ a, ¬ (a = 127 ∨ a = 135) → A' a = A a) : MI G' A' := by
  have g1 := eG 90 32 (by decide)
  have g3 := eG 90 66 (by decide)
  have r := a_132 hA j.toNat
  refine ⟨?_, ?_, ?_, fun v hv => ?_, fun hk => by omega⟩
  · have := h.bk
    unfold bkV at this ⊢
    rw [g1, fa 107 (by decide), fa 98 (by decide), fa 99 (by decide), fa 108 (by decide), fa 103 (by decide), fa 104 (by decide), fa 106 (by decide), fa 111 (by decide), fa 112 (by decide)]
    exact this
  · have := h.ln
    unfold lnV at this ⊢
    rw [eG 90 38 (by decide), fa 115 (by decide), fa 116 (by decide)]
    exact this
  · have := h.hd
    unfold hdV at this ⊢
    rw [g3, g1, fa 132 (by decide), fa 107 (by decide)]
    exact this
  · have hl := h.lt v hv
    have e1 : A' 135 j.toNat = 1 := by rw [x135]; exact if_pos rfl
    rw [g3, fa 132 (by decide), cnt_bk (W := A 132) (w := (v : Int)) hk e1 (fun i hi => by rw [x135]; exact if_neg hi) (G 90 66).toNat (by omega), ← hl, x127]
    show (if v = (A 132 j.toNat).toNat then A 127 (A 132 j.toNat).toNat - 1 else A 127 v) = _
    by_cases e : v = (A 132 j.toNat).toNat
    · rw [if_pos e, if_pos (by omega), e]
    · rw [if_neg e, if_neg (by omega)]
      omega
theorem lt_up {w : Int} (h : MI G A) (h0 : 0 ≤ w) (h1 : w < 80) (hn : 0 ≤ G 90 66) : 0 ≤ A 127 w.toNat ∧ A 127 w.toNat ≤ G 90 66 := by
  have hl := h.lt w.toNat (by omega)
  have := cnt_r (A 132) (A 135) ((w.toNat : Nat) : Int) (G 90 66).toNat
  omega
theorem lt_pos {j : Int} (h : MI G A) (hA : AQ A) (hj0 : 0 ≤ j) (hj : j < G 90 66) (hk : A 135 j.toNat = 0) : 1 ≤ A 127 (A 132 j.toNat).toNat := by
  have r := a_132 hA j.toNat
  have hl := h.lt (A 132 j.toNat).toNat (by omega)
  have hc := cnt_pos (W := A 132) hk (G 90 66).toNat (by omega)
  rw [show ((((A 132 j.toNat).toNat : Nat)) : Int) = A 132 j.toNat from by omega] at hl
  omega
end B30
