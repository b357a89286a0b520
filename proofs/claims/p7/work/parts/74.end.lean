theorem HP_nil (F : Nat → Nat → Value) (G A : Nat → Nat → Int) (B : Nat → Nat → Int64) : HP [] F G A B = e_H := by
  refine Prod.ext rfl (Prod.ext rfl (funext fun a => ?_))
  show (match ([] : List LK)[a]? with | some k => hcl k (F a) (G a) (A a) (B a) | none => .inr (0, [])) = .inr (0, [])
  rw [List.getElem?_nil]
theorem KH_0 (m k : Nat) : e_H = KH 0 m k := (HP_nil _ _ _ _).symm
theorem KH_all : KH 136 0 0 = HP ly0 (fl LF) (gx LG) (fun _ _ => 0) (fun _ _ => 0) := by
  show HP (ly0.take 136) (fl (LF.drop 0)) (gx (LG.drop 0)) _ _ = _
  rw [List.take_of_length_le (by rw [show ly0.length = 136 from by decide +kernel]; exact Nat.le_refl _), List.drop_zero, List.drop_zero]
theorem gr_z : gr0.all (fun e => decide (e.2.1 ≤ 0) && decide (0 ≤ e.2.2)) = true := by decide +kernel
theorem ar_z : ar0.all (fun e => decide (e.2.1 ≤ 0) && decide (0 ≤ e.2.2)) = true := by decide +kernel
theorem GO_0 : GO (fun _ _ => 0) := by
  intro a k
  have h := List.all_eq_true.mp gr_z
  unfold grn
  split
  · rename_i e he
    have := h e (List.mem_of_find?_eq_some he)
    simp only [Bool.and_eq_true, decide_eq_true_eq] at this
    exact this
  · exact ⟨by show (-2147483648 : Int) ≤ 0; omega, by show (0 : Int) ≤ 2147483647; omega⟩
theorem AQ_0 : AQ (fun _ _ => 0) := by
  intro a k
  have h := List.all_eq_true.mp ar_z
  unfold arn
  split
  · rename_i e he
    have := h e (List.mem_of_find?_eq_some he)
    simp only [Bool.and_eq_true, decide_eq_true_eq] at this
    exact this
  · exact ⟨by show (-2147483648 : Int) ≤ 0; omega, by show (0 : Int) ≤ 2147483647; omega⟩
theorem GO_l : ∀ l : List (Nat × Nat × Int), (∀ e ∈ l, (grn e.1 e.2.1).1 ≤ e.2.2 ∧ e.2.2 ≤ (grn e.1 e.2.1).2) → GO (gx l)
  | [], _ => GO_0
  | e :: l, h => (GO_l l (fun x hx => h x (List.mem_cons_of_mem _ hx))).up (h e List.mem_cons_self).1 (h e List.mem_cons_self).2
theorem LG_ok : LG.all (fun e => decide ((grn e.1 e.2.1).1 ≤ e.2.2) && decide (e.2.2 ≤ (grn e.1 e.2.1).2)) = true := by decide +kernel
theorem GO_s : GO (gx LG) := by
  refine GO_l LG (fun e he => ?_)
  have := List.all_eq_true.mp LG_ok e he
  simp only [Bool.and_eq_true, decide_eq_true_eq] at this
  exact this
theorem rf_ok : rf0.all (fun e => decide (fl LF e.1 e.2.1 = .ref e.2.2)) = true := by decide +kernel
theorem Rf_s : RfOk (fl LF) := by
  refine ⟨fun a k b h => ?_, 0, by decide +kernel⟩
  unfold rfn at h
  rw [Option.map_eq_some_iff] at h
  obtain ⟨e, he, rfl⟩ := h
  have h1 := List.find?_some he
  have h2 := List.all_eq_true.mp rf_ok e (List.mem_of_find?_eq_some he)
  simp only [Bool.and_eq_true, beq_iff_eq] at h1
  simp only [decide_eq_true_eq] at h2
  rw [← h1.1, ← h1.2]
  exact h2
section S74
variable {A : Nat → Nat → Int}
theorem MI_s (fa : ∀ a, ¬ (a = 106 ∨ a = 112) → A a = fun _ => 0) (h6 : ∀ i, A 106 i ≤ 99) (h2 : A 112 = fun i => if i = (0 : Int).toNat then 50 else 0) : MI (gx LG) A := by
  have g32 : gx LG 90 32 = 0 := by decide +kernel
  have g38 : gx LG 90 38 = 0 := by decide +kernel
  have g66 : gx LG 90 66 = 0 := by decide +kernel
  have g53 : gx LG 90 53 = 0 := by decide +kernel
  refine ⟨?_, fun j hj => by rw [g38] at hj; omega, fun j hj => by rw [g66] at hj; omega, fun w hw => by rw [g66, fa 127 (by decide)]; rfl, fun h => by rw [g53] at h; omega⟩
  rw [g32]
  refine ⟨fun j hj => ?_, fun j hj => ?_, fun j _ => h6 _, ?_, ?_⟩
  · rw [fa 107 (by decide)] at hj
    dsimp only at hj
    omega
  · rw [fa 108 (by decide)] at hj
    dsimp only at hj
    omega
  · rw [fa 111 (by decide)]
    show (0 : Int) ≤ 7
    omega
  · rw [h2]
    show (if Int.toNat 0 = (0 : Int).toNat then (50 : Int) else 0) ≤ 99
    rw [if_pos rfl]
    omega
theorem CI_s (fa : ∀ a, ¬ (a = 106 ∨ a = 112) → A a = fun _ => 0) : CI (fl LF) (gx LG) A := by
  have g5 : gx LG 80 5 = 0 := by decide +kernel
  have g3 : gx LG 27 3 = 0 := by decide +kernel
  have g2 : gx LG 62 2 = 0 := by decide +kernel
  have g8 : gx LG 31 8 = 0 := by decide +kernel
  have g6 : gx LG 2 6 = 3 := by decide +kernel
  have g10 : gx LG 42 10 = 0 := by decide +kernel
  have z : ∀ q, ¬ (q = 106 ∨ q = 112) → PC A q := fun q hq i _ => .inl (by rw [fa q hq]; show (0 : Int) ≤ 99; omega)
  refine ⟨61, 3, 80, 85, ⟨⟨by omega, rfl⟩, ⟨by omega, rfl⟩, ⟨by decide +kernel, by decide +kernel⟩, ⟨by decide +kernel, by decide +kernel⟩, ⟨52, by decide +kernel, .inr (.inr rfl)⟩, ⟨z 20 (by decide), z 78 (by decide), z 52 (by decide)⟩, fun i hi => .inl ?_, fun j hj => by rw [g5] at hj; omega, fun j hj => by rw [g3] at hj; omega, fun w hw => by have e : gx LG (61 + 1) 2 = 0 := g2; rw [e] at hw; omega, fun h => by rw [g6] at h; omega⟩, by decide +kernel, fun h => by rw [g10] at h; omega, fun p hp => by rw [g8] at hp; omega⟩
  rw [fa 54 (by decide)]
  show (0 : Int) ≤ 198 * (13 - ((i / 680 : Nat) : Int))
  omega
end S74
theorem ty_s : tyV ly0 (fl LF) := .inl ⟨rfl, by decide +kernel, by decide +kernel⟩
theorem ly_sz : (ly0.length ≤ 600000 ∧ (ly0.map lkn).sum ≤ 7302250) ∧ (ly1.length ≤ 600000 ∧ (ly1.map lkn).sum ≤ 7302250) := by decide +kernel
/-- the run of the law, from its entry -/
theorem law_run {L : Nat} {xs : Nat → Int32} (hL : L ≤ 3072) : Re L xs 0 0 e_L [] e_H (fun r h' => r = some (.int 1) ∧ h'.1 ≤ 600000 ∧ h'.2.1 ≤ 7302250) := by
  rw [KH_0 140 48]
  show Re L xs 0 0 [(0, .float 1000)] [] (KH 0 140 48) _
  refine k_start ?_
  rw [KH_all]
  refine c_132b ly0_ok Rf_s GO_s AQ_0 (fun i => by show (0 : Int) ≤ 99; omega) (fun A1 hA1 fa p0 p1 => ?_)
  show Re L xs 0 15 [(0, .float 1000), (1, .ref 0)] [.ref 90] (HP ly0 (fl LF) (gx LG) A1 (fun _ _ => 0)) _
  refine r_astore_n (l' := [(0, .float 1000), (1, .ref 0), (2, .ref 90)]) i_0_15 (by decide +kernel) rfl ?_
  refine r_iconst i_0_16 ?_
  refine r_istore_n (l' := [(0, .float 1000), (1, .ref 0), (2, .ref 90), (3, V 0)]) i_0_17 (by decide +kernel) rfl ?_
  refine c_law (i := 0) ly0_ok Rf_s GO_s hA1 hL (by omega) (MI_s fa p0 p1) (CI_s fa) ty_s (fun r ly' F' G' A' B' hly' hF' hG' hA' hr hty' => ?_)
  subst hr
  refine ⟨rfl, ?_⟩
  rcases hty' with ⟨rfl, -⟩ | ⟨rfl, -⟩
  · exact ly_sz.1
  · exact ly_sz.2
theorem whole_start {p : Program} {e : Env} {s : State} {m : MethodId} {below : List Frame} {meth : Method} {c : Code} (l : Launch) {b L : Nat} {xs : Nat → Int32} (hL : L ≤ 3072) (C0 : lw_At p s m meth c b L xs) : W p l e room_1 s m #[Value.ref b] below meth c s.heap [] 0 0 (lw_Z below #[Value.ref b] s) (entryFrame m ([Value.ref b] : List Value).toArray 4) := by
  obtain ⟨f, r, h', h1, rfl, h2, h3⟩ := law_run (L := L) (xs := xs) hL
  exact law_of l C0 h1 h2 h3
