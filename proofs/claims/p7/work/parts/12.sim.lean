section SIM6
variable {p : Program} {l : Launch} {e : Env} {R : Room} {s : State} {m : MethodId} {args : Array Value} {below : List Frame} {meth : Method} {c : Code} {H : Heap} {locs : List Loc} {cells slots : Nat} {Q : State → Prop}
variable {base : Nat} {dC : Nat → ClassId} {dI : Nat → Nat → Nat} {dA : FieldType → ClassId} {aK aV : Nat → Nat} {b L : Nat} {xs : Nat → Int32} {n0 k0 mi : Nat}
variable {pc : Nat} {ls : Array Slot} {la : AL} {st : List Value} {h : AH}
theorem call_ne {k mj n : Nat} {v : Option Value} : ¬ a_call mi k mj n st h = some (.inr (.inl v)) := by
  intro hs
  unfold a_call at hs
  repeat' first | (cases hs; done) | split at hs
set_option maxHeartbeats 4000000 in
theorem a_st_ret {i : Instr} {r : AR} {v : Option Value} (hs : a_st L xs mi pc la st h i r = some (.inr (.inl v))) : (i = .ireturn ∧ ∃ x t, st = [.int x] ∧ m_r mi = some t ∧ narrow t (.int x) = .int x ∧ v = some (.int x)) ∨ (i = .lreturn ∧ ∃ x, st = [.long x] ∧ m_r mi = some .long ∧ v = some (.long x)) ∨ (i = .return_ ∧ st = [] ∧ m_r mi = none ∧ v = none) := by
  unfold a_st at hs
  split at hs
  case h_65 =>
    split at hs
    · rename_i x t ht
      split at hs
      · rename_i hn
        cases hs
        exact Or.inl ⟨rfl, _, _, rfl, ht, hn, rfl⟩
      · cases hs
    · cases hs
  case h_66 =>
    split at hs
    · rename_i hn
      cases hs
      exact Or.inr (Or.inl ⟨rfl, _, rfl, hn, rfl⟩)
    · cases hs
  case h_67 =>
    split at hs
    · rename_i hn
      cases hs
      exact Or.inr (Or.inr ⟨rfl, rfl, hn, rfl⟩)
    · cases hs
  all_goals (repeat' first | exact absurd hs nx_ne | exact absurd hs go_ne | exact absurd hs if_ne | exact absurd hs ic_ne | exact absurd hs nat_ne | exact absurd hs call_ne | (cases hs; done) | split at hs)
set_option maxHeartbeats 4000000 in
theorem a_st_mono {i : Instr} {r : AR} {pc' : Nat} {la' : AL} {st' : List Value} {h' : AH} (hs : a_st L xs mi pc la st h i r = some (.inl (pc', la', st', h'))) : h.1 ≤ h'.1 ∧ h.2.1 ≤ h'.2.1 := by
  have nx1 : ∀ {a b : Nat} {la1 la2 : AL} {st1 st2 : List Value} {h1 h2 : AH}, a_nx a la1 st1 h1 = some (.inl (b, la2, st2, h2)) → h2 = h1 := fun z => (w_nx z).2.2.2
  have br1 : ∀ {q : Prop} [Decidable q] {a b : Nat} {o : Int} {la1 la2 : AL} {st1 st2 : List Value} {h1 h2 : AH}, a_br q a o la1 st1 h1 = some (.inl (b, la2, st2, h2)) → h2 = h1 := fun z => (w_br z).1.2.2
  have same : ∀ {h1 : AH}, h1 = h → h.1 ≤ h1.1 ∧ h.2.1 ≤ h1.2.1 := fun z => by rw [z]; exact ⟨Nat.le_refl _, Nat.le_refl _⟩
  have sv1 : ∀ {a : Nat} {t : FieldType} {j x : Int32} {h1 h2 : AH}, a_sv h a t j x = some h1 → h2 = h1 → h.1 ≤ h2.1 ∧ h.2.1 ≤ h2.2.1 := fun z y => by
    obtain ⟨_, _, _, _, _, rfl⟩ := a_sv_spec z
    rw [y]
    exact ⟨Nat.le_refl _, Nat.le_refl _⟩
  unfold a_st a_if a_ic a_nat at hs
  split at hs
  all_goals (repeat' first | exact same (nx1 hs) | exact same (w_go hs).2.2.2 | exact same (br1 hs) | exact sv1 (by assumption) (nx1 hs) | (rw [nx1 hs]; exact ⟨Nat.le_refl _, Nat.le_refl _⟩) | (rw [nx1 hs]; exact ⟨Nat.le_succ _, Nat.le_add_right _ _⟩) | exact absurd hs sm_nc | (cases hs; done) | split at hs)
theorem a_run_mono : ∀ (f : Nat) {mi pc : Nat} {la : AL} {st : List Value} {h : AH} {r : Option Value} {h' : AH}, a_run L xs f mi pc la st h = some (r, h') → h.1 ≤ h'.1 ∧ h.2.1 ≤ h'.2.1
  | 0, _, _, _, _, _, _, _, z => by cases z
  | f + 1, mi, pc, la, st, h, r, h', z => by
    unfold a_run at z
    split at z
    · cases z
    · split at z
      · cases z
      · rename_i hs
        have h1 := a_st_mono hs
        have h2 := a_run_mono f z
        exact ⟨Nat.le_trans h1.1 h2.1, Nat.le_trans h1.2 h2.2⟩
      · cases z
        exact ⟨Nat.le_refl _, Nat.le_refl _⟩
      · split at z
        · cases z
        · rename_i hc
          have h1 := a_run_mono f hc
          have h2 := a_run_mono f z
          exact ⟨Nat.le_trans h1.1 h2.1, Nat.le_trans h1.2 h2.2⟩
theorem call_ok {i : Instr} {r : AR} (hi : a_ins mi pc = some (i, r)) {mj : Nat} {as rest : List Value} (hs : a_st L xs mi pc la st h i r = some (.inr (.inr (mj, as, rest)))) : (0 < mj ∧ mj < 224) ∧ a_sum as ≤ m_l mj := by
  obtain ⟨nd, hd, hn, hres⟩ := a_ins_spec hi
  obtain ⟨hcall, hk⟩ := a_st_call hs
  obtain ⟨k, mj', n⟩ := r
  dsimp only at hcall hk
  have h1 : mj' = mj ∧ a_sum as ≤ m_l mj := by
    unfold a_call at hcall
    split at hcall
    · split at hcall
      · rename_i hc
        cases hcall
        exact ⟨rfl, hc.2.2.2⟩
      · cases hcall
    · split at hcall
      · split at hcall
        · split at hcall
          · split at hcall
            · rename_i hc
              cases hcall
              exact ⟨rfl, hc.2.2.2.2⟩
            · cases hcall
          · cases hcall
        · split at hcall
          · rename_i hc
            cases hcall
            exact ⟨rfl, hc.2.2.2.2⟩
          · cases hcall
        · cases hcall
      · split at hcall
        · split at hcall
          · rename_i hc
            cases hcall
            exact ⟨rfl, hc.2.2.2⟩
          · cases hcall
        · cases hcall
  obtain ⟨rfl, h2⟩ := h1
  refine ⟨?_, h2⟩
  rcases hk with ⟨x, rfl, rfl⟩ | ⟨x, rfl, rfl⟩ | ⟨x, rfl, rfl | rfl⟩ <;>
  · obtain ⟨⟨p1, p2, p3⟩, hq⟩ := sm_kl hres
    unfold k_ok at hq
    simp only [Bool.and_eq_true, decide_eq_true_eq] at hq
    first | exact hq.1.1.1.1 | exact hq.1.1.1 | exact hq.1.1.1.1.1
theorem sm_ret (C : w_C p R s m args meth c base dC dI dA aK aV b L xs n0 mi) {i : Instr} {r : AR} (hi : a_ins mi pc = some (i, r)) {v : Option Value} (hs : a_st L xs mi pc la st h i r = some (.inr (.inl v))) (hw : w_S s base dC dI dA aK b n0 k0 h H locs cells slots) : w_W p l e R s m args below meth c base aK b (MQ below (w_Q base dC dI dA aK b v h) args s cells slots (fun q => base ≤ q)) H locs cells slots pc ls st := by
  obtain ⟨hx, hb, hml, hown, hts, hr, hlk, hnm, hK, hN, hZ, hV, hX, hbb, hz0, hav, hz1, hz2, hRf, hRl⟩ := C
  obtain ⟨nd, hd, hn, hres⟩ := a_ins_spec hi
  obtain ⟨hP, hS, hc, hsl⟩ := hw
  rcases a_st_ret hs with ⟨rfl, x, t, rfl, ht, hnar, rfl⟩ | ⟨rfl, x, rfl, ht, rfl⟩ | ⟨rfl, rfl, ht, rfl⟩
  · obtain rfl := w_len 0 hn rfl
    exact W.zret hx hb (hr.trans ht) hnar (fun t0 ht0 _ => ⟨rfl, by rw [ht0]; exact hP, hS.F ht0⟩) hS.2.2 hd hlk
  · obtain rfl := w_len 0 hn rfl
    exact W.lret hx hb (hr.trans ht) (fun t0 ht0 _ => ⟨rfl, by rw [ht0]; exact hP, hS.F ht0⟩) hS.2.2 hd hlk
  · obtain rfl := w_len 0 hn rfl
    exact W.vret hx hb (hr.trans ht) (fun t0 ht0 _ => ⟨rfl, by rw [ht0]; exact hP, hS.F ht0⟩) hS.2.2 hd hlk
theorem sl_len (as : List Value) : (lg_sl as).length = a_sum as := by
  induction as with
  | nil => rfl
  | cons v as ih =>
    unfold lg_sl a_sum at ih ⊢
    rw [List.flatMap_cons, List.length_append, ih, List.map_cons, List.sum_cons]
    congr 1
    cases v <;> rfl
end SIM6
/-- what the simulation says of fuel f -/
def w_Sim (L : Nat) (xs : Nat → Int32) (f : Nat) : Prop := ∀ ⦃p : Program⦄ ⦃l : Launch⦄ ⦃e : Env⦄ ⦃R : Room⦄ ⦃s : State⦄ ⦃m : MethodId⦄ ⦃args : Array Value⦄ ⦃below : List Frame⦄ ⦃meth : Method⦄ ⦃c : Code⦄ ⦃H : Heap⦄ ⦃locs : List Loc⦄ ⦃cells slots : Nat⦄ ⦃Q : State → Prop⦄ ⦃base : Nat⦄ ⦃dC : Nat → ClassId⦄ ⦃dI : Nat → Nat → Nat⦄ ⦃dA : FieldType → ClassId⦄ ⦃aK aV : Nat → Nat⦄ ⦃b n0 k0 mi pc : Nat⦄ ⦃ls : Array Slot⦄ ⦃la : AL⦄ ⦃st : List Value⦄ ⦃h h' : AH⦄ ⦃r : Option Value⦄,
  a_run L xs f mi pc la st h = some (r, h') → w_C p R s m args meth c base dC dI dA aK aV b L xs n0 mi → lv_has ls (m_l mi) (c_l base aK b la) → w_S s base dC dI dA aK b n0 k0 h H locs cells slots → h'.1 ≤ n0 + R.cells → h'.2.1 ≤ k0 + R.slots →
  (∀ (H' : Heap) (locs' : List Loc) (cells' slots' : Nat) (pc' : Nat) (ls' : Array Slot) (la' : AL) (st' : List Value) (i : Instr) (ri : AR), a_ins mi pc' = some (i, ri) → a_st L xs mi pc' la' st' h' i ri = some (.inr (.inl r)) → w_S s base dC dI dA aK b n0 k0 h' H' locs' cells' slots' → w_W p l e R s m args below meth c base aK b Q H' locs' cells' slots' pc' ls' st') →
  w_W p l e R s m args below meth c base aK b Q H locs cells slots pc ls st
theorem sim_met {L : Nat} {xs : Nat → Int32} {f : Nat} (ih : w_Sim L xs f) {l : Launch} {base : Nat} {dC : Nat → ClassId} {dI : Nat → Nat → Nat} {dA : FieldType → ClassId} {aK aV : Nat → Nat} {b mj : Nat} {as : List Value} {h h' : AH} {r : Option Value} (h0 : 0 < mj ∧ mj < 224) (hsum : a_sum as ≤ m_l mj) (hrun : a_run L xs f mj 0 (lv_args 0 as) [] h = some (r, h')) : w_Met l base dC dI dA aK aV b L xs mj as h r h' := by
  have hm := m_is h0.1 h0.2
  unfold m_ok at hm
  simp only [Bool.and_eq_true, decide_eq_true_eq] at hm
  have hmo := a_run_mono f hrun
  refine Met.ofW (cc := m_b mj) (maxL := m_l mj) (ret := m_r mj) hm.1.1.2 rfl ?_
  intro p e s m args below meth c s₁ B hml hv
  obtain ⟨rfl, q1, q2, q3, q4, q5, q6, q7, q8, q9, q10, q11⟩ := hv
  have hown : s.vm.findClass (o_N.getD (m_o mj) "") = some m.cls := by rw [hm.1.1.1.2]; exact findClass_of_methodNamed B.named
  have hl := lv_entry (as.map (c_v base aK b)) (n := m_l mj) (by rw [sl_len]; unfold a_sum; rw [c_sum]; exact hsum)
  rw [lg_entry_eq]
  generalize (lg_sl (as.map (c_v base aK b)) ++ List.replicate (m_l mj - (lg_sl (as.map (c_v base aK b))).length) Slot.unset).toArray = ls at hl ⊢
  rw [c_args] at hl
  have C0 : w_C p (headSpec (w_m mj) { frames := m_f mj, cells := h'.1 - h.1, slots := h'.2.1 - h.2.1, locals := m_w mj }).room s m (as.map (c_v base aK b)).toArray meth c base dC dI dA aK aV b L xs h.1 mj :=
    ⟨B.exec, B.bytes, hml, hown, fun w hw => atoms_spec (ws := w_m mj) B.pre w (List.mem_cons_of_mem _ hw), B.returns, B.notSynchronized, fun z => (name_of_methodNamed B.named B.method).1.trans z, q3, q4, q5, q6, q7, q8, q1, q9, q10, q11, Nat.le_refl _, Nat.le_refl _⟩
  refine ih (st := []) (n0 := h.1) (k0 := h.2.1) hrun C0 hl ⟨q2, va_S.rf, Nat.add_zero _, Nat.add_zero _⟩ ?_ ?_ ?_
  · show h'.1 ≤ h.1 + (h'.1 - h.1)
    omega
  · show h'.2.1 ≤ h.2.1 + (h'.2.1 - h.2.1)
    omega
  · intro H' locs' cells' slots' pc' ls' la' st' i ri hi hs hw
    have e1 : h'.1 - h.1 = cells' := by have := hw.2.2.1; omega
    have e2 : h'.2.1 - h.2.1 = slots' := by have := hw.2.2.2; omega
    have h9 := sm_ret (below := below) (l := l) (e := e) (ls := ls') C0 hi hs hw
    rw [← e1, ← e2] at h9 ⊢
    exact h9
theorem sim (L : Nat) (xs : Nat → Int32) : ∀ f : Nat, w_Sim L xs f
  | 0 => by
    intro p l e R s m args below meth c H locs cells slots Q base dC dI dA aK aV b n0 k0 mi pc ls la st h h' r hrun
    cases hrun
  | f + 1 => by
    have ih := sim L xs f
    intro p l e R s m args below meth c H locs cells slots Q base dC dI dA aK aV b n0 k0 mi pc ls la st h h' r hrun C hl hw hRc hRs hret
    unfold a_run at hrun
    split at hrun
    · cases hrun
    · rename_i i ri hi
      split at hrun
      · cases hrun
      · rename_i pc1 la1 st1 h1 hs
        have hmo := a_run_mono f hrun
        exact sm_nx C hi hs hl hw (Nat.le_trans hmo.1 hRc) (Nat.le_trans hmo.2 hRs) (fun H1 locs1 cells1 slots1 ls1 hl1 hw1 => ih hrun C hl1 hw1 hRc hRs hret)
      · rename_i v hs
        cases hrun
        exact hret H locs cells slots pc ls la st i ri hi hs hw
      · rename_i mj as rest hs
        split at hrun
        · cases hrun
        · rename_i v h1 hc
          have hok := call_ok hi hs
          have hm1 := a_run_mono f hc
          have hm2 := a_run_mono f hrun
          exact sm_call C hi hs hl hw (sim_met ih hok.1 hok.2 hc) hm1 (Nat.le_trans hm2.1 hRc) (Nat.le_trans hm2.2 hRs) (fun H1 locs1 cells1 slots1 hw1 => ih hrun C hl hw1 hRc hRs hret)
