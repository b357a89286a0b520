section SIM5
variable {p : Program} {l : Launch} {e : Env} {R : Room} {s : State} {m : MethodId} {args : Array Value} {below : List Frame} {meth : Method} {c : Code} {H : Heap} {locs : List Loc} {cells slots : Nat} {Q : State → Prop}
variable {base : Nat} {dC : Nat → ClassId} {dI : Nat → Nat → Nat} {dA : FieldType → ClassId} {aK aV : Nat → Nat} {b L : Nat} {xs : Nat → Int32} {n0 k0 mi : Nat}
variable {pc : Nat} {ls : Array Slot} {la : AL} {st : List Value} {h : AH}
/-- the words that method mi's contract asks for -/
def w_m (mi : Nat) : List Cond := .code (m_y mi) (m_b mi) (m_l mi) (m_r mi) :: t_b
/-- a state from which method mi may begin: its world -/
def w_P (base : Nat) (dC : Nat → ClassId) (dI : Nat → Nat → Nat) (dA : FieldType → ClassId) (aK aV : Nat → Nat) (b L : Nat) (xs : Nat → Int32) (h : AH) (U : State) : Prop :=
  U.heap.size = base + h.1 ∧ va_P (dC, dI) a_cls (a_w base aK b dA h.1 h.2.2) U.heap ∧ va_K (dC, dI) a_cls (a_ty dA) U ∧ (∀ w ∈ w_N, va_Nw w U) ∧ (∀ i, i < 9 → vk_R (s_O i).1 (s_O i).2.1 (s_O i).2.2 (aK i) U) ∧ vk_S 9 s_L s_B aK aV (fun q => base ≤ q) U U.heap ∧ va_X b L xs U U.heap ∧ b < base ∧ (∀ i, i < 9 → aV i = aK (2000 + i)) ∧ va_Z "java/lang/String" "COMPACT_STRINGS" "Z" (.int 1) (fun q => base ≤ q) U U.heap ∧ va_Z "jdk/internal/util/Preconditions" "SIOOBE_FORMATTER" "Ljava/util/function/BiFunction;" (c_v base aK b (.float 3000)) (fun q => base ≤ q) U U.heap
def w_Pc (base : Nat) (dC : Nat → ClassId) (dI : Nat → Nat → Nat) (dA : FieldType → ClassId) (aK aV : Nat → Nat) (b L : Nat) (xs : Nat → Int32) (as : List Value) (h : AH) : Array Value → State → Prop := va_Pc (as.map (c_v base aK b)) (w_P base dC dI dA aK aV b L xs h)
def w_Q (base : Nat) (dC : Nat → ClassId) (dI : Nat → Nat → Nat) (dA : FieldType → ClassId) (aK : Nat → Nat) (b : Nat) (r : Option Value) (h' : AH) : Array Value → State → Outcome → State → Prop := fun _ st o t =>
  o = .returned (r.map (c_v base aK b)) ∧ va_P (dC, dI) a_cls (a_w base aK b dA h'.1 h'.2.2) t.heap ∧ va_F (fun q => base ≤ q) st t
/-- method mi does what the abstract machine's run from h with arguments as says: answer r, cells h' -/
def w_Met (l : Launch) (base : Nat) (dC : Nat → ClassId) (dI : Nat → Nat → Nat) (dA : FieldType → ClassId) (aK aV : Nat → Nat) (b L : Nat) (xs : Nat → Int32) (mi : Nat) (as : List Value) (h : AH) (r : Option Value) (h' : AH) : Prop :=
  Met l (m_y mi) (w_m mi) { frames := m_f mi, cells := h'.1 - h.1, slots := h'.2.1 - h.2.1, locals := m_w mi } (w_Pc base dC dI dA aK aV b L xs as h) (w_Q base dC dI dA aK b r h') (h'.1 - h.1) (h'.2.1 - h.2.1) (fun q => base ≤ q)
theorem w_nN {w : Cond} {u U : State} (hw : w ∈ w_N) (hW : u.WarmedH U.vm) (h : va_Nw w u) : va_Nw w U := by
  simp only [w_N, List.mem_cons, List.not_mem_nil, or_false] at hw
  rcases hw with rfl | rfl | rfl | rfl | rfl | rfl <;> exact va_Nw.warmM hW h
theorem w_nS {w : Cond} {u U : State} (hw : w ∈ w_N) (hW : u.vm = U.vm) (h : va_Nw w u) : va_Nw w U := by
  simp only [w_N, List.mem_cons, List.not_mem_nil, or_false] at hw
  rcases hw with rfl | rfl | rfl | rfl | rfl | rfl <;> exact va_Nw.same rfl hW h
/-- the world of a callee, at any state that is as warm -/
theorem w_Pw (C : w_C p R s m args meth c base dC dI dA aK aV b L xs n0 mi) (hw : w_S s base dC dI dA aK b n0 k0 h H locs cells slots) (hz : H.size ≤ s.heap.size + cells) (U : State) (hU : U.heap = H) (hW : s.WarmedH U.vm) : w_P base dC dI dA aK aV b L xs h U := by
  obtain ⟨hx, hb, hml, hown, hts, hr, hlk, hnm, hK, hN, hZ, hV, hX, hbb, hz0, hav, hz1, hz2, hRf, hRl⟩ := C
  obtain ⟨hP, hS, hc, hsl⟩ := hw
  have hlo := w_lo hP hS (by omega)
  refine ⟨by rw [hU]; omega, by rw [hU]; exact hP, va_K.moved hW.alike hK, fun w hw => w_nN hw hW (hN w hw), fun i hi => vk_R.warm hW (hZ i hi), ?_, ?_, hbb, hav, ?_, ?_⟩
  · rw [hU]
    exact (hV.moved hW.alike).kept hS.2.1
  · rw [hU]
    exact (hX.moved hW.alike).kept (hS.2.1 b (by omega) (Nat.not_le.mpr hbb))
  · rw [hU]
    exact (hz1.moved hW.alike).kept hS.2.1
  · rw [hU]
    exact (hz2.moved hW.alike).kept hS.2.1
theorem w_blind (as : List Value) : FrameBlind (w_Pc base dC dI dA aK aV b L xs as h) := by
  intro a U g mk q
  obtain ⟨q0, q1, q2, q3, q4, q5, q6, q7, q8, q9, q10, q11⟩ := q
  refine ⟨q0, q1, q2, va_K.moved (u := U) (U := U.calling g mk a) (Vm.Alike.refl U.vm) q3, fun w hw => w_nS (u := U) hw rfl (q4 w hw), fun i hi => vk_R.same (u := U) rfl (q5 i hi), vk_S.moved (u := U) (U := U.calling g mk a) (Vm.Alike.refl U.vm) q6, va_X.moved (u := U) (U := U.calling g mk a) (Vm.Alike.refl U.vm) q7, q8, q9, va_Z.moved (u := U) (U := U.calling g mk a) (Vm.Alike.refl U.vm) q10, va_Z.moved (u := U) (U := U.calling g mk a) (Vm.Alike.refl U.vm) q11⟩
/-- behind a call -/
theorem w_after {mj : Nat} {as rest : List Value} {r : Option Value} {h' : AH} (hw : w_S s base dC dI dA aK b n0 k0 h H locs cells slots) (hm : h.1 ≤ h'.1 ∧ h.2.1 ≤ h'.2.1)
    (hr : va_Run p l e R s m args below meth c H locs cells slots (h'.1 - h.1) (h'.2.1 - h.2.1) (F0 m pc ls (st.map (c_v base aK b))) (rest.map (c_v base aK b)) (w_Q base dC dI dA aK b r h' as.toArray) (fun q => base ≤ q))
    (kk : ∀ (H' : Heap) (locs' : List Loc) (cells' slots' : Nat), w_S s base dC dI dA aK b n0 k0 h' H' locs' cells' slots' → w_W p l e R s m args below meth c base aK b Q H' locs' cells' slots' (pc + 3) ls (r.toList ++ rest)) : w_W p l e R s m args below meth c base aK b Q H locs cells slots pc ls st := by
  obtain ⟨hP, hS, hc, hsl⟩ := hw
  intro T hT X
  obtain ⟨v, st₀, t, T', LL, h0, X', hL, e1, e2, ⟨hv, hP1, hz, hk⟩, stp⟩ := hr T hT X
  have hv : v = r.map (c_v base aK b) := by cases hv; rfl
  subst hv
  rw [h0] at hz hk
  have kk2 := kk T'.heap (locs ++ LL) (cells + (h'.1 - h.1)) (slots + (h'.2.1 - h.2.1)) ⟨by rw [e1]; exact hP1, ⟨Nat.le_trans hS.1 (by rw [e1]; exact hz), fun q h1 h2 => by rw [e1, hk q (Nat.lt_of_lt_of_le h1 hS.1) h2]; exact hS.2.1 q h1 h2, fun q hq => by
      rcases List.mem_append.mp hq with h | h
      · exact hS.2.2 q h
      · exact hL q h⟩, by omega, by omega⟩
  obtain ⟨t2, a1, b1⟩ := kk2 T' rfl X'
  refine ⟨t2, stp t2 ?_, b1⟩
  have he : (r.map (c_v base aK b)).toList ++ rest.map (c_v base aK b) = (r.toList ++ rest).map (c_v base aK b) := by
    cases r <;> simp
  rw [he]
  exact a1
theorem nx_ne {pc' : Nat} {q : Option Value ⊕ (Nat × List Value × List Value)} : ¬ a_nx pc' la st h = some (.inr q) := by
  intro z
  cases z
theorem go_ne {pc' : Nat} {off : Int} {q : Option Value ⊕ (Nat × List Value × List Value)} : ¬ a_go pc' off la st h = some (.inr q) := by
  intro z
  unfold a_go at z
  split at z <;> cases z
theorem br_ne {pc' : Nat} {off : Int} {q : Option Value ⊕ (Nat × List Value × List Value)} {c : Prop} [Decidable c] : ¬ a_br c pc' off la st h = some (.inr q) := by
  intro z
  unfold a_br at z
  split at z
  · split at z <;> cases z
  · cases z
theorem if_ne {pc' : Nat} {off : Int} {q : Option Value ⊕ (Nat × List Value × List Value)} {cd : ClassFile.Cond} {x : Int32} : ¬ a_if cd x pc' off la st h = some (.inr q) := by
  intro z
  unfold a_if at z
  split at z <;> exact br_ne z
theorem ic_ne {pc' : Nat} {off : Int} {q : Option Value ⊕ (Nat × List Value × List Value)} {cd : ClassFile.Cond} {x y : Int32} : ¬ a_ic cd x y pc' off la st h = some (.inr q) := by
  intro z
  unfold a_ic at z
  split at z <;> exact br_ne z
theorem nat_ne {pc' k : Nat} {q : Option Value ⊕ (Nat × List Value × List Value)} : ¬ a_nat mi pc' k la st h = some (.inr q) := by
  intro z
  unfold a_nat at z
  repeat' first | exact nx_ne z | cases z; done | split at z
set_option maxHeartbeats 4000000 in
theorem a_st_call {i : Instr} {r : AR} {q : Nat × List Value × List Value} (hs : a_st L xs mi pc la st h i r = some (.inr (.inr q))) : a_call mi r.1 r.2.1 r.2.2 st h = some (.inr (.inr q)) ∧ ((∃ x, i = .invokevirtual x ∧ r.1 = 0) ∨ (∃ x, i = .invokestatic x ∧ r.1 = 1) ∨ ∃ x, i = .invokespecial x ∧ (r.1 = 2 ∨ r.1 = 3)) := by
  unfold a_st at hs
  split at hs
  case h_62 =>
    split at hs
    · rename_i hk
      exact ⟨hs, Or.inl ⟨_, rfl, hk⟩⟩
    · cases hs
  case h_63 =>
    split at hs
    · rename_i hk
      exact ⟨hs, Or.inr (Or.inl ⟨_, rfl, hk⟩)⟩
    · split at hs
      · exact absurd hs nat_ne
      · cases hs
  case h_64 =>
    split at hs
    · rename_i hk
      exact ⟨hs, Or.inr (Or.inr ⟨_, rfl, hk⟩)⟩
    · split at hs
      · exact absurd hs nat_ne
      · cases hs
  all_goals (repeat' first | exact absurd hs nx_ne | exact absurd hs go_ne | exact absurd hs if_ne | exact absurd hs ic_ne | (cases hs; done) | split at hs)
theorem w_good (mj : Nat) (h0 : 0 < mj) (h1 : mj < 224) : GoodIn t_b (w_m mj) := by
  have hm := m_is h0 h1
  unfold m_ok at hm
  simp only [Bool.and_eq_true, decide_eq_true_eq] at hm
  intro w hw
  have hin : w ∈ t_b := by
    rcases List.mem_cons.mp hw with rfl | hw
    · exact at_p_in hm.1.1.1.1.1
    · exact hw
  exact ⟨hin, good_of_word (List.mem_filter.mp hin).2⟩
theorem w_B {R : Room} {mj n i : Nat} {own : String} {rm : Room} (hts : ∀ w ∈ t_b, w.before args s = true) (h0 : 0 < mj ∧ mj < 224) (hl : .methodLink own i (m_y mj) ∈ t_b) (hn : (parseMethodDescriptor (m_y mj).desc).map (fun d => d.parameters.length) = some n) (hR : rm.frames + 1 ≤ R.frames ∧ 8 + (m_l mj + 11) + rm.locals ≤ R.locals) : CallB R s args own i (m_y mj) (m_b mj) (m_l mj) (m_r mj) (w_m mj) rm rm.cells rm.slots n := by
  have hm := m_is h0.1 h0.2
  unfold m_ok at hm
  simp only [Bool.and_eq_true, decide_eq_true_eq] at hm
  exact callB_of n hts (w_good mj h0.1 h0.2) rfl rfl rfl (hts _ (at_p_in hm.1.1.1.1.2)) (hts _ hl) ⟨hm.1.2, hm.2, hn⟩ hR
set_option maxHeartbeats 4000000 in
/-- a call, out of the callee's contract -/
theorem sm_call (C : w_C p R s m args meth c base dC dI dA aK aV b L xs n0 mi) {i : Instr} {ri : AR} (hi : a_ins mi pc = some (i, ri)) {mj : Nat} {as rest : List Value} (hs : a_st L xs mi pc la st h i ri = some (.inr (.inr (mj, as, rest)))) (hl : lv_has ls (m_l mi) (c_l base aK b la)) (hw : w_S s base dC dI dA aK b n0 k0 h H locs cells slots) {r : Option Value} {h' : AH} (hM : w_Met l base dC dI dA aK aV b L xs mj as h r h') (hm : h.1 ≤ h'.1 ∧ h.2.1 ≤ h'.2.1) (hRc : h'.1 ≤ n0 + R.cells) (hRs : h'.2.1 ≤ k0 + R.slots)
    (kk : ∀ (H' : Heap) (locs' : List Loc) (cells' slots' : Nat), w_S s base dC dI dA aK b n0 k0 h' H' locs' cells' slots' → w_W p l e R s m args below meth c base aK b Q H' locs' cells' slots' (pc + 3) ls (r.toList ++ rest)) : w_W p l e R s m args below meth c base aK b Q H locs cells slots pc ls st := by
  have C0 := C
  obtain ⟨hx, hb, hml, hown, hts, hr, hlk, hnm, hK, hN, hZ, hV, hX, hbb, hz0, hav, hz1, hz2, hRf, hRl⟩ := C
  obtain ⟨nd, hd, hn, hres⟩ := a_ins_spec hi
  obtain ⟨hcall, hk⟩ := a_st_call hs
  obtain ⟨hP, hS, hc, hsl⟩ := id hw
  obtain ⟨k, mj', n⟩ := ri
  dsimp only at hcall hk
  refine w_sz (fun hz => ?_)
  have hPw := fun U hU hW => w_Pw (aV := aV) (L := L) (xs := xs) C0 hw hz U hU hW
  rcases hk with ⟨x, rfl, rfl⟩ | ⟨x, rfl, rfl⟩ | ⟨x, rfl, hk⟩
  · obtain rfl := w_len 2 hn rfl
    obtain ⟨⟨p1, p2, p3⟩, hq⟩ := sm_kl hres
    unfold k_ok at hq
    simp only [Bool.and_eq_true, decide_eq_true_eq] at hq
    obtain ⟨⟨⟨⟨hj, hq1⟩, hq2⟩, hq3⟩, hq4⟩ := hq
    unfold a_call at hcall
    rw [if_neg (by decide), if_pos rfl] at hcall
    split at hcall
    · rename_i a rest' hst
      split at hcall
      · rename_i ci fs ho
        split at hcall
        · rename_i hcn
          cases hcall
          obtain ⟨g1, g2, g3, g4, -⟩ := hcn
          unfold a_rm at g2
          simp only [Bool.and_eq_true, decide_eq_true_eq] at g2
          obtain ⟨hlt, hcell⟩ := h_ob_spec ho
          have hrec : ∃ cell : Cell, H[base + a]? = some cell ∧ cell.vm.isStatics = false ∧ s.vm.findClass (m_y mj).cls = some cell.cls := by
            unfold a_cn at g4
            cases hci : c_R[ci]? with
            | none =>
              exfalso
              have := (hP a _ (sm_c hlt hcell))
              obtain ⟨r', e1, -⟩ := this
              rw [a_cls_R, List.getElem?_map, hci] at e1
              cases e1
            | some r' =>
              obtain ⟨C', T', N', ty'⟩ := r'
              rw [hci] at g4
              have h2 := va_recv (D := (dC, dI)) hK hP (sm_cl hci).1 (sm_c hlt hcell)
              have g4 : C' = (m_y mj).cls := g4
              rw [← g4]
              exact h2
          have hsp : st = st.take n ++ (.ref a :: rest) := by rw [← hst]; exact (List.take_append_drop n st).symm
          refine w_after (mj := mj) (as := .ref a :: (st.take n).reverse) hw hm (va_runV (C := (m_y mj).cls) (b := base + a) (As := ((st.take n).reverse).map (c_v base aK b)) (rest := rest.map (c_v base aK b)) ⟨hx, hb, hml, hown, hts⟩ hM ⟨w_B hts hj (at_p_in hq1) hq4 ⟨by show m_f mj + 1 ≤ R.frames; exact Nat.le_trans g2.1 hRf, by show 8 + (m_l mj + 11) + m_w mj ≤ R.locals; exact Nat.le_trans g2.2 hRl⟩, hts _ (at_p_in hq2), hts _ (at_p_in hq3)⟩ ⟨w_blind _, hrec, fun U hU hW => ⟨rfl, hPw U hU hW⟩⟩ rfl (by rw [List.length_map, List.length_reverse, List.length_take]; omega) hl.1 ?_ (lv_room (by rw [c_sum]; exact g3)) hd ⟨by show cells + (h'.1 - h.1) ≤ R.cells; omega, by show slots + (h'.2.1 - h.2.1) ≤ R.slots; omega⟩) kk
          show st.map (c_v base aK b) = _
          rw [← List.map_reverse, List.reverse_reverse]
          conv => lhs; rw [hsp]
          rw [List.map_append, List.map_cons]
          rfl
        · cases hcall
      · cases hcall
    · rename_i q rest' hst
      split at hcall
      · rename_i hcn
        cases hcall
        obtain ⟨g1, g2, g3, g4, -⟩ := hcn
        unfold a_rm at g2
        simp only [Bool.and_eq_true, decide_eq_true_eq] at g2
        have hcq := c_fk (base := base) (aK := aK) (b := b) (s_k1 g4.1).1 (s_k1 g4.1).2
        have hrec : ∃ cell : Cell, H[aK q.toNat]? = some cell ∧ cell.vm.isStatics = false ∧ s.vm.findClass (m_y mj).cls = some cell.cls := by
          rw [← g4.2]
          exact vk_recv hV g4.1 hS
        have hsp : st = st.take n ++ (.float q :: rest) := by rw [← hst]; exact (List.take_append_drop n st).symm
        refine w_after (mj := mj) (as := .float q :: (st.take n).reverse) hw hm (va_runV (C := (m_y mj).cls) (b := aK q.toNat) (As := ((st.take n).reverse).map (c_v base aK b)) (rest := rest.map (c_v base aK b)) ⟨hx, hb, hml, hown, hts⟩ hM ⟨w_B hts hj (at_p_in hq1) hq4 ⟨by show m_f mj + 1 ≤ R.frames; exact Nat.le_trans g2.1 hRf, by show 8 + (m_l mj + 11) + m_w mj ≤ R.locals; exact Nat.le_trans g2.2 hRl⟩, hts _ (at_p_in hq2), hts _ (at_p_in hq3)⟩ ⟨w_blind _, hrec, fun U hU hW => ⟨by rw [List.map_cons, hcq], hPw U hU hW⟩⟩ rfl (by rw [List.length_map, List.length_reverse, List.length_take]; omega) hl.1 ?_ (lv_room (by rw [c_sum]; exact g3)) hd ⟨by show cells + (h'.1 - h.1) ≤ R.cells; omega, by show slots + (h'.2.1 - h.2.1) ≤ R.slots; omega⟩) kk
        show st.map (c_v base aK b) = _
        rw [← List.map_reverse, List.reverse_reverse]
        conv => lhs; rw [hsp]
        rw [List.map_append, List.map_cons, hcq]
      · cases hcall
    · cases hcall
  · obtain rfl := w_len 2 hn rfl
    obtain ⟨⟨p1, p2, p3⟩, hq⟩ := sm_kl hres
    unfold k_ok at hq
    simp only [Bool.and_eq_true, decide_eq_true_eq] at hq
    obtain ⟨⟨⟨hj, hq1⟩, hq2⟩, hq4⟩ := hq
    unfold a_call at hcall
    rw [if_pos rfl] at hcall
    split at hcall
    · rename_i hcn
      cases hcall
      obtain ⟨g1, g2, g3, -⟩ := hcn
      unfold a_rm at g2
      simp only [Bool.and_eq_true, decide_eq_true_eq] at g2
      refine w_after (mj := mj) (as := (st.take n).reverse) hw hm (va_runS (As := ((st.take n).reverse).map (c_v base aK b)) (rest := (st.drop n).map (c_v base aK b)) ⟨hx, hb, hml, hown, hts⟩ hM ⟨w_B hts hj (at_p_in hq1) hq4 ⟨by show m_f mj + 1 ≤ R.frames; exact Nat.le_trans g2.1 hRf, by show 8 + (m_l mj + 11) + m_w mj ≤ R.locals; exact Nat.le_trans g2.2 hRl⟩, hts _ (at_p_in hq2)⟩ ⟨w_blind _, fun U hU hW => ⟨rfl, hPw U hU hW⟩⟩ rfl (by rw [List.length_map, List.length_reverse, List.length_take]; omega) hl.1 ?_ (lv_room (by rw [c_sum]; exact g3)) hd ⟨by show cells + (h'.1 - h.1) ≤ R.cells; omega, by show slots + (h'.2.1 - h.2.1) ≤ R.slots; omega⟩) kk
      show st.map (c_v base aK b) = _
      rw [← List.map_reverse, List.reverse_reverse, ← List.map_append, List.take_append_drop]
    · cases hcall
  · obtain rfl := w_len 2 hn rfl
    obtain ⟨⟨p1, p2, p3⟩, hq⟩ := sm_kl hres
    unfold a_call at hcall
    rw [if_neg (by omega), if_neg (by omega)] at hcall
    split at hcall
    · rename_i a rest' hst
      split at hcall
      · rename_i hcn
        cases hcall
        obtain ⟨g1, g2, g3, -⟩ := hcn
        unfold a_rm at g2
        simp only [Bool.and_eq_true, decide_eq_true_eq] at g2
        have hsp : st = st.take n ++ (.ref a :: rest) := by rw [← hst]; exact (List.take_append_drop n st).symm
        have hstk : st.map (c_v base aK b) = (((st.take n).reverse).map (c_v base aK b)).reverse ++ .ref (base + a) :: rest.map (c_v base aK b) := by
          rw [← List.map_reverse, List.reverse_reverse]
          conv => lhs; rw [hsp]
          rw [List.map_append, List.map_cons]
          rfl
        rcases hk with rfl | rfl
        · unfold k_ok at hq
          simp only [Bool.and_eq_true, decide_eq_true_eq] at hq
          obtain ⟨⟨⟨⟨⟨hj, hq1⟩, hq2⟩, hq3⟩, hq5⟩, hq4⟩ := hq
          have hB := w_B (rm := { frames := m_f mj, cells := h'.1 - h.1, slots := h'.2.1 - h.2.1, locals := m_w mj }) (R := R) hts hj (at_p_in hq1) hq4 ⟨by show m_f mj + 1 ≤ R.frames; exact Nat.le_trans g2.1 hRf, by show 8 + (m_l mj + 11) + m_w mj ≤ R.locals; exact Nat.le_trans g2.2 hRl⟩
          rw [hq5] at hB
          exact w_after (mj := mj) (as := .ref a :: (st.take n).reverse) hw hm (va_runI (b := base + a) (As := ((st.take n).reverse).map (c_v base aK b)) (rest := rest.map (c_v base aK b)) ⟨hx, hb, hml, hown, hts⟩ hM ⟨hB, hq3, hts _ (at_p_in hq2)⟩ ⟨w_blind _, fun U hU hW => ⟨rfl, hPw U hU hW⟩⟩ rfl (by rw [List.length_map, List.length_reverse, List.length_take]; omega) hl.1 hstk (lv_room (by rw [c_sum]; exact g3)) hd ⟨by show cells + (h'.1 - h.1) ≤ R.cells; omega, by show slots + (h'.2.1 - h.2.1) ≤ R.slots; omega⟩) kk
        · unfold k_ok at hq
          simp only [Bool.and_eq_true, decide_eq_true_eq] at hq
          obtain ⟨⟨⟨⟨⟨hj, hq1⟩, hq2⟩, hq3⟩, hq5⟩, hq4⟩ := hq
          have hmo := m_is hj.1 hj.2
          unfold m_ok at hmo
          simp only [Bool.and_eq_true, decide_eq_true_eq] at hmo
          have hB := va_cnB (R := R) (rm := { frames := m_f mj, cells := h'.1 - h.1, slots := h'.2.1 - h.2.1, locals := m_w mj }) (bytes := m_b mj) (maxL := m_l mj) (ret := m_r mj) n hts (w_good mj hj.1 hj.2) rfl rfl rfl (hN _ hq1) (hts _ (at_p_in hmo.1.1.1.1.2)) ⟨hmo.1.2, hmo.2, hq4⟩ ⟨by show m_f mj + 1 ≤ R.frames; exact Nat.le_trans g2.1 hRf, by show 8 + (m_l mj + 11) + m_w mj ≤ R.locals; exact Nat.le_trans g2.2 hRl⟩
          rw [hq5] at hB
          exact w_after (mj := mj) (as := .ref a :: (st.take n).reverse) hw hm (va_runIN (b := base + a) (As := ((st.take n).reverse).map (c_v base aK b)) (rest := rest.map (c_v base aK b)) ⟨hx, hb, hml, hown, hts⟩ hM ⟨hB, hq3, hts _ (at_p_in hq2)⟩ ⟨w_blind _, fun U hU hW => ⟨rfl, hPw U hU hW⟩⟩ rfl (by rw [List.length_map, List.length_reverse, List.length_take]; omega) hl.1 hstk (lv_room (by rw [c_sum]; exact g3)) hd ⟨by show cells + (h'.1 - h.1) ≤ R.cells; omega, by show slots + (h'.2.1 - h.2.1) ≤ R.slots; omega⟩) kk
      · cases hcall
    · cases hcall
end SIM5
