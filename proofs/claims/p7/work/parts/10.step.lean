section SIM4
variable {p : Program} {l : Launch} {e : Env} {R : Room} {s : State} {m : MethodId} {args : Array Value} {below : List Frame} {meth : Method} {c : Code} {H : Heap} {locs : List Loc} {cells slots : Nat} {Q : State → Prop}
variable {base : Nat} {dC : Nat → ClassId} {dI : Nat → Nat → Nat} {dA : FieldType → ClassId} {aK aV : Nat → Nat} {b L : Nat} {xs : Nat → Int32} {n0 k0 mi : Nat}
variable {pc : Nat} {ls : Array Slot} {la : AL} {st : List Value} {h : AH}
theorem s_fl : ∀ v, v < 9 → (¬ UInt32.ofNat v = 1000 ∧ ¬ UInt32.ofNat v = 3000) ∧ (UInt32.ofNat v).toNat = v := by decide
theorem sm_kl {o i : Nat} {r : AR} (hres : a_lk k_T o i = some r) : ∃ q, k_ok (((o, i), r), q) = true := k_is (a_lk_mem hres)
theorem s_k1 {k : UInt32} (h : k.toNat < 9) : ¬ k = 3000 ∧ ¬ k = 1000 := ⟨fun z => by subst z; exact absurd h (by decide), fun z => by subst z; exact absurd h (by decide)⟩
theorem s_k3 {k : UInt32} (h : 2000 ≤ k.toNat) (h2 : k.toNat < 2009) : ¬ k = 3000 := fun z => by subst z; exact absurd h2 (by decide)
theorem s_k4 {k : UInt32} (h : 2000 ≤ k.toNat) (h2 : k.toNat < 2009) : ¬ k = 1000 := fun z => by subst z; exact absurd h (by decide)
theorem s_k2 {k : UInt32} (h : k.toNat < 9) : ¬ UInt32.ofNat (2000 + k.toNat) = 3000 ∧ ¬ UInt32.ofNat (2000 + k.toNat) = 1000 ∧ (UInt32.ofNat (2000 + k.toNat)).toNat = 2000 + k.toNat := by
  have : ∀ n, n < 9 → ¬ UInt32.ofNat (2000 + n) = 3000 ∧ ¬ UInt32.ofNat (2000 + n) = 1000 ∧ (UInt32.ofNat (2000 + n)).toNat = 2000 + n := by decide
  exact this _ h
theorem sm_fr {i a : Nat} {r : AR} {fs : List Value} (hP : va_P (dC, dI) a_cls (a_w base aK b dA h.1 h.2.2) H) (hres : a_res mi (.getfield i) = some r) (ho : h_ob h a = some (r.1, fs)) : a_lk f_T (m_o mi) i = some r := by
  unfold a_res at hres
  dsimp only at hres
  split at hres
  · rename_i r' hr'
    rw [← hres]
    exact hr'
  · exfalso
    cases hg : a_lk g_T (m_o mi) i with
    | none => rw [hg] at hres; cases hres
    | some r' =>
      rw [hg] at hres
      have e : r = (100 + r'.1, r'.2) := (Option.some.inj hres).symm
      obtain ⟨hlt, hcell⟩ := h_ob_spec ho
      obtain ⟨q, e1, -⟩ := hP a _ (sm_c hlt hcell)
      have e2 : a_cls[r.1]? = some q := e1
      rw [e, List.getElem?_eq_none (by show a_cls.length ≤ 100 + r'.1; have : a_cls.length = 12 := rfl; omega)] at e2
      cases e2
theorem sm_g0 {i : Nat} {r : AR} (hres : a_res mi (.getfield i) = some r) (hk : 100 ≤ r.1) : ∃ r', a_lk g_T (m_o mi) i = some r' ∧ r.1 = 100 + r'.1 := by
  unfold a_res at hres
  dsimp only at hres
  split at hres
  · rename_i r' hr'
    exfalso
    obtain ⟨C, T, N, ty, hc, -⟩ := sm_fl hr'
    rw [Option.some.inj hres, List.getElem?_eq_none (by show c_R.length ≤ r.1; have : c_R.length = 12 := rfl; omega)] at hc
    cases hc
  · cases hg : a_lk g_T (m_o mi) i with
    | none => rw [hg] at hres; cases hres
    | some r' =>
      rw [hg] at hres
      exact ⟨r', rfl, by rw [← Option.some.inj hres]⟩
theorem sm_gr {i : Nat} {r : AR} (hres : a_res mi (.getfield i) = some r) (hk : r.1 = 100) : .fieldLink (o_N.getD (m_o mi) "") i "java/lang/String" "value" "[B" ∈ t_b := by
  obtain ⟨⟨k, v, q⟩, h1, h2⟩ := sm_g0 hres (by omega)
  have h3 := List.all_eq_true.mp g_all _ (a_lk_mem h1)
  have : k = 0 := by have : r.1 = 100 + k := h2; omega
  subst this
  exact at_p_in h3
theorem sm_gr1 {i : Nat} {r : AR} (hres : a_res mi (.getfield i) = some r) (hk : r.1 = 101) : .fieldLink (o_N.getD (m_o mi) "") i "java/lang/String" "coder" "B" ∈ t_b := by
  obtain ⟨⟨k, v, q⟩, h1, h2⟩ := sm_g0 hres (by omega)
  have h3 := List.all_eq_true.mp g_all _ (a_lk_mem h1)
  have : k = 1 := by have : r.1 = 100 + k := h2; omega
  subst this
  exact at_p_in h3
/-- Object.<init>, Math.min and max, System.arraycopy -/
theorem sm_nat (C : w_C p R s m args meth c base dC dI dA aK aV b L xs n0 mi) {i : Nat} {r : AR} (hk : a_lk k_T (m_o mi) i = some r) {pc' : Nat} {la' : AL} {st' : List Value} {h' : AH} (hs : a_nat mi pc r.1 la st h = some (.inl (pc', la', st', h'))) (hd : (r.1 = 4 → decode (m_b mi) pc = .ok (.invokespecial i, 3)) ∧ (r.1 = 5 ∨ r.1 = 6 ∨ r.1 = 7 → decode (m_b mi) pc = .ok (.invokestatic i, 3))) (hl : lv_has ls (m_l mi) (c_l base aK b la)) (hw : w_S s base dC dI dA aK b n0 k0 h H locs cells slots) (hRc : h'.1 ≤ n0 + R.cells) (hRs : h'.2.1 ≤ k0 + R.slots)
    (kk : ∀ (H' : Heap) (locs' : List Loc), la' = la → w_S s base dC dI dA aK b n0 k0 h' H' locs' cells slots → w_W p l e R s m args below meth c base aK b Q H' locs' cells slots pc' ls st') : w_W p l e R s m args below meth c base aK b Q H locs cells slots pc ls st := by
  obtain ⟨hx, hb, hml, hown, hts, hr, hlk, hnm, hK, hN, hZ, hV, hX, hbb, hz0, hav, hz1, hz2, hRf, hRl⟩ := C
  obtain ⟨q, hq⟩ := sm_kl hk
  obtain ⟨k, mj, n⟩ := r
  obtain ⟨p1, p2, p3⟩ := q
  obtain ⟨hP, hS, hc, hsl⟩ := id hw
  unfold a_nat at hs
  dsimp only at hs hd
  split at hs
  · rename_i a rest
    split at hs
    · rename_i hcnd
      obtain ⟨rfl, rfl, rfl, rfl⟩ := w_nx hs
      unfold a_nt at hcnd
      simp only [Bool.and_eq_true, decide_eq_true_eq] at hcnd
      refine W.objInit hx hb hown (hts _ (at_p_in hq)) (hts _ o_1) (hts _ o_2) rfl (by rw [hml]; exact hl.1) rfl (hd.1 rfl) (by omega) ?_ (kk H locs rfl hw)
      show 2 * 0 + _ + 12 ≤ _
      rw [c_sum]
      omega
    · cases hs
  · rename_i y x rest
    split at hs
    · rename_i hcnd
      obtain ⟨rfl, rfl, rfl, rfl⟩ := w_nx hs
      unfold a_nt at hcnd
      simp only [Bool.and_eq_true, decide_eq_true_eq] at hcnd
      refine va_mmin hx hb (by rw [hml]; exact hl.1.symm) hown (hts _ (at_p_in hq)) (hts _ o_min1) (hts _ o_m) (hts _ o_min2) (by omega) (by rw [c_sum]; omega) (by have : h'.1 ≤ _ := hRc; omega) (by have : h'.2.1 ≤ _ := hRs; omega) (hd.2 (by simp)) (kk H locs rfl hw)
    · cases hs
  · rename_i y x rest
    split at hs
    · rename_i hcnd
      obtain ⟨rfl, rfl, rfl, rfl⟩ := w_nx hs
      unfold a_nt at hcnd
      simp only [Bool.and_eq_true, decide_eq_true_eq] at hcnd
      refine va_mmax hx hb (by rw [hml]; exact hl.1.symm) hown (hts _ (at_p_in hq)) (hts _ o_max1) (hts _ o_m) (hts _ o_max2) (by omega) (by rw [c_sum]; omega) (by have : h'.1 ≤ _ := hRc; omega) (by have : h'.2.1 ≤ _ := hRs; omega) (hd.2 (by simp)) (kk H locs rfl hw)
    · cases hs
  · rename_i nn dp d sp sa rest
    split at hs
    · rename_i n0' f n1 g e0 e1
      split at hs
      · rename_i hcnd
        obtain ⟨rfl, rfl, rfl, rfl⟩ := w_nx hs
        obtain ⟨g0, g1, g2, g3, g4, g5, g6, g7, g8⟩ := hcnd
        unfold a_nt at g1
        simp only [Bool.and_eq_true, decide_eq_true_eq] at g0 g1
        obtain ⟨i0, i1⟩ := h_ai_spec e0
        obtain ⟨j0, j1⟩ := h_ai_spec e1
        refine va_copyi (D := (dC, dI)) hx hb (by rw [hml]; exact hl.1.symm) hown (hts _ (at_p_in hq)) (hts _ o_a1) (hts _ o_a2) (hts _ o_s) hK hP w_D hS sa d 2 2 (ty := .char) (sm_c i0 i1) (sm_c j0 j1) rfl rfl rfl g3 g4 g5 g6 g7 (fun i hi => List.all_eq_true.mp g8 i (List.mem_range.mpr hi)) (by omega) ?_ (hd.2 (by simp)) (fun H1 locs1 hP1 _ hS1 => kk H1 locs1 rfl ⟨sm_P (n := 0) (cl := .inl (.char, n1, .inl (va_cpy f g sp.toNatClampNeg dp.toNatClampNeg nn.toNatClampNeg))) hP1, hS1, hc, hsl⟩)
        rw [c_sum]
        have : nativeFrameWords "java/lang/System" "arraycopy" 5 ≤ 21 := by decide
        omega
      · cases hs
    · cases hs
  · cases hs
theorem sm_nc {k mj n : Nat} {pc' : Nat} {la' : AL} {st' : List Value} {h' : AH} : ¬ a_call mi k mj n st h = some (.inl (pc', la', st', h')) := by
  intro hs
  unfold a_call at hs
  repeat' first | (cases hs; done) | split at hs
set_option maxHeartbeats 4000000 in
/-- a step that is neither a call nor a return -/
theorem sm_nx (C : w_C p R s m args meth c base dC dI dA aK aV b L xs n0 mi) {i : Instr} {r : AR} (hi : a_ins mi pc = some (i, r)) {pc' : Nat} {la' : AL} {st' : List Value} {h' : AH} (hs : a_st L xs mi pc la st h i r = some (.inl (pc', la', st', h'))) (hl : lv_has ls (m_l mi) (c_l base aK b la)) (hw : w_S s base dC dI dA aK b n0 k0 h H locs cells slots) (hRc : h'.1 ≤ n0 + R.cells) (hRs : h'.2.1 ≤ k0 + R.slots)
    (kk : ∀ (H' : Heap) (locs' : List Loc) (cells' slots' : Nat) (ls' : Array Slot), lv_has ls' (m_l mi) (c_l base aK b la') → w_S s base dC dI dA aK b n0 k0 h' H' locs' cells' slots' → w_W p l e R s m args below meth c base aK b Q H' locs' cells' slots' pc' ls' st') : w_W p l e R s m args below meth c base aK b Q H locs cells slots pc ls st := by
  have C0 := C
  obtain ⟨hx, hb, hml, hown, hts, hr, hlk, hnm, hK, hN, hZ, hV, hX, hbb, hz0, hav, hz1, hz2, hRf, hRl⟩ := C
  obtain ⟨n, hd, hn, hres⟩ := a_ins_spec hi
  obtain ⟨hP, hS, hc, hsl⟩ := id hw
  have hbA : ¬ (fun q => base ≤ q) b := Nat.not_le.mpr hbb
  have hbl : b < s.heap.size := by omega
  unfold a_st at hs
  split at hs
  · obtain ⟨rfl, rfl, rfl, rfl⟩ := w_nx hs
    obtain rfl := w_len 0 hn rfl
    exact lv_iconst hx hb hd rfl (kk _ _ _ _ _ hl hw)
  · obtain ⟨rfl, rfl, rfl, rfl⟩ := w_nx hs
    obtain rfl := w_len 1 hn rfl
    exact lv_bipush hx hb hd rfl (kk _ _ _ _ _ hl hw)
  · obtain ⟨rfl, rfl, rfl, rfl⟩ := w_nx hs
    obtain rfl := w_len 2 hn rfl
    exact lv_sipush hx hb hd rfl (kk _ _ _ _ _ hl hw)
  · obtain ⟨rfl, rfl, rfl, rfl⟩ := w_nx hs
    obtain rfl := w_len 0 hn rfl
    exact lv_lconst hx hb hd rfl (kk _ _ _ _ _ hl hw)
  · rename_i x0
    obtain rfl := w_len 1 hn rfl
    have h1 := List.all_eq_true.mp d_all _ (a_lk_mem hres)
    obtain ⟨k0', v0, q0⟩ := r
    unfold d_ok at h1
    dsimp only at h1 hs
    split at hs
    · rename_i hk
      rw [if_pos hk] at h1
      obtain ⟨rfl, rfl, rfl, rfl⟩ := w_nx hs
      exact lv_ldc hx hb hown (hts _ (at_p_in h1)) hd (kk _ _ _ _ _ hl hw)
    · rename_i hk
      rw [if_neg hk] at h1
      obtain ⟨rfl, rfl, rfl, rfl⟩ := w_nx hs
      split at h1
      · rename_i c1 j1 tx hv
        simp only [decide_eq_true_eq] at h1
        obtain ⟨g1, g2, g3⟩ := h1
        have hz := hZ v0 g3
        have hso : s_O v0 = (c1, j1, tx) := by unfold s_O; rw [List.getD_eq_getElem?_getD, hv]; rfl
        rw [hso, g1, g2] at hz
        have hk2 := kk _ _ _ _ _ hl hw
        unfold w_W at hk2
        rw [List.map_cons, c_fk (s_fl v0 g3).1.2 (s_fl v0 g3).1.1, (s_fl v0 g3).2] at hk2
        exact va_ldcS hx hb hown hz hd hk2
      · cases h1
  · rename_i x0
    obtain rfl := w_len 2 hn rfl
    have h1 := List.all_eq_true.mp d_all _ (a_lk_mem hres)
    obtain ⟨k0', v0, q0⟩ := r
    unfold d_ok at h1
    dsimp only at h1 hs
    split at hs
    · rename_i hk
      rw [if_pos hk] at h1
      obtain ⟨rfl, rfl, rfl, rfl⟩ := w_nx hs
      exact lv_ldcw hx hb hown (hts _ (at_p_in h1)) hd (kk _ _ _ _ _ hl hw)
    · cases hs
  · obtain ⟨rfl, rfl, rfl, rfl⟩ := w_nx hs
    obtain rfl := w_len 2 hn rfl
    have h1 := List.all_eq_true.mp l_all _ (a_lk_mem hres)
    obtain ⟨k0', v0, q0⟩ := r
    exact lv_ldc2 hx hb hown (hts _ (at_p_in h1)) hd (kk _ _ _ _ _ hl hw)
  · obtain rfl := w_len 0 hn rfl
    split at hs
    · rename_i x hg
      obtain ⟨rfl, rfl, rfl, rfl⟩ := w_nx hs
      exact lv_iload_n hx hb hd rfl (c_g hl hg) (kk _ _ _ _ _ hl hw)
    · cases hs
  · obtain rfl := w_len 1 hn rfl
    split at hs
    · rename_i x hg
      obtain ⟨rfl, rfl, rfl, rfl⟩ := w_nx hs
      exact lv_iload hx hb hd (c_g hl hg) (kk _ _ _ _ _ hl hw)
    · cases hs
  · obtain rfl := w_len 0 hn rfl
    split at hs
    · rename_i x hg
      obtain ⟨rfl, rfl, rfl, rfl⟩ := w_nx hs
      exact lv_lload_n hx hb hd rfl (c_g hl hg) (kk _ _ _ _ _ hl hw)
    · cases hs
  · obtain rfl := w_len 1 hn rfl
    split at hs
    · rename_i x hg
      obtain ⟨rfl, rfl, rfl, rfl⟩ := w_nx hs
      exact lv_lload hx hb hd (c_g hl hg) (kk _ _ _ _ _ hl hw)
    · cases hs
  · obtain rfl := w_len 0 hn rfl
    split at hs
    · rename_i x hg
      obtain ⟨rfl, rfl, rfl, rfl⟩ := w_nx hs
      exact lv_aload_n hx hb hd rfl (c_g hl hg) (kk _ _ _ _ _ hl hw)
    · rename_i x hg
      split at hs
      · cases hs
      · rename_i hne
        obtain ⟨rfl, rfl, rfl, rfl⟩ := w_nx hs
        have hg2 := c_g hl hg
        rw [c_fl hne] at hg2
        have hk2 := kk _ _ _ _ _ hl hw
        unfold w_W at hk2
        rw [List.map_cons, c_fl hne] at hk2
        exact lv_aload_n hx hb hd rfl hg2 hk2
    · cases hs
  · obtain rfl := w_len 1 hn rfl
    split at hs
    · rename_i x hg
      obtain ⟨rfl, rfl, rfl, rfl⟩ := w_nx hs
      exact lv_aload hx hb hd (c_g hl hg) (kk _ _ _ _ _ hl hw)
    · rename_i x hg
      split at hs
      · cases hs
      · rename_i hne
        obtain ⟨rfl, rfl, rfl, rfl⟩ := w_nx hs
        have hg2 := c_g hl hg
        rw [c_fl hne] at hg2
        have hk2 := kk _ _ _ _ _ hl hw
        unfold w_W at hk2
        rw [List.map_cons, c_fl hne] at hk2
        exact lv_aload hx hb hd hg2 hk2
    · cases hs
  · rename_i k x st
    obtain rfl := w_len 0 hn rfl
    split at hs
    · rename_i hk
      obtain ⟨rfl, rfl, rfl, rfl⟩ := w_nx hs
      exact lv_istore_n hx hb hd rfl hl hk rfl (fun ls2 hl2 => kk _ _ _ _ _ (c_s (base := base) (aK := aK) (b := b) (v := .int x) hl2) hw)
    · cases hs
  · rename_i k x st
    obtain rfl := w_len 1 hn rfl
    split at hs
    · rename_i hk
      obtain ⟨rfl, rfl, rfl, rfl⟩ := w_nx hs
      exact lv_istore hx hb hd hl hk rfl (fun ls2 hl2 => kk _ _ _ _ _ (c_s (base := base) (aK := aK) (b := b) (v := .int x) hl2) hw)
    · cases hs
  · rename_i k x st
    obtain rfl := w_len 0 hn rfl
    split at hs
    · rename_i hk
      obtain ⟨rfl, rfl, rfl, rfl⟩ := w_nx hs
      exact lv_astore_n hx hb hd rfl hl hk rfl (fun ls2 hl2 => kk _ _ _ _ _ (c_s (base := base) (aK := aK) (b := b) (v := .ref x) hl2) hw)
    · cases hs
  · rename_i k x st
    obtain rfl := w_len 1 hn rfl
    split at hs
    · rename_i hk
      obtain ⟨rfl, rfl, rfl, rfl⟩ := w_nx hs
      exact lv_astore hx hb hd hl hk rfl (fun ls2 hl2 => kk _ _ _ _ _ (c_s (base := base) (aK := aK) (b := b) (v := .ref x) hl2) hw)
    · cases hs
  · rename_i k x st
    obtain rfl := w_len 0 hn rfl
    split at hs
    · rename_i hk
      obtain ⟨rfl, rfl, rfl, rfl⟩ := w_nx hs
      exact lv_lstore_n hx hb hd rfl hl hk rfl (fun ls2 hl2 => kk _ _ _ _ _ (c_s2 (base := base) (aK := aK) (b := b) (v := .long x) hl2) hw)
    · cases hs
  · rename_i k x st
    obtain rfl := w_len 1 hn rfl
    split at hs
    · rename_i hk
      obtain ⟨rfl, rfl, rfl, rfl⟩ := w_nx hs
      exact lv_lstore hx hb hd hl hk rfl (fun ls2 hl2 => kk _ _ _ _ _ (c_s2 (base := base) (aK := aK) (b := b) (v := .long x) hl2) hw)
    · cases hs
  · rename_i k v st
    obtain rfl := w_len 2 hn rfl
    split at hs
    · rename_i x hg
      split at hs
      · rename_i hk
        obtain ⟨rfl, rfl, rfl, rfl⟩ := w_nx hs
        obtain ⟨j, hj⟩ := List.getElem?_of_mem (l_g_mem hg)
        exact lv_iinc (k := j) (x := x) hx hb hd hl (by unfold c_l; rw [List.getElem?_map, hj]; rfl) rfl hk rfl (fun ls2 hl2 => kk _ _ _ _ _ (c_s (base := base) (aK := aK) (b := b) (v := .int (x + Int32.ofInt _)) hl2) hw)
      · cases hs
    · cases hs
  · obtain ⟨rfl, rfl, rfl, rfl⟩ := w_nx hs
    obtain rfl := w_len 0 hn rfl
    exact lv_iadd hx hb hd (kk _ _ _ _ _ hl hw)
  · obtain ⟨rfl, rfl, rfl, rfl⟩ := w_nx hs
    obtain rfl := w_len 0 hn rfl
    exact lv_isub hx hb hd (kk _ _ _ _ _ hl hw)
  · obtain ⟨rfl, rfl, rfl, rfl⟩ := w_nx hs
    obtain rfl := w_len 0 hn rfl
    exact lv_imul hx hb hd (kk _ _ _ _ _ hl hw)
  · obtain rfl := w_len 0 hn rfl
    split at hs
    · cases hs
    · rename_i hy
      obtain ⟨rfl, rfl, rfl, rfl⟩ := w_nx hs
      exact lv_idiv hx hb hd hy (kk _ _ _ _ _ hl hw)
  · obtain rfl := w_len 0 hn rfl
    split at hs
    · cases hs
    · rename_i hy
      obtain ⟨rfl, rfl, rfl, rfl⟩ := w_nx hs
      exact lv_irem hx hb hd hy (kk _ _ _ _ _ hl hw)
  · obtain ⟨rfl, rfl, rfl, rfl⟩ := w_nx hs
    obtain rfl := w_len 0 hn rfl
    exact lv_iand hx hb hd (kk _ _ _ _ _ hl hw)
  · obtain ⟨rfl, rfl, rfl, rfl⟩ := w_nx hs
    obtain rfl := w_len 0 hn rfl
    exact lv_ior hx hb hd (kk _ _ _ _ _ hl hw)
  · obtain ⟨rfl, rfl, rfl, rfl⟩ := w_nx hs
    obtain rfl := w_len 0 hn rfl
    exact lv_ishl hx hb hd (kk _ _ _ _ _ hl hw)
  · obtain ⟨rfl, rfl, rfl, rfl⟩ := w_nx hs
    obtain rfl := w_len 0 hn rfl
    exact lv_ishr hx hb hd (kk _ _ _ _ _ hl hw)
  · obtain ⟨rfl, rfl, rfl, rfl⟩ := w_nx hs
    obtain rfl := w_len 0 hn rfl
    exact lv_iushr hx hb hd rfl (kk _ _ _ _ _ hl hw)
  · obtain ⟨rfl, rfl, rfl, rfl⟩ := w_nx hs
    obtain rfl := w_len 0 hn rfl
    exact lv_ladd hx hb hd (kk _ _ _ _ _ hl hw)
  · obtain ⟨rfl, rfl, rfl, rfl⟩ := w_nx hs
    obtain rfl := w_len 0 hn rfl
    exact lv_lor hx hb hd (kk _ _ _ _ _ hl hw)
  · obtain ⟨rfl, rfl, rfl, rfl⟩ := w_nx hs
    obtain rfl := w_len 0 hn rfl
    exact lv_lshl hx hb hd rfl (kk _ _ _ _ _ hl hw)
  · obtain ⟨rfl, rfl, rfl, rfl⟩ := w_nx hs
    obtain rfl := w_len 0 hn rfl
    exact W.lcmp hx hb hd (kk _ _ _ _ _ hl hw)
  · obtain ⟨rfl, rfl, rfl, rfl⟩ := w_nx hs
    obtain rfl := w_len 0 hn rfl
    exact lv_i2l hx hb hd rfl (kk _ _ _ _ _ hl hw)
  · obtain ⟨rfl, rfl, rfl, rfl⟩ := w_nx hs
    obtain rfl := w_len 0 hn rfl
    exact lv_i2c hx hb hd rfl (kk _ _ _ _ _ hl hw)
  · obtain ⟨rfl, rfl, rfl, rfl⟩ := w_nx hs
    obtain rfl := w_len 0 hn rfl
    exact lv_i2b hx hb hd rfl (kk _ _ _ _ _ hl hw)
  · obtain rfl := w_len 0 hn rfl
    split at hs
    · rename_i hv
      obtain ⟨rfl, rfl, rfl, rfl⟩ := w_nx hs
      exact lv_dup hx hb hd ((c_cat _).trans hv) (kk _ _ _ _ _ hl hw)
    · cases hs
  · obtain rfl := w_len 0 hn rfl
    split at hs
    · rename_i hv
      obtain ⟨rfl, rfl, rfl, rfl⟩ := w_nx hs
      exact lv_pop hx hb hd ((c_cat _).trans hv) (kk _ _ _ _ _ hl hw)
    · cases hs
  · obtain rfl := w_len 0 hn rfl
    split at hs
    · rename_i hv
      obtain ⟨rfl, rfl, rfl, rfl⟩ := w_nx hs
      exact lv_pop2_2 hx hb hd ((c_cat _).trans hv) (kk _ _ _ _ _ hl hw)
    · cases hs
  · obtain rfl := w_len 0 hn rfl
    split at hs
    · rename_i hv
      obtain ⟨rfl, rfl, rfl, rfl⟩ := w_nx hs
      exact lv_dup2_11 hx hb hd ((c_cat _).trans hv.1) ((c_cat _).trans hv.2) (kk _ _ _ _ _ hl hw)
    · cases hs
  · obtain rfl := w_len 2 hn rfl
    exact sm_if hx hb hd hs (fun e1 e2 => by subst e1; subst e2; exact kk _ _ _ _ _ hl hw)
  · obtain rfl := w_len 2 hn rfl
    exact sm_ic hx hb hd hs (fun e1 e2 => by subst e1; subst e2; exact kk _ _ _ _ _ hl hw)
  · obtain rfl := w_len 2 hn rfl
    obtain ⟨ht, rfl, rfl, rfl⟩ := w_go hs
    exact lv_goto hx hb hd ht (kk _ _ _ _ _ hl hw)
  · split at hs
    · rename_i ho
      obtain ⟨ht, rfl, rfl, rfl⟩ := w_go hs
      exact lv_tableOut hx hb hd ho ht (kk _ _ _ _ _ hl hw)
    · rename_i ho
      split at hs
      · rename_i off hoff
        obtain ⟨ht, rfl, rfl, rfl⟩ := w_go hs
        exact lv_tableIn hx hb hd (fun z => ho (Or.inl z)) (fun z => ho (Or.inr z)) hoff ht (kk _ _ _ _ _ hl hw)
      · cases hs
  · split at hs
    · rename_i hp
      obtain ⟨ht, rfl, rfl, rfl⟩ := w_go hs
      exact lv_lookup hx hb hd hp rfl ht (kk _ _ _ _ _ hl hw)
    · cases hs
  · rename_i a st
    obtain rfl := w_len 0 hn rfl
    split at hs
    · rename_i hlt
      split at hs
      · rename_i t0 n0' g0 hcell
        split at hs
        · rename_i hti
          obtain ⟨rfl, rfl, rfl, rfl⟩ := w_nx hs
          obtain ⟨j, hj⟩ : ∃ j, (a_ty dA)[j]? = some (dA t0, t0) := by cases t0 <;> first | exact ⟨0, rfl⟩ | exact ⟨1, rfl⟩ | exact ⟨2, rfl⟩ | exact ⟨3, rfl⟩ | exact ⟨4, rfl⟩ | cases hti
          exact va_alen (D := (dC, dI)) hx hb hK hP a j (sm_c hlt hcell) hj rfl hd (kk _ _ _ _ _ hl hw)
        · cases hs
      · cases hs
    · cases hs
  · rename_i kq st
    obtain rfl := w_len 0 hn rfl
    split at hs
    · rename_i hk
      obtain ⟨rfl, rfl, rfl, rfl⟩ := w_nx hs
      subst hk
      unfold w_W
      rw [List.map_cons, c_fl (by decide), if_pos rfl]
      exact va_slen hx hb hX hbl hbA hS hd (kk _ _ _ _ _ hl hw)
    · rename_i hk
      split at hs
      · rename_i hq
        obtain ⟨rfl, rfl, rfl, rfl⟩ := w_nx hs
        have hi9 : (kq.toNat - 2000) < 9 := by omega
        have ha := hav _ hi9
        rw [show 2000 + (kq.toNat - 2000) = kq.toNat by omega] at ha
        have hT := (hV.1 _ hi9).2.2.2
        rw [ha] at hT
        unfold w_W
        rw [List.map_cons, c_fk (s_k3 hq.1 hq.2) hk]
        exact va_tlen hx hb hT hS rfl hd (kk _ _ _ _ _ hl hw)
      · cases hs
  · rename_i j a st
    obtain rfl := w_len 0 hn rfl
    split at hs
    · rename_i v hv
      obtain ⟨rfl, rfl, rfl, rfl⟩ := w_nx hs
      obtain ⟨n1, f1, hlt, hcell, hin, rfl⟩ := a_ld_spec hv
      exact va_iald (D := (dC, dI)) hx hb hK hP a 0 (sm_c hlt hcell) rfl hin hd (kk _ _ _ _ _ hl hw)
    · cases hs
  · obtain rfl := w_len 0 hn rfl
    split at hs
    · rename_i hk
      obtain ⟨rfl, rfl, rfl, rfl⟩ := w_nx hs
      obtain ⟨rfl, hin⟩ := hk
      unfold w_W
      rw [List.map_cons, List.map_cons, c_fl (by decide), if_pos rfl]
      exact va_sld hx hb hX hbl hbA hS (a_inb_in hin) hd (kk _ _ _ _ _ hl hw)
    · cases hs
  · rename_i j a st
    obtain rfl := w_len 0 hn rfl
    split at hs
    · rename_i v hv
      obtain ⟨rfl, rfl, rfl, rfl⟩ := w_nx hs
      obtain ⟨n1, f1, hlt, hcell, hin, rfl⟩ := a_ld_spec hv
      exact va_cald (D := (dC, dI)) hx hb hK hP a 2 (sm_c hlt hcell) rfl hin hd (kk _ _ _ _ _ hl hw)
    · cases hs
  · rename_i j a st
    obtain rfl := w_len 0 hn rfl
    split at hs
    · rename_i v hv
      obtain ⟨rfl, rfl, rfl, rfl⟩ := w_nx hs
      obtain ⟨n1, f1, hlt, hcell, hin, rfl⟩ := a_ld_spec hv
      exact va_bald (D := (dC, dI)) hx hb hK hP a 1 (sm_c hlt hcell) rfl hin hd (kk _ _ _ _ _ hl hw)
    · split at hs
      · rename_i v hv
        obtain ⟨rfl, rfl, rfl, rfl⟩ := w_nx hs
        obtain ⟨n1, f1, hlt, hcell, hin, rfl⟩ := a_ld_spec hv
        exact va_zald (D := (dC, dI)) hx hb hK hP a 3 (sm_c hlt hcell) rfl hin hd (kk _ _ _ _ _ hl hw)
      · cases hs
  · rename_i j a st
    obtain rfl := w_len 0 hn rfl
    split at hs
    · rename_i n1 f1 hv
      split at hs
      · rename_i hin
        obtain ⟨rfl, rfl, rfl, rfl⟩ := w_nx hs
        obtain ⟨hlt, hcell⟩ := h_al_spec hv
        exact va_lald (D := (dC, dI)) hx hb hK hP a 4 (sm_c hlt hcell) rfl (a_inb_in hin) hd (kk _ _ _ _ _ hl hw)
      · cases hs
    · cases hs
  · rename_i x j a st
    obtain rfl := w_len 0 hn rfl
    split at hs
    · rename_i h2 hv
      obtain ⟨rfl, rfl, rfl, rfl⟩ := w_nx hs
      obtain ⟨n1, f1, hlt, hcell, hin, rfl⟩ := a_sv_spec hv
      exact va_iast (D := (dC, dI)) hx hb hK hP w_D hS a 0 (sm_c hlt hcell) rfl hin hd (fun H1 locs1 hP1 _ hS1 => kk H1 locs1 cells slots ls hl ⟨sm_P (n := 0) (cl := .inl (.int, n1, .inl (upd f1 j.toNatClampNeg x))) hP1, hS1, hc, hsl⟩)
    · cases hs
  · rename_i x j a st
    obtain rfl := w_len 0 hn rfl
    split at hs
    · rename_i h2 hv
      obtain ⟨rfl, rfl, rfl, rfl⟩ := w_nx hs
      obtain ⟨n1, f1, hlt, hcell, hin, rfl⟩ := a_sv_spec hv
      exact va_cast (D := (dC, dI)) hx hb hK hP w_D hS a 2 (sm_c hlt hcell) rfl hin hd (fun H1 locs1 hP1 _ hS1 => kk H1 locs1 cells slots ls hl ⟨sm_P (n := 0) (cl := .inl (.char, n1, .inl (upd f1 j.toNatClampNeg (vp_nar .char x)))) hP1, hS1, hc, hsl⟩)
    · cases hs
  · rename_i x j a st
    obtain rfl := w_len 0 hn rfl
    split at hs
    · rename_i h2 hv
      obtain ⟨rfl, rfl, rfl, rfl⟩ := w_nx hs
      obtain ⟨n1, f1, hlt, hcell, hin, rfl⟩ := a_sv_spec hv
      exact va_bast (D := (dC, dI)) hx hb hK hP w_D hS a 1 (sm_c hlt hcell) rfl hin hd (fun H1 locs1 hP1 _ hS1 => kk H1 locs1 cells slots ls hl ⟨sm_P (n := 0) (cl := .inl (.byte, n1, .inl (upd f1 j.toNatClampNeg (vp_nar .byte x)))) hP1, hS1, hc, hsl⟩)
    · split at hs
      · rename_i h2 hv
        obtain ⟨rfl, rfl, rfl, rfl⟩ := w_nx hs
        obtain ⟨n1, f1, hlt, hcell, hin, rfl⟩ := a_sv_spec hv
        exact va_zast (D := (dC, dI)) hx hb hK hP w_D hS a 3 (sm_c hlt hcell) rfl hin hd (fun H1 locs1 hP1 _ hS1 => kk H1 locs1 cells slots ls hl ⟨sm_P (n := 0) (cl := .inl (.boolean, n1, .inl (upd f1 j.toNatClampNeg (vp_nar .boolean x)))) hP1, hS1, hc, hsl⟩)
      · cases hs
  · rename_i x j a st
    obtain rfl := w_len 0 hn rfl
    split at hs
    · rename_i n1 f1 hv
      split at hs
      · rename_i hin
        obtain ⟨rfl, rfl, rfl, rfl⟩ := w_nx hs
        obtain ⟨hlt, hcell⟩ := h_al_spec hv
        exact va_last (D := (dC, dI)) hx hb hK hP w_D hS a 4 (sm_c hlt hcell) rfl (a_inb_in hin) hd (fun H1 locs1 hP1 _ hS1 => kk H1 locs1 cells slots ls hl ⟨sm_P (n := 0) (cl := .inl (.long, n1, .inr (.inl (vp_updL f1 j.toNatClampNeg x)))) hP1, hS1, hc, hsl⟩)
      · cases hs
    · cases hs
  · rename_i t nn st
    obtain rfl := w_len 1 hn rfl
    split at hs
    · rename_i cl hcl
      split at hs
      · rename_i hq
        obtain ⟨rfl, rfl, rfl, rfl⟩ := w_nx hs
        cases t
        · cases hcl
          exact sm_nA (atype := .boolean) (t := .boolean) (t0 := 3) (a0 := (nn.toNatClampNeg, .inl (fun _ => 0))) hx hb (hts _ o_tboolean) rfl rfl (fun _ _ z => z) hK hz0 hw hl (fun _ => rfl) hq.1 rfl (Nat.le_trans (Nat.mul_le_mul_left _ (by decide)) hq.2) hRc hRs hd kk
        · cases hcl
          exact sm_nA (atype := .char) (t := .char) (t0 := 2) (a0 := (nn.toNatClampNeg, .inl (fun _ => 0))) hx hb (hts _ o_tchar) rfl rfl (fun _ _ z => z) hK hz0 hw hl (fun _ => rfl) hq.1 rfl (Nat.le_trans (Nat.mul_le_mul_left _ (by decide)) hq.2) hRc hRs hd kk
        · cases hcl
        · cases hcl
        · cases hcl
          exact sm_nA (atype := .byte) (t := .byte) (t0 := 1) (a0 := (nn.toNatClampNeg, .inl (fun _ => 0))) hx hb (hts _ o_tbyte) rfl rfl (fun _ _ z => z) hK hz0 hw hl (fun _ => rfl) hq.1 rfl (Nat.le_trans (Nat.mul_le_mul_left _ (by decide)) hq.2) hRc hRs hd kk
        · cases hcl
        · cases hcl
          exact sm_nA (atype := .int) (t := .int) (t0 := 0) (a0 := (nn.toNatClampNeg, .inl (fun _ => 0))) hx hb (hts _ o_tint) rfl rfl (fun _ _ z => z) hK hz0 hw hl (fun _ => rfl) hq.1 rfl (Nat.le_trans (Nat.mul_le_mul_left _ (by decide)) hq.2) hRc hRs hd kk
        · cases hcl
          exact sm_nA (atype := .long) (t := .long) (t0 := 4) (a0 := (nn.toNatClampNeg, .inr (.inl (fun _ => 0)))) hx hb (hts _ o_tlong) rfl rfl (fun _ _ z => z) hK hz0 hw hl (fun _ => rfl) hq.1 rfl (Nat.le_trans (Nat.mul_le_mul_left _ (by decide)) hq.2) hRc hRs hd kk
      · cases hs
    · cases hs
  · obtain rfl := w_len 2 hn rfl
    split at hs
    · rename_i fs hfs
      obtain ⟨rfl, rfl, rfl, rfl⟩ := w_nx hs
      exact sm_new hx hb hown hts hK hz0 hw hl hres hfs hRc hRs hd kk
    · cases hs
  · obtain rfl := w_len 2 hn rfl
    split at hs
    · rename_i ci fs ho
      split at hs
      · rename_i hci
        subst hci
        split at hs
        · rename_i v hv
          obtain ⟨rfl, rfl, rfl, rfl⟩ := w_nx hs
          exact sm_get hx hb hown hts hK hP (sm_fr hP hres ho) ho hv hd (kk _ _ _ _ _ hl hw)
        · cases hs
      · cases hs
    · cases hs
  · obtain rfl := w_len 2 hn rfl
    split at hs
    · rename_i ci fs ho
      split at hs
      · rename_i hci
        obtain ⟨rfl, h2, h3⟩ := hci
        obtain ⟨rfl, rfl, rfl, rfl⟩ := w_nx hs
        exact sm_put hx hb hown hts hnm hK hw hres ho h2 h3 hd (fun H1 locs1 hw1 => kk H1 locs1 _ _ _ hl hw1)
      · cases hs
    · cases hs
  · obtain rfl := w_len 2 hn rfl
    split at hs
    · exact absurd hs (sm_nc)
    · cases hs
  · obtain rfl := w_len 2 hn rfl
    split at hs
    · exact absurd hs (sm_nc)
    · split at hs
      · rename_i hk5
        exact sm_nat C0 hres hs ⟨fun z => by rw [z] at hk5; exact absurd hk5 (by decide), fun _ => hd⟩ hl hw hRc hRs (fun H1 locs1 e1 hw1 => kk H1 locs1 _ _ _ (by rw [e1]; exact hl) hw1)
      · cases hs
  · obtain rfl := w_len 2 hn rfl
    split at hs
    · exact absurd hs (sm_nc)
    · split at hs
      · rename_i hk4
        exact sm_nat C0 hres hs ⟨fun _ => hd, fun z => by rw [hk4] at z; exact absurd z (by decide)⟩ hl hw hRc hRs (fun H1 locs1 e1 hw1 => kk H1 locs1 _ _ _ (by rw [e1]; exact hl) hw1)
      · cases hs
  · split at hs
    · split at hs <;> cases hs
    · cases hs
  · split at hs <;> cases hs
  · split at hs <;> cases hs
  · obtain rfl := w_len 2 hn rfl
    have h1 := List.all_eq_true.mp g_all _ (a_lk_mem hres)
    obtain ⟨kz, vz, pz⟩ := r
    dsimp only at hs
    split at hs
    · rename_i hk
      obtain ⟨rfl, rfl, rfl, rfl⟩ := w_nx hs
      subst hk
      exact va_gets hx hb hz1 hS hown (hts _ (at_p_in h1)) (fun _ z => z) hd (kk _ _ _ _ _ hl hw)
    · split at hs
      · rename_i hk
        obtain ⟨rfl, rfl, rfl, rfl⟩ := w_nx hs
        subst hk
        exact va_gets hx hb hz2 hS hown (hts _ (at_p_in h1)) (fun _ z => z) hd (kk _ _ _ _ _ hl hw)
      · cases hs
  · rename_i kq st
    obtain rfl := w_len 2 hn rfl
    split at hs
    · rename_i hq
      obtain ⟨rfl, rfl, rfl, rfl⟩ := w_nx hs
      have h1 := sm_gr hres hq.2
      have hk2 := kk _ _ _ _ _ hl hw
      unfold w_W at hk2 ⊢
      have e1 := s_k2 hq.1
      rw [List.map_cons, c_fk e1.1 e1.2.1, e1.2.2, ← hav _ hq.1] at hk2
      rw [List.map_cons, c_fk (s_k1 hq.1).1 (s_k1 hq.1).2]
      exact vk_getf hx hb (hV.1 _ hq.1).2.2.1 hS hown (hts _ h1) (fun _ z => z) hd hk2
    · split at hs
      · rename_i hq
        obtain ⟨rfl, rfl, rfl, rfl⟩ := w_nx hs
        have h1 := sm_gr1 hres hq.2
        unfold w_W
        rw [List.map_cons, c_fk (s_k1 hq.1).1 (s_k1 hq.1).2]
        exact vk_getf hx hb (hV.1 _ hq.1).2.1 hS hown (hts _ h1) (fun _ z => z) hd (kk _ _ _ _ _ hl hw)
      · cases hs
  · rename_i jq kq st
    obtain rfl := w_len 0 hn rfl
    split at hs
    · rename_i hq
      obtain ⟨rfl, rfl, rfl, rfl⟩ := w_nx hs
      have hi9 : (kq.toNat - 2000) < 9 := by omega
      have ha := hav _ hi9
      rw [show 2000 + (kq.toNat - 2000) = kq.toNat by omega] at ha
      have hT := (hV.1 _ hi9).2.2.2
      rw [ha] at hT
      unfold w_W
      rw [List.map_cons, List.map_cons, c_fk (s_k3 hq.1.1 hq.1.2) (s_k4 hq.1.1 hq.1.2)]
      exact va_tb hx hb hT hS (a_inb_in hq.2) rfl hd (kk _ _ _ _ _ hl hw)
    · cases hs
  · cases hs
end SIM4
