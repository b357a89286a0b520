section SIM2
variable {p : Program} {l : Launch} {e : Env} {R : Room} {s : State} {m : MethodId} {args : Array Value} {below : List Frame} {meth : Method} {c : Code} {H : Heap} {locs : List Loc} {cells slots : Nat} {Q : State → Prop}
variable {base : Nat} {dC : Nat → ClassId} {dI : Nat → Nat → Nat} {dA : FieldType → ClassId} {aK aV : Nat → Nat} {b L : Nat} {xs : Nat → Int32} {n0 k0 mi : Nat}
variable {pc : Nat} {ls : Array Slot} {la : AL} {st : List Value} {h : AH}
theorem sm_P {a n : Nat} {cl : AC} (hP : va_P (dC, dI) a_cls ((a_w base aK b dA h.1 h.2.2).set a (base + a, c_e base aK b dA cl)) H) : va_P (dC, dI) a_cls (a_w base aK b dA (h_up h a cl).1 (h_up h a cl).2.2) H := by
  rw [w_set] at hP
  exact hP
theorem sm_K {t0 : Nat} {t : FieldType} (h : (a_ty dA)[t0]? = some (dA t, t)) : (a_ty dA)[t0]? = some (dA t, t) := h
theorem sm_c {a : Nat} {cl : AC} (hlt : a < h.1) (hc : h.2.2 a = cl) : (a_w base aK b dA h.1 h.2.2)[a]? = some (base + a, c_e base aK b dA cl) := by
  rw [w_get hlt, hc]
/-- behind an allocation -/
theorem sm_al {cl : AC} {k q : Nat} {H1 : Heap} {pc' : Nat} {st' : List Value} (hz0 : s.heap.size = base + n0) (hw : w_S s base dC dI dA aK b n0 k0 h H locs cells slots) (hl : lv_has ls (m_l mi) (c_l base aK b la))
    (hP1 : va_P (dC, dI) a_cls (a_w base aK b dA h.1 h.2.2 ++ [(q, c_e base aK b dA cl)]) H1) (hD1 : va_D (fun q => base ≤ q) (a_w base aK b dA h.1 h.2.2 ++ [(q, c_e base aK b dA cl)])) (hS1 : va_S (fun q => base ≤ q) s.heap H1 locs)
    (kk : ∀ (H' : Heap) (locs' : List Loc) (cells' slots' : Nat) (ls' : Array Slot), lv_has ls' (m_l mi) (c_l base aK b la) → w_S s base dC dI dA aK b n0 k0 (h_ps h k cl) H' locs' cells' slots' → w_W p l e R s m args below meth c base aK b Q H' locs' cells' slots' pc' ls' (.ref h.1 :: st')) :
    W p l e R s m args below meth c H1 locs (cells + 1) (slots + k) Q (F0 m pc' ls (.ref q :: st'.map (c_v base aK b))) := by
  refine w_sz (fun hz => ?_)
  have hq : q = base + h.1 := w_new hP1 hD1 (by have := hw.2.2.1; omega)
  subst hq
  refine kk H1 locs (cells + 1) (slots + k) ls hl ⟨?_, hS1, ?_, ?_⟩
  · rw [w_push] at hP1
    exact hP1
  · show n0 + (cells + 1) = h.1 + 1
    have := hw.2.2.1
    omega
  · show k0 + (slots + k) = h.2.1 + k
    have := hw.2.2.2
    omega
theorem sm_nA {atype : ArrayType} {t : FieldType} {a0 : vp_A} {N' : Nat} {n : Int32} (hx : p.tables.exec = Jvm.exec) (hb : c.code = m_b mi) (harr : (Cond.arrayClass (newarray.typeOf atype)).before args s = true) (hty : newarray.typeOf atype = t) {t0 : Nat} (ht0 : (a_ty dA)[t0]? = some (dA t, t)) (hpr : ∀ (U : State) (cA : ClassId), va_RA U cA t → U.vm.findClass ("[" ++ t.toString) = some cA) (hK : va_K (dC, dI) a_cls (a_ty dA) s) (hz0 : s.heap.size = base + n0) (hw : w_S s base dC dI dA aK b n0 k0 h H locs cells slots) (hl : lv_has ls (m_l mi) (c_l base aK b la))
    (ha : ∀ cA : ClassId, vp_cell cA a0 = arrV cA N' (fun _ => defaultValue t)) (hn : ¬ n < 0) (hN : n.toNatClampNeg = N') (hbytes : N' * componentBytes t ≤ 536870912) (hRc : n0 + R.cells ≥ h.1 + 1) (hRs : k0 + R.slots ≥ h.2.1 + N') (hd : decode (m_b mi) pc = .ok (.newarray atype, 2))
    (kk : ∀ (H' : Heap) (locs' : List Loc) (cells' slots' : Nat) (ls' : Array Slot), lv_has ls' (m_l mi) (c_l base aK b la) → w_S s base dC dI dA aK b n0 k0 (h_ps h N' (.inl (t, a0))) H' locs' cells' slots' → w_W p l e R s m args below meth c base aK b Q H' locs' cells' slots' (pc + 2) ls' (.ref h.1 :: st)) :
    w_W p l e R s m args below meth c base aK b Q H locs cells slots pc ls (.int n :: st) := by
  have h1 := hw.2.2.1
  have h2 := hw.2.2.2
  refine va_newa hx hb harr hty hK hw.1 w_D hw.2.1 (fun q hq => by rw [hz0] at hq; exact Nat.le_trans (Nat.le_add_right base n0) hq) ha hn hN hbytes (by omega) (by omega) hd (fun q cA H1 hK1 hP1 hD1 hS1 => ?_)
  have hcA : cA = dA t := by
    have e1 := hpr s cA (hK1.2 5 (cA, t) rfl).2
    have e2 := hpr s (dA t) (hK.2 t0 (dA t, t) ht0).2
    exact Option.some.inj (e1.symm.trans e2)
  subst hcA
  exact sm_al (cl := .inl (t, a0)) hz0 hw hl hP1 hD1 hS1 kk
end SIM2
section SIM3
variable {p : Program} {l : Launch} {e : Env} {R : Room} {s : State} {m : MethodId} {args : Array Value} {below : List Frame} {meth : Method} {c : Code} {H : Heap} {locs : List Loc} {cells slots : Nat} {Q : State → Prop}
variable {base : Nat} {dC : Nat → ClassId} {dI : Nat → Nat → Nat} {dA : FieldType → ClassId} {aK aV : Nat → Nat} {b L : Nat} {xs : Nat → Int32} {n0 k0 mi : Nat}
variable {pc : Nat} {ls : Array Slot} {la : AL} {st : List Value} {h : AH}
theorem sm_cl {ci : Nat} {C : String} {T : u_T} {N : Nat} {ty : Nat → FieldType} (hc : c_R[ci]? = some (C, T, N, ty)) : a_cls[ci]? = some (C, T, N) ∧ c_Ok (C, T, N, ty) := by
  refine ⟨?_, c_all _ (List.mem_of_getElem? hc)⟩
  rw [a_cls_R, List.getElem?_map, hc]
  rfl
theorem sm_fl {o i : Nat} {r : AR} (hres : a_lk f_T o i = some r) : ∃ C T N ty, c_R[r.1]? = some (C, T, N, ty) ∧ r.2.1 < N ∧ .fieldLink (o_N.getD o "") i (T r.2.1).1 (T r.2.1).2.1 (T r.2.1).2.2.1 ∈ t_b := by
  have h1 := List.all_eq_true.mp f_all _ (a_lk_mem hres)
  obtain ⟨ci, k, q⟩ := r
  unfold f_ok at h1
  dsimp only at h1
  split at h1
  · rename_i C T N ty hc
    simp only [Bool.and_eq_true, decide_eq_true_eq] at h1
    exact ⟨C, T, N, ty, hc, h1.1, at_p_in h1.2⟩
  · cases h1
theorem sm_get {i a : Nat} {r : AR} {fs : List Value} {v : Value} (hx : p.tables.exec = Jvm.exec) (hb : c.code = m_b mi) (hown : s.vm.findClass (o_N.getD (m_o mi) "") = some m.cls) (hts : ∀ w ∈ t_b, w.before args s = true) (hK : va_K (dC, dI) a_cls (a_ty dA) s) (hP : va_P (dC, dI) a_cls (a_w base aK b dA h.1 h.2.2) H) (hres : a_lk f_T (m_o mi) i = some r) (ho : h_ob h a = some (r.1, fs)) (hv : fs[r.2.1]? = some v) (hd : decode (m_b mi) pc = .ok (.getfield i, 3))
    (kk : w_W p l e R s m args below meth c base aK b Q H locs cells slots (pc + 3) ls (v :: st)) : w_W p l e R s m args below meth c base aK b Q H locs cells slots pc ls (.ref a :: st) := by
  obtain ⟨C, T, N, ty, hc, hk, hlink⟩ := sm_fl hres
  obtain ⟨hcl, hok⟩ := sm_cl hc
  obtain ⟨hlt, hcell⟩ := h_ob_spec ho
  exact va_get (D := (dC, dI)) (ci := r.1) (v := c_v base aK b v) hx hb hts hok.1 hown hK hP a (sm_c hlt hcell) hcl r.2.1 hk (hts _ hlink) (fun _ z => z) (by rw [List.getElem?_map, hv]; rfl) hd kk
theorem sm_nar {t : FieldType} {v : Value} (hf : a_fk v = true) (h1 : narrow t v = v) : narrow t (c_v base aK b v) = c_v base aK b v := by
  cases v with
  | int x => exact h1
  | long x => exact h1
  | null => exact h1
  | ref x => cases t <;> rfl
  | float x => cases hf
  | double x => cases hf
  | retAddr x => cases hf
theorem sm_fit {t : FieldType} {v : Value} (hf : a_fk v = true) (h1 : fits t v = true) : fits t (c_v base aK b v) = true := by
  cases v with
  | int x => exact h1
  | long x => exact h1
  | null => exact h1
  | ref x => cases t <;> first | exact h1 | rfl
  | float x => cases hf
  | double x => cases hf
  | retAddr x => cases hf
theorem sm_put {i a : Nat} {r : AR} {fs : List Value} {v : Value} (hx : p.tables.exec = Jvm.exec) (hb : c.code = m_b mi) (hown : s.vm.findClass (o_N.getD (m_o mi) "") = some m.cls) (hts : ∀ w ∈ t_b, w.before args s = true) (hnm : (m_y mi).name = "<init>" → meth.name = "<init>") (hK : va_K (dC, dI) a_cls (a_ty dA) s) (hw : w_S s base dC dI dA aK b n0 k0 h H locs cells slots) (hres : a_lk f_T (m_o mi) i = some r) (ho : h_ob h a = some (r.1, fs)) (hk2 : r.2.1 < fs.length) (hp : a_put mi r.1 r.2.1 v = true) (hd : decode (m_b mi) pc = .ok (.putfield i, 3))
    (kk : ∀ (H' : Heap) (locs' : List Loc), w_S s base dC dI dA aK b n0 k0 (h_up h a (.inr (r.1, fs.set r.2.1 v))) H' locs' cells slots → w_W p l e R s m args below meth c base aK b Q H' locs' cells slots (pc + 3) ls st) : w_W p l e R s m args below meth c base aK b Q H locs cells slots pc ls (v :: .ref a :: st) := by
  obtain ⟨C, T, N, ty, hc, hk, hlink⟩ := sm_fl hres
  obtain ⟨hcl, hok⟩ := sm_cl hc
  obtain ⟨hlt, hcell⟩ := h_ob_spec ho
  obtain ⟨hP, hS, hn, hk0⟩ := hw
  unfold a_put at hp
  rw [hc] at hp
  simp only [Bool.and_eq_true, Bool.or_eq_true, Bool.not_eq_true', decide_eq_true_eq] at hp
  obtain ⟨⟨⟨⟨-, hf⟩, h1⟩, h2⟩, h3⟩ := hp
  have hset : ∀ (H1 : Heap), va_P (dC, dI) a_cls ((a_w base aK b dA h.1 h.2.2).set a (base + a, .inr (r.1, (fs.map (c_v base aK b)).set r.2.1 (c_v base aK b v)))) H1 → va_P (dC, dI) a_cls (a_w base aK b dA (h_up h a (.inr (r.1, fs.set r.2.1 v))).1 (h_up h a (.inr (r.1, fs.set r.2.1 v))).2.2) H1 := by
    intro H1 hP1
    have e : (base + a, (Sum.inr (r.1, (fs.map (c_v base aK b)).set r.2.1 (c_v base aK b v)) : va_E)) = (base + a, c_e base aK b dA (.inr (r.1, fs.set r.2.1 v))) := by
      show _ = (base + a, (Sum.inr (r.1, (fs.set r.2.1 v).map (c_v base aK b)) : va_E))
      rw [List.map_set]
    rw [e, w_set] at hP1
    exact hP1
  cases hfin : (T r.2.1).2.2.2 with
  | false => exact va_put (D := (dC, dI)) (ci := r.1) (v := c_v base aK b v) hx hb hts hok.1 ty hok.2.2.1 hok.2.1 hown hK hP w_D hS a (sm_c hlt hcell) hcl r.2.1 hk (hts _ hlink) (fun _ z => z) hfin (hok.2.2.1 _ hk) (sm_nar hf h1) (sm_fit hf h2) (by rw [List.length_map]; exact hk2) hd (fun H1 locs1 hP1 _ hS1 => kk H1 locs1 ⟨hset H1 hP1, hS1, hn, hk0⟩)
  | true =>
    have h4 := h3.resolve_left (by rw [hfin]; exact Bool.noConfusion)
    exact va_putF (D := (dC, dI)) (ci := r.1) (v := c_v base aK b v) hx hb hts hok.1 ty hok.2.2.1 hok.2.1 hown hK hP w_D hS a (sm_c hlt hcell) hcl r.2.1 hk (hts _ hlink) (fun _ z => z) hfin (hnm h4.2) h4.1 (hok.2.2.1 _ hk) (sm_nar hf h1) (sm_fit hf h2) (by rw [List.length_map]; exact hk2) hd (fun H1 locs1 hP1 _ hS1 => kk H1 locs1 ⟨hset H1 hP1, hS1, hn, hk0⟩)
theorem sm_dv {t : FieldType} (hf : a_fk (defaultValue t) = true) : c_v base aK b (defaultValue t) = defaultValue t := by
  cases t <;> first | rfl | cases hf
theorem sm_new {i : Nat} {r : AR} {fs : List Value} (hx : p.tables.exec = Jvm.exec) (hb : c.code = m_b mi) (hown : s.vm.findClass (o_N.getD (m_o mi) "") = some m.cls) (hts : ∀ w ∈ t_b, w.before args s = true) (hK : va_K (dC, dI) a_cls (a_ty dA) s) (hz0 : s.heap.size = base + n0) (hw : w_S s base dC dI dA aK b n0 k0 h H locs cells slots) (hl : lv_has ls (m_l mi) (c_l base aK b la)) (hres : a_lk n_T (m_o mi) i = some r) (hn : a_new r.1 = some fs) (hRc : n0 + R.cells ≥ h.1 + 1) (hRs : k0 + R.slots ≥ h.2.1 + r.2.1) (hd : decode (m_b mi) pc = .ok (.new i, 3))
    (kk : ∀ (H' : Heap) (locs' : List Loc) (cells' slots' : Nat) (ls' : Array Slot), lv_has ls' (m_l mi) (c_l base aK b la) → w_S s base dC dI dA aK b n0 k0 (h_ps h r.2.1 (.inr (r.1, fs))) H' locs' cells' slots' → w_W p l e R s m args below meth c base aK b Q H' locs' cells' slots' (pc + 3) ls' (.ref h.1 :: st)) : w_W p l e R s m args below meth c base aK b Q H locs cells slots pc ls st := by
  have h1 := List.all_eq_true.mp n_all _ (a_lk_mem hres)
  obtain ⟨ci, k, q⟩ := r
  unfold n_ok at h1
  dsimp only at h1 hn hRs kk
  cases hc : c_R[ci]? with
  | none => rw [hc] at h1; cases h1
  | some r' =>
    obtain ⟨C, T, N, ty⟩ := r'
    rw [hc] at h1
    simp only [Bool.and_eq_true, decide_eq_true_eq] at h1
    obtain ⟨rfl, hlink⟩ := h1
    obtain ⟨hcl, hok⟩ := sm_cl hc
    unfold a_new at hn
    rw [hc] at hn
    dsimp only at hn
    split at hn
    · rename_i hall
      have hfs : fs = (List.range k).map (fun j => defaultValue (ty j)) := (Option.some.inj hn).symm
      have g1 := hw.2.2.1
      have g2 := hw.2.2.2
      refine va_new (D := (dC, dI)) (ci := ci) (fs := fs.map (c_v base aK b)) hx hb hts hok.1 ty hok.2.2.1 hown (hts _ (at_p_in hlink)) (hts _ hok.2.2.2.1) (hts _ hok.2.2.2.2) hK hw.1 w_D hw.2.1 (fun q hq => by rw [hz0] at hq; exact Nat.le_trans (Nat.le_add_right base n0) hq) hcl (fun j hj => ?_) (by omega) (by show slots + k ≤ R.slots; omega) hd (fun q H1 hP1 hD1 hS1 => sm_al (cl := .inr (ci, fs)) hz0 hw hl hP1 hD1 hS1 kk)
      have hf := List.all_eq_true.mp hall j (List.mem_range.mpr hj)
      rw [hfs]
      unfold vp_V
      rw [List.getD_eq_getElem?_getD, List.getElem?_map, List.getElem?_map, List.getElem?_range hj]
      exact (sm_dv hf).symm
    · cases hn
end SIM3
