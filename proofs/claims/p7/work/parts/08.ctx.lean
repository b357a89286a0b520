/-! THE SIMULATION, a step -/
/-- what stays through a method: the machine, the method, the tables' words, the world's classes, the String constants, the script -/
def w_C (p : Program) (R : Room) (s : State) (m : MethodId) (args : Array Value) (meth : Method) (c : Code) (base : Nat) (dC : Nat → ClassId) (dI : Nat → Nat → Nat) (dA : FieldType → ClassId) (aK aV : Nat → Nat) (b L : Nat) (xs : Nat → Int32) (n0 mi : Nat) : Prop :=
  p.tables.exec = Jvm.exec ∧ c.code = m_b mi ∧ c.maxLocals = m_l mi ∧ s.vm.findClass (o_N.getD (m_o mi) "") = some m.cls ∧ (∀ w ∈ t_b, w.before args s = true) ∧ meth.sig.returnType = m_r mi ∧ meth.locks = false ∧ ((m_y mi).name = "<init>" → meth.name = "<init>") ∧
  va_K (dC, dI) a_cls (a_ty dA) s ∧ (∀ w ∈ w_N, va_Nw w s) ∧ (∀ i, i < 9 → vk_R (s_O i).1 (s_O i).2.1 (s_O i).2.2 (aK i) s) ∧ vk_S 9 s_L s_B aK aV (fun q => base ≤ q) s s.heap ∧ va_X b L xs s s.heap ∧ b < base ∧ s.heap.size = base + n0 ∧ (∀ i, i < 9 → aV i = aK (2000 + i)) ∧ va_Z "java/lang/String" "COMPACT_STRINGS" "Z" (.int 1) (fun q => base ≤ q) s s.heap ∧ va_Z "jdk/internal/util/Preconditions" "SIOOBE_FORMATTER" "Ljava/util/function/BiFunction;" (c_v base aK b (.float 3000)) (fun q => base ≤ q) s s.heap ∧ m_f mi ≤ R.frames ∧ m_w mi ≤ R.locals
/-- what holds at a point of it -/
def w_S (s : State) (base : Nat) (dC : Nat → ClassId) (dI : Nat → Nat → Nat) (dA : FieldType → ClassId) (aK : Nat → Nat) (b : Nat) (n0 k0 : Nat) (h : AH) (H : Heap) (locs : List Loc) (cells slots : Nat) : Prop :=
  va_P (dC, dI) a_cls (a_w base aK b dA h.1 h.2.2) H ∧ va_S (fun q => base ≤ q) s.heap H locs ∧ n0 + cells = h.1 ∧ k0 + slots = h.2.1
theorem w_nx {pc pc' : Nat} {la la' : AL} {st st' : List Value} {h h' : AH} (hs : a_nx pc la st h = some (.inl (pc', la', st', h'))) : pc' = pc ∧ la' = la ∧ st' = st ∧ h' = h := by
  cases hs
  exact ⟨rfl, rfl, rfl, rfl⟩
theorem w_go {pc : Nat} {off : Int} {la la' : AL} {st st' : List Value} {h h' : AH} {pc' : Nat} (hs : a_go pc off la st h = some (.inl (pc', la', st', h'))) : (pc : Int) + off = (pc' : Int) ∧ la' = la ∧ st' = st ∧ h' = h := by
  unfold a_go at hs
  split at hs
  · rename_i h0
    cases hs
    exact ⟨(Int.toNat_of_nonneg h0).symm, rfl, rfl, rfl⟩
  · cases hs
theorem w_br {q : Prop} [Decidable q] {pc : Nat} {off : Int} {la la' : AL} {st st' : List Value} {h h' : AH} {pc' : Nat} (hs : a_br q pc off la st h = some (.inl (pc', la', st', h'))) : (la' = la ∧ st' = st ∧ h' = h) ∧ ∃ tgt : Nat, (pc : Int) + off = (tgt : Int) ∧ (q → pc' = tgt) ∧ (¬ q → pc' = pc + 3) := by
  unfold a_br at hs
  split at hs
  · rename_i h0
    split at hs
    · rename_i hq
      obtain ⟨h1, h2, h3, h4⟩ := w_nx hs
      exact ⟨⟨h2, h3, h4⟩, _, (Int.toNat_of_nonneg h0).symm, fun _ => h1, fun z => absurd hq z⟩
    · rename_i hq
      obtain ⟨h1, h2, h3, h4⟩ := w_nx hs
      exact ⟨⟨h2, h3, h4⟩, _, (Int.toNat_of_nonneg h0).symm, fun z => absurd z hq, fun _ => h1⟩
  · cases hs
theorem w_len {i : Instr} {n : Nat} (k : Nat) (h : a_len i = n ∨ a_len i = 0) (e : a_len i = k + 1) : n = k + 1 := by
  rcases h with h | h
  · rw [← h]; exact e
  · rw [e] at h; cases h
theorem a_ld_spec {h : AH} {a : Nat} {t : FieldType} {i v : Int32} (e : a_ld h a t i = some v) : ∃ n f, a < h.1 ∧ h.2.2 a = .inl (t, n, .inl f) ∧ vp_in i n ∧ v = f i.toNatClampNeg := by
  unfold a_ld at e
  split at e
  · rename_i n f hc
    split at e
    · rename_i hin
      obtain ⟨h1, h2⟩ := h_ai_spec hc
      cases e
      exact ⟨n, f, h1, h2, a_inb_in hin, rfl⟩
    · cases e
  · cases e
theorem a_sv_spec {h h' : AH} {a : Nat} {t : FieldType} {i x : Int32} (e : a_sv h a t i x = some h') : ∃ n f, a < h.1 ∧ h.2.2 a = .inl (t, n, .inl f) ∧ vp_in i n ∧ h' = h_up h a (.inl (t, n, .inl (upd f i.toNatClampNeg x))) := by
  unfold a_sv at e
  split at e
  · rename_i n f hc
    split at e
    · rename_i hin
      obtain ⟨h1, h2⟩ := h_ai_spec hc
      cases e
      exact ⟨n, f, h1, h2, a_inb_in hin, rfl⟩
    · cases e
  · cases e
abbrev w_W (p : Program) (l : Launch) (e : Env) (R : Room) (s : State) (m : MethodId) (args : Array Value) (below : List Frame) (meth : Method) (c : Code) (base : Nat) (aK : Nat → Nat) (b : Nat) (Q : State → Prop) (H : Heap) (locs : List Loc) (cells slots : Nat) (pc : Nat) (ls : Array Slot) (st : List Value) : Prop := W p l e R s m args below meth c H locs cells slots Q (F0 m pc ls (st.map (c_v base aK b)))
section SIM
variable {p : Program} {l : Launch} {e : Env} {R : Room} {s : State} {m : MethodId} {args : Array Value} {below : List Frame} {meth : Method} {c : Code} {H : Heap} {locs : List Loc} {cells slots : Nat} {Q : State → Prop}
variable {base : Nat} {dC : Nat → ClassId} {dI : Nat → Nat → Nat} {dA : FieldType → ClassId} {aK aV : Nat → Nat} {b L : Nat} {xs : Nat → Int32} {n0 k0 mi : Nat}
variable {pc : Nat} {ls : Array Slot} {la : AL} {st : List Value} {h : AH}
theorem sm_if {x : Int32} {cd : ClassFile.Cond} {off : Int} {st' : List Value} {la' : AL} {h' : AH} {pc' : Nat} (hx : p.tables.exec = Jvm.exec) (hb : c.code = m_b mi) (hd : decode (m_b mi) pc = .ok (.ifCond cd off, 3)) (hs : a_if cd x pc off la st h = some (.inl (pc', la', st', h')))
    (kk : la' = la → h' = h → w_W p l e R s m args below meth c base aK b Q H locs cells slots pc' ls st') : w_W p l e R s m args below meth c base aK b Q H locs cells slots pc ls (.int x :: st) := by
  unfold a_if at hs
  cases cd <;> (obtain ⟨⟨rfl, rfl, rfl⟩, tgt, ht, h1, h2⟩ := w_br hs; have kk := kk rfl rfl)
  · exact lv_if_eq hx hb hd ht (fun q => by rw [h1 q] at kk; exact kk) (fun q => by rw [h2 q] at kk; exact kk)
  · exact lv_if_ne hx hb hd ht (fun q => by rw [h1 q] at kk; exact kk) (fun q => by rw [h2 (fun z => z q)] at kk; exact kk)
  · exact lv_if_lt hx hb hd ht (fun q => by rw [h1 q] at kk; exact kk) (fun q => by rw [h2 q] at kk; exact kk)
  · exact lv_if_ge hx hb hd ht (fun q => by rw [h1 q] at kk; exact kk) (fun q => by rw [h2 q] at kk; exact kk)
  · exact lv_if_gt hx hb hd ht (fun q => by rw [h1 q] at kk; exact kk) (fun q => by rw [h2 q] at kk; exact kk)
  · exact lv_if_le hx hb hd ht (fun q => by rw [h1 q] at kk; exact kk) (fun q => by rw [h2 q] at kk; exact kk)
theorem sm_ic {x y : Int32} {cd : ClassFile.Cond} {off : Int} {st' : List Value} {la' : AL} {h' : AH} {pc' : Nat} (hx : p.tables.exec = Jvm.exec) (hb : c.code = m_b mi) (hd : decode (m_b mi) pc = .ok (.if_icmp cd off, 3)) (hs : a_ic cd x y pc off la st h = some (.inl (pc', la', st', h')))
    (kk : la' = la → h' = h → w_W p l e R s m args below meth c base aK b Q H locs cells slots pc' ls st') : w_W p l e R s m args below meth c base aK b Q H locs cells slots pc ls (.int y :: .int x :: st) := by
  unfold a_ic at hs
  cases cd <;> (obtain ⟨⟨rfl, rfl, rfl⟩, tgt, ht, h1, h2⟩ := w_br hs; have kk := kk rfl rfl)
  · exact lv_icmp_eq hx hb hd ht (fun q => by rw [h1 q] at kk; exact kk) (fun q => by rw [h2 q] at kk; exact kk)
  · exact lv_icmp_ne hx hb hd ht (fun q => by rw [h1 q] at kk; exact kk) (fun q => by rw [h2 (fun z => z q)] at kk; exact kk)
  · exact lv_icmp_lt hx hb hd ht (fun q => by rw [h1 q] at kk; exact kk) (fun q => by rw [h2 q] at kk; exact kk)
  · exact lv_icmp_ge hx hb hd ht (fun q => by rw [h1 q] at kk; exact kk) (fun q => by rw [h2 q] at kk; exact kk)
  · exact lv_icmp_gt hx hb hd ht (fun q => by rw [h1 q] at kk; exact kk) (fun q => by rw [h2 q] at kk; exact kk)
  · exact lv_icmp_le hx hb hd ht (fun q => by rw [h1 q] at kk; exact kk) (fun q => by rw [h2 q] at kk; exact kk)
end SIM
