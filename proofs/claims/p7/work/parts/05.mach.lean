/-! THE ABSTRACT MACHINE: cells by number, values with numbers for addresses (a String constant k is '.float k', the script is '.float 1000'); a step, a run with fuel. -/
abbrev AC : Type := (FieldType × vp_A) ⊕ (Nat × List Value)
abbrev AH : Type := Nat × Nat × (Nat → AC)
abbrev AL : Type := List (Nat × Value)
abbrev AO : Type := (Nat × AL × List Value × AH) ⊕ (Option Value ⊕ (Nat × List Value × List Value))
def a_lk (t : a_Tb) (o i : Nat) : Option AR := (t.find? (fun e => e.1.1 == o && e.1.2 == i)).map (fun e => e.2)
theorem a_lk_mem {t : a_Tb} {o i : Nat} {r : AR} (h : a_lk t o i = some r) : ((o, i), r) ∈ t := by
  unfold a_lk at h
  cases hf : t.find? (fun e => e.1.1 == o && e.1.2 == i) with
  | none => rw [hf] at h; cases h
  | some e =>
    rw [hf] at h
    have h1 := List.find?_some hf
    have h2 := List.mem_of_find?_eq_some hf
    simp only [Bool.and_eq_true, beq_iff_eq] at h1
    have h3 : e.2 = r := Option.some.inj h
    have h4 : e = ((o, i), r) := by
      rw [← h3, ← h1.1, ← h1.2]
    rw [← h4]
    exact h2
def a_len : Instr → Nat
  | .bipush _ => 2
  | .ldc _ => 2
  | .iload _ => 2
  | .lload _ => 2
  | .aload _ => 2
  | .istore _ => 2
  | .lstore _ => 2
  | .astore _ => 2
  | .newarray _ => 2
  | .sipush _ => 3
  | .ldc_w _ => 3
  | .ldc2_w _ => 3
  | .iinc _ _ => 3
  | .ifCond _ _ => 3
  | .if_icmp _ _ => 3
  | .goto _ => 3
  | .getfield _ => 3
  | .getstatic _ => 3
  | .putfield _ => 3
  | .invokevirtual _ => 3
  | .invokespecial _ => 3
  | .invokestatic _ => 3
  | .new _ => 3
  | .tableswitch _ _ _ _ => 0
  | .lookupswitch _ _ => 0
  | _ => 1
def a_res (mi : Nat) : Instr → Option AR
  | .getfield i => match a_lk f_T (m_o mi) i with
    | some r => some r
    | none => (a_lk g_T (m_o mi) i).map (fun r => (100 + r.1, r.2))
  | .getstatic i => a_lk g_T (m_o mi) i
  | .putfield i => a_lk f_T (m_o mi) i
  | .new i => a_lk n_T (m_o mi) i
  | .ldc i => a_lk d_T (m_o mi) i
  | .ldc_w i => a_lk d_T (m_o mi) i
  | .ldc2_w i => a_lk l_T (m_o mi) i
  | .invokevirtual i => a_lk k_T (m_o mi) i
  | .invokespecial i => a_lk k_T (m_o mi) i
  | .invokestatic i => a_lk k_T (m_o mi) i
  | _ => some (0, 0, 0)
def a_ins (mi pc : Nat) : Option (Instr × AR) := match decode (m_b mi) pc with
  | .ok (i, n) => if a_len i = n ∨ a_len i = 0 then (a_res mi i).map (fun r => (i, r)) else none
  | _ => none
theorem a_ins_spec {mi pc : Nat} {i : Instr} {r : AR} (h : a_ins mi pc = some (i, r)) : ∃ n, decode (m_b mi) pc = .ok (i, n) ∧ (a_len i = n ∨ a_len i = 0) ∧ a_res mi i = some r := by
  unfold a_ins at h
  split at h
  · rename_i j n hd
    by_cases hn : a_len j = n ∨ a_len j = 0
    · rw [if_pos hn] at h
      cases hr : a_res mi j with
      | none => rw [hr] at h; cases h
      | some r' =>
        rw [hr] at h
        cases h
        exact ⟨n, hd, hn, hr⟩
    · rw [if_neg hn] at h
      cases h
  · cases h
def l_g : AL → Nat → Option Value
  | [], _ => none
  | q :: l, i => if q.1 = i then some q.2 else l_g l i
theorem l_g_mem : ∀ {l : AL} {i : Nat} {v : Value}, l_g l i = some v → (i, v) ∈ l
  | q :: l, i, v, h => by
    unfold l_g at h
    by_cases hq : q.1 = i
    · rw [if_pos hq] at h
      have h1 : q.2 = v := Option.some.inj h
      rw [← hq, ← h1]
      exact List.mem_cons_self
    · rw [if_neg hq] at h
      exact List.mem_cons_of_mem _ (l_g_mem h)
def l_in (i : Nat) (v : Value) : AL → AL
  | [] => [(i, v)]
  | q :: l => if i < q.1 then (i, v) :: q :: l else q :: l_in i v l
theorem l_in_mem {i : Nat} {v : Value} {q : Nat × Value} : ∀ {l : AL}, q ∈ l_in i v l → q = (i, v) ∨ q ∈ l
  | [], h => Or.inl (List.mem_singleton.mp h)
  | x :: l, h => by
    unfold l_in at h
    split at h
    · exact List.mem_cons.mp h
    · rcases List.mem_cons.mp h with h | h
      · exact Or.inr (List.mem_cons.mpr (Or.inl h))
      · exact (l_in_mem h).imp id (List.mem_cons_of_mem _)
def l_s (l : AL) (i : Nat) (v : Value) : AL := l_in i v (l.filter (fun q => !(q.1 == i) && !(q.1 + 1 == i && q.2.category == 2)))
def l_s2 (l : AL) (i : Nat) (v : Value) : AL := l_in i v (l.filter (fun q => !(q.1 == i) && (!(q.1 == i + 1) && !(q.1 + 1 == i && q.2.category == 2))))
def h_up (h : AH) (i : Nat) (c : AC) : AH := (h.1, h.2.1, va_up h.2.2 i c)
def h_ps (h : AH) (n : Nat) (c : AC) : AH := (h.1 + 1, h.2.1 + n, va_up h.2.2 h.1 c)
def a_nx (pc : Nat) (l : AL) (st : List Value) (h : AH) : Option AO := some (.inl (pc, l, st, h))
def a_go (pc : Nat) (off : Int) (l : AL) (st : List Value) (h : AH) : Option AO := if 0 ≤ (pc : Int) + off then some (.inl (((pc : Int) + off).toNat, l, st, h)) else none
def a_br (c : Prop) [Decidable c] (pc : Nat) (off : Int) (l : AL) (st : List Value) (h : AH) : Option AO := if 0 ≤ (pc : Int) + off then (if c then a_nx ((pc : Int) + off).toNat l st h else a_nx (pc + 3) l st h) else none
def a_if (c : ClassFile.Cond) (x : Int32) (pc : Nat) (off : Int) (l : AL) (st : List Value) (h : AH) : Option AO := match c with
  | .eq => a_br (x = 0) pc off l st h
  | .ne => a_br (¬ x = 0) pc off l st h
  | .lt => a_br (x < 0) pc off l st h
  | .ge => a_br (0 ≤ x) pc off l st h
  | .gt => a_br (0 < x) pc off l st h
  | .le => a_br (x ≤ 0) pc off l st h
def a_ic (c : ClassFile.Cond) (x y : Int32) (pc : Nat) (off : Int) (l : AL) (st : List Value) (h : AH) : Option AO := match c with
  | .eq => a_br (x = y) pc off l st h
  | .ne => a_br (¬ x = y) pc off l st h
  | .lt => a_br (x < y) pc off l st h
  | .ge => a_br (y ≤ x) pc off l st h
  | .gt => a_br (y < x) pc off l st h
  | .le => a_br (x ≤ y) pc off l st h
/-- an int array of a type: its length and contents -/
def h_ai (h : AH) (a : Nat) (t : FieldType) : Option (Nat × (Nat → Int32)) := if a < h.1 then (match h.2.2 a with
  | .inl (t', n, .inl f) => if t' = t then some (n, f) else none
  | _ => none) else none
def h_al (h : AH) (a : Nat) : Option (Nat × (Nat → Int64)) := if a < h.1 then (match h.2.2 a with
  | .inl (.long, n, .inr (.inl f)) => some (n, f)
  | _ => none) else none
def h_ob (h : AH) (a : Nat) : Option (Nat × List Value) := if a < h.1 then (match h.2.2 a with
  | .inr o => some o
  | _ => none) else none
def a_inb (i : Int32) (n : Nat) : Bool := !(decide (i < 0) || decide (n ≤ i.toNatClampNeg))
def a_ld (h : AH) (a : Nat) (t : FieldType) (i : Int32) : Option Int32 := match h_ai h a t with
  | some (n, f) => if a_inb i n = true then some (f i.toNatClampNeg) else none
  | none => none
def a_sv (h : AH) (a : Nat) (t : FieldType) (i x : Int32) : Option AH := match h_ai h a t with
  | some (n, f) => if a_inb i n = true then some (h_up h a (.inl (t, n, .inl (upd f i.toNatClampNeg x)))) else none
  | none => none
def a_def (t : FieldType) (n : Nat) : Option AC := match t with
  | .int => some (.inl (.int, n, .inl (fun _ => 0)))
  | .byte => some (.inl (.byte, n, .inl (fun _ => 0)))
  | .char => some (.inl (.char, n, .inl (fun _ => 0)))
  | .boolean => some (.inl (.boolean, n, .inl (fun _ => 0)))
  | .long => some (.inl (.long, n, .inr (.inl (fun _ => 0))))
  | _ => none
def a_sum (st : List Value) : Nat := (st.map fun v => v.category).sum
def a_rm (mi mj : Nat) : Bool := decide (m_f mj + 1 ≤ m_f mi) && decide (8 + (m_l mj + 11) + m_w mj ≤ m_w mi)
def a_nt (mi : Nat) : Bool := decide (1 ≤ m_f mi) && decide (21 ≤ m_w mi)
def a_cn (ci : Nat) : String := match c_R[ci]? with
  | some r => r.1
  | none => ""
/-- a call: kinds 0 virtual, 1 static, 2 and 3 constructors -/
def a_call (mi : Nat) (k mj n : Nat) (st : List Value) (h : AH) : Option AO :=
  if k = 1 then (if n ≤ st.length ∧ a_rm mi mj = true ∧ a_sum (st.drop n) ≤ 8 ∧ a_sum (st.take n).reverse ≤ m_l mj then some (.inr (.inr (mj, (st.take n).reverse, st.drop n))) else none)
  else if k = 0 then (match st.drop n with
    | .ref a :: rest => match h_ob h a with
      | some (ci, _) => if n ≤ st.length ∧ a_rm mi mj = true ∧ a_sum rest ≤ 8 ∧ a_cn ci = (m_y mj).cls ∧ a_sum (.ref a :: (st.take n).reverse) ≤ m_l mj then some (.inr (.inr (mj, .ref a :: (st.take n).reverse, rest))) else none
      | none => none
    | .float q :: rest => if n ≤ st.length ∧ a_rm mi mj = true ∧ a_sum rest ≤ 8 ∧ (q.toNat < 9 ∧ "java/lang/String" = (m_y mj).cls) ∧ a_sum (.float q :: (st.take n).reverse) ≤ m_l mj then some (.inr (.inr (mj, .float q :: (st.take n).reverse, rest))) else none
    | _ => none)
  else (match st.drop n with
    | .ref a :: rest => if n ≤ st.length ∧ a_rm mi mj = true ∧ a_sum rest ≤ 8 ∧ a_sum (.ref a :: (st.take n).reverse) ≤ m_l mj then some (.inr (.inr (mj, .ref a :: (st.take n).reverse, rest))) else none
    | _ => none)
