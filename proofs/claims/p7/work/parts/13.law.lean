/-! THE CLAIM OUT OF ONE WALK OF THE LAW'S BODY. Your part is whole_start (and what it stands on); all else here is the same for every law, but numbers. -/
def R_law : String := "MarkBenchLaw"
def lw_P (b : Addr) (xs : List Int32) (args : Array Value) (s : State) : Prop := args = #[.ref b] ∧ s.IntsAt b xs ∧ xs.length ≤ 3072 ∧ (Jvm.Cond.and given_1 narrow_1).before args s = true
def lw_Q (_ : Array Value) (s : State) (o : Outcome) (t : State) : Prop := o = .returned (some (.int 1)) ∧ Framed s o t [] 600000 7302250
def lw_Z (below : List Frame) (a : Array Value) (s : State) : State → Prop := fun t => ∃ o, t.status = .running ∧ Ended t below o ∧ lw_Q a s o t
/-- the law's own end, with 1 on the stack, nothing written that was there before, its room as the claim has it -/
theorem lw_ret {p : Program} {l : Launch} {e : Env} {s : State} {m : MethodId} {below : List Frame} {meth : Method} {c : Code} {b : Nat} (hx : p.tables.exec = Jvm.exec) (hb : c.code = code) (hr : meth.sig.returnType = ret) (hlocks : meth.locks = false) {pc : Nat} {H : Heap} {ls : Array Slot} (hdg : decode code pc = .ok (.ireturn, 1)) : W p l e room_1 s m #[Value.ref b] below meth c H [] 600000 7302250 (lw_Z below #[Value.ref b] s) (F0 m pc ls [.int 1]) := by
  intro T hT X
  obtain ⟨fs, hret, hrun, hended, hW, hframe⟩ := X.leave (v := some (.int 1)) (hlocks := hlocks) (fun h => by rw [hr] at h; cases h)
  have hmeth' : T.vm.method? m = some meth := X.method'
  refine ⟨T.setFrames fs, ?_, .returned (some (.int 1)), hrun, hended, rfl, ⟨_, rfl⟩, hW, hframe⟩
  jvm_step X.here [X.here.top, hx, hb, hdg, hmeth', hr, ret, narrow_b1]
  (try refine ⟨rfl, ?_⟩); (try refine ⟨rfl, ?_⟩)
  first | (intro acts; rw [hret _ acts rfl rfl rfl]) | rw [hret _ _ rfl rfl rfl]
  exact Steps.refl _
/-- what holds at the law's entry: the machine, the code, the tables' words (any of lw_tbl by 'hts w (by decide +kernel)'), the script of L ints xs at the cell b, what the Statement gives of the start (any of its parts by flat_of_before) -/
def lw_At (p : Program) (s : State) (m : MethodId) (meth : Method) (c : Code) (b L : Nat) (xs : Nat → Int32) : Prop :=
  p.tables.exec = Jvm.exec ∧ c.code = code ∧ meth.sig.returnType = ret ∧ c.maxLocals = 4 ∧ s.vm.findClass R_law = some m.cls ∧ (∀ w ∈ lw_tbl, w.before #[Value.ref b] s = true) ∧ va_X b L xs s s.heap ∧ b < s.heap.size ∧ meth.locks = false ∧ (Jvm.Cond.and given_1 narrow_1).before #[Value.ref b] s = true
/-! THE LAW'S START, out of a run of the abstract machine -/
def s_T (i : Nat) : Term := .string (s_O i).1 (s_O i).2.1
def n_F : List Cond := flatC (Jvm.Cond.and given_1 narrow_1)
theorem n_1 : (List.range 9).all (fun i => decide (Cond.exactly (s_T i) "java/lang/String" ∈ n_F) && decide (Cond.eq (.field (s_T i) "java/lang/String" "coder" "B") (.int 0) ∈ n_F) && decide (Cond.arrayOf (.field (s_T i) "java/lang/String" "value" "[B") .byte ∈ n_F) && decide (Cond.eq (.length (.field (s_T i) "java/lang/String" "value" "[B")) (.int (Int32.ofNat (s_L.getD i 0))) ∈ n_F) && decide (s_L.getD i 0 < 2 ^ 31)) = true := by decide +kernel
theorem n_2 : (List.range 9).all (fun i => (List.range (s_L.getD i 0)).all (fun j => decide (Cond.eq (.elem (.field (s_T i) "java/lang/String" "value" "[B") (.int (Int32.ofNat j))) (.int ((s_B.getD i []).getD j 0)) ∈ n_F))) = true := by decide +kernel
theorem n_3 : (List.range 9).all (fun i => (List.range 9).all (fun j => decide (i = j) || decide (Cond.not (Cond.eq (s_T i) (s_T j)) ∈ n_F) || decide (Cond.not (Cond.eq (s_T j) (s_T i)) ∈ n_F))) = true := by decide +kernel
theorem n_4 : Cond.eq (.static "java/lang/String" "COMPACT_STRINGS" "Z") (.int 1) ∈ n_F := by decide +kernel
theorem n_5 : Cond.isRef (.static "jdk/internal/util/Preconditions" "SIOOBE_FORMATTER" "Ljava/util/function/BiFunction;") ∈ n_F := by decide +kernel
theorem n_6 : (List.range 9).all (fun i => decide (Cond.stringRef (s_O i).1 (s_O i).2.1 (s_O i).2.2 ∈ lw_tbl)) = true := by decide +kernel
theorem n_7 : w_N.all (fun w => decide (w ∈ lw_tbl)) = true := by decide +kernel
theorem n_8 : Cond.initialized "java/lang/String" ∈ lw_tbl := by decide +kernel
theorem n_9 : Cond.initialized "jdk/internal/util/Preconditions" ∈ lw_tbl := by decide +kernel
theorem w_nO {w : Cond} {A : Array Value} {U : State} (hw : w ∈ w_N) (h : w.before A U = true) : va_Nw w U := by
  simp only [w_N, List.mem_cons, List.not_mem_nil, or_false] at hw
  rcases hw with rfl | rfl | rfl | rfl | rfl | rfl <;> exact va_Nw.of rfl h
def e_H : AH := (0, 0, fun _ => .inr (0, []))
def e_L : AL := [(0, .float 1000)]
set_option maxHeartbeats 4000000 in
theorem law_of {p : Program} {e : Env} {s : State} {m : MethodId} {below : List Frame} {meth : Method} {c : Code} (l : Launch) {b L : Nat} {xs : Nat → Int32} (C0 : lw_At p s m meth c b L xs) {f : Nat} {h' : AH} (hrun : a_run L xs f 0 0 e_L [] e_H = some (some (.int 1), h')) (hc : h'.1 ≤ 600000) (hs : h'.2.1 ≤ 7302250) : W p l e room_1 s m #[Value.ref b] below meth c s.heap [] 0 0 (lw_Z below #[Value.ref b] s) (entryFrame m ([Value.ref b] : List Value).toArray 4) := by
  obtain ⟨hx, hb, hr, hml, hown, hts, hX, hbl, hlocks, hgv⟩ := id C0
  have hfl := flat_of_before _ hgv
  have htb : ∀ w ∈ t_b, w.before #[Value.ref b] s = true := fun w hw => hts w (List.mem_filter.mp hw).1
  have hlow : ∀ a : Nat, a < s.heap.size → ¬ (fun q => s.heap.size ≤ q) a := fun a ha => Nat.not_le.mpr ha
  have h1 := fun i hi => List.all_eq_true.mp n_1 i (List.mem_range.mpr hi)
  simp only [Bool.and_eq_true, decide_eq_true_eq] at h1
  obtain ⟨kK, kV, hV, hev⟩ := vk_Sof (args := #[Value.ref b]) (s := s) (N := 9) (tm := s_T) (len := s_L) (byt := s_B) (A := fun q => s.heap.size ≤ q) (fun i hi => (h1 i hi).2) (fun i hi => hfl _ (h1 i hi).1.1.1.1) (fun i hi => hfl _ (h1 i hi).1.1.1.2) (fun i hi => hfl _ (h1 i hi).1.1.2) (fun i hi => hfl _ (h1 i hi).1.2)
    (fun i hi j hj => hfl _ (of_decide_eq_true (List.all_eq_true.mp (List.all_eq_true.mp n_2 i (List.mem_range.mpr hi)) j (List.mem_range.mpr hj))))
    (fun i j hi hj hij => by
      have h3 := List.all_eq_true.mp (List.all_eq_true.mp n_3 i (List.mem_range.mpr hi)) j (List.mem_range.mpr hj)
      simp only [Bool.or_eq_true, decide_eq_true_eq] at h3
      rcases h3 with (h3 | h3) | h3
      · exact absurd h3 hij
      · exact Or.inl (hfl _ h3)
      · exact Or.inr (hfl _ h3)) hlow
  have hz1 := va_Zof (A := fun q => s.heap.size ≤ q) (hts _ o_z1) (hts _ n_8) (va_eqi (hfl _ n_4)) hlow
  have hz2 := va_Zqof (A := fun q => s.heap.size ≤ q) (hts _ o_z2) (hts _ n_9) (hfl _ n_5) hlow
  obtain ⟨z, hz⟩ : ∃ z : Nat, va_Z "jdk/internal/util/Preconditions" "SIOOBE_FORMATTER" "Ljava/util/function/BiFunction;" (c_z z) (fun q => s.heap.size ≤ q) s s.heap := by
    rcases hz2 with q | ⟨t, q⟩
    · exact ⟨0, q⟩
    · exact ⟨t + 1, q⟩
  obtain ⟨aK, haK⟩ : ∃ aK : Nat → Nat, aK = fun k => if k = 3000 then z else if k < 1000 then kK k else kV (k - 2000) := ⟨_, rfl⟩
  have hk1 : ∀ i, i < 9 → aK i = kK i := fun i hi => by
    rw [haK]
    show (if i = 3000 then z else if i < 1000 then kK i else kV (i - 2000)) = kK i
    rw [if_neg (by omega), if_pos (by omega)]
  have hk2 : ∀ i, i < 9 → kV i = aK (2000 + i) := fun i hi => by
    rw [haK]
    show kV i = (if 2000 + i = 3000 then z else if 2000 + i < 1000 then kK (2000 + i) else kV (2000 + i - 2000))
    rw [if_neg (by omega), if_neg (by omega), Nat.add_sub_cancel_left]
  have hV2 : vk_S 9 s_L s_B aK kV (fun q => s.heap.size ≤ q) s s.heap := ⟨fun i hi => by rw [hk1 i hi]; exact hV.1 i hi, fun i j hi hj => by rw [hk1 i hi, hk1 j hj]; exact hV.2 i j hi hj⟩
  have hZ : ∀ i, i < 9 → vk_R (s_O i).1 (s_O i).2.1 (s_O i).2.2 (aK i) s := fun i hi => by
    rw [hk1 i hi]
    exact vk_R.of (hts _ (of_decide_eq_true (List.all_eq_true.mp n_6 i (List.mem_range.mpr hi)))) (hev i hi)
  have hN : ∀ w ∈ w_N, va_Nw w s := fun w hw => w_nO hw (hts w (of_decide_eq_true (List.all_eq_true.mp n_7 w hw)))
  have hz3 : va_Z "jdk/internal/util/Preconditions" "SIOOBE_FORMATTER" "Ljava/util/function/BiFunction;" (c_v s.heap.size aK b (.float 3000)) (fun q => s.heap.size ≤ q) s s.heap := by
    have : aK 3000 = z := by rw [haK]; rfl
    rw [c_f, if_pos rfl, this]
    exact hz
  have hcl : ∀ k : Nat, ∃ d : ClassId × (Nat → Nat), ∀ q : vw_C, a_cls[k]? = some q → u_Kn s q.1 q.2.1 q.2.2 d.1 d.2 := by
    intro k
    cases hk : c_R[k]? with
    | none => exact ⟨(0, fun _ => 0), fun q hq => by rw [a_cls_R, List.getElem?_map, hk] at hq; cases hq⟩
    | some r =>
      obtain ⟨C, T, N, ty⟩ := r
      obtain ⟨h2, h3⟩ := sm_cl hk
      obtain ⟨cC, iS, h4⟩ := u_known htb h3.1 (htb _ h3.2.2.2.1)
      refine ⟨(cC, iS), fun q hq => ?_⟩
      cases h2.symm.trans hq
      exact h4
  obtain ⟨d, hd⟩ := Classical.axiomOfChoice hcl
  have hty : ∀ t : FieldType, Cond.arrayClass t ∈ t_b → (∀ (U : State) (cA : ClassId), U.vm.findClass ("[" ++ t.toString) = some cA → va_RA U cA t) → ∃ cA : ClassId, ArrOfT s cA t ∧ va_RA s cA t := by
    intro t ht hra
    obtain ⟨cA, kA, comp, g1, g2, g3⟩ := Cond.arrayClass_spec (htb _ ht)
    exact ⟨cA, fun n z => ⟨fun k h => (by cases h), kA, g2, comp, g3⟩, hra s cA g1⟩
  obtain ⟨d1, e1⟩ := hty .int o_tint (fun _ _ z => z)
  obtain ⟨d2, e2⟩ := hty .byte o_tbyte (fun _ _ z => z)
  obtain ⟨d3, e3⟩ := hty .char o_tchar (fun _ _ z => z)
  obtain ⟨d4, e4⟩ := hty .boolean o_tboolean (fun _ _ z => z)
  obtain ⟨d5, e5⟩ := hty .long o_tlong (fun _ _ z => z)
  obtain ⟨dA, hdA⟩ : ∃ dA : FieldType → ClassId, dA .int = d1 ∧ dA .byte = d2 ∧ dA .char = d3 ∧ dA .boolean = d4 ∧ dA .long = d5 := ⟨fun t => match t with
    | .int => d1
    | .byte => d2
    | .char => d3
    | .boolean => d4
    | _ => d5, rfl, rfl, rfl, rfl, rfl⟩
  obtain ⟨x1, x2, x3, x4, x5⟩ := hdA
  have hK : va_K (fun k => (d k).1, fun k => (d k).2) a_cls (a_ty dA) s := by
    refine ⟨fun k q hq => hd k q hq, fun k q hq => ?_⟩
    unfold a_ty at hq
    match k, hq with
    | 0, hq => cases hq; rw [x1]; exact e1
    | 1, hq => cases hq; rw [x2]; exact e2
    | 2, hq => cases hq; rw [x3]; exact e3
    | 3, hq => cases hq; rw [x4]; exact e4
    | 4, hq => cases hq; rw [x5]; exact e5
    | k + 5, hq => simp at hq
  have hl := lv_entry ([.ref b]) (n := 4) (Nat.le_of_ble_eq_true rfl)
  rw [lg_entry_eq]
  generalize (lg_sl ([.ref b]) ++ List.replicate (4 - (lg_sl ([.ref b])).length) Slot.unset).toArray = ls at hl ⊢
  have hl2 : lv_has ls (m_l 0) (c_l s.heap.size aK b e_L) := by
    have e6 : c_l s.heap.size aK b e_L = [(0, .ref b)] := by
      unfold c_l e_L
      rw [List.map_cons, c_fl (by decide), if_pos rfl]
      rfl
    rw [e6]
    exact hl
  have C1 : w_C p room_1 s m #[Value.ref b] meth c s.heap.size (fun k => (d k).1) (fun k => (d k).2) dA aK kV b L xs 0 0 :=
    ⟨hx, hb, hml, hown, htb, hr, hlocks, fun z => absurd z (by decide), hK, hN, hZ, hV2, hX, hbl, rfl, hk2, hz1, hz3, by decide, by decide⟩
  have hP0 : va_P (fun k => (d k).1, fun k => (d k).2) a_cls (a_w s.heap.size aK b dA e_H.1 e_H.2.2) s.heap := fun k q hq => by
    unfold a_w e_H at hq
    simp at hq
  refine sim L xs f (st := []) (n0 := 0) (k0 := 0) hrun C1 hl2 ⟨hP0, va_S.rf, rfl, rfl⟩ (by show h'.1 ≤ 0 + 600000; omega) (by show h'.2.1 ≤ 0 + 7302250; omega) ?_
  intro H' locs' cells' slots' pc' ls' la' st' i ri hi hst hw
  obtain ⟨n, hdc, hn, -⟩ := a_ins_spec hi
  obtain ⟨hP, hS, g1, g2⟩ := hw
  rcases a_st_ret hst with ⟨rfl, x, t, rfl, -, -, hv⟩ | ⟨-, x, -, -, hv⟩ | ⟨-, -, -, hv⟩
  · obtain rfl := w_len 0 hn rfl
    cases hv
    refine va_forget (fun q hq => hS.2.2 q hq) ?_
    refine W.widen (k := 600000) (n := 7302250) (by omega) (by omega) ?_
    exact lw_ret hx hb hr hlocks hdc
  · cases hv
  · cases hv
