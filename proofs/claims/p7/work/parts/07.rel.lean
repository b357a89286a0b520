/-! THE ABSTRACT MACHINE'S CELLS AND VALUES, as the real machine has them -/
def c_z : Nat → Value
  | 0 => .null
  | n + 1 => .ref n
def c_v (base : Nat) (aK : Nat → Nat) (b : Nat) : Value → Value
  | .ref i => .ref (base + i)
  | .float k => if k = 3000 then c_z (aK 3000) else .ref (if k = 1000 then b else aK k.toNat)
  | .int x => .int x
  | .long x => .long x
  | .double x => .double x
  | .null => .null
  | .retAddr x => .retAddr x
def c_e (base : Nat) (aK : Nat → Nat) (b : Nat) (dA : FieldType → ClassId) : AC → va_E
  | .inl (t, a) => .inl (dA t, a)
  | .inr (ci, fs) => .inr (ci, fs.map (c_v base aK b))
def c_l (base : Nat) (aK : Nat → Nat) (b : Nat) (l : AL) : AL := l.map (fun q => (q.1, c_v base aK b q.2))
def a_w (base : Nat) (aK : Nat → Nat) (b : Nat) (dA : FieldType → ClassId) (n : Nat) (g : Nat → AC) : va_W := (List.range n).map (fun i => (base + i, c_e base aK b dA (g i)))
def a_ty (dA : FieldType → ClassId) : List (ClassId × FieldType) := [(dA .int, .int), (dA .byte, .byte), (dA .char, .char), (dA .boolean, .boolean), (dA .long, .long)]
section REL
variable {base : Nat} {aK : Nat → Nat} {b : Nat} {dA : FieldType → ClassId}
theorem c_f (k : UInt32) : c_v base aK b (.float k) = if k = 3000 then c_z (aK 3000) else .ref (if k = 1000 then b else aK k.toNat) := rfl
theorem c_zc (n : Nat) : (c_z n).category = 1 := by cases n <;> rfl
theorem c_cat (v : Value) : (c_v base aK b v).category = v.category := by
  cases v with
  | float k =>
    rw [c_f]
    by_cases h : k = 3000
    · rw [if_pos h, c_zc]
      rfl
    · rw [if_neg h]
      rfl
  | _ => rfl
theorem c_fl {k : UInt32} (h : ¬ k = 3000) : c_v base aK b (.float k) = .ref (if k = 1000 then b else aK k.toNat) := by
  rw [c_f, if_neg h]
theorem c_fk {k : UInt32} (h : ¬ k = 3000) (h2 : ¬ k = 1000) : c_v base aK b (.float k) = .ref (aK k.toNat) := by
  rw [c_fl h, if_neg h2]
theorem c_sum (st : List Value) : ((st.map (c_v base aK b)).map fun v => v.category).sum = a_sum st := by
  unfold a_sum
  rw [List.map_map]
  congr 1
  apply List.map_congr_left
  intro v _
  exact c_cat v
theorem c_g {ls : Array Slot} {nL : Nat} {l : AL} (h : lv_has ls nL (c_l base aK b l)) {i : Nat} {v : Value} (hg : l_g l i = some v) : ls[i]? = some (.val (c_v base aK b v)) := by
  have h1 := l_g_mem hg
  exact h.2.2 (i, c_v base aK b v) (List.mem_map.mpr ⟨(i, v), h1, rfl⟩)
theorem c_in {ls : Array Slot} {nL i : Nat} {v : Value} {l0 l : AL} (h : lv_has ls nL ((i, c_v base aK b v) :: l0)) (e : l0 = c_l base aK b l) : lv_has ls nL (c_l base aK b (l_in i v l)) := by
  refine ⟨h.1, h.2.1, fun q hq => ?_⟩
  obtain ⟨x, hx, rfl⟩ := List.mem_map.mp hq
  rcases l_in_mem hx with rfl | hx
  · exact h.2.2 _ List.mem_cons_self
  · exact h.2.2 _ (List.mem_cons_of_mem _ (by rw [e]; exact List.mem_map.mpr ⟨x, hx, rfl⟩))
theorem c_s {ls : Array Slot} {nL i : Nat} {v : Value} {l : AL} (h : lv_has ls nL ((i, c_v base aK b v) :: (c_l base aK b l).filter (fun q => !(q.1 == i) && !(q.1 + 1 == i && q.2.category == 2)))) : lv_has ls nL (c_l base aK b (l_s l i v)) := by
  refine c_in h ?_
  unfold c_l
  rw [List.filter_map]
  congr 1
  apply List.filter_congr
  intro q _
  simp only [Function.comp, c_cat]
theorem c_s2 {ls : Array Slot} {nL i : Nat} {v : Value} {l : AL} (h : lv_has ls nL ((i, c_v base aK b v) :: (c_l base aK b l).filter (fun q => !(q.1 == i) && (!(q.1 == i + 1) && !(q.1 + 1 == i && q.2.category == 2))))) : lv_has ls nL (c_l base aK b (l_s2 l i v)) := by
  refine c_in h ?_
  unfold c_l
  rw [List.filter_map]
  congr 1
  apply List.filter_congr
  intro q _
  simp only [Function.comp, c_cat]
theorem c_args : ∀ (as : List Value) (i : Nat), lv_args i (as.map (c_v base aK b)) = c_l base aK b (lv_args i as)
  | [], i => rfl
  | v :: as, i => by
    rw [List.map_cons, lv_args, lv_args, c_cat, c_args as]
    rfl
theorem w_get {n : Nat} {g : Nat → AC} {i : Nat} (h : i < n) : (a_w base aK b dA n g)[i]? = some (base + i, c_e base aK b dA (g i)) := by
  unfold a_w
  rw [List.getElem?_map, List.getElem?_range h]
  rfl
theorem w_none {n : Nat} {g : Nat → AC} {i : Nat} (h : n ≤ i) : (a_w base aK b dA n g)[i]? = none := by
  apply List.getElem?_eq_none
  unfold a_w
  rw [List.length_map, List.length_range]
  exact h
theorem w_some {n : Nat} {g : Nat → AC} {i : Nat} {q : Nat × va_E} (h : (a_w base aK b dA n g)[i]? = some q) : i < n ∧ q = (base + i, c_e base aK b dA (g i)) := by
  rcases Nat.lt_or_ge i n with hi | hi
  · rw [w_get hi] at h
    exact ⟨hi, (Option.some.inj h).symm⟩
  · rw [w_none hi] at h
    cases h
theorem w_set {n : Nat} {g : Nat → AC} {i : Nat} (c : AC) : (a_w base aK b dA n g).set i (base + i, c_e base aK b dA c) = a_w base aK b dA n (va_up g i c) := by
  apply List.ext_getElem?
  intro j
  rcases Nat.lt_or_ge j n with hj | hj
  · rw [w_get hj, List.getElem?_set, w_get hj]
    by_cases e : i = j
    · subst e
      rw [if_pos rfl, if_pos (by unfold a_w; rw [List.length_map, List.length_range]; exact hj)]
      simp [va_up]
    · rw [if_neg e]
      simp [va_up, Ne.symm e]
  · rw [w_none hj, List.getElem?_eq_none]
    rw [List.length_set]
    unfold a_w
    rw [List.length_map, List.length_range]
    exact hj
theorem w_push {n : Nat} {g : Nat → AC} (c : AC) : a_w base aK b dA n g ++ [(base + n, c_e base aK b dA c)] = a_w base aK b dA (n + 1) (va_up g n c) := by
  unfold a_w
  rw [List.range_succ, List.map_append]
  congr 1
  · apply List.map_congr_left
    intro j hj
    have := List.mem_range.mp hj
    simp [va_up, Nat.ne_of_lt this]
  · simp [va_up]
theorem w_D {n : Nat} {g : Nat → AC} : va_D (fun q => base ≤ q) (a_w base aK b dA n g) := by
  refine ⟨fun i j p q hp hq e => ?_, fun k q hq => ?_⟩
  · obtain ⟨-, rfl⟩ := w_some hp
    obtain ⟨-, rfl⟩ := w_some hq
    have e' : base + i = base + j := e
    omega
  · obtain ⟨-, rfl⟩ := w_some hq
    exact Nat.le_add_right base k
theorem w_lo {D : va_G} {cl : List vw_C} {n : Nat} {g : Nat → AC} {H H0 : Heap} {locs : List Loc} (hP : va_P D cl (a_w base aK b dA n g) H) (hS : va_S (fun q => base ≤ q) H0 H locs) (h0 : base ≤ H0.size) : base + n ≤ H.size := by
  cases n with
  | zero => exact Nat.le_trans h0 hS.1
  | succ k =>
    have h1 := (hP k _ (w_get (Nat.lt_succ_self k))).lt
    have h2 : base + k < H.size := h1
    omega
/-- the new cell's address -/
theorem w_new {D : va_G} {cl : List vw_C} {n : Nat} {g : Nat → AC} {H : Heap} {q : Nat} {e : va_E} (hP : va_P D cl (a_w base aK b dA n g ++ [(q, e)]) H) (hD : va_D (fun q => base ≤ q) (a_w base aK b dA n g ++ [(q, e)])) (hz : H.size ≤ base + (n + 1)) : q = base + n := by
  have hlen : (a_w base aK b dA n g).length = n := by unfold a_w; rw [List.length_map, List.length_range]
  have hq : (a_w base aK b dA n g ++ [(q, e)])[n]? = some (q, e) := by
    rw [List.getElem?_append_right (by omega), hlen, Nat.sub_self]
    rfl
  have h1 : q < H.size := (hP n _ hq).lt
  have h2 : base ≤ q := hD.2 n _ hq
  rcases Nat.lt_or_ge q (base + n) with h | h
  · exfalso
    have hi : q - base < n := by omega
    have h3 : (a_w base aK b dA n g ++ [(q, e)])[q - base]? = some (base + (q - base), c_e base aK b dA (g (q - base))) := by
      rw [List.getElem?_append_left (by omega), w_get hi]
    have h4 := hD.1 (q - base) n _ _ h3 hq (show base + (q - base) = q by omega)
    omega
  · omega
theorem w_sz {p : Program} {l : Launch} {e : Env} {R : Room} {s : State} {m : MethodId} {args : Array Value} {below : List Frame} {meth : Method} {c : Code} {H : Heap} {locs : List Loc} {cells slots : Nat} {Q : State → Prop} {g : JFrame} (k : H.size ≤ s.heap.size + cells → W p l e R s m args below meth c H locs cells slots Q g) : W p l e R s m args below meth c H locs cells slots Q g :=
  fun T hT X => k (by rw [← hT]; exact X.heapSize) T hT X
theorem h_ai_spec {h : AH} {a : Nat} {t : FieldType} {n : Nat} {f : Nat → Int32} (e : h_ai h a t = some (n, f)) : a < h.1 ∧ h.2.2 a = .inl (t, n, .inl f) := by
  unfold h_ai at e
  split at e
  · rename_i hlt
    split at e
    · rename_i t' n' f' hc
      split at e
      · rename_i ht
        cases e
        exact ⟨hlt, by rw [hc, ht]⟩
      · cases e
    · cases e
  · cases e
theorem h_al_spec {h : AH} {a : Nat} {n : Nat} {f : Nat → Int64} (e : h_al h a = some (n, f)) : a < h.1 ∧ h.2.2 a = .inl (.long, n, .inr (.inl f)) := by
  unfold h_al at e
  split at e
  · rename_i hlt
    split at e
    · rename_i n' f' hc
      cases e
      exact ⟨hlt, hc⟩
    · cases e
  · cases e
theorem h_ob_spec {h : AH} {a : Nat} {o : Nat × List Value} (e : h_ob h a = some o) : a < h.1 ∧ h.2.2 a = .inr o := by
  unfold h_ob at e
  split at e
  · rename_i hlt
    split at e
    · rename_i o' hc
      cases e
      exact ⟨hlt, hc⟩
    · cases e
  · cases e
theorem a_inb_in {i : Int32} {n : Nat} (h : a_inb i n = true) : vp_in i n := by
  unfold a_inb at h
  simp only [Bool.not_eq_true', Bool.or_eq_false_iff, decide_eq_false_iff_not] at h
  exact fun z => z.elim h.1 h.2
end REL
