/-! Rules for the developers' program: copies of arrays, strings, switches by pairs -/
def up1 (A : Nat → Nat → Int) (d : Nat) (g : Nat → Int) : Nat → Nat → Int := fun x => if x = d then g else A x
theorem up1_s (A : Nat → Nat → Int) (d : Nat) (g : Nat → Int) : up1 A d g d = g := if_pos rfl
theorem up1_n {A : Nat → Nat → Int} {d x : Nat} {g : Nat → Int} (h : ¬ x = d) : up1 A d g x = A x := if_neg h
theorem AQ.up1 {A : Nat → Nat → Int} {d : Nat} {g : Nat → Int} (h : AQ A) (hg : ∀ i, (arn d).1 ≤ g i ∧ g i ≤ (arn d).2) : AQ (up1 A d g) := by
  intro a i
  by_cases e : a = d
  · subst e
    rw [up1_s]
    exact hg i
  · rw [up1_n e]
    exact h a i
section R38
variable {L : Nat} {xs : Nat → Int32} {mi pc : Nat} {l : AL} {st : List Value} {h : AH} {Q : Option Value → AH → Prop}
variable {ly : List LK} {F : Nat → Nat → Value} {G A : Nat → Nat → Int} {B : Nat → Nat → Int64}
theorem HP_up1 {d n : Nat} {t : FieldType} {g : Nat → Int} (h : ly[d]? = some (.inr (t, n))) (ht : ¬ t = .long) : h_up (HP ly F G A B) d (.inl (t, n, .inl (fun i => Int32.ofInt (g i)))) = HP ly F G (up1 A d g) B := by
  refine HP_up h ?_ (fun x hx => ⟨rfl, rfl, up1_n hx, rfl⟩)
  unfold hcl
  dsimp only
  rw [if_neg ht, up1_s]
theorem r_copyQ {x s d n0 n1 : Nat} {sp dp n : Int} (hi : a_ins mi pc = some (.invokestatic x, (7, 0, 5))) (hw : decide (40 ≤ m_w mi) = true) (hn : a_nt mi = true) (h1 : a_sum st ≤ 8) (hls : ly[s]? = some (.inr (.char, n0))) (hld : ly[d]? = some (.inr (.char, n1))) (hc : n0 ≤ 5000 ∧ n1 ≤ 5000) (hs : 0 ≤ sp ∧ 0 ≤ n ∧ sp + n ≤ n0) (hd : 0 ≤ dp ∧ dp + n ≤ n1) (hg : ∀ i, 0 ≤ A s i ∧ A s i ≤ 255)
    (kk : ∀ A1, A1 = up1 A d (fun k => if dp.toNat ≤ k ∧ k < dp.toNat + n.toNat then A s (sp.toNat + (k - dp.toNat)) else A d k) → Re L xs mi (pc + 3) l st (HP ly F G A1 B) Q) : Re L xs mi pc l (V n :: V dp :: .ref d :: V sp :: .ref s :: st) (HP ly F G A B) Q := by
  refine re_nx hi ?_ (kk _ rfl)
  have r1 : inR sp := ⟨by omega, by omega⟩
  have r2 : inR dp := ⟨by omega, by omega⟩
  have r3 : inR n := ⟨by omega, by omega⟩
  have c1 : (Int32.ofInt sp).toNatClampNeg = sp.toNat := oI_cl hs.1 (by omega)
  have c2 : (Int32.ofInt dp).toNatClampNeg = dp.toNat := oI_cl hd.1 (by omega)
  have c3 : (Int32.ofInt n).toNatClampNeg = n.toNat := oI_cl hs.2.1 (by omega)
  have z1 : ∀ {z : Int}, inR z → 0 ≤ z → ¬ Int32.ofInt z < 0 := fun hr h0 e => by have := (oI_lt hr (b := 0) (by decide)).mp e; omega
  unfold a_st
  dsimp only
  rw [if_neg (by decide), if_pos (by decide)]
  unfold V
  rw [a_nat, HP_ai hls (by decide), HP_ai hld (by decide)]
  dsimp only
  rw [c1, c2, c3]
  have hall : (List.range n.toNat).all (fun i => fits .char (.int (Int32.ofInt (A s (sp.toNat + i))))) = true := by
    rw [List.all_eq_true]
    intro i _
    have g := hg (sp.toNat + i)
    have r4 : inR (A s (sp.toNat + i)) := ⟨by omega, by omega⟩
    show (decide (0 ≤ Int32.ofInt (A s (sp.toNat + i))) && decide (Int32.ofInt (A s (sp.toNat + i)) ≤ 65535)) = true
    rw [Bool.and_eq_true, decide_eq_true_eq, decide_eq_true_eq]
    exact ⟨(oI_le (a := 0) (by decide) r4).mpr g.1, (oI_le r4 (b := 65535) (by decide)).mpr (by omega)⟩
  rw [if_pos ⟨hw, hn, h1, z1 r1 hs.1, z1 r2 hd.1, z1 r3 hs.2.1, by omega, by omega, hall⟩]
  have e : va_cpy (fun i => Int32.ofInt (A s i)) (fun i => Int32.ofInt (A d i)) sp.toNat dp.toNat n.toNat = fun i => Int32.ofInt ((fun k => if dp.toNat ≤ k ∧ k < dp.toNat + n.toNat then A s (sp.toNat + (k - dp.toNat)) else A d k) i) := by
    funext k
    unfold va_cpy
    dsimp only
    by_cases c : dp.toNat ≤ k ∧ k < dp.toNat + n.toNat
    · rw [if_pos c, if_pos c]
    · rw [if_neg c, if_neg c]
  rw [e, HP_up1 hld (by decide)]
  rfl
theorem r_look {z d off : Int} {ps : Array (Int × Int)} {t : Nat} {r : AR} (hi : a_ins mi pc = some (.lookupswitch d ps, r)) (hp : (ps.toList.zip (ps.toList.drop 1)).all (fun (a, next) => a.1 < next.1) = true) (hz : inR z) (ho : Op.lookupswitch.offset ps.toList d z = off) (ht : (pc : Int) + off = (t : Int)) (kk : Re L xs mi t l st h Q) : Re L xs mi pc l (V z :: st) h Q := by
  refine re_nx hi ?_ kk
  unfold a_st
  dsimp only
  rw [if_pos hp, oI hz, ho]
  unfold a_go
  rw [if_pos (by omega), ht]
  rfl
theorem r_cT {x mj n : Nat} {s : UInt32} {as rest : List Value} (hi : a_ins mi pc = some (.invokevirtual x, (0, mj, n))) (hn : as.length = n) (hm : a_rm mi mj = true) (h1 : a_sum rest ≤ 8) (h2 : a_sum (.float s :: as.reverse) ≤ m_l mj) (hq : s.toNat < 9) (hc : "java/lang/String" = (m_y mj).cls) (k : Re L xs mj 0 (lv_args 0 (.float s :: as.reverse)) [] h (fun v h' => Re L xs mi (pc + 3) l (v.toList ++ rest) h' Q)) : Re L xs mi pc l (as ++ .float s :: rest) h Q := by
  refine re_call hi ?_ k
  unfold a_st
  dsimp only
  rw [if_pos rfl]
  unfold a_call
  have e1 : (as ++ .float s :: rest).take n = as := by rw [← hn]; exact List.take_left
  have e2 : (as ++ .float s :: rest).drop n = .float s :: rest := by rw [← hn]; exact List.drop_left
  rw [if_neg (by decide), if_pos rfl, e1, e2]
  dsimp only
  rw [if_pos ⟨by rw [List.length_append]; omega, hm, h1, ⟨hq, hc⟩, h2⟩]
end R38
theorem Lx_0 {ly : List LK} {x : Nat} (hly : LyOk ly) (hx : x = 3 ∨ x = 61) : ly[x]? = some (.inl 0) := by
  rcases hx with rfl | rfl
  · exact hly 3 _ rfl
  · exact hly 61 _ rfl
theorem Rx_0_0 {F : Nat → Nat → Value} {x : Nat} (h : RfOk F) (hx : x = 3 ∨ x = 61) : F x 0 = .ref (x + 1) := by
  rcases hx with rfl | rfl
  · exact h.1 3 0 4 rfl
  · exact h.1 61 0 62 rfl
theorem Rx_0_1 {F : Nat → Nat → Value} {x : Nat} (h : RfOk F) (hx : x = 3 ∨ x = 61) : F x 1 = .ref (x + 4) := by
  rcases hx with rfl | rfl
  · exact h.1 3 1 7 rfl
  · exact h.1 61 1 65 rfl
theorem Rx_0_2 {F : Nat → Nat → Value} {x : Nat} (h : RfOk F) (hx : x = 3 ∨ x = 61) : F x 2 = .ref (x + 5) := by
  rcases hx with rfl | rfl
  · exact h.1 3 2 8 rfl
  · exact h.1 61 2 66 rfl
theorem Rx_0_3 {F : Nat → Nat → Value} {x : Nat} (h : RfOk F) (hx : x = 3 ∨ x = 61) : F x 3 = .ref (x + 6) := by
  rcases hx with rfl | rfl
  · exact h.1 3 3 9 rfl
  · exact h.1 61 3 67 rfl
theorem Rx_0_4 {F : Nat → Nat → Value} {x : Nat} (h : RfOk F) (hx : x = 3 ∨ x = 61) : F x 4 = .ref (x + 7) := by
  rcases hx with rfl | rfl
  · exact h.1 3 4 10 rfl
  · exact h.1 61 4 68 rfl
theorem Rx_0_5 {F : Nat → Nat → Value} {x : Nat} (h : RfOk F) (hx : x = 3 ∨ x = 61) : F x 5 = .ref (x + 8) := by
  rcases hx with rfl | rfl
  · exact h.1 3 5 11 rfl
  · exact h.1 61 5 69 rfl
theorem Rx_0_6 {F : Nat → Nat → Value} {x : Nat} (h : RfOk F) (hx : x = 3 ∨ x = 61) : F x 6 = .ref (x + 9) := by
  rcases hx with rfl | rfl
  · exact h.1 3 6 12 rfl
  · exact h.1 61 6 70 rfl
theorem Rx_0_7 {F : Nat → Nat → Value} {x : Nat} (h : RfOk F) (hx : x = 3 ∨ x = 61) : F x 7 = .ref (x + 12) := by
  rcases hx with rfl | rfl
  · exact h.1 3 7 15 rfl
  · exact h.1 61 7 73 rfl
theorem Rx_0_8 {F : Nat → Nat → Value} {x : Nat} (h : RfOk F) (hx : x = 3 ∨ x = 61) : F x 8 = .ref (x + 13) := by
  rcases hx with rfl | rfl
  · exact h.1 3 8 16 rfl
  · exact h.1 61 8 74 rfl
theorem Rx_0_9 {F : Nat → Nat → Value} {x : Nat} (h : RfOk F) (hx : x = 3 ∨ x = 61) : F x 9 = .ref (x + 14) := by
  rcases hx with rfl | rfl
  · exact h.1 3 9 17 rfl
  · exact h.1 61 9 75 rfl
theorem Rx_0_10 {F : Nat → Nat → Value} {x : Nat} (h : RfOk F) (hx : x = 3 ∨ x = 61) : F x 10 = .ref (x + 17) := by
  rcases hx with rfl | rfl
  · exact h.1 3 10 20 rfl
  · exact h.1 61 10 78 rfl
theorem Rx_0_11 {F : Nat → Nat → Value} {x : Nat} (h : RfOk F) (hx : x = 3 ∨ x = 61) : F x 11 = .ref (x + 18) := by
  rcases hx with rfl | rfl
  · exact h.1 3 11 21 rfl
  · exact h.1 61 11 79 rfl
theorem Gx_0_12 {G : Nat → Nat → Int} {x : Nat} (h : GO G) (hx : x = 3 ∨ x = 61) : 0 ≤ G x 12 ∧ G x 12 ≤ 40 := by
  rcases hx with rfl | rfl
  · exact g_3_12 h
  · exact g_61_12 h
theorem GUx_0_12 {G : Nat → Nat → Int} {x : Nat} {z : Int} (hx : x = 3 ∨ x = 61) (h : GO G) (h1 : 0 ≤ z) (h2 : z ≤ 40) : GO (up2 G x 12 z) := by
  rcases hx with rfl | rfl
  · exact gu_3_12 h h1 h2
  · exact gu_61_12 h h1 h2
theorem Gx_0_13 {G : Nat → Nat → Int} {x : Nat} (h : GO G) (hx : x = 3 ∨ x = 61) : 0 ≤ G x 13 ∧ G x 13 ≤ 1 := by
  rcases hx with rfl | rfl
  · exact g_3_13 h
  · exact g_61_13 h
theorem GUx_0_13 {G : Nat → Nat → Int} {x : Nat} {z : Int} (hx : x = 3 ∨ x = 61) (h : GO G) (h1 : 0 ≤ z) (h2 : z ≤ 1) : GO (up2 G x 13 z) := by
  rcases hx with rfl | rfl
  · exact gu_3_13 h h1 h2
  · exact gu_61_13 h h1 h2
theorem Gx_0_14 {G : Nat → Nat → Int} {x : Nat} (h : GO G) (hx : x = 3 ∨ x = 61) : 0 ≤ G x 14 ∧ G x 14 ≤ 7 := by
  rcases hx with rfl | rfl
  · exact g_3_14 h
  · exact g_61_14 h
theorem GUx_0_14 {G : Nat → Nat → Int} {x : Nat} {z : Int} (hx : x = 3 ∨ x = 61) (h : GO G) (h1 : 0 ≤ z) (h2 : z ≤ 7) : GO (up2 G x 14 z) := by
  rcases hx with rfl | rfl
  · exact gu_3_14 h h1 h2
  · exact gu_61_14 h h1 h2
theorem Gx_0_15 {G : Nat → Nat → Int} {x : Nat} (h : GO G) (hx : x = 3 ∨ x = 61) : 0 ≤ G x 15 ∧ G x 15 ≤ 99 := by
  rcases hx with rfl | rfl
  · exact g_3_15 h
  · exact g_61_15 h
theorem GUx_0_15 {G : Nat → Nat → Int} {x : Nat} {z : Int} (hx : x = 3 ∨ x = 61) (h : GO G) (h1 : 0 ≤ z) (h2 : z ≤ 99) : GO (up2 G x 15 z) := by
  rcases hx with rfl | rfl
  · exact gu_3_15 h h1 h2
  · exact gu_61_15 h h1 h2
theorem Lx_1 {ly : List LK} {x : Nat} (hly : LyOk ly) (hx : x = 3 ∨ x = 61) : ly[x + 1]? = some (.inl 3) := by
  rcases hx with rfl | rfl
  · exact hly 4 _ rfl
  · exact hly 62 _ rfl
theorem Rx_1_0 {F : Nat → Nat → Value} {x : Nat} (h : RfOk F) (hx : x = 3 ∨ x = 61) : F (x + 1) 0 = .ref (x + 2) := by
  rcases hx with rfl | rfl
  · exact h.1 4 0 5 rfl
  · exact h.1 62 0 63 rfl
theorem Rx_1_1 {F : Nat → Nat → Value} {x : Nat} (h : RfOk F) (hx : x = 3 ∨ x = 61) : F (x + 1) 1 = .ref (x + 3) := by
  rcases hx with rfl | rfl
  · exact h.1 4 1 6 rfl
  · exact h.1 62 1 64 rfl
theorem Gx_1_2 {G : Nat → Nat → Int} {x : Nat} (h : GO G) (hx : x = 3 ∨ x = 61) : 0 ≤ G (x + 1) 2 ∧ G (x + 1) 2 ≤ 80 := by
  rcases hx with rfl | rfl
  · exact g_4_2 h
  · exact g_62_2 h
theorem GUx_1_2 {G : Nat → Nat → Int} {x : Nat} {z : Int} (hx : x = 3 ∨ x = 61) (h : GO G) (h1 : 0 ≤ z) (h2 : z ≤ 80) : GO (up2 G (x + 1) 2 z) := by
  rcases hx with rfl | rfl
  · exact gu_4_2 h h1 h2
  · exact gu_62_2 h h1 h2
theorem Lx_2 {ly : List LK} {x : Nat} (hly : LyOk ly) (hx : x = 3 ∨ x = 61) : ly[x + 2]? = some (.inr (.char, 960)) := by
  rcases hx with rfl | rfl
  · exact hly 5 _ rfl
  · exact hly 63 _ rfl
theorem Ax_2 {A : Nat → Nat → Int} {x : Nat} (h : AQ A) (hx : x = 3 ∨ x = 61) (i : Nat) : 0 ≤ A (x + 2) i ∧ A (x + 2) i ≤ 255 := by
  rcases hx with rfl | rfl
  · exact a_5 h i
  · exact a_63 h i
theorem AUx_2 {A : Nat → Nat → Int} {x i : Nat} {z : Int} (hx : x = 3 ∨ x = 61) (h : AQ A) (h1 : 0 ≤ z) (h2 : z ≤ 255) : AQ (up2 A (x + 2) i z) := by
  rcases hx with rfl | rfl
  · exact au_5 h h1 h2
  · exact au_63 h h1 h2
theorem Lx_3 {ly : List LK} {x : Nat} (hly : LyOk ly) (hx : x = 3 ∨ x = 61) : ly[x + 3]? = some (.inr (.int, 80)) := by
  rcases hx with rfl | rfl
  · exact hly 6 _ rfl
  · exact hly 64 _ rfl
theorem Ax_3 {A : Nat → Nat → Int} {x : Nat} (h : AQ A) (hx : x = 3 ∨ x = 61) (i : Nat) : 0 ≤ A (x + 3) i ∧ A (x + 3) i ≤ 12 := by
  rcases hx with rfl | rfl
  · exact a_6 h i
  · exact a_64 h i
theorem AUx_3 {A : Nat → Nat → Int} {x i : Nat} {z : Int} (hx : x = 3 ∨ x = 61) (h : AQ A) (h1 : 0 ≤ z) (h2 : z ≤ 12) : AQ (up2 A (x + 3) i z) := by
  rcases hx with rfl | rfl
  · exact au_6 h h1 h2
  · exact au_64 h h1 h2
theorem Lx_4 {ly : List LK} {x : Nat} (hly : LyOk ly) (hx : x = 3 ∨ x = 61) : ly[x + 4]? = some (.inr (.int, 80)) := by
  rcases hx with rfl | rfl
  · exact hly 7 _ rfl
  · exact hly 65 _ rfl
theorem Ax_4 {A : Nat → Nat → Int} {x : Nat} (h : AQ A) (hx : x = 3 ∨ x = 61) (i : Nat) : 0 ≤ A (x + 4) i ∧ A (x + 4) i ≤ 7 := by
  rcases hx with rfl | rfl
  · exact a_7 h i
  · exact a_65 h i
theorem AUx_4 {A : Nat → Nat → Int} {x i : Nat} {z : Int} (hx : x = 3 ∨ x = 61) (h : AQ A) (h1 : 0 ≤ z) (h2 : z ≤ 7) : AQ (up2 A (x + 4) i z) := by
  rcases hx with rfl | rfl
  · exact au_7 h h1 h2
  · exact au_65 h h1 h2
theorem Lx_5 {ly : List LK} {x : Nat} (hly : LyOk ly) (hx : x = 3 ∨ x = 61) : ly[x + 5]? = some (.inr (.int, 80)) := by
  rcases hx with rfl | rfl
  · exact hly 8 _ rfl
  · exact hly 66 _ rfl
theorem Ax_5 {A : Nat → Nat → Int} {x : Nat} (h : AQ A) (hx : x = 3 ∨ x = 61) (i : Nat) : 0 ≤ A (x + 5) i ∧ A (x + 5) i ≤ 99 := by
  rcases hx with rfl | rfl
  · exact a_8 h i
  · exact a_66 h i
theorem AUx_5 {A : Nat → Nat → Int} {x i : Nat} {z : Int} (hx : x = 3 ∨ x = 61) (h : AQ A) (h1 : 0 ≤ z) (h2 : z ≤ 99) : AQ (up2 A (x + 5) i z) := by
  rcases hx with rfl | rfl
  · exact au_8 h h1 h2
  · exact au_66 h h1 h2
theorem Lx_6 {ly : List LK} {x : Nat} (hly : LyOk ly) (hx : x = 3 ∨ x = 61) : ly[x + 6]? = some (.inr (.int, 80)) := by
  rcases hx with rfl | rfl
  · exact hly 9 _ rfl
  · exact hly 67 _ rfl
theorem Ax_6 {A : Nat → Nat → Int} {x : Nat} (h : AQ A) (hx : x = 3 ∨ x = 61) (i : Nat) : 0 ≤ A (x + 6) i ∧ A (x + 6) i ≤ 100000 := by
  rcases hx with rfl | rfl
  · exact a_9 h i
  · exact a_67 h i
theorem AUx_6 {A : Nat → Nat → Int} {x i : Nat} {z : Int} (hx : x = 3 ∨ x = 61) (h : AQ A) (h1 : 0 ≤ z) (h2 : z ≤ 100000) : AQ (up2 A (x + 6) i z) := by
  rcases hx with rfl | rfl
  · exact au_9 h h1 h2
  · exact au_67 h h1 h2
theorem Lx_7 {ly : List LK} {x : Nat} (hly : LyOk ly) (hx : x = 3 ∨ x = 61) : ly[x + 7]? = some (.inr (.int, 80)) := by
  rcases hx with rfl | rfl
  · exact hly 10 _ rfl
  · exact hly 68 _ rfl
theorem Ax_7 {A : Nat → Nat → Int} {x : Nat} (h : AQ A) (hx : x = 3 ∨ x = 61) (i : Nat) : 0 ≤ A (x + 7) i ∧ A (x + 7) i ≤ 100000 := by
  rcases hx with rfl | rfl
  · exact a_10 h i
  · exact a_68 h i
theorem AUx_7 {A : Nat → Nat → Int} {x i : Nat} {z : Int} (hx : x = 3 ∨ x = 61) (h : AQ A) (h1 : 0 ≤ z) (h2 : z ≤ 100000) : AQ (up2 A (x + 7) i z) := by
  rcases hx with rfl | rfl
  · exact au_10 h h1 h2
  · exact au_68 h h1 h2
theorem Lx_8 {ly : List LK} {x : Nat} (hly : LyOk ly) (hx : x = 3 ∨ x = 61) : ly[x + 8]? = some (.inr (.int, 80)) := by
  rcases hx with rfl | rfl
  · exact hly 11 _ rfl
  · exact hly 69 _ rfl
theorem Ax_8 {A : Nat → Nat → Int} {x : Nat} (h : AQ A) (hx : x = 3 ∨ x = 61) (i : Nat) : 0 ≤ A (x + 8) i ∧ A (x + 8) i ≤ 60 := by
  rcases hx with rfl | rfl
  · exact a_11 h i
  · exact a_69 h i
theorem AUx_8 {A : Nat → Nat → Int} {x i : Nat} {z : Int} (hx : x = 3 ∨ x = 61) (h : AQ A) (h1 : 0 ≤ z) (h2 : z ≤ 60) : AQ (up2 A (x + 8) i z) := by
  rcases hx with rfl | rfl
  · exact au_11 h h1 h2
  · exact au_69 h h1 h2
theorem Lx_9 {ly : List LK} {x : Nat} (hly : LyOk ly) (hx : x = 3 ∨ x = 61) : ly[x + 9]? = some (.inl 3) := by
  rcases hx with rfl | rfl
  · exact hly 12 _ rfl
  · exact hly 70 _ rfl
theorem Rx_9_0 {F : Nat → Nat → Value} {x : Nat} (h : RfOk F) (hx : x = 3 ∨ x = 61) : F (x + 9) 0 = .ref (x + 10) := by
  rcases hx with rfl | rfl
  · exact h.1 12 0 13 rfl
  · exact h.1 70 0 71 rfl
theorem Rx_9_1 {F : Nat → Nat → Value} {x : Nat} (h : RfOk F) (hx : x = 3 ∨ x = 61) : F (x + 9) 1 = .ref (x + 11) := by
  rcases hx with rfl | rfl
  · exact h.1 12 1 14 rfl
  · exact h.1 70 1 72 rfl
theorem Gx_9_2 {G : Nat → Nat → Int} {x : Nat} (h : GO G) (hx : x = 3 ∨ x = 61) : 0 ≤ G (x + 9) 2 ∧ G (x + 9) 2 ≤ 20 := by
  rcases hx with rfl | rfl
  · exact g_12_2 h
  · exact g_70_2 h
theorem GUx_9_2 {G : Nat → Nat → Int} {x : Nat} {z : Int} (hx : x = 3 ∨ x = 61) (h : GO G) (h1 : 0 ≤ z) (h2 : z ≤ 20) : GO (up2 G (x + 9) 2 z) := by
  rcases hx with rfl | rfl
  · exact gu_12_2 h h1 h2
  · exact gu_70_2 h h1 h2
theorem Lx_10 {ly : List LK} {x : Nat} (hly : LyOk ly) (hx : x = 3 ∨ x = 61) : ly[x + 10]? = some (.inr (.char, 240)) := by
  rcases hx with rfl | rfl
  · exact hly 13 _ rfl
  · exact hly 71 _ rfl
theorem Ax_10 {A : Nat → Nat → Int} {x : Nat} (h : AQ A) (hx : x = 3 ∨ x = 61) (i : Nat) : 0 ≤ A (x + 10) i ∧ A (x + 10) i ≤ 255 := by
  rcases hx with rfl | rfl
  · exact a_13 h i
  · exact a_71 h i
theorem AUx_10 {A : Nat → Nat → Int} {x i : Nat} {z : Int} (hx : x = 3 ∨ x = 61) (h : AQ A) (h1 : 0 ≤ z) (h2 : z ≤ 255) : AQ (up2 A (x + 10) i z) := by
  rcases hx with rfl | rfl
  · exact au_13 h h1 h2
  · exact au_71 h h1 h2
theorem Lx_11 {ly : List LK} {x : Nat} (hly : LyOk ly) (hx : x = 3 ∨ x = 61) : ly[x + 11]? = some (.inr (.int, 20)) := by
  rcases hx with rfl | rfl
  · exact hly 14 _ rfl
  · exact hly 72 _ rfl
theorem Ax_11 {A : Nat → Nat → Int} {x : Nat} (h : AQ A) (hx : x = 3 ∨ x = 61) (i : Nat) : 0 ≤ A (x + 11) i ∧ A (x + 11) i ≤ 12 := by
  rcases hx with rfl | rfl
  · exact a_14 h i
  · exact a_72 h i
theorem AUx_11 {A : Nat → Nat → Int} {x i : Nat} {z : Int} (hx : x = 3 ∨ x = 61) (h : AQ A) (h1 : 0 ≤ z) (h2 : z ≤ 12) : AQ (up2 A (x + 11) i z) := by
  rcases hx with rfl | rfl
  · exact au_14 h h1 h2
  · exact au_72 h h1 h2
theorem Lx_12 {ly : List LK} {x : Nat} (hly : LyOk ly) (hx : x = 3 ∨ x = 61) : ly[x + 12]? = some (.inr (.int, 20)) := by
  rcases hx with rfl | rfl
  · exact hly 15 _ rfl
  · exact hly 73 _ rfl
theorem Ax_12 {A : Nat → Nat → Int} {x : Nat} (h : AQ A) (hx : x = 3 ∨ x = 61) (i : Nat) : 0 ≤ A (x + 12) i ∧ A (x + 12) i ≤ 7 := by
  rcases hx with rfl | rfl
  · exact a_15 h i
  · exact a_73 h i
theorem AUx_12 {A : Nat → Nat → Int} {x i : Nat} {z : Int} (hx : x = 3 ∨ x = 61) (h : AQ A) (h1 : 0 ≤ z) (h2 : z ≤ 7) : AQ (up2 A (x + 12) i z) := by
  rcases hx with rfl | rfl
  · exact au_15 h h1 h2
  · exact au_73 h h1 h2
theorem Lx_13 {ly : List LK} {x : Nat} (hly : LyOk ly) (hx : x = 3 ∨ x = 61) : ly[x + 13]? = some (.inr (.int, 20)) := by
  rcases hx with rfl | rfl
  · exact hly 16 _ rfl
  · exact hly 74 _ rfl
theorem Ax_13 {A : Nat → Nat → Int} {x : Nat} (h : AQ A) (hx : x = 3 ∨ x = 61) (i : Nat) : 0 ≤ A (x + 13) i ∧ A (x + 13) i ≤ 99 := by
  rcases hx with rfl | rfl
  · exact a_16 h i
  · exact a_74 h i
theorem AUx_13 {A : Nat → Nat → Int} {x i : Nat} {z : Int} (hx : x = 3 ∨ x = 61) (h : AQ A) (h1 : 0 ≤ z) (h2 : z ≤ 99) : AQ (up2 A (x + 13) i z) := by
  rcases hx with rfl | rfl
  · exact au_16 h h1 h2
  · exact au_74 h h1 h2
theorem Lx_14 {ly : List LK} {x : Nat} (hly : LyOk ly) (hx : x = 3 ∨ x = 61) : ly[x + 14]? = some (.inl 3) := by
  rcases hx with rfl | rfl
  · exact hly 17 _ rfl
  · exact hly 75 _ rfl
theorem Rx_14_0 {F : Nat → Nat → Value} {x : Nat} (h : RfOk F) (hx : x = 3 ∨ x = 61) : F (x + 14) 0 = .ref (x + 15) := by
  rcases hx with rfl | rfl
  · exact h.1 17 0 18 rfl
  · exact h.1 75 0 76 rfl
theorem Rx_14_1 {F : Nat → Nat → Value} {x : Nat} (h : RfOk F) (hx : x = 3 ∨ x = 61) : F (x + 14) 1 = .ref (x + 16) := by
  rcases hx with rfl | rfl
  · exact h.1 17 1 19 rfl
  · exact h.1 75 1 77 rfl
theorem Gx_14_2 {G : Nat → Nat → Int} {x : Nat} (h : GO G) (hx : x = 3 ∨ x = 61) : 0 ≤ G (x + 14) 2 ∧ G (x + 14) 2 ≤ 20 := by
  rcases hx with rfl | rfl
  · exact g_17_2 h
  · exact g_75_2 h
theorem GUx_14_2 {G : Nat → Nat → Int} {x : Nat} {z : Int} (hx : x = 3 ∨ x = 61) (h : GO G) (h1 : 0 ≤ z) (h2 : z ≤ 20) : GO (up2 G (x + 14) 2 z) := by
  rcases hx with rfl | rfl
  · exact gu_17_2 h h1 h2
  · exact gu_75_2 h h1 h2
theorem Lx_15 {ly : List LK} {x : Nat} (hly : LyOk ly) (hx : x = 3 ∨ x = 61) : ly[x + 15]? = some (.inr (.char, 240)) := by
  rcases hx with rfl | rfl
  · exact hly 18 _ rfl
  · exact hly 76 _ rfl
theorem Ax_15 {A : Nat → Nat → Int} {x : Nat} (h : AQ A) (hx : x = 3 ∨ x = 61) (i : Nat) : 0 ≤ A (x + 15) i ∧ A (x + 15) i ≤ 255 := by
  rcases hx with rfl | rfl
  · exact a_18 h i
  · exact a_76 h i
theorem AUx_15 {A : Nat → Nat → Int} {x i : Nat} {z : Int} (hx : x = 3 ∨ x = 61) (h : AQ A) (h1 : 0 ≤ z) (h2 : z ≤ 255) : AQ (up2 A (x + 15) i z) := by
  rcases hx with rfl | rfl
  · exact au_18 h h1 h2
  · exact au_76 h h1 h2
theorem Lx_16 {ly : List LK} {x : Nat} (hly : LyOk ly) (hx : x = 3 ∨ x = 61) : ly[x + 16]? = some (.inr (.int, 20)) := by
  rcases hx with rfl | rfl
  · exact hly 19 _ rfl
  · exact hly 77 _ rfl
theorem Ax_16 {A : Nat → Nat → Int} {x : Nat} (h : AQ A) (hx : x = 3 ∨ x = 61) (i : Nat) : 0 ≤ A (x + 16) i ∧ A (x + 16) i ≤ 12 := by
  rcases hx with rfl | rfl
  · exact a_19 h i
  · exact a_77 h i
theorem AUx_16 {A : Nat → Nat → Int} {x i : Nat} {z : Int} (hx : x = 3 ∨ x = 61) (h : AQ A) (h1 : 0 ≤ z) (h2 : z ≤ 12) : AQ (up2 A (x + 16) i z) := by
  rcases hx with rfl | rfl
  · exact au_19 h h1 h2
  · exact au_77 h h1 h2
theorem Lx_17 {ly : List LK} {x : Nat} (hly : LyOk ly) (hx : x = 3 ∨ x = 61) : ly[x + 17]? = some (.inr (.int, 64)) := by
  rcases hx with rfl | rfl
  · exact hly 20 _ rfl
  · exact hly 78 _ rfl
theorem Ax_17 {A : Nat → Nat → Int} {x : Nat} (h : AQ A) (hx : x = 3 ∨ x = 61) (i : Nat) : 0 ≤ A (x + 17) i ∧ A (x + 17) i ≤ 1000000 := by
  rcases hx with rfl | rfl
  · exact a_20 h i
  · exact a_78 h i
theorem AUx_17 {A : Nat → Nat → Int} {x i : Nat} {z : Int} (hx : x = 3 ∨ x = 61) (h : AQ A) (h1 : 0 ≤ z) (h2 : z ≤ 1000000) : AQ (up2 A (x + 17) i z) := by
  rcases hx with rfl | rfl
  · exact au_20 h h1 h2
  · exact au_78 h h1 h2
theorem Lx_18 {ly : List LK} {x : Nat} (hly : LyOk ly) (hx : x = 3 ∨ x = 61) : ly[x + 18]? = some (.inr (.boolean, 64)) := by
  rcases hx with rfl | rfl
  · exact hly 21 _ rfl
  · exact hly 79 _ rfl
theorem Ax_18 {A : Nat → Nat → Int} {x : Nat} (h : AQ A) (hx : x = 3 ∨ x = 61) (i : Nat) : 0 ≤ A (x + 18) i ∧ A (x + 18) i ≤ 1 := by
  rcases hx with rfl | rfl
  · exact a_21 h i
  · exact a_79 h i
theorem AUx_18 {A : Nat → Nat → Int} {x i : Nat} {z : Int} (hx : x = 3 ∨ x = 61) (h : AQ A) (h1 : 0 ≤ z) (h2 : z ≤ 1) : AQ (up2 A (x + 18) i z) := by
  rcases hx with rfl | rfl
  · exact au_21 h h1 h2
  · exact au_79 h h1 h2
theorem Ly_0 {ly : List LK} {y : Nat} (hly : LyOk ly) (hy : y = 80 ∨ y = 85) : ly[y]? = some (.inl 5) := by
  rcases hy with rfl | rfl
  · exact hly 80 _ rfl
  · exact hly 85 _ rfl
theorem Ry_0_0 {F : Nat → Nat → Value} {y : Nat} (h : RfOk F) (hy : y = 80 ∨ y = 85) : F y 0 = .ref (y + 1) := by
  rcases hy with rfl | rfl
  · exact h.1 80 0 81 rfl
  · exact h.1 85 0 86 rfl
theorem Ry_0_1 {F : Nat → Nat → Value} {y : Nat} (h : RfOk F) (hy : y = 80 ∨ y = 85) : F y 1 = .ref (y + 2) := by
  rcases hy with rfl | rfl
  · exact h.1 80 1 82 rfl
  · exact h.1 85 1 87 rfl
theorem Ry_0_2 {F : Nat → Nat → Value} {y : Nat} (h : RfOk F) (hy : y = 80 ∨ y = 85) : F y 2 = .ref (y + 3) := by
  rcases hy with rfl | rfl
  · exact h.1 80 2 83 rfl
  · exact h.1 85 2 88 rfl
theorem Ry_0_3 {F : Nat → Nat → Value} {y : Nat} (h : RfOk F) (hy : y = 80 ∨ y = 85) : F y 3 = .ref (y + 4) := by
  rcases hy with rfl | rfl
  · exact h.1 80 3 84 rfl
  · exact h.1 85 3 89 rfl
theorem Gy_0_4 {G : Nat → Nat → Int} {y : Nat} (h : GO G) (hy : y = 80 ∨ y = 85) : 0 ≤ G y 4 ∧ G y 4 ≤ 200 := by
  rcases hy with rfl | rfl
  · exact g_80_4 h
  · exact g_85_4 h
theorem GUy_0_4 {G : Nat → Nat → Int} {y : Nat} {z : Int} (hy : y = 80 ∨ y = 85) (h : GO G) (h1 : 0 ≤ z) (h2 : z ≤ 200) : GO (up2 G y 4 z) := by
  rcases hy with rfl | rfl
  · exact gu_80_4 h h1 h2
  · exact gu_85_4 h h1 h2
theorem Gy_0_5 {G : Nat → Nat → Int} {y : Nat} (h : GO G) (hy : y = 80 ∨ y = 85) : 0 ≤ G y 5 ∧ G y 5 ≤ 14 := by
  rcases hy with rfl | rfl
  · exact g_80_5 h
  · exact g_85_5 h
theorem GUy_0_5 {G : Nat → Nat → Int} {y : Nat} {z : Int} (hy : y = 80 ∨ y = 85) (h : GO G) (h1 : 0 ≤ z) (h2 : z ≤ 14) : GO (up2 G y 5 z) := by
  rcases hy with rfl | rfl
  · exact gu_80_5 h h1 h2
  · exact gu_85_5 h h1 h2
theorem Gy_0_6 {G : Nat → Nat → Int} {y : Nat} (h : GO G) (hy : y = 80 ∨ y = 85) : 0 ≤ G y 6 ∧ G y 6 ≤ 100000 := by
  rcases hy with rfl | rfl
  · exact g_80_6 h
  · exact g_85_6 h
theorem GUy_0_6 {G : Nat → Nat → Int} {y : Nat} {z : Int} (hy : y = 80 ∨ y = 85) (h : GO G) (h1 : 0 ≤ z) (h2 : z ≤ 100000) : GO (up2 G y 6 z) := by
  rcases hy with rfl | rfl
  · exact gu_80_6 h h1 h2
  · exact gu_85_6 h h1 h2
theorem Ly_1 {ly : List LK} {y : Nat} (hly : LyOk ly) (hy : y = 80 ∨ y = 85) : ly[y + 1]? = some (.inr (.char, 200)) := by
  rcases hy with rfl | rfl
  · exact hly 81 _ rfl
  · exact hly 86 _ rfl
theorem Ay_1 {A : Nat → Nat → Int} {y : Nat} (h : AQ A) (hy : y = 80 ∨ y = 85) (i : Nat) : 0 ≤ A (y + 1) i ∧ A (y + 1) i ≤ 255 := by
  rcases hy with rfl | rfl
  · exact a_81 h i
  · exact a_86 h i
theorem AUy_1 {A : Nat → Nat → Int} {y i : Nat} {z : Int} (hy : y = 80 ∨ y = 85) (h : AQ A) (h1 : 0 ≤ z) (h2 : z ≤ 255) : AQ (up2 A (y + 1) i z) := by
  rcases hy with rfl | rfl
  · exact au_81 h h1 h2
  · exact au_86 h h1 h2
theorem Ly_2 {ly : List LK} {y : Nat} (hly : LyOk ly) (hy : y = 80 ∨ y = 85) : ly[y + 2]? = some (.inr (.int, 14)) := by
  rcases hy with rfl | rfl
  · exact hly 82 _ rfl
  · exact hly 87 _ rfl
theorem Ay_2 {A : Nat → Nat → Int} {y : Nat} (h : AQ A) (hy : y = 80 ∨ y = 85) (i : Nat) : 0 ≤ A (y + 2) i ∧ A (y + 2) i ≤ 200 := by
  rcases hy with rfl | rfl
  · exact a_82 h i
  · exact a_87 h i
theorem AUy_2 {A : Nat → Nat → Int} {y i : Nat} {z : Int} (hy : y = 80 ∨ y = 85) (h : AQ A) (h1 : 0 ≤ z) (h2 : z ≤ 200) : AQ (up2 A (y + 2) i z) := by
  rcases hy with rfl | rfl
  · exact au_82 h h1 h2
  · exact au_87 h h1 h2
theorem Ly_3 {ly : List LK} {y : Nat} (hly : LyOk ly) (hy : y = 80 ∨ y = 85) : ly[y + 3]? = some (.inr (.int, 14)) := by
  rcases hy with rfl | rfl
  · exact hly 83 _ rfl
  · exact hly 88 _ rfl
theorem Ay_3 {A : Nat → Nat → Int} {y : Nat} (h : AQ A) (hy : y = 80 ∨ y = 85) (i : Nat) : 0 ≤ A (y + 3) i ∧ A (y + 3) i ≤ 12 := by
  rcases hy with rfl | rfl
  · exact a_83 h i
  · exact a_88 h i
theorem AUy_3 {A : Nat → Nat → Int} {y i : Nat} {z : Int} (hy : y = 80 ∨ y = 85) (h : AQ A) (h1 : 0 ≤ z) (h2 : z ≤ 12) : AQ (up2 A (y + 3) i z) := by
  rcases hy with rfl | rfl
  · exact au_83 h h1 h2
  · exact au_88 h h1 h2
theorem Ly_4 {ly : List LK} {y : Nat} (hly : LyOk ly) (hy : y = 80 ∨ y = 85) : ly[y + 4]? = some (.inr (.boolean, 14)) := by
  rcases hy with rfl | rfl
  · exact hly 84 _ rfl
  · exact hly 89 _ rfl
theorem Ay_4 {A : Nat → Nat → Int} {y : Nat} (h : AQ A) (hy : y = 80 ∨ y = 85) (i : Nat) : 0 ≤ A (y + 4) i ∧ A (y + 4) i ≤ 1 := by
  rcases hy with rfl | rfl
  · exact a_84 h i
  · exact a_89 h i
theorem AUy_4 {A : Nat → Nat → Int} {y i : Nat} {z : Int} (hy : y = 80 ∨ y = 85) (h : AQ A) (h1 : 0 ≤ z) (h2 : z ≤ 1) : AQ (up2 A (y + 4) i z) := by
  rcases hy with rfl | rfl
  · exact au_84 h h1 h2
  · exact au_89 h h1 h2
/-- a cell of Forms, and how many it holds -/
def Fm (f cap : Nat) : Prop := (f = 4 ∧ cap = 80) ∨ (f = 62 ∧ cap = 80) ∨ (f = 12 ∧ cap = 20) ∨ (f = 70 ∧ cap = 20) ∨ (f = 17 ∧ cap = 20) ∨ (f = 75 ∧ cap = 20) ∨ (f = 34 ∧ cap = 168)
theorem Lf_0 {ly : List LK} {f cap : Nat} (hly : LyOk ly) (hf : Fm f cap) : ly[f]? = some (.inl 3) := by
  rcases hf with ⟨rfl, rfl⟩ | ⟨rfl, rfl⟩ | ⟨rfl, rfl⟩ | ⟨rfl, rfl⟩ | ⟨rfl, rfl⟩ | ⟨rfl, rfl⟩ | ⟨rfl, rfl⟩
  · exact hly 4 _ rfl
  · exact hly 62 _ rfl
  · exact hly 12 _ rfl
  · exact hly 70 _ rfl
  · exact hly 17 _ rfl
  · exact hly 75 _ rfl
  · exact hly 34 _ rfl
theorem Lf_1 {ly : List LK} {f cap : Nat} (hly : LyOk ly) (hf : Fm f cap) : ly[f + 1]? = some (.inr (.char, 12 * cap)) := by
  rcases hf with ⟨rfl, rfl⟩ | ⟨rfl, rfl⟩ | ⟨rfl, rfl⟩ | ⟨rfl, rfl⟩ | ⟨rfl, rfl⟩ | ⟨rfl, rfl⟩ | ⟨rfl, rfl⟩
  · exact hly 5 _ rfl
  · exact hly 63 _ rfl
  · exact hly 13 _ rfl
  · exact hly 71 _ rfl
  · exact hly 18 _ rfl
  · exact hly 76 _ rfl
  · exact hly 35 _ rfl
theorem Lf_2 {ly : List LK} {f cap : Nat} (hly : LyOk ly) (hf : Fm f cap) : ly[f + 2]? = some (.inr (.int, cap)) := by
  rcases hf with ⟨rfl, rfl⟩ | ⟨rfl, rfl⟩ | ⟨rfl, rfl⟩ | ⟨rfl, rfl⟩ | ⟨rfl, rfl⟩ | ⟨rfl, rfl⟩ | ⟨rfl, rfl⟩
  · exact hly 6 _ rfl
  · exact hly 64 _ rfl
  · exact hly 14 _ rfl
  · exact hly 72 _ rfl
  · exact hly 19 _ rfl
  · exact hly 77 _ rfl
  · exact hly 36 _ rfl
theorem Rf_0_0 {F : Nat → Nat → Value} {f cap : Nat} (h : RfOk F) (hf : Fm f cap) : F f 0 = .ref (f + 1) := by
  rcases hf with ⟨rfl, rfl⟩ | ⟨rfl, rfl⟩ | ⟨rfl, rfl⟩ | ⟨rfl, rfl⟩ | ⟨rfl, rfl⟩ | ⟨rfl, rfl⟩ | ⟨rfl, rfl⟩
  · exact h.1 4 0 5 rfl
  · exact h.1 62 0 63 rfl
  · exact h.1 12 0 13 rfl
  · exact h.1 70 0 71 rfl
  · exact h.1 17 0 18 rfl
  · exact h.1 75 0 76 rfl
  · exact h.1 34 0 35 rfl
theorem Rf_0_1 {F : Nat → Nat → Value} {f cap : Nat} (h : RfOk F) (hf : Fm f cap) : F f 1 = .ref (f + 2) := by
  rcases hf with ⟨rfl, rfl⟩ | ⟨rfl, rfl⟩ | ⟨rfl, rfl⟩ | ⟨rfl, rfl⟩ | ⟨rfl, rfl⟩ | ⟨rfl, rfl⟩ | ⟨rfl, rfl⟩
  · exact h.1 4 1 6 rfl
  · exact h.1 62 1 64 rfl
  · exact h.1 12 1 14 rfl
  · exact h.1 70 1 72 rfl
  · exact h.1 17 1 19 rfl
  · exact h.1 75 1 77 rfl
  · exact h.1 34 1 36 rfl
theorem Gf_0_2 {G : Nat → Nat → Int} {f cap : Nat} (h : GO G) (hf : Fm f cap) : 0 ≤ G f 2 ∧ G f 2 ≤ (cap : Int) := by
  rcases hf with ⟨rfl, rfl⟩ | ⟨rfl, rfl⟩ | ⟨rfl, rfl⟩ | ⟨rfl, rfl⟩ | ⟨rfl, rfl⟩ | ⟨rfl, rfl⟩ | ⟨rfl, rfl⟩
  · exact g_4_2 h
  · exact g_62_2 h
  · exact g_12_2 h
  · exact g_70_2 h
  · exact g_17_2 h
  · exact g_75_2 h
  · exact g_34_2 h
theorem GUf_0_2 {G : Nat → Nat → Int} {f cap : Nat} {z : Int} (hf : Fm f cap) (h : GO G) (h1 : 0 ≤ z) (h2 : z ≤ (cap : Int)) : GO (up2 G f 2 z) := by
  rcases hf with ⟨rfl, rfl⟩ | ⟨rfl, rfl⟩ | ⟨rfl, rfl⟩ | ⟨rfl, rfl⟩ | ⟨rfl, rfl⟩ | ⟨rfl, rfl⟩ | ⟨rfl, rfl⟩
  · exact gu_4_2 h h1 h2
  · exact gu_62_2 h h1 h2
  · exact gu_12_2 h h1 h2
  · exact gu_70_2 h h1 h2
  · exact gu_17_2 h h1 h2
  · exact gu_75_2 h h1 h2
  · exact gu_34_2 h h1 h2
theorem Af_1 {A : Nat → Nat → Int} {f cap : Nat} (h : AQ A) (hf : Fm f cap) (i : Nat) : 0 ≤ A (f + 1) i ∧ A (f + 1) i ≤ 255 := by
  rcases hf with ⟨rfl, rfl⟩ | ⟨rfl, rfl⟩ | ⟨rfl, rfl⟩ | ⟨rfl, rfl⟩ | ⟨rfl, rfl⟩ | ⟨rfl, rfl⟩ | ⟨rfl, rfl⟩
  · exact a_5 h i
  · exact a_63 h i
  · exact a_13 h i
  · exact a_71 h i
  · exact a_18 h i
  · exact a_76 h i
  · exact a_35 h i
theorem Af_2 {A : Nat → Nat → Int} {f cap : Nat} (h : AQ A) (hf : Fm f cap) (i : Nat) : 0 ≤ A (f + 2) i ∧ A (f + 2) i ≤ 12 := by
  rcases hf with ⟨rfl, rfl⟩ | ⟨rfl, rfl⟩ | ⟨rfl, rfl⟩ | ⟨rfl, rfl⟩ | ⟨rfl, rfl⟩ | ⟨rfl, rfl⟩ | ⟨rfl, rfl⟩
  · exact a_6 h i
  · exact a_64 h i
  · exact a_14 h i
  · exact a_72 h i
  · exact a_19 h i
  · exact a_77 h i
  · exact a_36 h i
theorem AUf_2 {A : Nat → Nat → Int} {f cap i : Nat} {z : Int} (hf : Fm f cap) (h : AQ A) (h1 : 0 ≤ z) (h2 : z ≤ 12) : AQ (up2 A (f + 2) i z) := by
  rcases hf with ⟨rfl, rfl⟩ | ⟨rfl, rfl⟩ | ⟨rfl, rfl⟩ | ⟨rfl, rfl⟩ | ⟨rfl, rfl⟩ | ⟨rfl, rfl⟩ | ⟨rfl, rfl⟩
  · exact au_6 h h1 h2
  · exact au_64 h h1 h2
  · exact au_14 h h1 h2
  · exact au_72 h h1 h2
  · exact au_19 h h1 h2
  · exact au_77 h h1 h2
  · exact au_36 h h1 h2
theorem Ff_1 {A : Nat → Nat → Int} {f cap : Nat} {g : Nat → Int} (hf : Fm f cap) (h : AQ A) (hg : ∀ i, 0 ≤ g i ∧ g i ≤ 255) : AQ (up1 A (f + 1) g) := by
  rcases hf with ⟨rfl, rfl⟩ | ⟨rfl, rfl⟩ | ⟨rfl, rfl⟩ | ⟨rfl, rfl⟩ | ⟨rfl, rfl⟩ | ⟨rfl, rfl⟩ | ⟨rfl, rfl⟩
  · exact AQ.up1 h (by rw [ar_5]; exact hg)
  · exact AQ.up1 h (by rw [ar_63]; exact hg)
  · exact AQ.up1 h (by rw [ar_13]; exact hg)
  · exact AQ.up1 h (by rw [ar_71]; exact hg)
  · exact AQ.up1 h (by rw [ar_18]; exact hg)
  · exact AQ.up1 h (by rw [ar_76]; exact hg)
  · exact AQ.up1 h (by rw [ar_35]; exact hg)
theorem Fm_cap {f cap : Nat} (hf : Fm f cap) : 20 ≤ cap ∧ cap ≤ 168 ∧ 4 ≤ f ∧ f ≤ 75 := by
  rcases hf with ⟨rfl, rfl⟩ | ⟨rfl, rfl⟩ | ⟨rfl, rfl⟩ | ⟨rfl, rfl⟩ | ⟨rfl, rfl⟩ | ⟨rfl, rfl⟩ | ⟨rfl, rfl⟩
  · omega
  · omega
  · omega
  · omega
  · omega
  · omega
  · omega
theorem Fm_w {x : Nat} (hx : x = 3 ∨ x = 61) : Fm (x + 1) 80 := by unfold Fm; omega
theorem Fm_e {x : Nat} (hx : x = 3 ∨ x = 61) : Fm (x + 9) 20 := by unfold Fm; omega
theorem Fm_n {x : Nat} (hx : x = 3 ∨ x = 61) : Fm (x + 14) 20 := by unfold Fm; omega
theorem Fm_s : Fm 34 168 := by unfold Fm; omega
theorem Fy_1 {A : Nat → Nat → Int} {y : Nat} {g : Nat → Int} (hy : y = 80 ∨ y = 85) (h : AQ A) (hg : ∀ i, 0 ≤ g i ∧ g i ≤ 255) : AQ (up1 A (y + 1) g) := by
  rcases hy with rfl | rfl
  · exact AQ.up1 h (by rw [ar_81]; exact hg)
  · exact AQ.up1 h (by rw [ar_86]; exact hg)
theorem F_41 {A : Nat → Nat → Int} {g : Nat → Int} (h : AQ A) (hg : ∀ i, 0 ≤ g i ∧ g i ≤ 255) : AQ (up1 A 41 g) := AQ.up1 h (by rw [ar_41]; exact hg)
