section RULES
variable {L : Nat} {xs : Nat → Int32} {mi pc : Nat} {l : AL} {st : List Value} {h : AH} {Q : Option Value → AH → Prop}
variable {ly : List LK} {F : Nat → Nat → Value} {G A : Nat → Nat → Int} {B : Nat → Nat → Int64}
-- branches
theorem r_eq0 {z off : Int} {t : Nat} {r : AR} (hi : a_ins mi pc = some (.ifCond .eq off, r)) (ht : (pc : Int) + off = (t : Int)) (hz : inR z) (kt : z = 0 → Re L xs mi t l st h Q) (kf : z ≠ 0 → Re L xs mi (pc + 3) l st h Q) : Re L xs mi pc l (V z :: st) h Q := by
  by_cases c : z = 0
  · exact re_nx hi (a_br_t ((oI_eq hz (b := 0) (by decide)).mpr c) ht) (kt c)
  · exact re_nx hi (a_br_f (fun e => c ((oI_eq hz (b := 0) (by decide)).mp e)) ht) (kf c)
theorem r_ne0 {z off : Int} {t : Nat} {r : AR} (hi : a_ins mi pc = some (.ifCond .ne off, r)) (ht : (pc : Int) + off = (t : Int)) (hz : inR z) (kt : z ≠ 0 → Re L xs mi t l st h Q) (kf : z = 0 → Re L xs mi (pc + 3) l st h Q) : Re L xs mi pc l (V z :: st) h Q := by
  by_cases c : z = 0
  · exact re_nx hi (a_br_f (fun e => e ((oI_eq hz (b := 0) (by decide)).mpr c)) ht) (kf c)
  · exact re_nx hi (a_br_t (fun e => c ((oI_eq hz (b := 0) (by decide)).mp e)) ht) (kt c)
theorem r_lt0 {z off : Int} {t : Nat} {r : AR} (hi : a_ins mi pc = some (.ifCond .lt off, r)) (ht : (pc : Int) + off = (t : Int)) (hz : inR z) (kt : z < 0 → Re L xs mi t l st h Q) (kf : 0 ≤ z → Re L xs mi (pc + 3) l st h Q) : Re L xs mi pc l (V z :: st) h Q := by
  by_cases c : z < 0
  · exact re_nx hi (a_br_t ((oI_lt hz (b := 0) (by decide)).mpr c) ht) (kt c)
  · exact re_nx hi (a_br_f (fun e => c ((oI_lt hz (b := 0) (by decide)).mp e)) ht) (kf (by omega))
theorem r_ge0 {z off : Int} {t : Nat} {r : AR} (hi : a_ins mi pc = some (.ifCond .ge off, r)) (ht : (pc : Int) + off = (t : Int)) (hz : inR z) (kt : 0 ≤ z → Re L xs mi t l st h Q) (kf : z < 0 → Re L xs mi (pc + 3) l st h Q) : Re L xs mi pc l (V z :: st) h Q := by
  by_cases c : 0 ≤ z
  · exact re_nx hi (a_br_t ((oI_le (a := 0) (by decide) hz).mpr c) ht) (kt c)
  · exact re_nx hi (a_br_f (fun e => c ((oI_le (a := 0) (by decide) hz).mp e)) ht) (kf (by omega))
theorem r_gt0 {z off : Int} {t : Nat} {r : AR} (hi : a_ins mi pc = some (.ifCond .gt off, r)) (ht : (pc : Int) + off = (t : Int)) (hz : inR z) (kt : 0 < z → Re L xs mi t l st h Q) (kf : z ≤ 0 → Re L xs mi (pc + 3) l st h Q) : Re L xs mi pc l (V z :: st) h Q := by
  by_cases c : 0 < z
  · exact re_nx hi (a_br_t ((oI_lt (a := 0) (by decide) hz).mpr c) ht) (kt c)
  · exact re_nx hi (a_br_f (fun e => c ((oI_lt (a := 0) (by decide) hz).mp e)) ht) (kf (by omega))
theorem r_le0 {z off : Int} {t : Nat} {r : AR} (hi : a_ins mi pc = some (.ifCond .le off, r)) (ht : (pc : Int) + off = (t : Int)) (hz : inR z) (kt : z ≤ 0 → Re L xs mi t l st h Q) (kf : 0 < z → Re L xs mi (pc + 3) l st h Q) : Re L xs mi pc l (V z :: st) h Q := by
  by_cases c : z ≤ 0
  · exact re_nx hi (a_br_t ((oI_le hz (b := 0) (by decide)).mpr c) ht) (kt c)
  · exact re_nx hi (a_br_f (fun e => c ((oI_le hz (b := 0) (by decide)).mp e)) ht) (kf (by omega))
theorem r_ceq {a b off : Int} {t : Nat} {r : AR} (hi : a_ins mi pc = some (.if_icmp .eq off, r)) (ht : (pc : Int) + off = (t : Int)) (ha : inR a) (hb : inR b) (kt : a = b → Re L xs mi t l st h Q) (kf : a ≠ b → Re L xs mi (pc + 3) l st h Q) : Re L xs mi pc l (V b :: V a :: st) h Q := by
  by_cases c : a = b
  · exact re_nx hi (a_br_t ((oI_eq ha hb).mpr c) ht) (kt c)
  · exact re_nx hi (a_br_f (fun e => c ((oI_eq ha hb).mp e)) ht) (kf c)
theorem r_cne {a b off : Int} {t : Nat} {r : AR} (hi : a_ins mi pc = some (.if_icmp .ne off, r)) (ht : (pc : Int) + off = (t : Int)) (ha : inR a) (hb : inR b) (kt : a ≠ b → Re L xs mi t l st h Q) (kf : a = b → Re L xs mi (pc + 3) l st h Q) : Re L xs mi pc l (V b :: V a :: st) h Q := by
  by_cases c : a = b
  · exact re_nx hi (a_br_f (fun e => e ((oI_eq ha hb).mpr c)) ht) (kf c)
  · exact re_nx hi (a_br_t (fun e => c ((oI_eq ha hb).mp e)) ht) (kt c)
theorem r_clt {a b off : Int} {t : Nat} {r : AR} (hi : a_ins mi pc = some (.if_icmp .lt off, r)) (ht : (pc : Int) + off = (t : Int)) (ha : inR a) (hb : inR b) (kt : a < b → Re L xs mi t l st h Q) (kf : b ≤ a → Re L xs mi (pc + 3) l st h Q) : Re L xs mi pc l (V b :: V a :: st) h Q := by
  by_cases c : a < b
  · exact re_nx hi (a_br_t ((oI_lt ha hb).mpr c) ht) (kt c)
  · exact re_nx hi (a_br_f (fun e => c ((oI_lt ha hb).mp e)) ht) (kf (by omega))
theorem r_cge {a b off : Int} {t : Nat} {r : AR} (hi : a_ins mi pc = some (.if_icmp .ge off, r)) (ht : (pc : Int) + off = (t : Int)) (ha : inR a) (hb : inR b) (kt : b ≤ a → Re L xs mi t l st h Q) (kf : a < b → Re L xs mi (pc + 3) l st h Q) : Re L xs mi pc l (V b :: V a :: st) h Q := by
  by_cases c : b ≤ a
  · exact re_nx hi (a_br_t ((oI_le hb ha).mpr c) ht) (kt c)
  · exact re_nx hi (a_br_f (fun e => c ((oI_le hb ha).mp e)) ht) (kf (by omega))
theorem r_cgt {a b off : Int} {t : Nat} {r : AR} (hi : a_ins mi pc = some (.if_icmp .gt off, r)) (ht : (pc : Int) + off = (t : Int)) (ha : inR a) (hb : inR b) (kt : b < a → Re L xs mi t l st h Q) (kf : a ≤ b → Re L xs mi (pc + 3) l st h Q) : Re L xs mi pc l (V b :: V a :: st) h Q := by
  by_cases c : b < a
  · exact re_nx hi (a_br_t ((oI_lt hb ha).mpr c) ht) (kt c)
  · exact re_nx hi (a_br_f (fun e => c ((oI_lt hb ha).mp e)) ht) (kf (by omega))
theorem r_cle {a b off : Int} {t : Nat} {r : AR} (hi : a_ins mi pc = some (.if_icmp .le off, r)) (ht : (pc : Int) + off = (t : Int)) (ha : inR a) (hb : inR b) (kt : a ≤ b → Re L xs mi t l st h Q) (kf : b < a → Re L xs mi (pc + 3) l st h Q) : Re L xs mi pc l (V b :: V a :: st) h Q := by
  by_cases c : a ≤ b
  · exact re_nx hi (a_br_t ((oI_le ha hb).mpr c) ht) (kt c)
  · exact re_nx hi (a_br_f (fun e => c ((oI_le ha hb).mp e)) ht) (kf (by omega))
-- fields
theorem r_getI {i a ci k p : Nat} (hi : a_ins mi pc = some (.getfield i, (ci, k, p))) (hk : (decide (k < nF ci) && isI ci k) = true) (hl : ly[a]? = some (.inl ci)) (kk : Re L xs mi (pc + 3) l (V (G a k) :: st) (HP ly F G A B) Q) : Re L xs mi pc l (.ref a :: st) (HP ly F G A B) Q := by
  simp only [Bool.and_eq_true, decide_eq_true_eq] at hk
  refine re_nx hi ?_ kk
  unfold a_st
  dsimp only
  rw [HP_ob hl]
  dsimp only
  rw [if_pos rfl, fsl_get hk.1, if_pos hk.2]
  rfl
theorem r_getF {i a ci k p : Nat} {v : Value} (hi : a_ins mi pc = some (.getfield i, (ci, k, p))) (hk : (decide (k < nF ci) && !isI ci k) = true) (hl : ly[a]? = some (.inl ci)) (hv : F a k = v) (kk : Re L xs mi (pc + 3) l (v :: st) (HP ly F G A B) Q) : Re L xs mi pc l (.ref a :: st) (HP ly F G A B) Q := by
  simp only [Bool.and_eq_true, Bool.not_eq_true', decide_eq_true_eq] at hk
  refine re_nx hi ?_ kk
  unfold a_st
  dsimp only
  rw [HP_ob hl]
  dsimp only
  rw [if_pos rfl, fsl_get hk.1, if_neg (by rw [hk.2]; decide), hv]
  rfl
/-- may method mi put into field k of class ci, and of which type is it -/
def pt (mi ci k : Nat) (t : FieldType) : Bool := match c_R[ci]? with
  | some (_, T, N, ty) => decide (k < N) && decide (ty k = t) && (!(T k).2.2.2 || (decide ((T k).1 = o_N.getD (m_o mi) "") && decide ((m_y mi).name = "<init>")))
  | none => false
def ptR (mi ci k : Nat) : Bool := match c_R[ci]? with
  | some (_, T, N, ty) => decide (k < N) && (match ty k with
    | .object _ => true
    | .array _ => true
    | _ => false) && (!(T k).2.2.2 || (decide ((T k).1 = o_N.getD (m_o mi) "") && decide ((m_y mi).name = "<init>")))
  | none => false
theorem pt_ok {ci k : Nat} {t : FieldType} {v : Value} (hp : pt mi ci k t = true) (hf : a_fk v = true) (h1 : narrow t v = v) (h2 : fits t v = true) : a_put mi ci k v = true ∧ k < nF ci := by
  unfold pt at hp
  unfold a_put nF
  split at hp
  · rename_i T N ty hc
    simp only [Bool.and_eq_true, decide_eq_true_eq] at hp
    obtain ⟨⟨h3, h4⟩, h5⟩ := hp
    rw [hc]
    dsimp only
    rw [h4]
    simp only [Bool.and_eq_true, decide_eq_true_eq]
    exact ⟨⟨⟨⟨⟨h3, hf⟩, h1⟩, h2⟩, h5⟩, h3⟩
  · cases hp
theorem ptR_ok {ci k : Nat} {b : Nat} (hp : ptR mi ci k = true) : a_put mi ci k (.ref b) = true ∧ k < nF ci := by
  unfold ptR at hp
  unfold a_put nF
  split at hp
  · rename_i T N ty hc
    simp only [Bool.and_eq_true, decide_eq_true_eq] at hp
    obtain ⟨⟨h3, h4⟩, h5⟩ := hp
    rw [hc]
    dsimp only
    simp only [Bool.and_eq_true, decide_eq_true_eq]
    refine ⟨⟨⟨⟨⟨h3, rfl⟩, ?_⟩, ?_⟩, h5⟩, h3⟩
    · cases ty k <;> rfl
    · cases ht : ty k <;> rw [ht] at h4 <;> first | rfl | cases h4
  · cases hp
theorem r_putX {i a ci k p : Nat} {v : Value} (hi : a_ins mi pc = some (.putfield i, (ci, k, p))) (hp : a_put mi ci k v = true ∧ k < nF ci) (hl : ly[a]? = some (.inl ci)) (kk : Re L xs mi (pc + 3) l st (h_up (HP ly F G A B) a (.inr (ci, (fsl ci (F a) (G a)).set k v))) Q) : Re L xs mi pc l (v :: .ref a :: st) (HP ly F G A B) Q := by
  refine re_nx hi ?_ kk
  unfold a_st
  dsimp only
  rw [HP_ob hl]
  dsimp only
  rw [if_pos ⟨rfl, by rw [fsl_len]; exact hp.2, hp.1⟩]
  rfl
theorem r_putI {i a ci k p : Nat} {z : Int} (hi : a_ins mi pc = some (.putfield i, (ci, k, p))) (hp : (pt mi ci k .int && isI ci k) = true) (hl : ly[a]? = some (.inl ci)) (kk : Re L xs mi (pc + 3) l st (HP ly F (up2 G a k z) A B) Q) : Re L xs mi pc l (V z :: .ref a :: st) (HP ly F G A B) Q := by
  simp only [Bool.and_eq_true] at hp
  exact r_putX hi (pt_ok hp.1 rfl rfl rfl) hl (by rw [HP_upG hl hp.2]; exact kk)
theorem r_putZ {i a ci k p : Nat} {z : Int} (hi : a_ins mi pc = some (.putfield i, (ci, k, p))) (hp : (pt mi ci k .boolean && isI ci k) = true) (hl : ly[a]? = some (.inl ci)) (hz : z = 0 ∨ z = 1) (kk : Re L xs mi (pc + 3) l st (HP ly F (up2 G a k z) A B) Q) : Re L xs mi pc l (V z :: .ref a :: st) (HP ly F G A B) Q := by
  simp only [Bool.and_eq_true] at hp
  exact r_putX hi (pt_ok hp.1 rfl (by rcases hz with rfl | rfl <;> rfl) (by rcases hz with rfl | rfl <;> rfl)) hl (by rw [HP_upG hl hp.2]; exact kk)
theorem r_putR {i a ci k p b : Nat} (hi : a_ins mi pc = some (.putfield i, (ci, k, p))) (hp : (ptR mi ci k && !isI ci k) = true) (hl : ly[a]? = some (.inl ci)) (kk : Re L xs mi (pc + 3) l st (HP ly (up2 F a k (.ref b)) G A B) Q) : Re L xs mi pc l (.ref b :: .ref a :: st) (HP ly F G A B) Q := by
  simp only [Bool.and_eq_true, Bool.not_eq_true'] at hp
  exact r_putX hi (ptR_ok hp.1) hl (by rw [HP_upF hl hp.2]; exact kk)
theorem r_putJ {i a ci k p : Nat} {v : Int64} (hi : a_ins mi pc = some (.putfield i, (ci, k, p))) (hp : (pt mi ci k .long && !isI ci k) = true) (hl : ly[a]? = some (.inl ci)) (kk : Re L xs mi (pc + 3) l st (HP ly (up2 F a k (.long v)) G A B) Q) : Re L xs mi pc l (.long v :: .ref a :: st) (HP ly F G A B) Q := by
  simp only [Bool.and_eq_true, Bool.not_eq_true'] at hp
  exact r_putX hi (pt_ok hp.1 rfl rfl rfl) hl (by rw [HP_upF hl hp.2]; exact kk)
-- arrays
theorem inb_ok {z : Int} {n : Nat} (h0 : 0 ≤ z) (h1 : z < n) (hn : n < 2147483648) : a_inb (Int32.ofInt z) n = true := by
  unfold a_inb
  have r0 : inR z := ⟨by omega, by omega⟩
  rw [oI_cl h0 (by omega)]
  have e1 : ¬ Int32.ofInt z < 0 := fun e => by have := (oI_lt r0 (b := 0) (by decide)).mp e; omega
  simp only [Bool.not_eq_true', Bool.or_eq_false_iff, decide_eq_false_iff_not]
  exact ⟨e1, by omega⟩
theorem ld_ok {a n : Nat} {t : FieldType} {z : Int} (hl : ly[a]? = some (.inr (t, n))) (ht : ¬ t = .long) (h0 : 0 ≤ z) (h1 : z < n) (hn : n < 2147483648) : a_ld (HP ly F G A B) a t (Int32.ofInt z) = some (Int32.ofInt (A a z.toNat)) := by
  unfold a_ld
  rw [HP_ai hl ht]
  dsimp only
  rw [if_pos (inb_ok h0 h1 hn), oI_cl h0 (by omega)]
theorem sv_ok {a n : Nat} {t : FieldType} {z v : Int} (hl : ly[a]? = some (.inr (t, n))) (ht : ¬ t = .long) (h0 : 0 ≤ z) (h1 : z < n) (hn : n < 2147483648) : a_sv (HP ly F G A B) a t (Int32.ofInt z) (Int32.ofInt v) = some (HP ly F G (up2 A a z.toNat v) B) := by
  unfold a_sv
  rw [HP_ai hl ht]
  dsimp only
  rw [if_pos (inb_ok h0 h1 hn), oI_cl h0 (by omega), HP_upA hl ht]
theorem ld_no {a n : Nat} {t t' : FieldType} {j : Int32} (hl : ly[a]? = some (.inr (t, n))) (ht : ¬ t = .long) (hn : ¬ t = t') : a_ld (HP ly F G A B) a t' j = none := by
  unfold a_ld
  rw [HP_an hl ht hn]
theorem sv_no {a n : Nat} {t t' : FieldType} {j v : Int32} (hl : ly[a]? = some (.inr (t, n))) (ht : ¬ t = .long) (hn : ¬ t = t') : a_sv (HP ly F G A B) a t' j v = none := by
  unfold a_sv
  rw [HP_an hl ht hn]
theorem r_iald {a n : Nat} {z : Int} {r : AR} (hi : a_ins mi pc = some (.iaload, r)) (hl : ly[a]? = some (.inr (.int, n))) (hn : n < 2147483648) (h0 : 0 ≤ z) (h1 : z < n) (kk : Re L xs mi (pc + 1) l (V (A a z.toNat) :: st) (HP ly F G A B) Q) : Re L xs mi pc l (V z :: .ref a :: st) (HP ly F G A B) Q := by
  refine re_nx hi ?_ kk
  unfold a_st
  dsimp only
  rw [ld_ok hl (by decide) h0 h1 hn]
  rfl
theorem r_cald {a n : Nat} {z : Int} {r : AR} (hi : a_ins mi pc = some (.caload, r)) (hl : ly[a]? = some (.inr (.char, n))) (hn : n < 2147483648) (h0 : 0 ≤ z) (h1 : z < n) (kk : Re L xs mi (pc + 1) l (V (A a z.toNat) :: st) (HP ly F G A B) Q) : Re L xs mi pc l (V z :: .ref a :: st) (HP ly F G A B) Q := by
  refine re_nx hi ?_ kk
  unfold a_st
  dsimp only
  rw [ld_ok hl (by decide) h0 h1 hn]
  rfl
theorem r_bald {a n : Nat} {z : Int} {r : AR} (hi : a_ins mi pc = some (.baload, r)) (hl : ly[a]? = some (.inr (.byte, n))) (hn : n < 2147483648) (h0 : 0 ≤ z) (h1 : z < n) (kk : Re L xs mi (pc + 1) l (V (A a z.toNat) :: st) (HP ly F G A B) Q) : Re L xs mi pc l (V z :: .ref a :: st) (HP ly F G A B) Q := by
  refine re_nx hi ?_ kk
  unfold a_st
  dsimp only
  rw [ld_ok hl (by decide) h0 h1 hn]
  rfl
theorem r_zald {a n : Nat} {z : Int} {r : AR} (hi : a_ins mi pc = some (.baload, r)) (hl : ly[a]? = some (.inr (.boolean, n))) (hn : n < 2147483648) (h0 : 0 ≤ z) (h1 : z < n) (kk : Re L xs mi (pc + 1) l (V (A a z.toNat) :: st) (HP ly F G A B) Q) : Re L xs mi pc l (V z :: .ref a :: st) (HP ly F G A B) Q := by
  refine re_nx hi ?_ kk
  unfold a_st
  dsimp only
  rw [ld_no hl (by decide) (by decide), ld_ok hl (by decide) h0 h1 hn]
  rfl
theorem r_lald {a n : Nat} {z : Int} {r : AR} (hi : a_ins mi pc = some (.laload, r)) (hl : ly[a]? = some (.inr (.long, n))) (hn : n < 2147483648) (h0 : 0 ≤ z) (h1 : z < n) (kk : Re L xs mi (pc + 1) l (.long (B a z.toNat) :: st) (HP ly F G A B) Q) : Re L xs mi pc l (V z :: .ref a :: st) (HP ly F G A B) Q := by
  refine re_nx hi ?_ kk
  unfold a_st
  dsimp only
  rw [HP_al hl]
  dsimp only
  rw [if_pos (inb_ok h0 h1 hn), oI_cl h0 (by omega)]
  rfl
theorem r_iast {a n : Nat} {z v : Int} {r : AR} (hi : a_ins mi pc = some (.iastore, r)) (hl : ly[a]? = some (.inr (.int, n))) (hn : n < 2147483648) (h0 : 0 ≤ z) (h1 : z < n) (kk : Re L xs mi (pc + 1) l st (HP ly F G (up2 A a z.toNat v) B) Q) : Re L xs mi pc l (V v :: V z :: .ref a :: st) (HP ly F G A B) Q := by
  refine re_nx hi ?_ kk
  unfold a_st
  dsimp only
  rw [sv_ok hl (by decide) h0 h1 hn]
  rfl
theorem fb_charX {n : Nat} (h : n < 65536) : (nI n).toUInt32.toUInt16.toUInt32.toInt32 = nI n := by
  apply Int32.toBitVec_inj.1
  apply BitVec.eq_of_toNat_eq
  have e1 : (nI n).toBitVec.toNat = n := by
    show (BitVec.ofNat 32 n).toNat = n
    rw [BitVec.toNat_ofNat, Nat.mod_eq_of_lt (by omega)]
  have e2 : ((nI n).toUInt32.toUInt16.toUInt32).toNat = n := by
    rw [UInt16.toNat_toUInt32, UInt32.toNat_toUInt16]
    show (nI n).toBitVec.toNat % 2 ^ 16 = n
    rw [e1, Nat.mod_eq_of_lt (by omega)]
  rw [e1]
  exact e2
theorem fb_byteX {x : Int32} (h1 : -128 ≤ x.toInt) (h2 : x.toInt < 128) : x.toInt8.toInt32 = x := by
  apply Int32.toInt_inj.1
  rw [Int8.toInt_toInt32, Int32.toInt_toInt8, Int.bmod_eq_of_le (by omega) (by omega)]
theorem nar_c {v : Int} (h0 : 0 ≤ v) (h1 : v < 65536) : vp_nar .char (Int32.ofInt v) = Int32.ofInt v := by
  have : Int32.ofInt v = nI v.toNat := by
    unfold nI
    rw [← Int32.ofInt_eq_ofNat]
    congr 1
    omega
  rw [this, vp_nar_char]
  exact fb_charX (by omega)
theorem nar_b {v : Int} (h0 : -128 ≤ v) (h1 : v < 128) : vp_nar .byte (Int32.ofInt v) = Int32.ofInt v := by
  rw [vp_nar_byte]
  have e := oI (z := v) ⟨by omega, by omega⟩
  exact fb_byteX (by omega) (by omega)
theorem nar_z {v : Int} (h : v = 0 ∨ v = 1) : vp_nar .boolean (Int32.ofInt v) = Int32.ofInt v := by
  rcases h with rfl | rfl <;> rfl
theorem r_cast {a n : Nat} {z v : Int} {r : AR} (hi : a_ins mi pc = some (.castore, r)) (hl : ly[a]? = some (.inr (.char, n))) (hn : n < 2147483648) (h0 : 0 ≤ z) (h1 : z < n) (hv : 0 ≤ v ∧ v < 65536) (kk : Re L xs mi (pc + 1) l st (HP ly F G (up2 A a z.toNat v) B) Q) : Re L xs mi pc l (V v :: V z :: .ref a :: st) (HP ly F G A B) Q := by
  refine re_nx hi ?_ kk
  unfold a_st
  dsimp only
  rw [nar_c hv.1 hv.2, sv_ok hl (by decide) h0 h1 hn]
  rfl
theorem r_bast {a n : Nat} {z v : Int} {r : AR} (hi : a_ins mi pc = some (.bastore, r)) (hl : ly[a]? = some (.inr (.byte, n))) (hn : n < 2147483648) (h0 : 0 ≤ z) (h1 : z < n) (hv : -128 ≤ v ∧ v < 128) (kk : Re L xs mi (pc + 1) l st (HP ly F G (up2 A a z.toNat v) B) Q) : Re L xs mi pc l (V v :: V z :: .ref a :: st) (HP ly F G A B) Q := by
  refine re_nx hi ?_ kk
  unfold a_st
  dsimp only
  rw [nar_b hv.1 hv.2, sv_ok hl (by decide) h0 h1 hn]
  rfl
theorem r_zast {a n : Nat} {z v : Int} {r : AR} (hi : a_ins mi pc = some (.bastore, r)) (hl : ly[a]? = some (.inr (.boolean, n))) (hn : n < 2147483648) (h0 : 0 ≤ z) (h1 : z < n) (hv : v = 0 ∨ v = 1) (kk : Re L xs mi (pc + 1) l st (HP ly F G (up2 A a z.toNat v) B) Q) : Re L xs mi pc l (V v :: V z :: .ref a :: st) (HP ly F G A B) Q := by
  refine re_nx hi ?_ kk
  unfold a_st
  dsimp only
  rw [sv_no hl (by decide) (by decide), nar_z hv, sv_ok hl (by decide) h0 h1 hn]
  rfl
theorem r_last {a n : Nat} {z : Int} {v : Int64} {r : AR} (hi : a_ins mi pc = some (.lastore, r)) (hl : ly[a]? = some (.inr (.long, n))) (hn : n < 2147483648) (h0 : 0 ≤ z) (h1 : z < n) (kk : Re L xs mi (pc + 1) l st (HP ly F G A (up2 B a z.toNat v)) Q) : Re L xs mi pc l (.long v :: V z :: .ref a :: st) (HP ly F G A B) Q := by
  refine re_nx hi ?_ kk
  unfold a_st
  dsimp only
  rw [HP_al hl]
  dsimp only
  rw [if_pos (inb_ok h0 h1 hn), oI_cl h0 (by omega), HP_upB hl]
  rfl
theorem r_alen {a n : Nat} {t : FieldType} {r : AR} (hi : a_ins mi pc = some (.arraylength, r)) (hl : ly[a]? = some (.inr (t, n))) (ht : (a_ti t).isSome = true) (kk : Re L xs mi (pc + 1) l (V n :: st) (HP ly F G A B) Q) : Re L xs mi pc l (.ref a :: st) (HP ly F G A B) Q := by
  refine re_nx hi ?_ kk
  unfold a_st
  dsimp only
  rw [if_pos (show a < (HP ly F G A B).1 from ly_lt hl), HP_cell hl]
  unfold hcl
  dsimp only
  by_cases e : t = .long
  · rw [if_pos e]
    dsimp only
    rw [if_pos (by decide), ← Int32.ofInt_eq_ofNat]
    rfl
  · rw [if_neg e]
    dsimp only
    rw [if_pos ht, ← Int32.ofInt_eq_ofNat]
    rfl
-- the script
theorem r_sld {z : Int} {r : AR} (hi : a_ins mi pc = some (.iaload, r)) (hL : L < 2147483648) (h0 : 0 ≤ z) (h1 : z < L) (kk : Re L xs mi (pc + 1) l (V (xs z.toNat).toInt :: st) h Q) : Re L xs mi pc l (V z :: .float 1000 :: st) h Q := by
  refine re_nx hi ?_ kk
  unfold a_st
  dsimp only
  rw [if_pos ⟨rfl, inb_ok h0 h1 hL⟩, oI_cl h0 (by omega)]
  show some _ = some (Sum.inl (pc + 1, l, .int (Int32.ofInt (xs z.toNat).toInt) :: st, h))
  rw [← oI_of]
theorem r_slen {r : AR} (hi : a_ins mi pc = some (.arraylength, r)) (kk : Re L xs mi (pc + 1) l (V L :: st) h Q) : Re L xs mi pc l (.float 1000 :: st) h Q := by
  refine re_nx hi ?_ kk
  unfold a_st
  dsimp only
  rw [if_pos rfl, ← Int32.ofInt_eq_ofNat]
  rfl
-- returns
theorem r_iret {v : Int32} {r : AR} {t : FieldType} (hi : a_ins mi pc = some (.ireturn, r)) (ht : m_r mi = some t) (hn : narrow t (.int v) = .int v) (k : Q (some (.int v)) h) : Re L xs mi pc l [.int v] h Q := by
  refine re_ret hi ?_ k
  unfold a_st
  dsimp only
  rw [ht]
  dsimp only
  rw [if_pos hn]
theorem r_lret {v : Int64} {r : AR} (hi : a_ins mi pc = some (.lreturn, r)) (ht : m_r mi = some .long) (k : Q (some (.long v)) h) : Re L xs mi pc l [.long v] h Q := by
  refine re_ret hi ?_ k
  unfold a_st
  dsimp only
  rw [if_pos ht]
theorem r_vret {r : AR} (hi : a_ins mi pc = some (.return_, r)) (ht : m_r mi = none) (k : Q none h) : Re L xs mi pc l [] h Q := by
  refine re_ret hi ?_ k
  unfold a_st
  dsimp only
  rw [if_pos ht]
-- calls
theorem r_cS {x mj n : Nat} {as rest : List Value} (hi : a_ins mi pc = some (.invokestatic x, (1, mj, n))) (hn : as.length = n) (hm : a_rm mi mj = true) (h1 : a_sum rest ≤ 8) (h2 : a_sum as.reverse ≤ m_l mj) (k : Re L xs mj 0 (lv_args 0 as.reverse) [] h (fun v h' => Re L xs mi (pc + 3) l (v.toList ++ rest) h' Q)) : Re L xs mi pc l (as ++ rest) h Q := by
  refine re_call hi ?_ k
  unfold a_st
  dsimp only
  rw [if_pos rfl]
  unfold a_call
  have e1 : (as ++ rest).take n = as := by rw [← hn]; exact List.take_left
  have e2 : (as ++ rest).drop n = rest := by rw [← hn]; exact List.drop_left
  rw [if_pos rfl, e1, e2, if_pos ⟨by rw [List.length_append]; omega, hm, h1, h2⟩]
theorem r_cV {x mj n a ci : Nat} {as rest : List Value} (hi : a_ins mi pc = some (.invokevirtual x, (0, mj, n))) (hn : as.length = n) (hm : a_rm mi mj = true) (h1 : a_sum rest ≤ 8) (h2 : a_sum (.ref a :: as.reverse) ≤ m_l mj) (hl : ly[a]? = some (.inl ci)) (hc : a_cn ci = (m_y mj).cls) (k : Re L xs mj 0 (lv_args 0 (.ref a :: as.reverse)) [] (HP ly F G A B) (fun v h' => Re L xs mi (pc + 3) l (v.toList ++ rest) h' Q)) : Re L xs mi pc l (as ++ .ref a :: rest) (HP ly F G A B) Q := by
  refine re_call hi ?_ k
  unfold a_st
  dsimp only
  rw [if_pos rfl]
  unfold a_call
  have e1 : (as ++ .ref a :: rest).take n = as := by rw [← hn]; exact List.take_left
  have e2 : (as ++ .ref a :: rest).drop n = .ref a :: rest := by rw [← hn]; exact List.drop_left
  rw [if_neg (by decide), if_pos rfl, e1, e2]
  dsimp only
  rw [HP_ob hl]
  dsimp only
  rw [if_pos ⟨by rw [List.length_append]; omega, hm, h1, hc, h2⟩]
theorem r_cI {x mj n a k : Nat} {as rest : List Value} (hi : a_ins mi pc = some (.invokespecial x, (k, mj, n))) (hk : k = 2 ∨ k = 3) (hn : as.length = n) (hm : a_rm mi mj = true) (h1 : a_sum rest ≤ 8) (h2 : a_sum (.ref a :: as.reverse) ≤ m_l mj) (kk : Re L xs mj 0 (lv_args 0 (.ref a :: as.reverse)) [] h (fun v h' => Re L xs mi (pc + 3) l (v.toList ++ rest) h' Q)) : Re L xs mi pc l (as ++ .ref a :: rest) h Q := by
  refine re_call hi ?_ kk
  unfold a_st
  dsimp only
  rw [if_pos hk]
  unfold a_call
  have e1 : (as ++ .ref a :: rest).take n = as := by rw [← hn]; exact List.take_left
  have e2 : (as ++ .ref a :: rest).drop n = .ref a :: rest := by rw [← hn]; exact List.drop_left
  rw [if_neg (by omega), if_neg (by omega), e1, e2]
  dsimp only
  rw [if_pos ⟨by rw [List.length_append]; omega, hm, h1, h2⟩]
end RULES
