/-! Strings: what the program asks of its nine constants -/
def sLn (s : UInt32) : Nat := s_L.getD s.toNat 0
theorem sLn_le : ∀ k : Fin 9, s_L.getD k.val 0 ≤ 10 := by decide +kernel
section R39
variable {L : Nat} {xs : Nat → Int32} {mi pc : Nat} {l : AL} {st : List Value} {h : AH} {Q : Option Value → AH → Prop} {s : UInt32}
theorem s_ne (hs : s.toNat < 9) : ¬ s = 3000 := by
  rintro rfl
  exact absurd hs (by decide)
theorem s2_nat (hs : s.toNat < 9) : (UInt32.ofNat (2000 + s.toNat)).toNat = 2000 + s.toNat := UInt32.toNat_ofNat_of_lt' (by show 2000 + s.toNat < 4294967296; omega)
theorem s2_ne (hs : s.toNat < 9) : ¬ UInt32.ofNat (2000 + s.toNat) = 3000 := fun e => by
  have h1 := s2_nat hs
  rw [e] at h1
  have h2 : (3000 : UInt32).toNat = 3000 := by decide
  omega
theorem s2_n1 (hs : s.toNat < 9) : ¬ UInt32.ofNat (2000 + s.toNat) = 1000 := fun e => by
  have h1 := s2_nat hs
  rw [e] at h1
  have h2 : (1000 : UInt32).toNat = 1000 := by decide
  omega
theorem r_sval {i x p : Nat} (hi : a_ins mi pc = some (.getfield i, (100, x, p))) (hs : s.toNat < 9) (k : Re L xs mi (pc + 3) l (.float (UInt32.ofNat (2000 + s.toNat)) :: st) h Q) : Re L xs mi pc l (.float s :: st) h Q := by
  refine re_nx hi ?_ k
  unfold a_st
  dsimp only
  rw [if_pos ⟨hs, rfl⟩]
  rfl
theorem r_scod {i x p : Nat} (hi : a_ins mi pc = some (.getfield i, (101, x, p))) (hs : s.toNat < 9) (k : Re L xs mi (pc + 3) l (V 0 :: st) h Q) : Re L xs mi pc l (.float s :: st) h Q := by
  refine re_nx hi ?_ k
  unfold a_st
  dsimp only
  rw [if_neg (by rintro ⟨-, e⟩; exact absurd e (by decide)), if_pos ⟨hs, rfl⟩]
  rfl
theorem r_salen {r : AR} (hi : a_ins mi pc = some (.arraylength, r)) (hs : s.toNat < 9) (k : Re L xs mi (pc + 1) l (V (sLn s) :: st) h Q) : Re L xs mi pc l (.float (UInt32.ofNat (2000 + s.toNat)) :: st) h Q := by
  refine re_nx hi ?_ k
  unfold a_st
  dsimp only
  rw [if_neg (s2_n1 hs), if_pos (by rw [s2_nat hs]; omega), s2_nat hs, show 2000 + s.toNat - 2000 = s.toNat from by omega, ← Int32.ofInt_eq_ofNat]
  rfl
theorem r_sbald {r : AR} {z : Int} (hi : a_ins mi pc = some (.baload, r)) (hs : s.toNat < 9) (h0 : 0 ≤ z) (h1 : z < sLn s) (k : ∀ v : Int, (inR v) → Re L xs mi (pc + 1) l (V v :: st) h Q) : Re L xs mi pc l (V z :: .float (UInt32.ofNat (2000 + s.toNat)) :: st) h Q := by
  have hl := sLn_le ⟨s.toNat, hs⟩
  have hl' : sLn s ≤ 10 := hl
  have hl2 : s_L.getD s.toNat 0 ≤ 10 := hl
  have hk := k ((s_B.getD s.toNat []).getD z.toNat 0).toInt (x_rng _)
  refine re_nx hi ?_ hk
  unfold a_st
  dsimp only
  rw [s2_nat hs, show 2000 + s.toNat - 2000 = s.toNat from by omega, if_pos ⟨by omega, inb_ok h0 h1 (by omega)⟩, oI_cl h0 (by omega)]
  show some _ = some (Sum.inl (pc + 1, l, .int (Int32.ofInt _) :: st, h))
  rw [← oI_of]
theorem r_gs2 {i x p : Nat} (hi : a_ins mi pc = some (.getstatic i, (2, x, p))) (k : Re L xs mi (pc + 3) l (V 1 :: st) h Q) : Re L xs mi pc l st h Q := re_nx hi rfl k
theorem r_gs3 {i x p : Nat} (hi : a_ins mi pc = some (.getstatic i, (3, x, p))) (k : Re L xs mi (pc + 3) l (.float 3000 :: st) h Q) : Re L xs mi pc l st h Q := re_nx hi rfl k
theorem s_213 (hs : s.toNat < 9) (K : Q (some (V 0)) h) : Re L xs 213 0 [(0, .float s)] [] h Q := by
  refine r_gs2 i_213_0 ?_
  refine r_eq0 (t := 13) i_213_3 (by decide) (by decide) (fun c => absurd c (by decide)) (fun _ => ?_)
  refine r_aloads_n i_213_6 rfl (s_ne hs) ?_
  refine r_scod i_213_7 hs ?_
  refine r_go (t := 14) i_213_10 (by decide) ?_
  exact r_iret i_213_14 rfl rfl K
theorem s_214 (hs : s.toNat < 9) (K : Q (some (V 1)) h) : Re L xs 214 0 [(0, .float s)] [] h Q := by
  refine r_gs2 i_214_0 ?_
  refine r_eq0 (t := 17) i_214_3 (by decide) (by decide) (fun c => absurd c (by decide)) (fun _ => ?_)
  refine r_aloads_n i_214_6 rfl (s_ne hs) ?_
  refine r_scod i_214_7 hs ?_
  refine r_ne0 (t := 17) i_214_10 (by decide) (by decide) (fun c => absurd rfl c) (fun _ => ?_)
  refine r_iconst i_214_13 ?_
  refine r_go (t := 18) i_214_14 (by decide) ?_
  exact r_iret i_214_18 rfl rfl K
theorem shr0 (x : Int32) : x >>> (Int32.ofInt 0 &&& 31) = x := by
  rw [show (Int32.ofInt 0 &&& 31 : Int32) = 0 from by decide]
  exact Int32.shiftRight_zero
theorem s_212 (hs : s.toNat < 9) (K : Q (some (V (sLn s))) h) : Re L xs 212 0 [(0, .float s)] [] h Q := by
  refine r_aloads_n i_212_0 rfl (s_ne hs) ?_
  refine r_sval i_212_1 hs ?_
  refine r_salen i_212_4 hs ?_
  refine r_aloads_n i_212_5 rfl (s_ne hs) ?_
  refine r_cT (as := []) i_212_6 rfl (by decide +kernel) (Nat.le_of_ble_eq_true rfl) (Nat.le_of_ble_eq_true rfl) hs rfl ?_
  refine s_213 hs ?_
  show Re L xs 212 9 [(0, .float s)] [V 0, V (sLn s)] h Q
  refine r_bin (z := sLn s) i_212_9 rfl (shr0 _) ?_
  exact r_iret i_212_10 rfl rfl K
theorem s_218 {i n : Int} (h0 : 0 ≤ i) (h1 : i < n) (hn : n < 2147483648) (K : Q (some (V i)) h) : Re L xs 218 0 [(0, V i), (1, V n), (2, .float 3000)] [] h Q := by
  refine r_iload_n i_218_0 rfl ?_
  refine r_lt0 (t := 9) i_218_1 (by decide) (by omega) (fun c => by omega) (fun _ => ?_)
  refine r_iload_n i_218_4 rfl ?_
  refine r_iload_n i_218_5 rfl ?_
  refine r_clt (t := 16) i_218_6 (by decide) (by omega) (by omega) (fun _ => ?_) (fun c => by omega)
  refine r_iload_n i_218_16 rfl ?_
  exact r_iret i_218_17 rfl rfl K
theorem s_216 {i n : Int} (h0 : 0 ≤ i) (h1 : i < n) (hn : n < 2147483648) (K : Q none h) : Re L xs 216 0 [(0, V i), (1, V n)] [] h Q := by
  refine r_iload_n i_216_0 rfl ?_
  refine r_iload_n i_216_1 rfl ?_
  refine r_gs3 i_216_2 ?_
  refine r_cS (as := [.float 3000, V n, V i]) i_216_5 rfl (by decide +kernel) (Nat.le_of_ble_eq_true rfl) (Nat.le_of_ble_eq_true rfl) ?_
  refine s_218 h0 h1 hn ?_
  show Re L xs 216 8 [(0, V i), (1, V n)] [V i] h Q
  refine re_nx i_216_8 rfl ?_
  exact r_vret i_216_9 rfl K
theorem i2cV {w : Int} (h0 : 0 ≤ w) (h1 : w < 65536) : ((Int32.ofInt w).toUInt32 % 65536).toInt32 = Int32.ofInt w := by
  apply Int32.toBitVec_inj.1
  apply BitVec.eq_of_toNat_eq
  have e1 : (Int32.ofInt w).toBitVec.toNat = w.toNat := by
    show (BitVec.ofInt 32 w).toNat = _
    rw [BitVec.toNat_ofInt]
    omega
  have e2 : ((Int32.ofInt w).toUInt32 % 65536).toNat = w.toNat := by
    rw [UInt32.toNat_mod]
    show (Int32.ofInt w).toBitVec.toNat % 65536 = w.toNat
    rw [e1]
    omega
  rw [e1]
  exact e2
theorem s_217 {i : Int} (hs : s.toNat < 9) (h0 : 0 ≤ i) (h1 : i < sLn s) (K : ∀ r : Int, (0 ≤ r ∧ r ≤ 255) → Q (some (V r)) h) : Re L xs 217 0 [(0, .float (UInt32.ofNat (2000 + s.toNat))), (1, V i)] [] h Q := by
  have hl : sLn s ≤ 10 := sLn_le ⟨s.toNat, hs⟩
  refine r_iload_n i_217_0 rfl ?_
  refine r_aloads_n i_217_1 rfl (s2_ne hs) ?_
  refine r_salen i_217_2 hs ?_
  refine r_cS (as := [V (sLn s), V i]) i_217_3 rfl (by decide +kernel) (Nat.le_of_ble_eq_true rfl) (Nat.le_of_ble_eq_true rfl) ?_
  refine s_216 h0 h1 (by omega) ?_
  show Re L xs 217 6 [(0, .float (UInt32.ofNat (2000 + s.toNat))), (1, V i)] [] h Q
  refine r_aloads_n i_217_6 rfl (s2_ne hs) ?_
  refine r_iload_n i_217_7 rfl ?_
  refine r_sbald i_217_8 hs h0 h1 (fun v hv => ?_)
  refine r_sipush i_217_9 (by decide) ?_
  refine r_bin (z := v % 256) i_217_12 rfl (and255 _) ?_
  refine r_un (z := v % 256) i_217_13 rfl (i2cV (by omega) (by omega)) ?_
  exact r_iret i_217_14 rfl (nar_C (by omega)) (K _ (by omega))
theorem s_215 {i : Int} (hs : s.toNat < 9) (h0 : 0 ≤ i) (h1 : i < sLn s) (K : ∀ r : Int, (0 ≤ r ∧ r ≤ 255) → Q (some (V r)) h) : Re L xs 215 0 [(0, .float s), (1, V i)] [] h Q := by
  refine r_aloads_n i_215_0 rfl (s_ne hs) ?_
  refine r_cT (as := []) i_215_1 rfl (by decide +kernel) (Nat.le_of_ble_eq_true rfl) (Nat.le_of_ble_eq_true rfl) hs rfl ?_
  refine s_214 hs ?_
  show Re L xs 215 4 [(0, .float s), (1, V i)] [V 1] h Q
  refine r_eq0 (t := 16) i_215_4 (by decide) (by decide) (fun c => absurd c (by decide)) (fun _ => ?_)
  refine r_aloads_n i_215_7 rfl (s_ne hs) ?_
  refine r_sval i_215_8 hs ?_
  refine r_iload_n i_215_11 rfl ?_
  refine r_cS (as := [V i, .float (UInt32.ofNat (2000 + s.toNat))]) i_215_12 rfl (by decide +kernel) (Nat.le_of_ble_eq_true rfl) (Nat.le_of_ble_eq_true rfl) ?_
  refine s_217 hs h0 h1 (fun r hr => ?_)
  show Re L xs 215 15 [(0, .float s), (1, V i)] [V r] h Q
  exact r_iret i_215_15 rfl (nar_C (by omega)) (K _ hr)
theorem s_222 {c : Int} (hc : 0 ≤ c ∧ c ≤ 255) (K : Q (some (V 1)) h) : Re L xs 222 0 [(0, V c)] [] h Q := by
  refine r_iload_n i_222_0 rfl ?_
  refine r_lt0 (t := 15) i_222_1 (by decide) (by omega) (fun c => by omega) (fun _ => ?_)
  refine r_iload_n i_222_4 rfl ?_
  refine r_sipush i_222_5 (by decide) ?_
  refine r_cgt (t := 15) i_222_8 (by decide) (by omega) (by omega) (fun c => by omega) (fun _ => ?_)
  refine r_iconst i_222_11 ?_
  refine r_go (t := 16) i_222_12 (by decide) ?_
  exact r_iret i_222_16 rfl rfl K
theorem s_223 {c : Int} (K : ∀ r : Int, (-1 ≤ r ∧ r ≤ 100) → Q (some (V r)) h) (hs : s.toNat < 9) : Re L xs 223 0 [(0, .float (UInt32.ofNat (2000 + s.toNat))), (1, V c), (2, V 0), (3, V (sLn s))] [] h Q := by
  have hl : sLn s ≤ 10 := sLn_le ⟨s.toNat, hs⟩
  refine r_iload_n i_223_0 rfl ?_
  refine r_un (z := (Int32.ofInt c).toInt8.toInt32.toInt) i_223_1 rfl (oI_of _) ?_
  have hb := b8_rng (Int32.ofInt c)
  refine r_istore (l' := [(0, .float (UInt32.ofNat (2000 + s.toNat))), (1, V c), (2, V 0), (3, V (sLn s)), (4, V (Int32.ofInt c).toInt8.toInt32.toInt)]) i_223_2 (by decide +kernel) rfl ?_
  refine r_iload_n i_223_4 rfl ?_
  refine r_istore (l' := [(0, .float (UInt32.ofNat (2000 + s.toNat))), (1, V c), (2, V 0), (3, V (sLn s)), (4, V (Int32.ofInt c).toInt8.toInt32.toInt), (5, V 0)]) i_223_5 (by decide +kernel) rfl ?_
  have lp : ∀ (nf : Nat) (k : Int), (0 ≤ k ∧ k ≤ sLn s) → ((sLn s : Int) - k).toNat < nf → Re L xs 223 7 [(0, .float (UInt32.ofNat (2000 + s.toNat))), (1, V c), (2, V 0), (3, V (sLn s)), (4, V (Int32.ofInt c).toInt8.toInt32.toInt), (5, V k)] [] h Q := by
    intro nf
    induction nf with
    | zero => intros; omega
    | succ nf ih =>
      intro k hk hm
      refine r_iload i_223_7 rfl ?_
      refine r_iload_n i_223_9 rfl ?_
      refine r_cge (t := 31) i_223_10 (by decide) (by omega) (by omega) (fun _ => ?_) (fun c1 => ?_)
      · refine r_iconst i_223_31 ?_
        exact r_iret i_223_32 rfl rfl (K _ (by omega))
      · refine r_aloads_n i_223_13 rfl (s2_ne hs) ?_
        refine r_iload i_223_14 rfl ?_
        refine r_sbald i_223_16 hs hk.1 c1 (fun v hv => ?_)
        refine r_iload i_223_17 rfl ?_
        refine r_cne (t := 25) i_223_19 (by decide) (by omega) (by omega) (fun _ => ?_) (fun _ => ?_)
        · refine r_iinc (l' := [(0, .float (UInt32.ofNat (2000 + s.toNat))), (1, V c), (2, V 0), (3, V (sLn s)), (4, V (Int32.ofInt c).toInt8.toInt32.toInt), (5, V (k + 1))]) i_223_25 rfl (by decide +kernel) rfl ?_
          refine r_go (t := 7) i_223_28 (by decide) ?_
          exact ih (k + 1) (by omega) (by omega)
        · refine r_iload i_223_22 rfl ?_
          exact r_iret i_223_24 rfl rfl (K _ (by omega))
  exact lp _ 0 (by omega) (Nat.lt_succ_self _)
theorem s_221 {c : Int} (hs : s.toNat < 9) (h1 : 1 ≤ sLn s) (hc : 0 ≤ c ∧ c ≤ 255) (K : ∀ r : Int, (-1 ≤ r ∧ r ≤ 100) → Q (some (V r)) h) : Re L xs 221 0 [(0, .float (UInt32.ofNat (2000 + s.toNat))), (1, V c), (2, V 0), (3, V (sLn s))] [] h Q := by
  have hl : sLn s ≤ 10 := sLn_le ⟨s.toNat, hs⟩
  refine r_iload_n i_221_0 rfl ?_
  refine r_cS (as := [V c]) i_221_1 rfl (by decide +kernel) (Nat.le_of_ble_eq_true rfl) (Nat.le_of_ble_eq_true rfl) ?_
  refine s_222 hc ?_
  show Re L xs 221 4 [(0, .float (UInt32.ofNat (2000 + s.toNat))), (1, V c), (2, V 0), (3, V (sLn s))] [V 1] h Q
  refine r_ne0 (t := 9) i_221_4 (by decide) (by decide) (fun _ => ?_) (fun c => absurd c (by decide))
  refine r_iload_n i_221_9 rfl ?_
  refine r_iconst i_221_10 ?_
  refine r_max (r := (0, 0, 0)) i_221_11 (by decide +kernel) (Nat.le_of_ble_eq_true rfl) (by decide) (by decide) (fun m em => ?_)
  obtain rfl : m = 0 := by omega
  refine r_istore_n (l' := [(0, .float (UInt32.ofNat (2000 + s.toNat))), (1, V c), (2, V 0), (3, V (sLn s))]) i_221_14 (by decide +kernel) rfl ?_
  refine r_iload_n i_221_15 rfl ?_
  refine r_aloads_n i_221_16 rfl (s2_ne hs) ?_
  refine r_salen i_221_17 hs ?_
  refine r_min (r := (0, 0, 0)) i_221_18 (by decide +kernel) (Nat.le_of_ble_eq_true rfl) (by omega) (by omega) (fun m em => ?_)
  obtain rfl : m = (sLn s : Int) := by omega
  refine r_istore_n (l' := [(0, .float (UInt32.ofNat (2000 + s.toNat))), (1, V c), (2, V 0), (3, V (sLn s))]) i_221_21 (by decide +kernel) rfl ?_
  refine r_iload_n i_221_22 rfl ?_
  refine r_iload_n i_221_23 rfl ?_
  refine r_clt (t := 29) i_221_24 (by decide) (by omega) (by omega) (fun _ => ?_) (fun c => by omega)
  refine r_aloads_n i_221_29 rfl (s2_ne hs) ?_
  refine r_iload_n i_221_30 rfl ?_
  refine r_iload_n i_221_31 rfl ?_
  refine r_iload_n i_221_32 rfl ?_
  refine r_cS (as := [V (sLn s), V 0, V c, .float (UInt32.ofNat (2000 + s.toNat))]) i_221_33 rfl (by decide +kernel) (Nat.le_of_ble_eq_true rfl) (Nat.le_of_ble_eq_true rfl) ?_
  refine s_223 (fun r hr => ?_) hs
  show Re L xs 221 36 _ [V r] h Q
  exact r_iret i_221_36 rfl rfl (K _ hr)
theorem s_220 {c : Int} (hs : s.toNat < 9) (h1 : 1 ≤ sLn s) (hc : 0 ≤ c ∧ c ≤ 255) (K : ∀ r : Int, (-1 ≤ r ∧ r ≤ 100) → Q (some (V r)) h) : Re L xs 220 0 [(0, .float s), (1, V c), (2, V 0)] [] h Q := by
  refine r_aloads_n i_220_0 rfl (s_ne hs) ?_
  refine r_cT (as := []) i_220_1 rfl (by decide +kernel) (Nat.le_of_ble_eq_true rfl) (Nat.le_of_ble_eq_true rfl) hs rfl ?_
  refine s_214 hs ?_
  show Re L xs 220 4 [(0, .float s), (1, V c), (2, V 0)] [V 1] h Q
  refine r_eq0 (t := 23) i_220_4 (by decide) (by decide) (fun c => absurd c (by decide)) (fun _ => ?_)
  refine r_aloads_n i_220_7 rfl (s_ne hs) ?_
  refine r_sval i_220_8 hs ?_
  refine r_iload_n i_220_11 rfl ?_
  refine r_iload_n i_220_12 rfl ?_
  refine r_aloads_n i_220_13 rfl (s_ne hs) ?_
  refine r_cT (as := []) i_220_14 rfl (by decide +kernel) (Nat.le_of_ble_eq_true rfl) (Nat.le_of_ble_eq_true rfl) hs rfl ?_
  refine s_212 hs ?_
  show Re L xs 220 17 [(0, .float s), (1, V c), (2, V 0)] [V (sLn s), V 0, V c, .float (UInt32.ofNat (2000 + s.toNat))] h Q
  refine r_cS (as := [V (sLn s), V 0, V c, .float (UInt32.ofNat (2000 + s.toNat))]) i_220_17 rfl (by decide +kernel) (Nat.le_of_ble_eq_true rfl) (Nat.le_of_ble_eq_true rfl) ?_
  refine s_221 hs h1 hc (fun r hr => ?_)
  show Re L xs 220 20 _ [V r] h Q
  refine r_go (t := 36) i_220_20 (by decide) ?_
  exact r_iret i_220_36 rfl rfl (K _ hr)
theorem s_219 {c : Int} (hs : s.toNat < 9) (h1 : 1 ≤ sLn s) (hc : 0 ≤ c ∧ c ≤ 255) (K : ∀ r : Int, (-1 ≤ r ∧ r ≤ 100) → Q (some (V r)) h) : Re L xs 219 0 [(0, .float s), (1, V c)] [] h Q := by
  refine r_aloads_n i_219_0 rfl (s_ne hs) ?_
  refine r_iload_n i_219_1 rfl ?_
  refine r_iconst i_219_2 ?_
  refine r_cT (as := [V 0, V c]) i_219_3 rfl (by decide +kernel) (Nat.le_of_ble_eq_true rfl) (Nat.le_of_ble_eq_true rfl) hs rfl ?_
  refine s_220 hs h1 hc (fun r hr => ?_)
  show Re L xs 219 6 _ [V r] h Q
  exact r_iret i_219_6 rfl rfl (K _ hr)
theorem s_33 {c : Int} (hc : 0 ≤ c ∧ c ≤ 255) (K : ∀ r : Int, (0 ≤ r ∧ r ≤ 1) → Q (some (V r)) h) : Re L xs 33 0 [(0, V c)] [] h Q := by
  refine r_ldcs (s := 0) i_33_0 (by decide) ?_
  refine r_iload_n i_33_2 rfl ?_
  refine r_cT (as := [V c]) i_33_3 rfl (by decide +kernel) (Nat.le_of_ble_eq_true rfl) (Nat.le_of_ble_eq_true rfl) (by decide) rfl ?_
  refine s_219 (by decide) (by decide +kernel) hc (fun r hr => ?_)
  show Re L xs 33 6 [(0, V c)] [V r] h Q
  refine r_lt0 (t := 13) i_33_6 (by decide) (by omega) (fun _ => ?_) (fun _ => ?_)
  · refine r_iconst i_33_13 ?_
    exact r_iret i_33_14 rfl rfl (K _ (by omega))
  · refine r_iconst i_33_9 ?_
    refine r_go (t := 14) i_33_10 (by decide) ?_
    exact r_iret i_33_14 rfl rfl (K _ (by omega))
end R39
