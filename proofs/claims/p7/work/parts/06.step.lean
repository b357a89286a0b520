def s_L : List Nat := s_V.map (fun r => r.2.2.length)
def s_B : List (List Int32) := s_V.map (fun r => r.2.2.toList.map (fun ch => Int32.ofNat ch.toNat))
def s_O (i : Nat) : String × Nat × String := s_V.getD i ("", 0, "")
def a_fk (v : Value) : Bool := match v with
  | .float _ => false
  | .double _ => false
  | .retAddr _ => false
  | _ => true
def a_nat (mi : Nat) (pc : Nat) (k : Nat) (l : AL) (st : List Value) (h : AH) : Option AO := match k, st with
  | 4, .ref _ :: rest => if a_nt mi = true ∧ a_sum rest ≤ 8 then a_nx (pc + 3) l rest h else none
  | 5, .int y :: .int x :: rest => if a_nt mi = true ∧ a_sum rest ≤ 8 then a_nx (pc + 3) l (.int (if y < x then y else x) :: rest) h else none
  | 6, .int y :: .int x :: rest => if a_nt mi = true ∧ a_sum rest ≤ 8 then a_nx (pc + 3) l (.int (if x < y then y else x) :: rest) h else none
  | 7, .int n :: .int dp :: .ref d :: .int sp :: .ref s :: rest => match h_ai h s .char, h_ai h d .char with
    | some (n0, f), some (n1, g) => if decide (40 ≤ m_w mi) = true ∧ a_nt mi = true ∧ a_sum rest ≤ 8 ∧ ¬ sp < 0 ∧ ¬ dp < 0 ∧ ¬ n < 0 ∧ sp.toNatClampNeg + n.toNatClampNeg ≤ n0 ∧ dp.toNatClampNeg + n.toNatClampNeg ≤ n1 ∧ (List.range n.toNatClampNeg).all (fun i => fits .char (.int (f (sp.toNatClampNeg + i)))) = true
        then a_nx (pc + 3) l rest (h_up h d (.inl (.char, n1, .inl (va_cpy f g sp.toNatClampNeg dp.toNatClampNeg n.toNatClampNeg)))) else none
    | _, _ => none
  | _, _ => none
def a_put (mi : Nat) (ci k : Nat) (v : Value) : Bool := match c_R[ci]? with
  | some (C, T, N, ty) => decide (k < N) && a_fk v && decide (narrow (ty k) v = v) && fits (ty k) v && (!(T k).2.2.2 || (decide ((T k).1 = o_N.getD (m_o mi) "") && decide ((m_y mi).name = "<init>")))
  | none => false
def a_new (ci : Nat) : Option (List Value) := match c_R[ci]? with
  | some (_, _, N, ty) => if (List.range N).all (fun j => a_fk (defaultValue (ty j))) = true then some ((List.range N).map (fun j => defaultValue (ty j))) else none
  | none => none
def a_ti : FieldType → Option Nat
  | .int => some 0
  | .byte => some 1
  | .char => some 2
  | .boolean => some 3
  | .long => some 4
  | _ => none
def a_st (L : Nat) (xs : Nat → Int32) (mi pc : Nat) (l : AL) (st : List Value) (h : AH) (i : Instr) (r : AR) : Option AO := match i, st with
  | .iconst v, st => a_nx (pc + 1) l (.int (Int32.ofInt v) :: st) h
  | .bipush v, st => a_nx (pc + 2) l (.int (Int8.ofInt v).toInt32 :: st) h
  | .sipush v, st => a_nx (pc + 3) l (.int (Int16.ofInt v).toInt32 :: st) h
  | .lconst v, st => a_nx (pc + 1) l (.long (Int64.ofNat (v : Nat)) :: st) h
  | .ldc _, st => if r.1 = 0 then a_nx (pc + 2) l (.int (i_V.getD r.2.1 0) :: st) h else a_nx (pc + 2) l (.float (UInt32.ofNat r.2.1) :: st) h
  | .ldc_w _, st => if r.1 = 0 then a_nx (pc + 3) l (.int (i_V.getD r.2.1 0) :: st) h else none
  | .ldc2_w _, st => a_nx (pc + 3) l (.long (l_V.getD r.2.1 0) :: st) h
  | .iload_n k, st => match l_g l k with
    | some (.int x) => a_nx (pc + 1) l (.int x :: st) h
    | _ => none
  | .iload k, st => match l_g l k with
    | some (.int x) => a_nx (pc + 2) l (.int x :: st) h
    | _ => none
  | .lload_n k, st => match l_g l k with
    | some (.long x) => a_nx (pc + 1) l (.long x :: st) h
    | _ => none
  | .lload k, st => match l_g l k with
    | some (.long x) => a_nx (pc + 2) l (.long x :: st) h
    | _ => none
  | .aload_n k, st => match l_g l k with
    | some (.ref x) => a_nx (pc + 1) l (.ref x :: st) h
    | some (.float x) => if x = 3000 then none else a_nx (pc + 1) l (.float x :: st) h
    | _ => none
  | .aload k, st => match l_g l k with
    | some (.ref x) => a_nx (pc + 2) l (.ref x :: st) h
    | some (.float x) => if x = 3000 then none else a_nx (pc + 2) l (.float x :: st) h
    | _ => none
  | .istore_n k, .int x :: st => if (k : Nat) < m_l mi then a_nx (pc + 1) (l_s l k (.int x)) st h else none
  | .istore k, .int x :: st => if k < m_l mi then a_nx (pc + 2) (l_s l k (.int x)) st h else none
  | .astore_n k, .ref x :: st => if (k : Nat) < m_l mi then a_nx (pc + 1) (l_s l k (.ref x)) st h else none
  | .astore k, .ref x :: st => if k < m_l mi then a_nx (pc + 2) (l_s l k (.ref x)) st h else none
  | .lstore_n k, .long x :: st => if (k : Nat) + 1 < m_l mi then a_nx (pc + 1) (l_s2 l k (.long x)) st h else none
  | .lstore k, .long x :: st => if k + 1 < m_l mi then a_nx (pc + 2) (l_s2 l k (.long x)) st h else none
  | .iinc k v, st => match l_g l k with
    | some (.int x) => if k < m_l mi then a_nx (pc + 3) (l_s l k (.int (x + Int32.ofInt v))) st h else none
    | _ => none
  | .iadd, .int y :: .int x :: st => a_nx (pc + 1) l (.int (x + y) :: st) h
  | .isub, .int y :: .int x :: st => a_nx (pc + 1) l (.int (x - y) :: st) h
  | .imul, .int y :: .int x :: st => a_nx (pc + 1) l (.int (x * y) :: st) h
  | .idiv, .int y :: .int x :: st => if y = 0 then none else a_nx (pc + 1) l (.int (x / y) :: st) h
  | .irem, .int y :: .int x :: st => if y = 0 then none else a_nx (pc + 1) l (.int (x - x / y * y) :: st) h
  | .iand, .int y :: .int x :: st => a_nx (pc + 1) l (.int (x &&& y) :: st) h
  | .ior, .int y :: .int x :: st => a_nx (pc + 1) l (.int (x ||| y) :: st) h
  | .ishl, .int y :: .int x :: st => a_nx (pc + 1) l (.int (x <<< (y &&& 31)) :: st) h
  | .ishr, .int y :: .int x :: st => a_nx (pc + 1) l (.int (x >>> (y &&& 31)) :: st) h
  | .iushr, .int y :: .int x :: st => a_nx (pc + 1) l (.int (x.toUInt32 >>> (y.toUInt32 &&& Int32.toUInt32 31)).toInt32 :: st) h
  | .ladd, .long y :: .long x :: st => a_nx (pc + 1) l (.long (x + y) :: st) h
  | .lor, .long y :: .long x :: st => a_nx (pc + 1) l (.long (x ||| y) :: st) h
  | .lshl, .int y :: .long x :: st => a_nx (pc + 1) l (.long (x <<< (y.toInt64 &&& 63)) :: st) h
  | .lcmp, .long y :: .long x :: st => a_nx (pc + 1) l (.int (lg_cmp x y) :: st) h
  | .i2l, .int x :: st => a_nx (pc + 1) l (.long x.toInt64 :: st) h
  | .i2c, .int x :: st => a_nx (pc + 1) l (.int (x.toUInt32 % 65536).toInt32 :: st) h
  | .i2b, .int x :: st => a_nx (pc + 1) l (.int x.toInt8.toInt32 :: st) h
  | .dup, v :: st => if v.category = 1 then a_nx (pc + 1) l (v :: v :: st) h else none
  | .pop, v :: st => if v.category = 1 then a_nx (pc + 1) l st h else none
  | .pop2, v :: st => if v.category = 2 then a_nx (pc + 1) l st h else none
  | .dup2, v :: w :: st => if v.category = 1 ∧ w.category = 1 then a_nx (pc + 1) l (v :: w :: v :: w :: st) h else none
  | .ifCond c off, .int x :: st => a_if c x pc off l st h
  | .if_icmp c off, .int y :: .int x :: st => a_ic c x y pc off l st h
  | .goto off, st => a_go pc off l st h
  | .tableswitch d lo hi offs, .int x :: st => if x.toInt < lo ∨ hi < x.toInt then a_go pc d l st h else (match offs[(x.toInt - lo).toNat]? with
    | some off => a_go pc off l st h
    | none => none)
  | .lookupswitch d ps, .int x :: st => if (ps.toList.zip (ps.toList.drop 1)).all (fun (a, next) => a.1 < next.1) = true then a_go pc (Op.lookupswitch.offset ps.toList d x.toInt) l st h else none
  | .arraylength, .ref a :: st => if a < h.1 then (match h.2.2 a with
    | .inl (t, n, _) => if (a_ti t).isSome = true then a_nx (pc + 1) l (.int (Int32.ofNat n) :: st) h else none
    | _ => none) else none
  | .arraylength, .float k :: st => if k = 1000 then a_nx (pc + 1) l (.int (Int32.ofNat L) :: st) h else if 2000 ≤ k.toNat ∧ k.toNat < 2009 then a_nx (pc + 1) l (.int (Int32.ofNat (s_L.getD (k.toNat - 2000) 0)) :: st) h else none
  | .iaload, .int j :: .ref a :: st => match a_ld h a .int j with
    | some v => a_nx (pc + 1) l (.int v :: st) h
    | none => none
  | .iaload, .int j :: .float k :: st => if k = 1000 ∧ a_inb j L = true then a_nx (pc + 1) l (.int (xs j.toNatClampNeg) :: st) h else none
  | .caload, .int j :: .ref a :: st => match a_ld h a .char j with
    | some v => a_nx (pc + 1) l (.int v :: st) h
    | none => none
  | .baload, .int j :: .ref a :: st => match a_ld h a .byte j with
    | some v => a_nx (pc + 1) l (.int v :: st) h
    | none => match a_ld h a .boolean j with
      | some v => a_nx (pc + 1) l (.int v :: st) h
      | none => none
  | .laload, .int j :: .ref a :: st => match h_al h a with
    | some (n, f) => if a_inb j n = true then a_nx (pc + 1) l (.long (f j.toNatClampNeg) :: st) h else none
    | none => none
  | .iastore, .int x :: .int j :: .ref a :: st => match a_sv h a .int j x with
    | some h' => a_nx (pc + 1) l st h'
    | none => none
  | .castore, .int x :: .int j :: .ref a :: st => match a_sv h a .char j (vp_nar .char x) with
    | some h' => a_nx (pc + 1) l st h'
    | none => none
  | .bastore, .int x :: .int j :: .ref a :: st => match a_sv h a .byte j (vp_nar .byte x) with
    | some h' => a_nx (pc + 1) l st h'
    | none => match a_sv h a .boolean j (vp_nar .boolean x) with
      | some h' => a_nx (pc + 1) l st h'
      | none => none
  | .lastore, .long x :: .int j :: .ref a :: st => match h_al h a with
    | some (n, f) => if a_inb j n = true then a_nx (pc + 1) l st (h_up h a (.inl (.long, n, .inr (.inl (vp_updL f j.toNatClampNeg x))))) else none
    | none => none
  | .newarray t, .int n :: st => match a_def (newarray.typeOf t) n.toNatClampNeg with
    | some c => if ¬ n < 0 ∧ n.toNatClampNeg * 8 ≤ 536870912 then a_nx (pc + 2) l (.ref h.1 :: st) (h_ps h n.toNatClampNeg c) else none
    | none => none
  | .new _, st => match a_new r.1 with
    | some fs => a_nx (pc + 3) l (.ref h.1 :: st) (h_ps h r.2.1 (.inr (r.1, fs)))
    | none => none
  | .getfield _, .ref a :: st => match h_ob h a with
    | some (ci, fs) => if ci = r.1 then (match fs[r.2.1]? with
      | some v => a_nx (pc + 3) l (v :: st) h
      | none => none) else none
    | none => none
  | .putfield _, v :: .ref a :: st => match h_ob h a with
    | some (ci, fs) => if ci = r.1 ∧ r.2.1 < fs.length ∧ a_put mi ci r.2.1 v = true then a_nx (pc + 3) l st (h_up h a (.inr (ci, fs.set r.2.1 v))) else none
    | none => none
  | .invokevirtual _, st => if r.1 = 0 then a_call mi r.1 r.2.1 r.2.2 st h else none
  | .invokestatic _, st => if r.1 = 1 then a_call mi r.1 r.2.1 r.2.2 st h else if r.1 = 5 ∨ r.1 = 6 ∨ r.1 = 7 then a_nat mi pc r.1 l st h else none
  | .invokespecial _, st => if r.1 = 2 ∨ r.1 = 3 then a_call mi r.1 r.2.1 r.2.2 st h else if r.1 = 4 then a_nat mi pc r.1 l st h else none
  | .ireturn, [.int v] => match m_r mi with
    | some t => if narrow t (.int v) = .int v then some (.inr (.inl (some (.int v)))) else none
    | none => none
  | .lreturn, [.long v] => if m_r mi = some .long then some (.inr (.inl (some (.long v)))) else none
  | .return_, [] => if m_r mi = none then some (.inr (.inl none)) else none
  | .getstatic _, st => if r.1 = 2 then a_nx (pc + 3) l (.int 1 :: st) h else if r.1 = 3 then a_nx (pc + 3) l (.float 3000 :: st) h else none
  | .getfield _, .float k :: st => if k.toNat < 9 ∧ r.1 = 100 then a_nx (pc + 3) l (.float (UInt32.ofNat (2000 + k.toNat)) :: st) h else if k.toNat < 9 ∧ r.1 = 101 then a_nx (pc + 3) l (.int 0 :: st) h else none
  | .baload, .int j :: .float k :: st => if (2000 ≤ k.toNat ∧ k.toNat < 2009) ∧ a_inb j (s_L.getD (k.toNat - 2000) 0) = true then a_nx (pc + 1) l (.int ((s_B.getD (k.toNat - 2000) []).getD j.toNatClampNeg 0) :: st) h else none
  | _, _ => none
def a_run (L : Nat) (xs : Nat → Int32) : Nat → Nat → Nat → AL → List Value → AH → Option (Option Value × AH)
  | 0, _, _, _, _, _ => none
  | f + 1, mi, pc, l, st, h => match a_ins mi pc with
    | none => none
    | some (i, r) => match a_st L xs mi pc l st h i r with
      | none => none
      | some (.inl (pc', l', st', h')) => a_run L xs f mi pc' l' st' h'
      | some (.inr (.inl v)) => some (v, h)
      | some (.inr (.inr (mj, as, rest))) => match a_run L xs f mj 0 (lv_args 0 as) [] h with
        | none => none
        | some (v, h') => a_run L xs f mi (pc + 3) l (v.toList ++ rest) h'
