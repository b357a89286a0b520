def ly0 : List LK := [.inl 10, .inr (.char, 2000), .inl 1, .inl 0, .inl 3, .inr (.char, 960), .inr (.int, 80), .inr (.int, 80), .inr (.int, 80), .inr (.int, 80), .inr (.int, 80), .inr (.int, 80), .inl 3, .inr (.char, 240), .inr (.int, 20), .inr (.int, 20), .inr (.int, 20), .inl 3, .inr (.char, 240), .inr (.int, 20), .inr (.int, 64), .inr (.boolean, 64), .inl 8, .inr (.int, 2001), .inr (.int, 2001), .inr (.int, 2001), .inr (.int, 2001), .inl 4, .inr (.int, 60), .inr (.int, 60), .inr (.boolean, 60), .inl 2, .inr (.int, 14), .inr (.int, 14), .inl 3, .inr (.char, 2016), .inr (.int, 168), .inr (.int, 168), .inr (.int, 168), .inr (.int, 168), .inr (.int, 168), .inr (.char, 12), .inl 6, .inr (.int, 168), .inr (.int, 14), .inr (.int, 2352), .inr (.boolean, 14), .inr (.int, 64), .inl 9, .inr (.int, 14), .inr (.int, 14), .inr (.int, 168), .inr (.int, 64), .inr (.int, 14), .inr (.int, 9520), .inr (.int, 680), .inr (.int, 680), .inl 7, .inr (.long, 101), .inr (.long, 0), .inr (.long, 0), .inl 0, .inl 3, .inr (.char, 960), .inr (.int, 80), .inr (.int, 80), .inr (.int, 80), .inr (.int, 80), .inr (.int, 80), .inr (.int, 80), .inl 3, .inr (.char, 240), .inr (.int, 20), .inr (.int, 20), .inr (.int, 20), .inl 3, .inr (.char, 240), .inr (.int, 20), .inr (.int, 64), .inr (.boolean, 64), .inl 5, .inr (.char, 200), .inr (.int, 14), .inr (.int, 14), .inr (.boolean, 14), .inl 5, .inr (.char, 200), .inr (.int, 14), .inr (.int, 14), .inr (.boolean, 14), .inl 11, .inr (.byte, 2020), .inr (.byte, 2000), .inr (.byte, 1920), .inr (.byte, 480), .inr (.byte, 480), .inr (.byte, 480), .inr (.int, 160), .inr (.int, 160), .inr (.int, 160), .inr (.int, 160), .inr (.int, 160), .inr (.int, 40), .inr (.int, 40), .inr (.int, 40), .inr (.int, 40), .inr (.int, 128), .inr (.int, 2), .inr (.int, 2), .inr (.int, 2), .inr (.int, 2), .inr (.int, 2), .inr (.int, 2), .inr (.boolean, 2), .inr (.byte, 200), .inr (.int, 14), .inr (.int, 14), .inr (.boolean, 14), .inr (.int, 14), .inr (.int, 14), .inr (.boolean, 14), .inr (.byte, 2184), .inr (.int, 14), .inr (.int, 182), .inr (.int, 182), .inr (.int, 182), .inr (.int, 182), .inr (.int, 80), .inr (.int, 18928), .inr (.int, 18928), .inr (.int, 14), .inr (.long, 273104), .inr (.int, 60), .inr (.int, 60), .inr (.int, 60), .inr (.boolean, 60)]
def LyOk (ly : List LK) : Prop := ∀ (a : Nat) (k : LK), ly0[a]? = some k → ly[a]? = some k
def rf0 : List (Nat × Nat × Nat) := [(0, 0, 1), (0, 1, 2), (0, 2, 27), (0, 3, 31), (0, 4, 42), (2, 3, 1), (2, 4, 22), (3, 0, 4), (3, 1, 7), (3, 2, 8), (3, 3, 9), (3, 4, 10), (3, 5, 11), (3, 6, 12), (3, 7, 15), (3, 8, 16), (3, 9, 17), (3, 10, 20), (3, 11, 21), (4, 0, 5), (4, 1, 6), (12, 0, 13), (12, 1, 14), (17, 0, 18), (17, 1, 19), (22, 0, 23), (22, 1, 24), (22, 2, 25), (22, 3, 26), (27, 0, 28), (27, 1, 29), (27, 2, 30), (31, 0, 32), (31, 1, 33), (31, 2, 34), (31, 3, 37), (31, 4, 38), (31, 5, 39), (31, 6, 40), (31, 7, 41), (34, 0, 35), (34, 1, 36), (42, 0, 31), (42, 1, 48), (42, 2, 57), (42, 3, 43), (42, 4, 44), (42, 5, 45), (42, 6, 46), (48, 0, 31), (48, 1, 49), (48, 2, 50), (48, 3, 51), (48, 5, 53), (48, 6, 54), (48, 7, 55), (48, 8, 56), (57, 0, 48), (57, 1, 31), (57, 2, 58), (61, 0, 62), (61, 1, 65), (61, 2, 66), (61, 3, 67), (61, 4, 68), (61, 5, 69), (61, 6, 70), (61, 7, 73), (61, 8, 74), (61, 9, 75), (61, 10, 78), (61, 11, 79), (62, 0, 63), (62, 1, 64), (70, 0, 71), (70, 1, 72), (75, 0, 76), (75, 1, 77), (80, 0, 81), (80, 1, 82), (80, 2, 83), (80, 3, 84), (85, 0, 86), (85, 1, 87), (85, 2, 88), (85, 3, 89), (90, 0, 91), (90, 1, 92), (90, 11, 93), (90, 12, 94), (90, 13, 95), (90, 14, 96), (90, 15, 97), (90, 16, 98), (90, 17, 99), (90, 18, 100), (90, 19, 101), (90, 20, 102), (90, 21, 103), (90, 22, 104), (90, 23, 105), (90, 24, 106), (90, 25, 107), (90, 26, 108), (90, 27, 109), (90, 28, 110), (90, 29, 111), (90, 30, 112), (90, 31, 113), (90, 34, 114), (90, 35, 115), (90, 36, 116), (90, 37, 117), (90, 42, 118), (90, 43, 119), (90, 44, 120), (90, 46, 121), (90, 47, 122), (90, 48, 123), (90, 49, 124), (90, 50, 125), (90, 51, 126), (90, 52, 127), (90, 54, 128), (90, 55, 129), (90, 60, 130), (90, 61, 131), (90, 62, 132), (90, 63, 133), (90, 64, 134), (90, 65, 135)]
def rfn (a k : Nat) : Option Nat := (rf0.find? (fun e => e.1 == a && e.2.1 == k)).map (fun e => e.2.2)
def RfOk (F : Nat → Nat → Value) : Prop := (∀ a k b, rfn a k = some b → F a k = .ref b) ∧ ∃ v, F 90 10 = .long v
theorem RfOk.up {F : Nat → Nat → Value} {a k : Nat} {v : Value} (h : RfOk F) (hn : rfn a k = none) (hj : ¬ (90 = a ∧ 10 = k)) : RfOk (up2 F a k v) := by
  refine ⟨fun x y b e => ?_, ?_⟩
  · rw [up2_n, h.1 x y b e]
    rintro ⟨rfl, rfl⟩
    rw [hn] at e
    cases e
  · rw [up2_n hj]
    exact h.2
theorem RfOk.upJ {F : Nat → Nat → Value} {v : Int64} (h : RfOk F) : RfOk (up2 F 90 10 (.long v)) := by
  refine ⟨fun x y b e => ?_, v, up2_s _ _ _ _⟩
  rw [up2_n, h.1 x y b e]
  rintro ⟨rfl, rfl⟩
  have e2 : rfn 90 10 = none := by decide +kernel
  rw [e2] at e
  cases e
def gr0 : List ((Nat × Nat) × (Int × Int)) := [((0, 5), (0, 2000)), ((0, 9), (0, 5)), ((0, 10), ((-1), 2000)), ((0, 11), ((-1), 400)), ((2, 0), (0, 5)), ((2, 1), ((-1), 2000)), ((2, 5), (0, 2001)), ((2, 6), (0, 4)), ((2, 7), (0, 2000)), ((2, 8), (0, 12)), ((2, 9), (0, 999999)), ((3, 12), (0, 40)), ((3, 13), (0, 1)), ((3, 14), (0, 7)), ((3, 15), (0, 99)), ((4, 2), (0, 80)), ((12, 2), (0, 20)), ((17, 2), (0, 20)), ((22, 4), (0, 2001)), ((27, 3), (0, 60)), ((31, 8), (0, 14)), ((34, 2), (0, 168)), ((42, 7), (0, 1000000)), ((42, 9), ((-1), 400)), ((42, 10), (0, 1)), ((42, 11), (0, 1)), ((48, 9), (0, 1)), ((48, 10), ((-1), 13)), ((48, 11), ((-1), 11)), ((61, 12), (0, 40)), ((61, 13), (0, 1)), ((61, 14), (0, 7)), ((61, 15), (0, 99)), ((62, 2), (0, 80)), ((70, 2), (0, 20)), ((75, 2), (0, 20)), ((80, 4), (0, 200)), ((80, 5), (0, 14)), ((80, 6), (0, 100000)), ((85, 4), (0, 200)), ((85, 5), (0, 14)), ((85, 6), (0, 100000)), ((90, 2), (0, 2000)), ((90, 3), (0, 2000)), ((90, 4), (0, 5)), ((90, 5), ((-1), 2001)), ((90, 6), (0, 2000)), ((90, 7), (0, 2001)), ((90, 8), (0, 4)), ((90, 9), (0, 999999)), ((90, 32), (0, 1)), ((90, 33), (0, 1)), ((90, 38), (0, 14)), ((90, 39), (0, 200)), ((90, 40), (0, 100000)), ((90, 41), ((-2147483648), 2147483647)), ((90, 45), ((-1), 400)), ((90, 53), (0, 1)), ((90, 56), ((-168), 400)), ((90, 57), (0, 1000000)), ((90, 58), ((-1), 13)), ((90, 59), (0, 12)), ((90, 66), (0, 60))]
def ar0 : List (Nat × (Int × Int)) := [(1, (0, 255)), (5, (0, 255)), (6, (0, 12)), (7, (0, 7)), (8, (0, 99)), (9, (0, 100000)), (10, (0, 100000)), (11, (0, 60)), (13, (0, 255)), (14, (0, 12)), (15, (0, 7)), (16, (0, 99)), (18, (0, 255)), (19, (0, 12)), (20, (0, 1000000)), (21, (0, 1)), (23, (0, 4)), (24, (0, 2000)), (25, (0, 12)), (26, (0, 999999)), (28, ((-1), 13)), (29, (0, 79)), (30, (0, 1)), (32, (0, 12)), (33, (0, 12)), (35, (0, 255)), (36, (0, 12)), (37, (0, 7)), (38, (0, 99)), (39, (0, 12)), (40, ((-1), 79)), (41, (0, 255)), (43, (0, 3000000)), (44, (0, 11)), (45, (0, 3000000)), (46, (0, 1)), (47, (0, 1000000)), (49, (0, 400)), (50, ((-400), 168)), (51, (0, 12)), (52, (0, 1000000)), (53, (0, 255)), (54, (0, 3000000)), (55, (0, 3000000)), (56, (0, 3000000)), (63, (0, 255)), (64, (0, 12)), (65, (0, 7)), (66, (0, 99)), (67, (0, 100000)), (68, (0, 100000)), (69, (0, 60)), (71, (0, 255)), (72, (0, 12)), (73, (0, 7)), (74, (0, 99)), (76, (0, 255)), (77, (0, 12)), (78, (0, 1000000)), (79, (0, 1)), (81, (0, 255)), (82, (0, 200)), (83, (0, 12)), (84, (0, 1)), (86, (0, 255)), (87, (0, 200)), (88, (0, 12)), (89, (0, 1)), (91, ((-128), 127)), (92, ((-128), 127)), (93, ((-128), 127)), (94, ((-128), 127)), (95, ((-128), 127)), (96, ((-128), 127)), (97, (0, 12)), (98, (0, 999999)), (99, (0, 999999)), (100, (0, 999999)), (101, (0, 999999)), (102, (0, 12)), (103, (0, 999999)), (104, (0, 999999)), (105, (0, 12)), (106, ((-2), 999999)), (107, (0, 80)), (108, (0, 20)), (109, (0, 20)), (110, (0, 40)), (111, (0, 999999)), (112, (0, 999999)), (113, (0, 1)), (114, ((-128), 127)), (115, (0, 200)), (116, (0, 12)), (117, (0, 1)), (118, (0, 200)), (119, (0, 12)), (120, (0, 1)), (121, ((-128), 127)), (122, (0, 13)), (123, (0, 7)), (124, (0, 99)), (125, ((-1), 79)), (126, (0, 12)), (127, (0, 60)), (128, (0, 1000000)), (129, (0, 1000000)), (130, (0, 12)), (132, (0, 79)), (133, (0, 13)), (134, ((-2147483648), 2147483647)), (135, (0, 1))]
def grn (a k : Nat) : Int × Int := match gr0.find? (fun e => e.1.1 == a && e.1.2 == k) with
  | some e => e.2
  | none => (-2147483648, 2147483647)
def arn (a : Nat) : Int × Int := match ar0.find? (fun e => e.1 == a) with
  | some e => e.2
  | none => (-2147483648, 2147483647)
/-- every int field, every int array's entry lies in its range -/
def GO (G : Nat → Nat → Int) : Prop := ∀ a k, (grn a k).1 ≤ G a k ∧ G a k ≤ (grn a k).2
def AQ (A : Nat → Nat → Int) : Prop := ∀ a i, (arn a).1 ≤ A a i ∧ A a i ≤ (arn a).2
theorem GO.up {G : Nat → Nat → Int} {a k : Nat} {z : Int} (h : GO G) (h1 : (grn a k).1 ≤ z) (h2 : z ≤ (grn a k).2) : GO (up2 G a k z) := by
  intro x y
  by_cases e : x = a ∧ y = k
  · obtain ⟨rfl, rfl⟩ := e
    rw [up2_s]
    exact ⟨h1, h2⟩
  · rw [up2_n e]
    exact h x y
theorem AQ.up {A : Nat → Nat → Int} {a i : Nat} {z : Int} (h : AQ A) (h1 : (arn a).1 ≤ z) (h2 : z ≤ (arn a).2) : AQ (up2 A a i z) := by
  intro x y
  by_cases e : x = a ∧ y = i
  · obtain ⟨rfl, rfl⟩ := e
    rw [up2_s]
    exact ⟨h1, h2⟩
  · rw [up2_n e]
    exact h x y
theorem gr_0_5 : grn 0 5 = (0, 2000) := by decide +kernel
theorem g_0_5 {G : Nat → Nat → Int} (h : GO G) : 0 ≤ G 0 5 ∧ G 0 5 ≤ 2000 := by have e := h 0 5; rw [gr_0_5] at e; exact e
theorem gu_0_5 {G : Nat → Nat → Int} {z : Int} (h : GO G) (h1 : 0 ≤ z) (h2 : z ≤ 2000) : GO (up2 G 0 5 z) := h.up (by rw [gr_0_5]; exact h1) (by rw [gr_0_5]; exact h2)
theorem gr_0_9 : grn 0 9 = (0, 5) := by decide +kernel
theorem g_0_9 {G : Nat → Nat → Int} (h : GO G) : 0 ≤ G 0 9 ∧ G 0 9 ≤ 5 := by have e := h 0 9; rw [gr_0_9] at e; exact e
theorem gu_0_9 {G : Nat → Nat → Int} {z : Int} (h : GO G) (h1 : 0 ≤ z) (h2 : z ≤ 5) : GO (up2 G 0 9 z) := h.up (by rw [gr_0_9]; exact h1) (by rw [gr_0_9]; exact h2)
theorem gr_0_10 : grn 0 10 = ((-1), 2000) := by decide +kernel
theorem g_0_10 {G : Nat → Nat → Int} (h : GO G) : (-1) ≤ G 0 10 ∧ G 0 10 ≤ 2000 := by have e := h 0 10; rw [gr_0_10] at e; exact e
theorem gu_0_10 {G : Nat → Nat → Int} {z : Int} (h : GO G) (h1 : (-1) ≤ z) (h2 : z ≤ 2000) : GO (up2 G 0 10 z) := h.up (by rw [gr_0_10]; exact h1) (by rw [gr_0_10]; exact h2)
theorem gr_0_11 : grn 0 11 = ((-1), 400) := by decide +kernel
theorem g_0_11 {G : Nat → Nat → Int} (h : GO G) : (-1) ≤ G 0 11 ∧ G 0 11 ≤ 400 := by have e := h 0 11; rw [gr_0_11] at e; exact e
theorem gu_0_11 {G : Nat → Nat → Int} {z : Int} (h : GO G) (h1 : (-1) ≤ z) (h2 : z ≤ 400) : GO (up2 G 0 11 z) := h.up (by rw [gr_0_11]; exact h1) (by rw [gr_0_11]; exact h2)
theorem gr_2_0 : grn 2 0 = (0, 5) := by decide +kernel
theorem g_2_0 {G : Nat → Nat → Int} (h : GO G) : 0 ≤ G 2 0 ∧ G 2 0 ≤ 5 := by have e := h 2 0; rw [gr_2_0] at e; exact e
theorem gu_2_0 {G : Nat → Nat → Int} {z : Int} (h : GO G) (h1 : 0 ≤ z) (h2 : z ≤ 5) : GO (up2 G 2 0 z) := h.up (by rw [gr_2_0]; exact h1) (by rw [gr_2_0]; exact h2)
theorem gr_2_1 : grn 2 1 = ((-1), 2000) := by decide +kernel
theorem g_2_1 {G : Nat → Nat → Int} (h : GO G) : (-1) ≤ G 2 1 ∧ G 2 1 ≤ 2000 := by have e := h 2 1; rw [gr_2_1] at e; exact e
theorem gu_2_1 {G : Nat → Nat → Int} {z : Int} (h : GO G) (h1 : (-1) ≤ z) (h2 : z ≤ 2000) : GO (up2 G 2 1 z) := h.up (by rw [gr_2_1]; exact h1) (by rw [gr_2_1]; exact h2)
theorem gr_2_5 : grn 2 5 = (0, 2001) := by decide +kernel
theorem g_2_5 {G : Nat → Nat → Int} (h : GO G) : 0 ≤ G 2 5 ∧ G 2 5 ≤ 2001 := by have e := h 2 5; rw [gr_2_5] at e; exact e
theorem gu_2_5 {G : Nat → Nat → Int} {z : Int} (h : GO G) (h1 : 0 ≤ z) (h2 : z ≤ 2001) : GO (up2 G 2 5 z) := h.up (by rw [gr_2_5]; exact h1) (by rw [gr_2_5]; exact h2)
theorem gr_2_6 : grn 2 6 = (0, 4) := by decide +kernel
theorem g_2_6 {G : Nat → Nat → Int} (h : GO G) : 0 ≤ G 2 6 ∧ G 2 6 ≤ 4 := by have e := h 2 6; rw [gr_2_6] at e; exact e
theorem gu_2_6 {G : Nat → Nat → Int} {z : Int} (h : GO G) (h1 : 0 ≤ z) (h2 : z ≤ 4) : GO (up2 G 2 6 z) := h.up (by rw [gr_2_6]; exact h1) (by rw [gr_2_6]; exact h2)
theorem gr_2_7 : grn 2 7 = (0, 2000) := by decide +kernel
theorem g_2_7 {G : Nat → Nat → Int} (h : GO G) : 0 ≤ G 2 7 ∧ G 2 7 ≤ 2000 := by have e := h 2 7; rw [gr_2_7] at e; exact e
theorem gu_2_7 {G : Nat → Nat → Int} {z : Int} (h : GO G) (h1 : 0 ≤ z) (h2 : z ≤ 2000) : GO (up2 G 2 7 z) := h.up (by rw [gr_2_7]; exact h1) (by rw [gr_2_7]; exact h2)
theorem gr_2_8 : grn 2 8 = (0, 12) := by decide +kernel
theorem g_2_8 {G : Nat → Nat → Int} (h : GO G) : 0 ≤ G 2 8 ∧ G 2 8 ≤ 12 := by have e := h 2 8; rw [gr_2_8] at e; exact e
theorem gu_2_8 {G : Nat → Nat → Int} {z : Int} (h : GO G) (h1 : 0 ≤ z) (h2 : z ≤ 12) : GO (up2 G 2 8 z) := h.up (by rw [gr_2_8]; exact h1) (by rw [gr_2_8]; exact h2)
theorem gr_2_9 : grn 2 9 = (0, 999999) := by decide +kernel
theorem g_2_9 {G : Nat → Nat → Int} (h : GO G) : 0 ≤ G 2 9 ∧ G 2 9 ≤ 999999 := by have e := h 2 9; rw [gr_2_9] at e; exact e
theorem gu_2_9 {G : Nat → Nat → Int} {z : Int} (h : GO G) (h1 : 0 ≤ z) (h2 : z ≤ 999999) : GO (up2 G 2 9 z) := h.up (by rw [gr_2_9]; exact h1) (by rw [gr_2_9]; exact h2)
theorem gr_3_12 : grn 3 12 = (0, 40) := by decide +kernel
theorem g_3_12 {G : Nat → Nat → Int} (h : GO G) : 0 ≤ G 3 12 ∧ G 3 12 ≤ 40 := by have e := h 3 12; rw [gr_3_12] at e; exact e
theorem gu_3_12 {G : Nat → Nat → Int} {z : Int} (h : GO G) (h1 : 0 ≤ z) (h2 : z ≤ 40) : GO (up2 G 3 12 z) := h.up (by rw [gr_3_12]; exact h1) (by rw [gr_3_12]; exact h2)
theorem gr_3_13 : grn 3 13 = (0, 1) := by decide +kernel
theorem g_3_13 {G : Nat → Nat → Int} (h : GO G) : 0 ≤ G 3 13 ∧ G 3 13 ≤ 1 := by have e := h 3 13; rw [gr_3_13] at e; exact e
theorem gu_3_13 {G : Nat → Nat → Int} {z : Int} (h : GO G) (h1 : 0 ≤ z) (h2 : z ≤ 1) : GO (up2 G 3 13 z) := h.up (by rw [gr_3_13]; exact h1) (by rw [gr_3_13]; exact h2)
theorem gr_3_14 : grn 3 14 = (0, 7) := by decide +kernel
theorem g_3_14 {G : Nat → Nat → Int} (h : GO G) : 0 ≤ G 3 14 ∧ G 3 14 ≤ 7 := by have e := h 3 14; rw [gr_3_14] at e; exact e
theorem gu_3_14 {G : Nat → Nat → Int} {z : Int} (h : GO G) (h1 : 0 ≤ z) (h2 : z ≤ 7) : GO (up2 G 3 14 z) := h.up (by rw [gr_3_14]; exact h1) (by rw [gr_3_14]; exact h2)
theorem gr_3_15 : grn 3 15 = (0, 99) := by decide +kernel
theorem g_3_15 {G : Nat → Nat → Int} (h : GO G) : 0 ≤ G 3 15 ∧ G 3 15 ≤ 99 := by have e := h 3 15; rw [gr_3_15] at e; exact e
theorem gu_3_15 {G : Nat → Nat → Int} {z : Int} (h : GO G) (h1 : 0 ≤ z) (h2 : z ≤ 99) : GO (up2 G 3 15 z) := h.up (by rw [gr_3_15]; exact h1) (by rw [gr_3_15]; exact h2)
theorem gr_4_2 : grn 4 2 = (0, 80) := by decide +kernel
theorem g_4_2 {G : Nat → Nat → Int} (h : GO G) : 0 ≤ G 4 2 ∧ G 4 2 ≤ 80 := by have e := h 4 2; rw [gr_4_2] at e; exact e
theorem gu_4_2 {G : Nat → Nat → Int} {z : Int} (h : GO G) (h1 : 0 ≤ z) (h2 : z ≤ 80) : GO (up2 G 4 2 z) := h.up (by rw [gr_4_2]; exact h1) (by rw [gr_4_2]; exact h2)
theorem gr_12_2 : grn 12 2 = (0, 20) := by decide +kernel
theorem g_12_2 {G : Nat → Nat → Int} (h : GO G) : 0 ≤ G 12 2 ∧ G 12 2 ≤ 20 := by have e := h 12 2; rw [gr_12_2] at e; exact e
theorem gu_12_2 {G : Nat → Nat → Int} {z : Int} (h : GO G) (h1 : 0 ≤ z) (h2 : z ≤ 20) : GO (up2 G 12 2 z) := h.up (by rw [gr_12_2]; exact h1) (by rw [gr_12_2]; exact h2)
theorem gr_17_2 : grn 17 2 = (0, 20) := by decide +kernel
theorem g_17_2 {G : Nat → Nat → Int} (h : GO G) : 0 ≤ G 17 2 ∧ G 17 2 ≤ 20 := by have e := h 17 2; rw [gr_17_2] at e; exact e
theorem gu_17_2 {G : Nat → Nat → Int} {z : Int} (h : GO G) (h1 : 0 ≤ z) (h2 : z ≤ 20) : GO (up2 G 17 2 z) := h.up (by rw [gr_17_2]; exact h1) (by rw [gr_17_2]; exact h2)
theorem gr_22_4 : grn 22 4 = (0, 2001) := by decide +kernel
theorem g_22_4 {G : Nat → Nat → Int} (h : GO G) : 0 ≤ G 22 4 ∧ G 22 4 ≤ 2001 := by have e := h 22 4; rw [gr_22_4] at e; exact e
theorem gu_22_4 {G : Nat → Nat → Int} {z : Int} (h : GO G) (h1 : 0 ≤ z) (h2 : z ≤ 2001) : GO (up2 G 22 4 z) := h.up (by rw [gr_22_4]; exact h1) (by rw [gr_22_4]; exact h2)
theorem gr_27_3 : grn 27 3 = (0, 60) := by decide +kernel
theorem g_27_3 {G : Nat → Nat → Int} (h : GO G) : 0 ≤ G 27 3 ∧ G 27 3 ≤ 60 := by have e := h 27 3; rw [gr_27_3] at e; exact e
theorem gu_27_3 {G : Nat → Nat → Int} {z : Int} (h : GO G) (h1 : 0 ≤ z) (h2 : z ≤ 60) : GO (up2 G 27 3 z) := h.up (by rw [gr_27_3]; exact h1) (by rw [gr_27_3]; exact h2)
theorem gr_31_8 : grn 31 8 = (0, 14) := by decide +kernel
theorem g_31_8 {G : Nat → Nat → Int} (h : GO G) : 0 ≤ G 31 8 ∧ G 31 8 ≤ 14 := by have e := h 31 8; rw [gr_31_8] at e; exact e
theorem gu_31_8 {G : Nat → Nat → Int} {z : Int} (h : GO G) (h1 : 0 ≤ z) (h2 : z ≤ 14) : GO (up2 G 31 8 z) := h.up (by rw [gr_31_8]; exact h1) (by rw [gr_31_8]; exact h2)
theorem gr_34_2 : grn 34 2 = (0, 168) := by decide +kernel
theorem g_34_2 {G : Nat → Nat → Int} (h : GO G) : 0 ≤ G 34 2 ∧ G 34 2 ≤ 168 := by have e := h 34 2; rw [gr_34_2] at e; exact e
theorem gu_34_2 {G : Nat → Nat → Int} {z : Int} (h : GO G) (h1 : 0 ≤ z) (h2 : z ≤ 168) : GO (up2 G 34 2 z) := h.up (by rw [gr_34_2]; exact h1) (by rw [gr_34_2]; exact h2)
theorem gr_42_7 : grn 42 7 = (0, 1000000) := by decide +kernel
theorem g_42_7 {G : Nat → Nat → Int} (h : GO G) : 0 ≤ G 42 7 ∧ G 42 7 ≤ 1000000 := by have e := h 42 7; rw [gr_42_7] at e; exact e
theorem gu_42_7 {G : Nat → Nat → Int} {z : Int} (h : GO G) (h1 : 0 ≤ z) (h2 : z ≤ 1000000) : GO (up2 G 42 7 z) := h.up (by rw [gr_42_7]; exact h1) (by rw [gr_42_7]; exact h2)
theorem gr_42_9 : grn 42 9 = ((-1), 400) := by decide +kernel
theorem g_42_9 {G : Nat → Nat → Int} (h : GO G) : (-1) ≤ G 42 9 ∧ G 42 9 ≤ 400 := by have e := h 42 9; rw [gr_42_9] at e; exact e
theorem gu_42_9 {G : Nat → Nat → Int} {z : Int} (h : GO G) (h1 : (-1) ≤ z) (h2 : z ≤ 400) : GO (up2 G 42 9 z) := h.up (by rw [gr_42_9]; exact h1) (by rw [gr_42_9]; exact h2)
theorem gr_42_10 : grn 42 10 = (0, 1) := by decide +kernel
theorem g_42_10 {G : Nat → Nat → Int} (h : GO G) : 0 ≤ G 42 10 ∧ G 42 10 ≤ 1 := by have e := h 42 10; rw [gr_42_10] at e; exact e
theorem gu_42_10 {G : Nat → Nat → Int} {z : Int} (h : GO G) (h1 : 0 ≤ z) (h2 : z ≤ 1) : GO (up2 G 42 10 z) := h.up (by rw [gr_42_10]; exact h1) (by rw [gr_42_10]; exact h2)
theorem gr_42_11 : grn 42 11 = (0, 1) := by decide +kernel
theorem g_42_11 {G : Nat → Nat → Int} (h : GO G) : 0 ≤ G 42 11 ∧ G 42 11 ≤ 1 := by have e := h 42 11; rw [gr_42_11] at e; exact e
theorem gu_42_11 {G : Nat → Nat → Int} {z : Int} (h : GO G) (h1 : 0 ≤ z) (h2 : z ≤ 1) : GO (up2 G 42 11 z) := h.up (by rw [gr_42_11]; exact h1) (by rw [gr_42_11]; exact h2)
theorem gr_48_9 : grn 48 9 = (0, 1) := by decide +kernel
theorem g_48_9 {G : Nat → Nat → Int} (h : GO G) : 0 ≤ G 48 9 ∧ G 48 9 ≤ 1 := by have e := h 48 9; rw [gr_48_9] at e; exact e
theorem gu_48_9 {G : Nat → Nat → Int} {z : Int} (h : GO G) (h1 : 0 ≤ z) (h2 : z ≤ 1) : GO (up2 G 48 9 z) := h.up (by rw [gr_48_9]; exact h1) (by rw [gr_48_9]; exact h2)
theorem gr_48_10 : grn 48 10 = ((-1), 13) := by decide +kernel
theorem g_48_10 {G : Nat → Nat → Int} (h : GO G) : (-1) ≤ G 48 10 ∧ G 48 10 ≤ 13 := by have e := h 48 10; rw [gr_48_10] at e; exact e
theorem gu_48_10 {G : Nat → Nat → Int} {z : Int} (h : GO G) (h1 : (-1) ≤ z) (h2 : z ≤ 13) : GO (up2 G 48 10 z) := h.up (by rw [gr_48_10]; exact h1) (by rw [gr_48_10]; exact h2)
theorem gr_48_11 : grn 48 11 = ((-1), 11) := by decide +kernel
theorem g_48_11 {G : Nat → Nat → Int} (h : GO G) : (-1) ≤ G 48 11 ∧ G 48 11 ≤ 11 := by have e := h 48 11; rw [gr_48_11] at e; exact e
theorem gu_48_11 {G : Nat → Nat → Int} {z : Int} (h : GO G) (h1 : (-1) ≤ z) (h2 : z ≤ 11) : GO (up2 G 48 11 z) := h.up (by rw [gr_48_11]; exact h1) (by rw [gr_48_11]; exact h2)
theorem gr_61_12 : grn 61 12 = (0, 40) := by decide +kernel
theorem g_61_12 {G : Nat → Nat → Int} (h : GO G) : 0 ≤ G 61 12 ∧ G 61 12 ≤ 40 := by have e := h 61 12; rw [gr_61_12] at e; exact e
theorem gu_61_12 {G : Nat → Nat → Int} {z : Int} (h : GO G) (h1 : 0 ≤ z) (h2 : z ≤ 40) : GO (up2 G 61 12 z) := h.up (by rw [gr_61_12]; exact h1) (by rw [gr_61_12]; exact h2)
theorem gr_61_13 : grn 61 13 = (0, 1) := by decide +kernel
theorem g_61_13 {G : Nat → Nat → Int} (h : GO G) : 0 ≤ G 61 13 ∧ G 61 13 ≤ 1 := by have e := h 61 13; rw [gr_61_13] at e; exact e
theorem gu_61_13 {G : Nat → Nat → Int} {z : Int} (h : GO G) (h1 : 0 ≤ z) (h2 : z ≤ 1) : GO (up2 G 61 13 z) := h.up (by rw [gr_61_13]; exact h1) (by rw [gr_61_13]; exact h2)
theorem gr_61_14 : grn 61 14 = (0, 7) := by decide +kernel
theorem g_61_14 {G : Nat → Nat → Int} (h : GO G) : 0 ≤ G 61 14 ∧ G 61 14 ≤ 7 := by have e := h 61 14; rw [gr_61_14] at e; exact e
theorem gu_61_14 {G : Nat → Nat → Int} {z : Int} (h : GO G) (h1 : 0 ≤ z) (h2 : z ≤ 7) : GO (up2 G 61 14 z) := h.up (by rw [gr_61_14]; exact h1) (by rw [gr_61_14]; exact h2)
theorem gr_61_15 : grn 61 15 = (0, 99) := by decide +kernel
theorem g_61_15 {G : Nat → Nat → Int} (h : GO G) : 0 ≤ G 61 15 ∧ G 61 15 ≤ 99 := by have e := h 61 15; rw [gr_61_15] at e; exact e
theorem gu_61_15 {G : Nat → Nat → Int} {z : Int} (h : GO G) (h1 : 0 ≤ z) (h2 : z ≤ 99) : GO (up2 G 61 15 z) := h.up (by rw [gr_61_15]; exact h1) (by rw [gr_61_15]; exact h2)
theorem gr_62_2 : grn 62 2 = (0, 80) := by decide +kernel
theorem g_62_2 {G : Nat → Nat → Int} (h : GO G) : 0 ≤ G 62 2 ∧ G 62 2 ≤ 80 := by have e := h 62 2; rw [gr_62_2] at e; exact e
theorem gu_62_2 {G : Nat → Nat → Int} {z : Int} (h : GO G) (h1 : 0 ≤ z) (h2 : z ≤ 80) : GO (up2 G 62 2 z) := h.up (by rw [gr_62_2]; exact h1) (by rw [gr_62_2]; exact h2)
theorem gr_70_2 : grn 70 2 = (0, 20) := by decide +kernel
theorem g_70_2 {G : Nat → Nat → Int} (h : GO G) : 0 ≤ G 70 2 ∧ G 70 2 ≤ 20 := by have e := h 70 2; rw [gr_70_2] at e; exact e
theorem gu_70_2 {G : Nat → Nat → Int} {z : Int} (h : GO G) (h1 : 0 ≤ z) (h2 : z ≤ 20) : GO (up2 G 70 2 z) := h.up (by rw [gr_70_2]; exact h1) (by rw [gr_70_2]; exact h2)
theorem gr_75_2 : grn 75 2 = (0, 20) := by decide +kernel
theorem g_75_2 {G : Nat → Nat → Int} (h : GO G) : 0 ≤ G 75 2 ∧ G 75 2 ≤ 20 := by have e := h 75 2; rw [gr_75_2] at e; exact e
theorem gu_75_2 {G : Nat → Nat → Int} {z : Int} (h : GO G) (h1 : 0 ≤ z) (h2 : z ≤ 20) : GO (up2 G 75 2 z) := h.up (by rw [gr_75_2]; exact h1) (by rw [gr_75_2]; exact h2)
theorem gr_80_4 : grn 80 4 = (0, 200) := by decide +kernel
theorem g_80_4 {G : Nat → Nat → Int} (h : GO G) : 0 ≤ G 80 4 ∧ G 80 4 ≤ 200 := by have e := h 80 4; rw [gr_80_4] at e; exact e
theorem gu_80_4 {G : Nat → Nat → Int} {z : Int} (h : GO G) (h1 : 0 ≤ z) (h2 : z ≤ 200) : GO (up2 G 80 4 z) := h.up (by rw [gr_80_4]; exact h1) (by rw [gr_80_4]; exact h2)
theorem gr_80_5 : grn 80 5 = (0, 14) := by decide +kernel
theorem g_80_5 {G : Nat → Nat → Int} (h : GO G) : 0 ≤ G 80 5 ∧ G 80 5 ≤ 14 := by have e := h 80 5; rw [gr_80_5] at e; exact e
theorem gu_80_5 {G : Nat → Nat → Int} {z : Int} (h : GO G) (h1 : 0 ≤ z) (h2 : z ≤ 14) : GO (up2 G 80 5 z) := h.up (by rw [gr_80_5]; exact h1) (by rw [gr_80_5]; exact h2)
theorem gr_80_6 : grn 80 6 = (0, 100000) := by decide +kernel
theorem g_80_6 {G : Nat → Nat → Int} (h : GO G) : 0 ≤ G 80 6 ∧ G 80 6 ≤ 100000 := by have e := h 80 6; rw [gr_80_6] at e; exact e
theorem gu_80_6 {G : Nat → Nat → Int} {z : Int} (h : GO G) (h1 : 0 ≤ z) (h2 : z ≤ 100000) : GO (up2 G 80 6 z) := h.up (by rw [gr_80_6]; exact h1) (by rw [gr_80_6]; exact h2)
theorem gr_85_4 : grn 85 4 = (0, 200) := by decide +kernel
theorem g_85_4 {G : Nat → Nat → Int} (h : GO G) : 0 ≤ G 85 4 ∧ G 85 4 ≤ 200 := by have e := h 85 4; rw [gr_85_4] at e; exact e
theorem gu_85_4 {G : Nat → Nat → Int} {z : Int} (h : GO G) (h1 : 0 ≤ z) (h2 : z ≤ 200) : GO (up2 G 85 4 z) := h.up (by rw [gr_85_4]; exact h1) (by rw [gr_85_4]; exact h2)
theorem gr_85_5 : grn 85 5 = (0, 14) := by decide +kernel
theorem g_85_5 {G : Nat → Nat → Int} (h : GO G) : 0 ≤ G 85 5 ∧ G 85 5 ≤ 14 := by have e := h 85 5; rw [gr_85_5] at e; exact e
theorem gu_85_5 {G : Nat → Nat → Int} {z : Int} (h : GO G) (h1 : 0 ≤ z) (h2 : z ≤ 14) : GO (up2 G 85 5 z) := h.up (by rw [gr_85_5]; exact h1) (by rw [gr_85_5]; exact h2)
theorem gr_85_6 : grn 85 6 = (0, 100000) := by decide +kernel
theorem g_85_6 {G : Nat → Nat → Int} (h : GO G) : 0 ≤ G 85 6 ∧ G 85 6 ≤ 100000 := by have e := h 85 6; rw [gr_85_6] at e; exact e
theorem gu_85_6 {G : Nat → Nat → Int} {z : Int} (h : GO G) (h1 : 0 ≤ z) (h2 : z ≤ 100000) : GO (up2 G 85 6 z) := h.up (by rw [gr_85_6]; exact h1) (by rw [gr_85_6]; exact h2)
theorem gr_90_2 : grn 90 2 = (0, 2000) := by decide +kernel
theorem g_90_2 {G : Nat → Nat → Int} (h : GO G) : 0 ≤ G 90 2 ∧ G 90 2 ≤ 2000 := by have e := h 90 2; rw [gr_90_2] at e; exact e
theorem gu_90_2 {G : Nat → Nat → Int} {z : Int} (h : GO G) (h1 : 0 ≤ z) (h2 : z ≤ 2000) : GO (up2 G 90 2 z) := h.up (by rw [gr_90_2]; exact h1) (by rw [gr_90_2]; exact h2)
theorem gr_90_3 : grn 90 3 = (0, 2000) := by decide +kernel
theorem g_90_3 {G : Nat → Nat → Int} (h : GO G) : 0 ≤ G 90 3 ∧ G 90 3 ≤ 2000 := by have e := h 90 3; rw [gr_90_3] at e; exact e
theorem gu_90_3 {G : Nat → Nat → Int} {z : Int} (h : GO G) (h1 : 0 ≤ z) (h2 : z ≤ 2000) : GO (up2 G 90 3 z) := h.up (by rw [gr_90_3]; exact h1) (by rw [gr_90_3]; exact h2)
theorem gr_90_4 : grn 90 4 = (0, 5) := by decide +kernel
theorem g_90_4 {G : Nat → Nat → Int} (h : GO G) : 0 ≤ G 90 4 ∧ G 90 4 ≤ 5 := by have e := h 90 4; rw [gr_90_4] at e; exact e
theorem gu_90_4 {G : Nat → Nat → Int} {z : Int} (h : GO G) (h1 : 0 ≤ z) (h2 : z ≤ 5) : GO (up2 G 90 4 z) := h.up (by rw [gr_90_4]; exact h1) (by rw [gr_90_4]; exact h2)
theorem gr_90_5 : grn 90 5 = ((-1), 2001) := by decide +kernel
theorem g_90_5 {G : Nat → Nat → Int} (h : GO G) : (-1) ≤ G 90 5 ∧ G 90 5 ≤ 2001 := by have e := h 90 5; rw [gr_90_5] at e; exact e
theorem gu_90_5 {G : Nat → Nat → Int} {z : Int} (h : GO G) (h1 : (-1) ≤ z) (h2 : z ≤ 2001) : GO (up2 G 90 5 z) := h.up (by rw [gr_90_5]; exact h1) (by rw [gr_90_5]; exact h2)
theorem gr_90_6 : grn 90 6 = (0, 2000) := by decide +kernel
theorem g_90_6 {G : Nat → Nat → Int} (h : GO G) : 0 ≤ G 90 6 ∧ G 90 6 ≤ 2000 := by have e := h 90 6; rw [gr_90_6] at e; exact e
theorem gu_90_6 {G : Nat → Nat → Int} {z : Int} (h : GO G) (h1 : 0 ≤ z) (h2 : z ≤ 2000) : GO (up2 G 90 6 z) := h.up (by rw [gr_90_6]; exact h1) (by rw [gr_90_6]; exact h2)
theorem gr_90_7 : grn 90 7 = (0, 2001) := by decide +kernel
theorem g_90_7 {G : Nat → Nat → Int} (h : GO G) : 0 ≤ G 90 7 ∧ G 90 7 ≤ 2001 := by have e := h 90 7; rw [gr_90_7] at e; exact e
theorem gu_90_7 {G : Nat → Nat → Int} {z : Int} (h : GO G) (h1 : 0 ≤ z) (h2 : z ≤ 2001) : GO (up2 G 90 7 z) := h.up (by rw [gr_90_7]; exact h1) (by rw [gr_90_7]; exact h2)
theorem gr_90_8 : grn 90 8 = (0, 4) := by decide +kernel
theorem g_90_8 {G : Nat → Nat → Int} (h : GO G) : 0 ≤ G 90 8 ∧ G 90 8 ≤ 4 := by have e := h 90 8; rw [gr_90_8] at e; exact e
theorem gu_90_8 {G : Nat → Nat → Int} {z : Int} (h : GO G) (h1 : 0 ≤ z) (h2 : z ≤ 4) : GO (up2 G 90 8 z) := h.up (by rw [gr_90_8]; exact h1) (by rw [gr_90_8]; exact h2)
theorem gr_90_9 : grn 90 9 = (0, 999999) := by decide +kernel
theorem g_90_9 {G : Nat → Nat → Int} (h : GO G) : 0 ≤ G 90 9 ∧ G 90 9 ≤ 999999 := by have e := h 90 9; rw [gr_90_9] at e; exact e
theorem gu_90_9 {G : Nat → Nat → Int} {z : Int} (h : GO G) (h1 : 0 ≤ z) (h2 : z ≤ 999999) : GO (up2 G 90 9 z) := h.up (by rw [gr_90_9]; exact h1) (by rw [gr_90_9]; exact h2)
theorem gr_90_32 : grn 90 32 = (0, 1) := by decide +kernel
theorem g_90_32 {G : Nat → Nat → Int} (h : GO G) : 0 ≤ G 90 32 ∧ G 90 32 ≤ 1 := by have e := h 90 32; rw [gr_90_32] at e; exact e
theorem gu_90_32 {G : Nat → Nat → Int} {z : Int} (h : GO G) (h1 : 0 ≤ z) (h2 : z ≤ 1) : GO (up2 G 90 32 z) := h.up (by rw [gr_90_32]; exact h1) (by rw [gr_90_32]; exact h2)
theorem gr_90_33 : grn 90 33 = (0, 1) := by decide +kernel
theorem g_90_33 {G : Nat → Nat → Int} (h : GO G) : 0 ≤ G 90 33 ∧ G 90 33 ≤ 1 := by have e := h 90 33; rw [gr_90_33] at e; exact e
theorem gu_90_33 {G : Nat → Nat → Int} {z : Int} (h : GO G) (h1 : 0 ≤ z) (h2 : z ≤ 1) : GO (up2 G 90 33 z) := h.up (by rw [gr_90_33]; exact h1) (by rw [gr_90_33]; exact h2)
theorem gr_90_38 : grn 90 38 = (0, 14) := by decide +kernel
theorem g_90_38 {G : Nat → Nat → Int} (h : GO G) : 0 ≤ G 90 38 ∧ G 90 38 ≤ 14 := by have e := h 90 38; rw [gr_90_38] at e; exact e
theorem gu_90_38 {G : Nat → Nat → Int} {z : Int} (h : GO G) (h1 : 0 ≤ z) (h2 : z ≤ 14) : GO (up2 G 90 38 z) := h.up (by rw [gr_90_38]; exact h1) (by rw [gr_90_38]; exact h2)
theorem gr_90_39 : grn 90 39 = (0, 200) := by decide +kernel
theorem g_90_39 {G : Nat → Nat → Int} (h : GO G) : 0 ≤ G 90 39 ∧ G 90 39 ≤ 200 := by have e := h 90 39; rw [gr_90_39] at e; exact e
theorem gu_90_39 {G : Nat → Nat → Int} {z : Int} (h : GO G) (h1 : 0 ≤ z) (h2 : z ≤ 200) : GO (up2 G 90 39 z) := h.up (by rw [gr_90_39]; exact h1) (by rw [gr_90_39]; exact h2)
theorem gr_90_40 : grn 90 40 = (0, 100000) := by decide +kernel
theorem g_90_40 {G : Nat → Nat → Int} (h : GO G) : 0 ≤ G 90 40 ∧ G 90 40 ≤ 100000 := by have e := h 90 40; rw [gr_90_40] at e; exact e
theorem gu_90_40 {G : Nat → Nat → Int} {z : Int} (h : GO G) (h1 : 0 ≤ z) (h2 : z ≤ 100000) : GO (up2 G 90 40 z) := h.up (by rw [gr_90_40]; exact h1) (by rw [gr_90_40]; exact h2)
theorem gr_90_41 : grn 90 41 = ((-2147483648), 2147483647) := by decide +kernel
theorem g_90_41 {G : Nat → Nat → Int} (h : GO G) : (-2147483648) ≤ G 90 41 ∧ G 90 41 ≤ 2147483647 := by have e := h 90 41; rw [gr_90_41] at e; exact e
theorem gu_90_41 {G : Nat → Nat → Int} {z : Int} (h : GO G) (h1 : (-2147483648) ≤ z) (h2 : z ≤ 2147483647) : GO (up2 G 90 41 z) := h.up (by rw [gr_90_41]; exact h1) (by rw [gr_90_41]; exact h2)
theorem gr_90_45 : grn 90 45 = ((-1), 400) := by decide +kernel
theorem g_90_45 {G : Nat → Nat → Int} (h : GO G) : (-1) ≤ G 90 45 ∧ G 90 45 ≤ 400 := by have e := h 90 45; rw [gr_90_45] at e; exact e
theorem gu_90_45 {G : Nat → Nat → Int} {z : Int} (h : GO G) (h1 : (-1) ≤ z) (h2 : z ≤ 400) : GO (up2 G 90 45 z) := h.up (by rw [gr_90_45]; exact h1) (by rw [gr_90_45]; exact h2)
theorem gr_90_53 : grn 90 53 = (0, 1) := by decide +kernel
theorem g_90_53 {G : Nat → Nat → Int} (h : GO G) : 0 ≤ G 90 53 ∧ G 90 53 ≤ 1 := by have e := h 90 53; rw [gr_90_53] at e; exact e
theorem gu_90_53 {G : Nat → Nat → Int} {z : Int} (h : GO G) (h1 : 0 ≤ z) (h2 : z ≤ 1) : GO (up2 G 90 53 z) := h.up (by rw [gr_90_53]; exact h1) (by rw [gr_90_53]; exact h2)
theorem gr_90_56 : grn 90 56 = ((-168), 400) := by decide +kernel
theorem g_90_56 {G : Nat → Nat → Int} (h : GO G) : (-168) ≤ G 90 56 ∧ G 90 56 ≤ 400 := by have e := h 90 56; rw [gr_90_56] at e; exact e
theorem gu_90_56 {G : Nat → Nat → Int} {z : Int} (h : GO G) (h1 : (-168) ≤ z) (h2 : z ≤ 400) : GO (up2 G 90 56 z) := h.up (by rw [gr_90_56]; exact h1) (by rw [gr_90_56]; exact h2)
theorem gr_90_57 : grn 90 57 = (0, 1000000) := by decide +kernel
theorem g_90_57 {G : Nat → Nat → Int} (h : GO G) : 0 ≤ G 90 57 ∧ G 90 57 ≤ 1000000 := by have e := h 90 57; rw [gr_90_57] at e; exact e
theorem gu_90_57 {G : Nat → Nat → Int} {z : Int} (h : GO G) (h1 : 0 ≤ z) (h2 : z ≤ 1000000) : GO (up2 G 90 57 z) := h.up (by rw [gr_90_57]; exact h1) (by rw [gr_90_57]; exact h2)
theorem gr_90_58 : grn 90 58 = ((-1), 13) := by decide +kernel
theorem g_90_58 {G : Nat → Nat → Int} (h : GO G) : (-1) ≤ G 90 58 ∧ G 90 58 ≤ 13 := by have e := h 90 58; rw [gr_90_58] at e; exact e
theorem gu_90_58 {G : Nat → Nat → Int} {z : Int} (h : GO G) (h1 : (-1) ≤ z) (h2 : z ≤ 13) : GO (up2 G 90 58 z) := h.up (by rw [gr_90_58]; exact h1) (by rw [gr_90_58]; exact h2)
theorem gr_90_59 : grn 90 59 = (0, 12) := by decide +kernel
theorem g_90_59 {G : Nat → Nat → Int} (h : GO G) : 0 ≤ G 90 59 ∧ G 90 59 ≤ 12 := by have e := h 90 59; rw [gr_90_59] at e; exact e
theorem gu_90_59 {G : Nat → Nat → Int} {z : Int} (h : GO G) (h1 : 0 ≤ z) (h2 : z ≤ 12) : GO (up2 G 90 59 z) := h.up (by rw [gr_90_59]; exact h1) (by rw [gr_90_59]; exact h2)
theorem gr_90_66 : grn 90 66 = (0, 60) := by decide +kernel
theorem g_90_66 {G : Nat → Nat → Int} (h : GO G) : 0 ≤ G 90 66 ∧ G 90 66 ≤ 60 := by have e := h 90 66; rw [gr_90_66] at e; exact e
theorem gu_90_66 {G : Nat → Nat → Int} {z : Int} (h : GO G) (h1 : 0 ≤ z) (h2 : z ≤ 60) : GO (up2 G 90 66 z) := h.up (by rw [gr_90_66]; exact h1) (by rw [gr_90_66]; exact h2)
theorem ar_1 : arn 1 = (0, 255) := by decide +kernel
theorem a_1 {A : Nat → Nat → Int} (h : AQ A) (i : Nat) : 0 ≤ A 1 i ∧ A 1 i ≤ 255 := by have e := h 1 i; rw [ar_1] at e; exact e
theorem au_1 {A : Nat → Nat → Int} {i : Nat} {z : Int} (h : AQ A) (h1 : 0 ≤ z) (h2 : z ≤ 255) : AQ (up2 A 1 i z) := h.up (by rw [ar_1]; exact h1) (by rw [ar_1]; exact h2)
theorem ar_5 : arn 5 = (0, 255) := by decide +kernel
theorem a_5 {A : Nat → Nat → Int} (h : AQ A) (i : Nat) : 0 ≤ A 5 i ∧ A 5 i ≤ 255 := by have e := h 5 i; rw [ar_5] at e; exact e
theorem au_5 {A : Nat → Nat → Int} {i : Nat} {z : Int} (h : AQ A) (h1 : 0 ≤ z) (h2 : z ≤ 255) : AQ (up2 A 5 i z) := h.up (by rw [ar_5]; exact h1) (by rw [ar_5]; exact h2)
theorem ar_6 : arn 6 = (0, 12) := by decide +kernel
theorem a_6 {A : Nat → Nat → Int} (h : AQ A) (i : Nat) : 0 ≤ A 6 i ∧ A 6 i ≤ 12 := by have e := h 6 i; rw [ar_6] at e; exact e
theorem au_6 {A : Nat → Nat → Int} {i : Nat} {z : Int} (h : AQ A) (h1 : 0 ≤ z) (h2 : z ≤ 12) : AQ (up2 A 6 i z) := h.up (by rw [ar_6]; exact h1) (by rw [ar_6]; exact h2)
theorem ar_7 : arn 7 = (0, 7) := by decide +kernel
theorem a_7 {A : Nat → Nat → Int} (h : AQ A) (i : Nat) : 0 ≤ A 7 i ∧ A 7 i ≤ 7 := by have e := h 7 i; rw [ar_7] at e; exact e
theorem au_7 {A : Nat → Nat → Int} {i : Nat} {z : Int} (h : AQ A) (h1 : 0 ≤ z) (h2 : z ≤ 7) : AQ (up2 A 7 i z) := h.up (by rw [ar_7]; exact h1) (by rw [ar_7]; exact h2)
theorem ar_8 : arn 8 = (0, 99) := by decide +kernel
theorem a_8 {A : Nat → Nat → Int} (h : AQ A) (i : Nat) : 0 ≤ A 8 i ∧ A 8 i ≤ 99 := by have e := h 8 i; rw [ar_8] at e; exact e
theorem au_8 {A : Nat → Nat → Int} {i : Nat} {z : Int} (h : AQ A) (h1 : 0 ≤ z) (h2 : z ≤ 99) : AQ (up2 A 8 i z) := h.up (by rw [ar_8]; exact h1) (by rw [ar_8]; exact h2)
theorem ar_9 : arn 9 = (0, 100000) := by decide +kernel
theorem a_9 {A : Nat → Nat → Int} (h : AQ A) (i : Nat) : 0 ≤ A 9 i ∧ A 9 i ≤ 100000 := by have e := h 9 i; rw [ar_9] at e; exact e
theorem au_9 {A : Nat → Nat → Int} {i : Nat} {z : Int} (h : AQ A) (h1 : 0 ≤ z) (h2 : z ≤ 100000) : AQ (up2 A 9 i z) := h.up (by rw [ar_9]; exact h1) (by rw [ar_9]; exact h2)
theorem ar_10 : arn 10 = (0, 100000) := by decide +kernel
theorem a_10 {A : Nat → Nat → Int} (h : AQ A) (i : Nat) : 0 ≤ A 10 i ∧ A 10 i ≤ 100000 := by have e := h 10 i; rw [ar_10] at e; exact e
theorem au_10 {A : Nat → Nat → Int} {i : Nat} {z : Int} (h : AQ A) (h1 : 0 ≤ z) (h2 : z ≤ 100000) : AQ (up2 A 10 i z) := h.up (by rw [ar_10]; exact h1) (by rw [ar_10]; exact h2)
theorem ar_11 : arn 11 = (0, 60) := by decide +kernel
theorem a_11 {A : Nat → Nat → Int} (h : AQ A) (i : Nat) : 0 ≤ A 11 i ∧ A 11 i ≤ 60 := by have e := h 11 i; rw [ar_11] at e; exact e
theorem au_11 {A : Nat → Nat → Int} {i : Nat} {z : Int} (h : AQ A) (h1 : 0 ≤ z) (h2 : z ≤ 60) : AQ (up2 A 11 i z) := h.up (by rw [ar_11]; exact h1) (by rw [ar_11]; exact h2)
theorem ar_13 : arn 13 = (0, 255) := by decide +kernel
theorem a_13 {A : Nat → Nat → Int} (h : AQ A) (i : Nat) : 0 ≤ A 13 i ∧ A 13 i ≤ 255 := by have e := h 13 i; rw [ar_13] at e; exact e
theorem au_13 {A : Nat → Nat → Int} {i : Nat} {z : Int} (h : AQ A) (h1 : 0 ≤ z) (h2 : z ≤ 255) : AQ (up2 A 13 i z) := h.up (by rw [ar_13]; exact h1) (by rw [ar_13]; exact h2)
theorem ar_14 : arn 14 = (0, 12) := by decide +kernel
theorem a_14 {A : Nat → Nat → Int} (h : AQ A) (i : Nat) : 0 ≤ A 14 i ∧ A 14 i ≤ 12 := by have e := h 14 i; rw [ar_14] at e; exact e
theorem au_14 {A : Nat → Nat → Int} {i : Nat} {z : Int} (h : AQ A) (h1 : 0 ≤ z) (h2 : z ≤ 12) : AQ (up2 A 14 i z) := h.up (by rw [ar_14]; exact h1) (by rw [ar_14]; exact h2)
theorem ar_15 : arn 15 = (0, 7) := by decide +kernel
theorem a_15 {A : Nat → Nat → Int} (h : AQ A) (i : Nat) : 0 ≤ A 15 i ∧ A 15 i ≤ 7 := by have e := h 15 i; rw [ar_15] at e; exact e
theorem au_15 {A : Nat → Nat → Int} {i : Nat} {z : Int} (h : AQ A) (h1 : 0 ≤ z) (h2 : z ≤ 7) : AQ (up2 A 15 i z) := h.up (by rw [ar_15]; exact h1) (by rw [ar_15]; exact h2)
theorem ar_16 : arn 16 = (0, 99) := by decide +kernel
theorem a_16 {A : Nat → Nat → Int} (h : AQ A) (i : Nat) : 0 ≤ A 16 i ∧ A 16 i ≤ 99 := by have e := h 16 i; rw [ar_16] at e; exact e
theorem au_16 {A : Nat → Nat → Int} {i : Nat} {z : Int} (h : AQ A) (h1 : 0 ≤ z) (h2 : z ≤ 99) : AQ (up2 A 16 i z) := h.up (by rw [ar_16]; exact h1) (by rw [ar_16]; exact h2)
theorem ar_18 : arn 18 = (0, 255) := by decide +kernel
theorem a_18 {A : Nat → Nat → Int} (h : AQ A) (i : Nat) : 0 ≤ A 18 i ∧ A 18 i ≤ 255 := by have e := h 18 i; rw [ar_18] at e; exact e
theorem au_18 {A : Nat → Nat → Int} {i : Nat} {z : Int} (h : AQ A) (h1 : 0 ≤ z) (h2 : z ≤ 255) : AQ (up2 A 18 i z) := h.up (by rw [ar_18]; exact h1) (by rw [ar_18]; exact h2)
theorem ar_19 : arn 19 = (0, 12) := by decide +kernel
theorem a_19 {A : Nat → Nat → Int} (h : AQ A) (i : Nat) : 0 ≤ A 19 i ∧ A 19 i ≤ 12 := by have e := h 19 i; rw [ar_19] at e; exact e
theorem au_19 {A : Nat → Nat → Int} {i : Nat} {z : Int} (h : AQ A) (h1 : 0 ≤ z) (h2 : z ≤ 12) : AQ (up2 A 19 i z) := h.up (by rw [ar_19]; exact h1) (by rw [ar_19]; exact h2)
theorem ar_20 : arn 20 = (0, 1000000) := by decide +kernel
theorem a_20 {A : Nat → Nat → Int} (h : AQ A) (i : Nat) : 0 ≤ A 20 i ∧ A 20 i ≤ 1000000 := by have e := h 20 i; rw [ar_20] at e; exact e
theorem au_20 {A : Nat → Nat → Int} {i : Nat} {z : Int} (h : AQ A) (h1 : 0 ≤ z) (h2 : z ≤ 1000000) : AQ (up2 A 20 i z) := h.up (by rw [ar_20]; exact h1) (by rw [ar_20]; exact h2)
theorem ar_21 : arn 21 = (0, 1) := by decide +kernel
theorem a_21 {A : Nat → Nat → Int} (h : AQ A) (i : Nat) : 0 ≤ A 21 i ∧ A 21 i ≤ 1 := by have e := h 21 i; rw [ar_21] at e; exact e
theorem au_21 {A : Nat → Nat → Int} {i : Nat} {z : Int} (h : AQ A) (h1 : 0 ≤ z) (h2 : z ≤ 1) : AQ (up2 A 21 i z) := h.up (by rw [ar_21]; exact h1) (by rw [ar_21]; exact h2)
theorem ar_23 : arn 23 = (0, 4) := by decide +kernel
theorem a_23 {A : Nat → Nat → Int} (h : AQ A) (i : Nat) : 0 ≤ A 23 i ∧ A 23 i ≤ 4 := by have e := h 23 i; rw [ar_23] at e; exact e
theorem au_23 {A : Nat → Nat → Int} {i : Nat} {z : Int} (h : AQ A) (h1 : 0 ≤ z) (h2 : z ≤ 4) : AQ (up2 A 23 i z) := h.up (by rw [ar_23]; exact h1) (by rw [ar_23]; exact h2)
theorem ar_24 : arn 24 = (0, 2000) := by decide +kernel
theorem a_24 {A : Nat → Nat → Int} (h : AQ A) (i : Nat) : 0 ≤ A 24 i ∧ A 24 i ≤ 2000 := by have e := h 24 i; rw [ar_24] at e; exact e
theorem au_24 {A : Nat → Nat → Int} {i : Nat} {z : Int} (h : AQ A) (h1 : 0 ≤ z) (h2 : z ≤ 2000) : AQ (up2 A 24 i z) := h.up (by rw [ar_24]; exact h1) (by rw [ar_24]; exact h2)
theorem ar_25 : arn 25 = (0, 12) := by decide +kernel
theorem a_25 {A : Nat → Nat → Int} (h : AQ A) (i : Nat) : 0 ≤ A 25 i ∧ A 25 i ≤ 12 := by have e := h 25 i; rw [ar_25] at e; exact e
theorem au_25 {A : Nat → Nat → Int} {i : Nat} {z : Int} (h : AQ A) (h1 : 0 ≤ z) (h2 : z ≤ 12) : AQ (up2 A 25 i z) := h.up (by rw [ar_25]; exact h1) (by rw [ar_25]; exact h2)
theorem ar_26 : arn 26 = (0, 999999) := by decide +kernel
theorem a_26 {A : Nat → Nat → Int} (h : AQ A) (i : Nat) : 0 ≤ A 26 i ∧ A 26 i ≤ 999999 := by have e := h 26 i; rw [ar_26] at e; exact e
theorem au_26 {A : Nat → Nat → Int} {i : Nat} {z : Int} (h : AQ A) (h1 : 0 ≤ z) (h2 : z ≤ 999999) : AQ (up2 A 26 i z) := h.up (by rw [ar_26]; exact h1) (by rw [ar_26]; exact h2)
theorem ar_28 : arn 28 = ((-1), 13) := by decide +kernel
theorem a_28 {A : Nat → Nat → Int} (h : AQ A) (i : Nat) : (-1) ≤ A 28 i ∧ A 28 i ≤ 13 := by have e := h 28 i; rw [ar_28] at e; exact e
theorem au_28 {A : Nat → Nat → Int} {i : Nat} {z : Int} (h : AQ A) (h1 : (-1) ≤ z) (h2 : z ≤ 13) : AQ (up2 A 28 i z) := h.up (by rw [ar_28]; exact h1) (by rw [ar_28]; exact h2)
theorem ar_29 : arn 29 = (0, 79) := by decide +kernel
theorem a_29 {A : Nat → Nat → Int} (h : AQ A) (i : Nat) : 0 ≤ A 29 i ∧ A 29 i ≤ 79 := by have e := h 29 i; rw [ar_29] at e; exact e
theorem au_29 {A : Nat → Nat → Int} {i : Nat} {z : Int} (h : AQ A) (h1 : 0 ≤ z) (h2 : z ≤ 79) : AQ (up2 A 29 i z) := h.up (by rw [ar_29]; exact h1) (by rw [ar_29]; exact h2)
theorem ar_30 : arn 30 = (0, 1) := by decide +kernel
theorem a_30 {A : Nat → Nat → Int} (h : AQ A) (i : Nat) : 0 ≤ A 30 i ∧ A 30 i ≤ 1 := by have e := h 30 i; rw [ar_30] at e; exact e
theorem au_30 {A : Nat → Nat → Int} {i : Nat} {z : Int} (h : AQ A) (h1 : 0 ≤ z) (h2 : z ≤ 1) : AQ (up2 A 30 i z) := h.up (by rw [ar_30]; exact h1) (by rw [ar_30]; exact h2)
theorem ar_32 : arn 32 = (0, 12) := by decide +kernel
theorem a_32 {A : Nat → Nat → Int} (h : AQ A) (i : Nat) : 0 ≤ A 32 i ∧ A 32 i ≤ 12 := by have e := h 32 i; rw [ar_32] at e; exact e
theorem au_32 {A : Nat → Nat → Int} {i : Nat} {z : Int} (h : AQ A) (h1 : 0 ≤ z) (h2 : z ≤ 12) : AQ (up2 A 32 i z) := h.up (by rw [ar_32]; exact h1) (by rw [ar_32]; exact h2)
theorem ar_33 : arn 33 = (0, 12) := by decide +kernel
theorem a_33 {A : Nat → Nat → Int} (h : AQ A) (i : Nat) : 0 ≤ A 33 i ∧ A 33 i ≤ 12 := by have e := h 33 i; rw [ar_33] at e; exact e
theorem au_33 {A : Nat → Nat → Int} {i : Nat} {z : Int} (h : AQ A) (h1 : 0 ≤ z) (h2 : z ≤ 12) : AQ (up2 A 33 i z) := h.up (by rw [ar_33]; exact h1) (by rw [ar_33]; exact h2)
theorem ar_35 : arn 35 = (0, 255) := by decide +kernel
theorem a_35 {A : Nat → Nat → Int} (h : AQ A) (i : Nat) : 0 ≤ A 35 i ∧ A 35 i ≤ 255 := by have e := h 35 i; rw [ar_35] at e; exact e
theorem au_35 {A : Nat → Nat → Int} {i : Nat} {z : Int} (h : AQ A) (h1 : 0 ≤ z) (h2 : z ≤ 255) : AQ (up2 A 35 i z) := h.up (by rw [ar_35]; exact h1) (by rw [ar_35]; exact h2)
theorem ar_36 : arn 36 = (0, 12) := by decide +kernel
theorem a_36 {A : Nat → Nat → Int} (h : AQ A) (i : Nat) : 0 ≤ A 36 i ∧ A 36 i ≤ 12 := by have e := h 36 i; rw [ar_36] at e; exact e
theorem au_36 {A : Nat → Nat → Int} {i : Nat} {z : Int} (h : AQ A) (h1 : 0 ≤ z) (h2 : z ≤ 12) : AQ (up2 A 36 i z) := h.up (by rw [ar_36]; exact h1) (by rw [ar_36]; exact h2)
theorem ar_37 : arn 37 = (0, 7) := by decide +kernel
theorem a_37 {A : Nat → Nat → Int} (h : AQ A) (i : Nat) : 0 ≤ A 37 i ∧ A 37 i ≤ 7 := by have e := h 37 i; rw [ar_37] at e; exact e
theorem au_37 {A : Nat → Nat → Int} {i : Nat} {z : Int} (h : AQ A) (h1 : 0 ≤ z) (h2 : z ≤ 7) : AQ (up2 A 37 i z) := h.up (by rw [ar_37]; exact h1) (by rw [ar_37]; exact h2)
theorem ar_38 : arn 38 = (0, 99) := by decide +kernel
theorem a_38 {A : Nat → Nat → Int} (h : AQ A) (i : Nat) : 0 ≤ A 38 i ∧ A 38 i ≤ 99 := by have e := h 38 i; rw [ar_38] at e; exact e
theorem au_38 {A : Nat → Nat → Int} {i : Nat} {z : Int} (h : AQ A) (h1 : 0 ≤ z) (h2 : z ≤ 99) : AQ (up2 A 38 i z) := h.up (by rw [ar_38]; exact h1) (by rw [ar_38]; exact h2)
theorem ar_39 : arn 39 = (0, 12) := by decide +kernel
theorem a_39 {A : Nat → Nat → Int} (h : AQ A) (i : Nat) : 0 ≤ A 39 i ∧ A 39 i ≤ 12 := by have e := h 39 i; rw [ar_39] at e; exact e
theorem au_39 {A : Nat → Nat → Int} {i : Nat} {z : Int} (h : AQ A) (h1 : 0 ≤ z) (h2 : z ≤ 12) : AQ (up2 A 39 i z) := h.up (by rw [ar_39]; exact h1) (by rw [ar_39]; exact h2)
theorem ar_40 : arn 40 = ((-1), 79) := by decide +kernel
theorem a_40 {A : Nat → Nat → Int} (h : AQ A) (i : Nat) : (-1) ≤ A 40 i ∧ A 40 i ≤ 79 := by have e := h 40 i; rw [ar_40] at e; exact e
theorem au_40 {A : Nat → Nat → Int} {i : Nat} {z : Int} (h : AQ A) (h1 : (-1) ≤ z) (h2 : z ≤ 79) : AQ (up2 A 40 i z) := h.up (by rw [ar_40]; exact h1) (by rw [ar_40]; exact h2)
theorem ar_41 : arn 41 = (0, 255) := by decide +kernel
theorem a_41 {A : Nat → Nat → Int} (h : AQ A) (i : Nat) : 0 ≤ A 41 i ∧ A 41 i ≤ 255 := by have e := h 41 i; rw [ar_41] at e; exact e
theorem au_41 {A : Nat → Nat → Int} {i : Nat} {z : Int} (h : AQ A) (h1 : 0 ≤ z) (h2 : z ≤ 255) : AQ (up2 A 41 i z) := h.up (by rw [ar_41]; exact h1) (by rw [ar_41]; exact h2)
theorem ar_43 : arn 43 = (0, 3000000) := by decide +kernel
theorem a_43 {A : Nat → Nat → Int} (h : AQ A) (i : Nat) : 0 ≤ A 43 i ∧ A 43 i ≤ 3000000 := by have e := h 43 i; rw [ar_43] at e; exact e
theorem au_43 {A : Nat → Nat → Int} {i : Nat} {z : Int} (h : AQ A) (h1 : 0 ≤ z) (h2 : z ≤ 3000000) : AQ (up2 A 43 i z) := h.up (by rw [ar_43]; exact h1) (by rw [ar_43]; exact h2)
theorem ar_44 : arn 44 = (0, 11) := by decide +kernel
theorem a_44 {A : Nat → Nat → Int} (h : AQ A) (i : Nat) : 0 ≤ A 44 i ∧ A 44 i ≤ 11 := by have e := h 44 i; rw [ar_44] at e; exact e
theorem au_44 {A : Nat → Nat → Int} {i : Nat} {z : Int} (h : AQ A) (h1 : 0 ≤ z) (h2 : z ≤ 11) : AQ (up2 A 44 i z) := h.up (by rw [ar_44]; exact h1) (by rw [ar_44]; exact h2)
theorem ar_45 : arn 45 = (0, 3000000) := by decide +kernel
theorem a_45 {A : Nat → Nat → Int} (h : AQ A) (i : Nat) : 0 ≤ A 45 i ∧ A 45 i ≤ 3000000 := by have e := h 45 i; rw [ar_45] at e; exact e
theorem au_45 {A : Nat → Nat → Int} {i : Nat} {z : Int} (h : AQ A) (h1 : 0 ≤ z) (h2 : z ≤ 3000000) : AQ (up2 A 45 i z) := h.up (by rw [ar_45]; exact h1) (by rw [ar_45]; exact h2)
theorem ar_46 : arn 46 = (0, 1) := by decide +kernel
theorem a_46 {A : Nat → Nat → Int} (h : AQ A) (i : Nat) : 0 ≤ A 46 i ∧ A 46 i ≤ 1 := by have e := h 46 i; rw [ar_46] at e; exact e
theorem au_46 {A : Nat → Nat → Int} {i : Nat} {z : Int} (h : AQ A) (h1 : 0 ≤ z) (h2 : z ≤ 1) : AQ (up2 A 46 i z) := h.up (by rw [ar_46]; exact h1) (by rw [ar_46]; exact h2)
theorem ar_47 : arn 47 = (0, 1000000) := by decide +kernel
theorem a_47 {A : Nat → Nat → Int} (h : AQ A) (i : Nat) : 0 ≤ A 47 i ∧ A 47 i ≤ 1000000 := by have e := h 47 i; rw [ar_47] at e; exact e
theorem au_47 {A : Nat → Nat → Int} {i : Nat} {z : Int} (h : AQ A) (h1 : 0 ≤ z) (h2 : z ≤ 1000000) : AQ (up2 A 47 i z) := h.up (by rw [ar_47]; exact h1) (by rw [ar_47]; exact h2)
theorem ar_49 : arn 49 = (0, 400) := by decide +kernel
theorem a_49 {A : Nat → Nat → Int} (h : AQ A) (i : Nat) : 0 ≤ A 49 i ∧ A 49 i ≤ 400 := by have e := h 49 i; rw [ar_49] at e; exact e
theorem au_49 {A : Nat → Nat → Int} {i : Nat} {z : Int} (h : AQ A) (h1 : 0 ≤ z) (h2 : z ≤ 400) : AQ (up2 A 49 i z) := h.up (by rw [ar_49]; exact h1) (by rw [ar_49]; exact h2)
theorem ar_50 : arn 50 = ((-400), 168) := by decide +kernel
theorem a_50 {A : Nat → Nat → Int} (h : AQ A) (i : Nat) : (-400) ≤ A 50 i ∧ A 50 i ≤ 168 := by have e := h 50 i; rw [ar_50] at e; exact e
theorem au_50 {A : Nat → Nat → Int} {i : Nat} {z : Int} (h : AQ A) (h1 : (-400) ≤ z) (h2 : z ≤ 168) : AQ (up2 A 50 i z) := h.up (by rw [ar_50]; exact h1) (by rw [ar_50]; exact h2)
theorem ar_51 : arn 51 = (0, 12) := by decide +kernel
theorem a_51 {A : Nat → Nat → Int} (h : AQ A) (i : Nat) : 0 ≤ A 51 i ∧ A 51 i ≤ 12 := by have e := h 51 i; rw [ar_51] at e; exact e
theorem au_51 {A : Nat → Nat → Int} {i : Nat} {z : Int} (h : AQ A) (h1 : 0 ≤ z) (h2 : z ≤ 12) : AQ (up2 A 51 i z) := h.up (by rw [ar_51]; exact h1) (by rw [ar_51]; exact h2)
theorem ar_52 : arn 52 = (0, 1000000) := by decide +kernel
theorem a_52 {A : Nat → Nat → Int} (h : AQ A) (i : Nat) : 0 ≤ A 52 i ∧ A 52 i ≤ 1000000 := by have e := h 52 i; rw [ar_52] at e; exact e
theorem au_52 {A : Nat → Nat → Int} {i : Nat} {z : Int} (h : AQ A) (h1 : 0 ≤ z) (h2 : z ≤ 1000000) : AQ (up2 A 52 i z) := h.up (by rw [ar_52]; exact h1) (by rw [ar_52]; exact h2)
theorem ar_53 : arn 53 = (0, 255) := by decide +kernel
theorem a_53 {A : Nat → Nat → Int} (h : AQ A) (i : Nat) : 0 ≤ A 53 i ∧ A 53 i ≤ 255 := by have e := h 53 i; rw [ar_53] at e; exact e
theorem au_53 {A : Nat → Nat → Int} {i : Nat} {z : Int} (h : AQ A) (h1 : 0 ≤ z) (h2 : z ≤ 255) : AQ (up2 A 53 i z) := h.up (by rw [ar_53]; exact h1) (by rw [ar_53]; exact h2)
theorem ar_54 : arn 54 = (0, 3000000) := by decide +kernel
theorem a_54 {A : Nat → Nat → Int} (h : AQ A) (i : Nat) : 0 ≤ A 54 i ∧ A 54 i ≤ 3000000 := by have e := h 54 i; rw [ar_54] at e; exact e
theorem au_54 {A : Nat → Nat → Int} {i : Nat} {z : Int} (h : AQ A) (h1 : 0 ≤ z) (h2 : z ≤ 3000000) : AQ (up2 A 54 i z) := h.up (by rw [ar_54]; exact h1) (by rw [ar_54]; exact h2)
theorem ar_55 : arn 55 = (0, 3000000) := by decide +kernel
theorem a_55 {A : Nat → Nat → Int} (h : AQ A) (i : Nat) : 0 ≤ A 55 i ∧ A 55 i ≤ 3000000 := by have e := h 55 i; rw [ar_55] at e; exact e
theorem au_55 {A : Nat → Nat → Int} {i : Nat} {z : Int} (h : AQ A) (h1 : 0 ≤ z) (h2 : z ≤ 3000000) : AQ (up2 A 55 i z) := h.up (by rw [ar_55]; exact h1) (by rw [ar_55]; exact h2)
theorem ar_56 : arn 56 = (0, 3000000) := by decide +kernel
theorem a_56 {A : Nat → Nat → Int} (h : AQ A) (i : Nat) : 0 ≤ A 56 i ∧ A 56 i ≤ 3000000 := by have e := h 56 i; rw [ar_56] at e; exact e
theorem au_56 {A : Nat → Nat → Int} {i : Nat} {z : Int} (h : AQ A) (h1 : 0 ≤ z) (h2 : z ≤ 3000000) : AQ (up2 A 56 i z) := h.up (by rw [ar_56]; exact h1) (by rw [ar_56]; exact h2)
theorem ar_63 : arn 63 = (0, 255) := by decide +kernel
theorem a_63 {A : Nat → Nat → Int} (h : AQ A) (i : Nat) : 0 ≤ A 63 i ∧ A 63 i ≤ 255 := by have e := h 63 i; rw [ar_63] at e; exact e
theorem au_63 {A : Nat → Nat → Int} {i : Nat} {z : Int} (h : AQ A) (h1 : 0 ≤ z) (h2 : z ≤ 255) : AQ (up2 A 63 i z) := h.up (by rw [ar_63]; exact h1) (by rw [ar_63]; exact h2)
theorem ar_64 : arn 64 = (0, 12) := by decide +kernel
theorem a_64 {A : Nat → Nat → Int} (h : AQ A) (i : Nat) : 0 ≤ A 64 i ∧ A 64 i ≤ 12 := by have e := h 64 i; rw [ar_64] at e; exact e
theorem au_64 {A : Nat → Nat → Int} {i : Nat} {z : Int} (h : AQ A) (h1 : 0 ≤ z) (h2 : z ≤ 12) : AQ (up2 A 64 i z) := h.up (by rw [ar_64]; exact h1) (by rw [ar_64]; exact h2)
theorem ar_65 : arn 65 = (0, 7) := by decide +kernel
theorem a_65 {A : Nat → Nat → Int} (h : AQ A) (i : Nat) : 0 ≤ A 65 i ∧ A 65 i ≤ 7 := by have e := h 65 i; rw [ar_65] at e; exact e
theorem au_65 {A : Nat → Nat → Int} {i : Nat} {z : Int} (h : AQ A) (h1 : 0 ≤ z) (h2 : z ≤ 7) : AQ (up2 A 65 i z) := h.up (by rw [ar_65]; exact h1) (by rw [ar_65]; exact h2)
theorem ar_66 : arn 66 = (0, 99) := by decide +kernel
theorem a_66 {A : Nat → Nat → Int} (h : AQ A) (i : Nat) : 0 ≤ A 66 i ∧ A 66 i ≤ 99 := by have e := h 66 i; rw [ar_66] at e; exact e
theorem au_66 {A : Nat → Nat → Int} {i : Nat} {z : Int} (h : AQ A) (h1 : 0 ≤ z) (h2 : z ≤ 99) : AQ (up2 A 66 i z) := h.up (by rw [ar_66]; exact h1) (by rw [ar_66]; exact h2)
theorem ar_67 : arn 67 = (0, 100000) := by decide +kernel
theorem a_67 {A : Nat → Nat → Int} (h : AQ A) (i : Nat) : 0 ≤ A 67 i ∧ A 67 i ≤ 100000 := by have e := h 67 i; rw [ar_67] at e; exact e
theorem au_67 {A : Nat → Nat → Int} {i : Nat} {z : Int} (h : AQ A) (h1 : 0 ≤ z) (h2 : z ≤ 100000) : AQ (up2 A 67 i z) := h.up (by rw [ar_67]; exact h1) (by rw [ar_67]; exact h2)
theorem ar_68 : arn 68 = (0, 100000) := by decide +kernel
theorem a_68 {A : Nat → Nat → Int} (h : AQ A) (i : Nat) : 0 ≤ A 68 i ∧ A 68 i ≤ 100000 := by have e := h 68 i; rw [ar_68] at e; exact e
theorem au_68 {A : Nat → Nat → Int} {i : Nat} {z : Int} (h : AQ A) (h1 : 0 ≤ z) (h2 : z ≤ 100000) : AQ (up2 A 68 i z) := h.up (by rw [ar_68]; exact h1) (by rw [ar_68]; exact h2)
theorem ar_69 : arn 69 = (0, 60) := by decide +kernel
theorem a_69 {A : Nat → Nat → Int} (h : AQ A) (i : Nat) : 0 ≤ A 69 i ∧ A 69 i ≤ 60 := by have e := h 69 i; rw [ar_69] at e; exact e
theorem au_69 {A : Nat → Nat → Int} {i : Nat} {z : Int} (h : AQ A) (h1 : 0 ≤ z) (h2 : z ≤ 60) : AQ (up2 A 69 i z) := h.up (by rw [ar_69]; exact h1) (by rw [ar_69]; exact h2)
theorem ar_71 : arn 71 = (0, 255) := by decide +kernel
theorem a_71 {A : Nat → Nat → Int} (h : AQ A) (i : Nat) : 0 ≤ A 71 i ∧ A 71 i ≤ 255 := by have e := h 71 i; rw [ar_71] at e; exact e
theorem au_71 {A : Nat → Nat → Int} {i : Nat} {z : Int} (h : AQ A) (h1 : 0 ≤ z) (h2 : z ≤ 255) : AQ (up2 A 71 i z) := h.up (by rw [ar_71]; exact h1) (by rw [ar_71]; exact h2)
theorem ar_72 : arn 72 = (0, 12) := by decide +kernel
theorem a_72 {A : Nat → Nat → Int} (h : AQ A) (i : Nat) : 0 ≤ A 72 i ∧ A 72 i ≤ 12 := by have e := h 72 i; rw [ar_72] at e; exact e
theorem au_72 {A : Nat → Nat → Int} {i : Nat} {z : Int} (h : AQ A) (h1 : 0 ≤ z) (h2 : z ≤ 12) : AQ (up2 A 72 i z) := h.up (by rw [ar_72]; exact h1) (by rw [ar_72]; exact h2)
theorem ar_73 : arn 73 = (0, 7) := by decide +kernel
theorem a_73 {A : Nat → Nat → Int} (h : AQ A) (i : Nat) : 0 ≤ A 73 i ∧ A 73 i ≤ 7 := by have e := h 73 i; rw [ar_73] at e; exact e
theorem au_73 {A : Nat → Nat → Int} {i : Nat} {z : Int} (h : AQ A) (h1 : 0 ≤ z) (h2 : z ≤ 7) : AQ (up2 A 73 i z) := h.up (by rw [ar_73]; exact h1) (by rw [ar_73]; exact h2)
theorem ar_74 : arn 74 = (0, 99) := by decide +kernel
theorem a_74 {A : Nat → Nat → Int} (h : AQ A) (i : Nat) : 0 ≤ A 74 i ∧ A 74 i ≤ 99 := by have e := h 74 i; rw [ar_74] at e; exact e
theorem au_74 {A : Nat → Nat → Int} {i : Nat} {z : Int} (h : AQ A) (h1 : 0 ≤ z) (h2 : z ≤ 99) : AQ (up2 A 74 i z) := h.up (by rw [ar_74]; exact h1) (by rw [ar_74]; exact h2)
theorem ar_76 : arn 76 = (0, 255) := by decide +kernel
theorem a_76 {A : Nat → Nat → Int} (h : AQ A) (i : Nat) : 0 ≤ A 76 i ∧ A 76 i ≤ 255 := by have e := h 76 i; rw [ar_76] at e; exact e
theorem au_76 {A : Nat → Nat → Int} {i : Nat} {z : Int} (h : AQ A) (h1 : 0 ≤ z) (h2 : z ≤ 255) : AQ (up2 A 76 i z) := h.up (by rw [ar_76]; exact h1) (by rw [ar_76]; exact h2)
theorem ar_77 : arn 77 = (0, 12) := by decide +kernel
theorem a_77 {A : Nat → Nat → Int} (h : AQ A) (i : Nat) : 0 ≤ A 77 i ∧ A 77 i ≤ 12 := by have e := h 77 i; rw [ar_77] at e; exact e
theorem au_77 {A : Nat → Nat → Int} {i : Nat} {z : Int} (h : AQ A) (h1 : 0 ≤ z) (h2 : z ≤ 12) : AQ (up2 A 77 i z) := h.up (by rw [ar_77]; exact h1) (by rw [ar_77]; exact h2)
theorem ar_78 : arn 78 = (0, 1000000) := by decide +kernel
theorem a_78 {A : Nat → Nat → Int} (h : AQ A) (i : Nat) : 0 ≤ A 78 i ∧ A 78 i ≤ 1000000 := by have e := h 78 i; rw [ar_78] at e; exact e
theorem au_78 {A : Nat → Nat → Int} {i : Nat} {z : Int} (h : AQ A) (h1 : 0 ≤ z) (h2 : z ≤ 1000000) : AQ (up2 A 78 i z) := h.up (by rw [ar_78]; exact h1) (by rw [ar_78]; exact h2)
theorem ar_79 : arn 79 = (0, 1) := by decide +kernel
theorem a_79 {A : Nat → Nat → Int} (h : AQ A) (i : Nat) : 0 ≤ A 79 i ∧ A 79 i ≤ 1 := by have e := h 79 i; rw [ar_79] at e; exact e
theorem au_79 {A : Nat → Nat → Int} {i : Nat} {z : Int} (h : AQ A) (h1 : 0 ≤ z) (h2 : z ≤ 1) : AQ (up2 A 79 i z) := h.up (by rw [ar_79]; exact h1) (by rw [ar_79]; exact h2)
theorem ar_81 : arn 81 = (0, 255) := by decide +kernel
theorem a_81 {A : Nat → Nat → Int} (h : AQ A) (i : Nat) : 0 ≤ A 81 i ∧ A 81 i ≤ 255 := by have e := h 81 i; rw [ar_81] at e; exact e
theorem au_81 {A : Nat → Nat → Int} {i : Nat} {z : Int} (h : AQ A) (h1 : 0 ≤ z) (h2 : z ≤ 255) : AQ (up2 A 81 i z) := h.up (by rw [ar_81]; exact h1) (by rw [ar_81]; exact h2)
theorem ar_82 : arn 82 = (0, 200) := by decide +kernel
theorem a_82 {A : Nat → Nat → Int} (h : AQ A) (i : Nat) : 0 ≤ A 82 i ∧ A 82 i ≤ 200 := by have e := h 82 i; rw [ar_82] at e; exact e
theorem au_82 {A : Nat → Nat → Int} {i : Nat} {z : Int} (h : AQ A) (h1 : 0 ≤ z) (h2 : z ≤ 200) : AQ (up2 A 82 i z) := h.up (by rw [ar_82]; exact h1) (by rw [ar_82]; exact h2)
theorem ar_83 : arn 83 = (0, 12) := by decide +kernel
theorem a_83 {A : Nat → Nat → Int} (h : AQ A) (i : Nat) : 0 ≤ A 83 i ∧ A 83 i ≤ 12 := by have e := h 83 i; rw [ar_83] at e; exact e
theorem au_83 {A : Nat → Nat → Int} {i : Nat} {z : Int} (h : AQ A) (h1 : 0 ≤ z) (h2 : z ≤ 12) : AQ (up2 A 83 i z) := h.up (by rw [ar_83]; exact h1) (by rw [ar_83]; exact h2)
theorem ar_84 : arn 84 = (0, 1) := by decide +kernel
theorem a_84 {A : Nat → Nat → Int} (h : AQ A) (i : Nat) : 0 ≤ A 84 i ∧ A 84 i ≤ 1 := by have e := h 84 i; rw [ar_84] at e; exact e
theorem au_84 {A : Nat → Nat → Int} {i : Nat} {z : Int} (h : AQ A) (h1 : 0 ≤ z) (h2 : z ≤ 1) : AQ (up2 A 84 i z) := h.up (by rw [ar_84]; exact h1) (by rw [ar_84]; exact h2)
theorem ar_86 : arn 86 = (0, 255) := by decide +kernel
theorem a_86 {A : Nat → Nat → Int} (h : AQ A) (i : Nat) : 0 ≤ A 86 i ∧ A 86 i ≤ 255 := by have e := h 86 i; rw [ar_86] at e; exact e
theorem au_86 {A : Nat → Nat → Int} {i : Nat} {z : Int} (h : AQ A) (h1 : 0 ≤ z) (h2 : z ≤ 255) : AQ (up2 A 86 i z) := h.up (by rw [ar_86]; exact h1) (by rw [ar_86]; exact h2)
theorem ar_87 : arn 87 = (0, 200) := by decide +kernel
theorem a_87 {A : Nat → Nat → Int} (h : AQ A) (i : Nat) : 0 ≤ A 87 i ∧ A 87 i ≤ 200 := by have e := h 87 i; rw [ar_87] at e; exact e
theorem au_87 {A : Nat → Nat → Int} {i : Nat} {z : Int} (h : AQ A) (h1 : 0 ≤ z) (h2 : z ≤ 200) : AQ (up2 A 87 i z) := h.up (by rw [ar_87]; exact h1) (by rw [ar_87]; exact h2)
theorem ar_88 : arn 88 = (0, 12) := by decide +kernel
theorem a_88 {A : Nat → Nat → Int} (h : AQ A) (i : Nat) : 0 ≤ A 88 i ∧ A 88 i ≤ 12 := by have e := h 88 i; rw [ar_88] at e; exact e
theorem au_88 {A : Nat → Nat → Int} {i : Nat} {z : Int} (h : AQ A) (h1 : 0 ≤ z) (h2 : z ≤ 12) : AQ (up2 A 88 i z) := h.up (by rw [ar_88]; exact h1) (by rw [ar_88]; exact h2)
theorem ar_89 : arn 89 = (0, 1) := by decide +kernel
theorem a_89 {A : Nat → Nat → Int} (h : AQ A) (i : Nat) : 0 ≤ A 89 i ∧ A 89 i ≤ 1 := by have e := h 89 i; rw [ar_89] at e; exact e
theorem au_89 {A : Nat → Nat → Int} {i : Nat} {z : Int} (h : AQ A) (h1 : 0 ≤ z) (h2 : z ≤ 1) : AQ (up2 A 89 i z) := h.up (by rw [ar_89]; exact h1) (by rw [ar_89]; exact h2)
theorem ar_91 : arn 91 = ((-128), 127) := by decide +kernel
theorem a_91 {A : Nat → Nat → Int} (h : AQ A) (i : Nat) : (-128) ≤ A 91 i ∧ A 91 i ≤ 127 := by have e := h 91 i; rw [ar_91] at e; exact e
theorem au_91 {A : Nat → Nat → Int} {i : Nat} {z : Int} (h : AQ A) (h1 : (-128) ≤ z) (h2 : z ≤ 127) : AQ (up2 A 91 i z) := h.up (by rw [ar_91]; exact h1) (by rw [ar_91]; exact h2)
theorem ar_92 : arn 92 = ((-128), 127) := by decide +kernel
theorem a_92 {A : Nat → Nat → Int} (h : AQ A) (i : Nat) : (-128) ≤ A 92 i ∧ A 92 i ≤ 127 := by have e := h 92 i; rw [ar_92] at e; exact e
theorem au_92 {A : Nat → Nat → Int} {i : Nat} {z : Int} (h : AQ A) (h1 : (-128) ≤ z) (h2 : z ≤ 127) : AQ (up2 A 92 i z) := h.up (by rw [ar_92]; exact h1) (by rw [ar_92]; exact h2)
theorem ar_93 : arn 93 = ((-128), 127) := by decide +kernel
theorem a_93 {A : Nat → Nat → Int} (h : AQ A) (i : Nat) : (-128) ≤ A 93 i ∧ A 93 i ≤ 127 := by have e := h 93 i; rw [ar_93] at e; exact e
theorem au_93 {A : Nat → Nat → Int} {i : Nat} {z : Int} (h : AQ A) (h1 : (-128) ≤ z) (h2 : z ≤ 127) : AQ (up2 A 93 i z) := h.up (by rw [ar_93]; exact h1) (by rw [ar_93]; exact h2)
theorem ar_94 : arn 94 = ((-128), 127) := by decide +kernel
theorem a_94 {A : Nat → Nat → Int} (h : AQ A) (i : Nat) : (-128) ≤ A 94 i ∧ A 94 i ≤ 127 := by have e := h 94 i; rw [ar_94] at e; exact e
theorem au_94 {A : Nat → Nat → Int} {i : Nat} {z : Int} (h : AQ A) (h1 : (-128) ≤ z) (h2 : z ≤ 127) : AQ (up2 A 94 i z) := h.up (by rw [ar_94]; exact h1) (by rw [ar_94]; exact h2)
theorem ar_95 : arn 95 = ((-128), 127) := by decide +kernel
theorem a_95 {A : Nat → Nat → Int} (h : AQ A) (i : Nat) : (-128) ≤ A 95 i ∧ A 95 i ≤ 127 := by have e := h 95 i; rw [ar_95] at e; exact e
theorem au_95 {A : Nat → Nat → Int} {i : Nat} {z : Int} (h : AQ A) (h1 : (-128) ≤ z) (h2 : z ≤ 127) : AQ (up2 A 95 i z) := h.up (by rw [ar_95]; exact h1) (by rw [ar_95]; exact h2)
theorem ar_96 : arn 96 = ((-128), 127) := by decide +kernel
theorem a_96 {A : Nat → Nat → Int} (h : AQ A) (i : Nat) : (-128) ≤ A 96 i ∧ A 96 i ≤ 127 := by have e := h 96 i; rw [ar_96] at e; exact e
theorem au_96 {A : Nat → Nat → Int} {i : Nat} {z : Int} (h : AQ A) (h1 : (-128) ≤ z) (h2 : z ≤ 127) : AQ (up2 A 96 i z) := h.up (by rw [ar_96]; exact h1) (by rw [ar_96]; exact h2)
theorem ar_97 : arn 97 = (0, 12) := by decide +kernel
theorem a_97 {A : Nat → Nat → Int} (h : AQ A) (i : Nat) : 0 ≤ A 97 i ∧ A 97 i ≤ 12 := by have e := h 97 i; rw [ar_97] at e; exact e
theorem au_97 {A : Nat → Nat → Int} {i : Nat} {z : Int} (h : AQ A) (h1 : 0 ≤ z) (h2 : z ≤ 12) : AQ (up2 A 97 i z) := h.up (by rw [ar_97]; exact h1) (by rw [ar_97]; exact h2)
theorem ar_98 : arn 98 = (0, 999999) := by decide +kernel
theorem a_98 {A : Nat → Nat → Int} (h : AQ A) (i : Nat) : 0 ≤ A 98 i ∧ A 98 i ≤ 999999 := by have e := h 98 i; rw [ar_98] at e; exact e
theorem au_98 {A : Nat → Nat → Int} {i : Nat} {z : Int} (h : AQ A) (h1 : 0 ≤ z) (h2 : z ≤ 999999) : AQ (up2 A 98 i z) := h.up (by rw [ar_98]; exact h1) (by rw [ar_98]; exact h2)
theorem ar_99 : arn 99 = (0, 999999) := by decide +kernel
theorem a_99 {A : Nat → Nat → Int} (h : AQ A) (i : Nat) : 0 ≤ A 99 i ∧ A 99 i ≤ 999999 := by have e := h 99 i; rw [ar_99] at e; exact e
theorem au_99 {A : Nat → Nat → Int} {i : Nat} {z : Int} (h : AQ A) (h1 : 0 ≤ z) (h2 : z ≤ 999999) : AQ (up2 A 99 i z) := h.up (by rw [ar_99]; exact h1) (by rw [ar_99]; exact h2)
theorem ar_100 : arn 100 = (0, 999999) := by decide +kernel
theorem a_100 {A : Nat → Nat → Int} (h : AQ A) (i : Nat) : 0 ≤ A 100 i ∧ A 100 i ≤ 999999 := by have e := h 100 i; rw [ar_100] at e; exact e
theorem au_100 {A : Nat → Nat → Int} {i : Nat} {z : Int} (h : AQ A) (h1 : 0 ≤ z) (h2 : z ≤ 999999) : AQ (up2 A 100 i z) := h.up (by rw [ar_100]; exact h1) (by rw [ar_100]; exact h2)
theorem ar_101 : arn 101 = (0, 999999) := by decide +kernel
theorem a_101 {A : Nat → Nat → Int} (h : AQ A) (i : Nat) : 0 ≤ A 101 i ∧ A 101 i ≤ 999999 := by have e := h 101 i; rw [ar_101] at e; exact e
theorem au_101 {A : Nat → Nat → Int} {i : Nat} {z : Int} (h : AQ A) (h1 : 0 ≤ z) (h2 : z ≤ 999999) : AQ (up2 A 101 i z) := h.up (by rw [ar_101]; exact h1) (by rw [ar_101]; exact h2)
theorem ar_102 : arn 102 = (0, 12) := by decide +kernel
theorem a_102 {A : Nat → Nat → Int} (h : AQ A) (i : Nat) : 0 ≤ A 102 i ∧ A 102 i ≤ 12 := by have e := h 102 i; rw [ar_102] at e; exact e
theorem au_102 {A : Nat → Nat → Int} {i : Nat} {z : Int} (h : AQ A) (h1 : 0 ≤ z) (h2 : z ≤ 12) : AQ (up2 A 102 i z) := h.up (by rw [ar_102]; exact h1) (by rw [ar_102]; exact h2)
theorem ar_103 : arn 103 = (0, 999999) := by decide +kernel
theorem a_103 {A : Nat → Nat → Int} (h : AQ A) (i : Nat) : 0 ≤ A 103 i ∧ A 103 i ≤ 999999 := by have e := h 103 i; rw [ar_103] at e; exact e
theorem au_103 {A : Nat → Nat → Int} {i : Nat} {z : Int} (h : AQ A) (h1 : 0 ≤ z) (h2 : z ≤ 999999) : AQ (up2 A 103 i z) := h.up (by rw [ar_103]; exact h1) (by rw [ar_103]; exact h2)
theorem ar_104 : arn 104 = (0, 999999) := by decide +kernel
theorem a_104 {A : Nat → Nat → Int} (h : AQ A) (i : Nat) : 0 ≤ A 104 i ∧ A 104 i ≤ 999999 := by have e := h 104 i; rw [ar_104] at e; exact e
theorem au_104 {A : Nat → Nat → Int} {i : Nat} {z : Int} (h : AQ A) (h1 : 0 ≤ z) (h2 : z ≤ 999999) : AQ (up2 A 104 i z) := h.up (by rw [ar_104]; exact h1) (by rw [ar_104]; exact h2)
theorem ar_105 : arn 105 = (0, 12) := by decide +kernel
theorem a_105 {A : Nat → Nat → Int} (h : AQ A) (i : Nat) : 0 ≤ A 105 i ∧ A 105 i ≤ 12 := by have e := h 105 i; rw [ar_105] at e; exact e
theorem au_105 {A : Nat → Nat → Int} {i : Nat} {z : Int} (h : AQ A) (h1 : 0 ≤ z) (h2 : z ≤ 12) : AQ (up2 A 105 i z) := h.up (by rw [ar_105]; exact h1) (by rw [ar_105]; exact h2)
theorem ar_106 : arn 106 = ((-2), 999999) := by decide +kernel
theorem a_106 {A : Nat → Nat → Int} (h : AQ A) (i : Nat) : (-2) ≤ A 106 i ∧ A 106 i ≤ 999999 := by have e := h 106 i; rw [ar_106] at e; exact e
theorem au_106 {A : Nat → Nat → Int} {i : Nat} {z : Int} (h : AQ A) (h1 : (-2) ≤ z) (h2 : z ≤ 999999) : AQ (up2 A 106 i z) := h.up (by rw [ar_106]; exact h1) (by rw [ar_106]; exact h2)
theorem ar_107 : arn 107 = (0, 80) := by decide +kernel
theorem a_107 {A : Nat → Nat → Int} (h : AQ A) (i : Nat) : 0 ≤ A 107 i ∧ A 107 i ≤ 80 := by have e := h 107 i; rw [ar_107] at e; exact e
theorem au_107 {A : Nat → Nat → Int} {i : Nat} {z : Int} (h : AQ A) (h1 : 0 ≤ z) (h2 : z ≤ 80) : AQ (up2 A 107 i z) := h.up (by rw [ar_107]; exact h1) (by rw [ar_107]; exact h2)
theorem ar_108 : arn 108 = (0, 20) := by decide +kernel
theorem a_108 {A : Nat → Nat → Int} (h : AQ A) (i : Nat) : 0 ≤ A 108 i ∧ A 108 i ≤ 20 := by have e := h 108 i; rw [ar_108] at e; exact e
theorem au_108 {A : Nat → Nat → Int} {i : Nat} {z : Int} (h : AQ A) (h1 : 0 ≤ z) (h2 : z ≤ 20) : AQ (up2 A 108 i z) := h.up (by rw [ar_108]; exact h1) (by rw [ar_108]; exact h2)
theorem ar_109 : arn 109 = (0, 20) := by decide +kernel
theorem a_109 {A : Nat → Nat → Int} (h : AQ A) (i : Nat) : 0 ≤ A 109 i ∧ A 109 i ≤ 20 := by have e := h 109 i; rw [ar_109] at e; exact e
theorem au_109 {A : Nat → Nat → Int} {i : Nat} {z : Int} (h : AQ A) (h1 : 0 ≤ z) (h2 : z ≤ 20) : AQ (up2 A 109 i z) := h.up (by rw [ar_109]; exact h1) (by rw [ar_109]; exact h2)
theorem ar_110 : arn 110 = (0, 40) := by decide +kernel
theorem a_110 {A : Nat → Nat → Int} (h : AQ A) (i : Nat) : 0 ≤ A 110 i ∧ A 110 i ≤ 40 := by have e := h 110 i; rw [ar_110] at e; exact e
theorem au_110 {A : Nat → Nat → Int} {i : Nat} {z : Int} (h : AQ A) (h1 : 0 ≤ z) (h2 : z ≤ 40) : AQ (up2 A 110 i z) := h.up (by rw [ar_110]; exact h1) (by rw [ar_110]; exact h2)
theorem ar_111 : arn 111 = (0, 999999) := by decide +kernel
theorem a_111 {A : Nat → Nat → Int} (h : AQ A) (i : Nat) : 0 ≤ A 111 i ∧ A 111 i ≤ 999999 := by have e := h 111 i; rw [ar_111] at e; exact e
theorem au_111 {A : Nat → Nat → Int} {i : Nat} {z : Int} (h : AQ A) (h1 : 0 ≤ z) (h2 : z ≤ 999999) : AQ (up2 A 111 i z) := h.up (by rw [ar_111]; exact h1) (by rw [ar_111]; exact h2)
theorem ar_112 : arn 112 = (0, 999999) := by decide +kernel
theorem a_112 {A : Nat → Nat → Int} (h : AQ A) (i : Nat) : 0 ≤ A 112 i ∧ A 112 i ≤ 999999 := by have e := h 112 i; rw [ar_112] at e; exact e
theorem au_112 {A : Nat → Nat → Int} {i : Nat} {z : Int} (h : AQ A) (h1 : 0 ≤ z) (h2 : z ≤ 999999) : AQ (up2 A 112 i z) := h.up (by rw [ar_112]; exact h1) (by rw [ar_112]; exact h2)
theorem ar_113 : arn 113 = (0, 1) := by decide +kernel
theorem a_113 {A : Nat → Nat → Int} (h : AQ A) (i : Nat) : 0 ≤ A 113 i ∧ A 113 i ≤ 1 := by have e := h 113 i; rw [ar_113] at e; exact e
theorem au_113 {A : Nat → Nat → Int} {i : Nat} {z : Int} (h : AQ A) (h1 : 0 ≤ z) (h2 : z ≤ 1) : AQ (up2 A 113 i z) := h.up (by rw [ar_113]; exact h1) (by rw [ar_113]; exact h2)
theorem ar_114 : arn 114 = ((-128), 127) := by decide +kernel
theorem a_114 {A : Nat → Nat → Int} (h : AQ A) (i : Nat) : (-128) ≤ A 114 i ∧ A 114 i ≤ 127 := by have e := h 114 i; rw [ar_114] at e; exact e
theorem au_114 {A : Nat → Nat → Int} {i : Nat} {z : Int} (h : AQ A) (h1 : (-128) ≤ z) (h2 : z ≤ 127) : AQ (up2 A 114 i z) := h.up (by rw [ar_114]; exact h1) (by rw [ar_114]; exact h2)
theorem ar_115 : arn 115 = (0, 200) := by decide +kernel
theorem a_115 {A : Nat → Nat → Int} (h : AQ A) (i : Nat) : 0 ≤ A 115 i ∧ A 115 i ≤ 200 := by have e := h 115 i; rw [ar_115] at e; exact e
theorem au_115 {A : Nat → Nat → Int} {i : Nat} {z : Int} (h : AQ A) (h1 : 0 ≤ z) (h2 : z ≤ 200) : AQ (up2 A 115 i z) := h.up (by rw [ar_115]; exact h1) (by rw [ar_115]; exact h2)
theorem ar_116 : arn 116 = (0, 12) := by decide +kernel
theorem a_116 {A : Nat → Nat → Int} (h : AQ A) (i : Nat) : 0 ≤ A 116 i ∧ A 116 i ≤ 12 := by have e := h 116 i; rw [ar_116] at e; exact e
theorem au_116 {A : Nat → Nat → Int} {i : Nat} {z : Int} (h : AQ A) (h1 : 0 ≤ z) (h2 : z ≤ 12) : AQ (up2 A 116 i z) := h.up (by rw [ar_116]; exact h1) (by rw [ar_116]; exact h2)
theorem ar_117 : arn 117 = (0, 1) := by decide +kernel
theorem a_117 {A : Nat → Nat → Int} (h : AQ A) (i : Nat) : 0 ≤ A 117 i ∧ A 117 i ≤ 1 := by have e := h 117 i; rw [ar_117] at e; exact e
theorem au_117 {A : Nat → Nat → Int} {i : Nat} {z : Int} (h : AQ A) (h1 : 0 ≤ z) (h2 : z ≤ 1) : AQ (up2 A 117 i z) := h.up (by rw [ar_117]; exact h1) (by rw [ar_117]; exact h2)
theorem ar_118 : arn 118 = (0, 200) := by decide +kernel
theorem a_118 {A : Nat → Nat → Int} (h : AQ A) (i : Nat) : 0 ≤ A 118 i ∧ A 118 i ≤ 200 := by have e := h 118 i; rw [ar_118] at e; exact e
theorem au_118 {A : Nat → Nat → Int} {i : Nat} {z : Int} (h : AQ A) (h1 : 0 ≤ z) (h2 : z ≤ 200) : AQ (up2 A 118 i z) := h.up (by rw [ar_118]; exact h1) (by rw [ar_118]; exact h2)
theorem ar_119 : arn 119 = (0, 12) := by decide +kernel
theorem a_119 {A : Nat → Nat → Int} (h : AQ A) (i : Nat) : 0 ≤ A 119 i ∧ A 119 i ≤ 12 := by have e := h 119 i; rw [ar_119] at e; exact e
theorem au_119 {A : Nat → Nat → Int} {i : Nat} {z : Int} (h : AQ A) (h1 : 0 ≤ z) (h2 : z ≤ 12) : AQ (up2 A 119 i z) := h.up (by rw [ar_119]; exact h1) (by rw [ar_119]; exact h2)
theorem ar_120 : arn 120 = (0, 1) := by decide +kernel
theorem a_120 {A : Nat → Nat → Int} (h : AQ A) (i : Nat) : 0 ≤ A 120 i ∧ A 120 i ≤ 1 := by have e := h 120 i; rw [ar_120] at e; exact e
theorem au_120 {A : Nat → Nat → Int} {i : Nat} {z : Int} (h : AQ A) (h1 : 0 ≤ z) (h2 : z ≤ 1) : AQ (up2 A 120 i z) := h.up (by rw [ar_120]; exact h1) (by rw [ar_120]; exact h2)
theorem ar_121 : arn 121 = ((-128), 127) := by decide +kernel
theorem a_121 {A : Nat → Nat → Int} (h : AQ A) (i : Nat) : (-128) ≤ A 121 i ∧ A 121 i ≤ 127 := by have e := h 121 i; rw [ar_121] at e; exact e
theorem au_121 {A : Nat → Nat → Int} {i : Nat} {z : Int} (h : AQ A) (h1 : (-128) ≤ z) (h2 : z ≤ 127) : AQ (up2 A 121 i z) := h.up (by rw [ar_121]; exact h1) (by rw [ar_121]; exact h2)
theorem ar_122 : arn 122 = (0, 13) := by decide +kernel
theorem a_122 {A : Nat → Nat → Int} (h : AQ A) (i : Nat) : 0 ≤ A 122 i ∧ A 122 i ≤ 13 := by have e := h 122 i; rw [ar_122] at e; exact e
theorem au_122 {A : Nat → Nat → Int} {i : Nat} {z : Int} (h : AQ A) (h1 : 0 ≤ z) (h2 : z ≤ 13) : AQ (up2 A 122 i z) := h.up (by rw [ar_122]; exact h1) (by rw [ar_122]; exact h2)
theorem ar_123 : arn 123 = (0, 7) := by decide +kernel
theorem a_123 {A : Nat → Nat → Int} (h : AQ A) (i : Nat) : 0 ≤ A 123 i ∧ A 123 i ≤ 7 := by have e := h 123 i; rw [ar_123] at e; exact e
theorem au_123 {A : Nat → Nat → Int} {i : Nat} {z : Int} (h : AQ A) (h1 : 0 ≤ z) (h2 : z ≤ 7) : AQ (up2 A 123 i z) := h.up (by rw [ar_123]; exact h1) (by rw [ar_123]; exact h2)
theorem ar_124 : arn 124 = (0, 99) := by decide +kernel
theorem a_124 {A : Nat → Nat → Int} (h : AQ A) (i : Nat) : 0 ≤ A 124 i ∧ A 124 i ≤ 99 := by have e := h 124 i; rw [ar_124] at e; exact e
theorem au_124 {A : Nat → Nat → Int} {i : Nat} {z : Int} (h : AQ A) (h1 : 0 ≤ z) (h2 : z ≤ 99) : AQ (up2 A 124 i z) := h.up (by rw [ar_124]; exact h1) (by rw [ar_124]; exact h2)
theorem ar_125 : arn 125 = ((-1), 79) := by decide +kernel
theorem a_125 {A : Nat → Nat → Int} (h : AQ A) (i : Nat) : (-1) ≤ A 125 i ∧ A 125 i ≤ 79 := by have e := h 125 i; rw [ar_125] at e; exact e
theorem au_125 {A : Nat → Nat → Int} {i : Nat} {z : Int} (h : AQ A) (h1 : (-1) ≤ z) (h2 : z ≤ 79) : AQ (up2 A 125 i z) := h.up (by rw [ar_125]; exact h1) (by rw [ar_125]; exact h2)
theorem ar_126 : arn 126 = (0, 12) := by decide +kernel
theorem a_126 {A : Nat → Nat → Int} (h : AQ A) (i : Nat) : 0 ≤ A 126 i ∧ A 126 i ≤ 12 := by have e := h 126 i; rw [ar_126] at e; exact e
theorem au_126 {A : Nat → Nat → Int} {i : Nat} {z : Int} (h : AQ A) (h1 : 0 ≤ z) (h2 : z ≤ 12) : AQ (up2 A 126 i z) := h.up (by rw [ar_126]; exact h1) (by rw [ar_126]; exact h2)
theorem ar_127 : arn 127 = (0, 60) := by decide +kernel
theorem a_127 {A : Nat → Nat → Int} (h : AQ A) (i : Nat) : 0 ≤ A 127 i ∧ A 127 i ≤ 60 := by have e := h 127 i; rw [ar_127] at e; exact e
theorem au_127 {A : Nat → Nat → Int} {i : Nat} {z : Int} (h : AQ A) (h1 : 0 ≤ z) (h2 : z ≤ 60) : AQ (up2 A 127 i z) := h.up (by rw [ar_127]; exact h1) (by rw [ar_127]; exact h2)
theorem ar_128 : arn 128 = (0, 1000000) := by decide +kernel
theorem a_128 {A : Nat → Nat → Int} (h : AQ A) (i : Nat) : 0 ≤ A 128 i ∧ A 128 i ≤ 1000000 := by have e := h 128 i; rw [ar_128] at e; exact e
theorem au_128 {A : Nat → Nat → Int} {i : Nat} {z : Int} (h : AQ A) (h1 : 0 ≤ z) (h2 : z ≤ 1000000) : AQ (up2 A 128 i z) := h.up (by rw [ar_128]; exact h1) (by rw [ar_128]; exact h2)
theorem ar_129 : arn 129 = (0, 1000000) := by decide +kernel
theorem a_129 {A : Nat → Nat → Int} (h : AQ A) (i : Nat) : 0 ≤ A 129 i ∧ A 129 i ≤ 1000000 := by have e := h 129 i; rw [ar_129] at e; exact e
theorem au_129 {A : Nat → Nat → Int} {i : Nat} {z : Int} (h : AQ A) (h1 : 0 ≤ z) (h2 : z ≤ 1000000) : AQ (up2 A 129 i z) := h.up (by rw [ar_129]; exact h1) (by rw [ar_129]; exact h2)
theorem ar_130 : arn 130 = (0, 12) := by decide +kernel
theorem a_130 {A : Nat → Nat → Int} (h : AQ A) (i : Nat) : 0 ≤ A 130 i ∧ A 130 i ≤ 12 := by have e := h 130 i; rw [ar_130] at e; exact e
theorem au_130 {A : Nat → Nat → Int} {i : Nat} {z : Int} (h : AQ A) (h1 : 0 ≤ z) (h2 : z ≤ 12) : AQ (up2 A 130 i z) := h.up (by rw [ar_130]; exact h1) (by rw [ar_130]; exact h2)
theorem ar_132 : arn 132 = (0, 79) := by decide +kernel
theorem a_132 {A : Nat → Nat → Int} (h : AQ A) (i : Nat) : 0 ≤ A 132 i ∧ A 132 i ≤ 79 := by have e := h 132 i; rw [ar_132] at e; exact e
theorem au_132 {A : Nat → Nat → Int} {i : Nat} {z : Int} (h : AQ A) (h1 : 0 ≤ z) (h2 : z ≤ 79) : AQ (up2 A 132 i z) := h.up (by rw [ar_132]; exact h1) (by rw [ar_132]; exact h2)
theorem ar_133 : arn 133 = (0, 13) := by decide +kernel
theorem a_133 {A : Nat → Nat → Int} (h : AQ A) (i : Nat) : 0 ≤ A 133 i ∧ A 133 i ≤ 13 := by have e := h 133 i; rw [ar_133] at e; exact e
theorem au_133 {A : Nat → Nat → Int} {i : Nat} {z : Int} (h : AQ A) (h1 : 0 ≤ z) (h2 : z ≤ 13) : AQ (up2 A 133 i z) := h.up (by rw [ar_133]; exact h1) (by rw [ar_133]; exact h2)
theorem ar_134 : arn 134 = ((-2147483648), 2147483647) := by decide +kernel
theorem a_134 {A : Nat → Nat → Int} (h : AQ A) (i : Nat) : (-2147483648) ≤ A 134 i ∧ A 134 i ≤ 2147483647 := by have e := h 134 i; rw [ar_134] at e; exact e
theorem au_134 {A : Nat → Nat → Int} {i : Nat} {z : Int} (h : AQ A) (h1 : (-2147483648) ≤ z) (h2 : z ≤ 2147483647) : AQ (up2 A 134 i z) := h.up (by rw [ar_134]; exact h1) (by rw [ar_134]; exact h2)
theorem ar_135 : arn 135 = (0, 1) := by decide +kernel
theorem a_135 {A : Nat → Nat → Int} (h : AQ A) (i : Nat) : 0 ≤ A 135 i ∧ A 135 i ≤ 1 := by have e := h 135 i; rw [ar_135] at e; exact e
theorem au_135 {A : Nat → Nat → Int} {i : Nat} {z : Int} (h : AQ A) (h1 : 0 ≤ z) (h2 : z ≤ 1) : AQ (up2 A 135 i z) := h.up (by rw [ar_135]; exact h1) (by rw [ar_135]; exact h2)
theorem V_norm (z : Int) : V z = V (Int32.ofInt z).toInt := by
  show Value.int _ = Value.int _
  rw [← oI_of]
theorem x_rng (x : Int32) : -2147483648 ≤ x.toInt ∧ x.toInt < 2147483648 := by
  have h1 := Int32.le_toInt x
  have h2 := Int32.toInt_lt x
  omega
theorem n_rng (z : Int) : -2147483648 ≤ (Int32.ofInt z).toInt ∧ (Int32.ofInt z).toInt < 2147483648 := x_rng _
theorem nar_Z {z : Int} (h : z = 0 ∨ z = 1) : narrow .boolean (V z) = V z := by rcases h with rfl | rfl <;> rfl
theorem nar_C {z : Int} (h : 0 ≤ z ∧ z < 65536) : narrow .char (V z) = V z := by
  show Value.int (vp_nar .char (Int32.ofInt z)) = _
  rw [nar_c h.1 h.2]
theorem nar_B {z : Int} (h : -128 ≤ z ∧ z < 128) : narrow .byte (V z) = V z := by
  show Value.int (vp_nar .byte (Int32.ofInt z)) = _
  rw [nar_b h.1 h.2]
theorem lcmp_I (x y : Int64) : ∃ z : Int, lg_cmp x y = Int32.ofInt z ∧ (-1 ≤ z ∧ z ≤ 1 ∧ (z = 0 ↔ x = y)) := by
  unfold lg_cmp
  by_cases h1 : x > y
  · refine ⟨1, by rw [if_pos h1]; rfl, by decide, by decide, ⟨fun z => absurd z (by decide), fun z => ?_⟩⟩
    subst z
    rw [gt_iff_lt, Int64.lt_iff_toInt_lt] at h1
    omega
  · by_cases h2 : x = y
    · exact ⟨0, by rw [if_neg h1, if_pos h2]; rfl, by decide, by decide, ⟨fun _ => h2, fun _ => rfl⟩⟩
    · exact ⟨-1, by rw [if_neg h1, if_neg h2]; rfl, by decide, by decide, ⟨fun z => absurd z (by decide), fun z => absurd z h2⟩⟩
section RQ
variable {L : Nat} {xs : Nat → Int32} {mi pc : Nat} {l : AL} {st : List Value} {h : AH} {Q : Option Value → AH → Prop}
variable {ly : List LK} {F : Nat → Nat → Value} {G A : Nat → Nat → Int} {B : Nat → Nat → Int64}
theorem r_putIQ {i a ci k p : Nat} {z : Int} (hi : a_ins mi pc = some (.putfield i, (ci, k, p))) (hp : (pt mi ci k .int && isI ci k) = true) (hl : ly[a]? = some (.inl ci)) (kk : ∀ G1, G1 = up2 G a k z → Re L xs mi (pc + 3) l st (HP ly F G1 A B) Q) : Re L xs mi pc l (V z :: .ref a :: st) (HP ly F G A B) Q := r_putI hi hp hl (kk _ rfl)
theorem r_putZQ {i a ci k p : Nat} {z : Int} (hi : a_ins mi pc = some (.putfield i, (ci, k, p))) (hp : (pt mi ci k .boolean && isI ci k) = true) (hl : ly[a]? = some (.inl ci)) (hz : z = 0 ∨ z = 1) (kk : ∀ G1, G1 = up2 G a k z → Re L xs mi (pc + 3) l st (HP ly F G1 A B) Q) : Re L xs mi pc l (V z :: .ref a :: st) (HP ly F G A B) Q := r_putZ hi hp hl hz (kk _ rfl)
theorem r_putRQ {i a ci k p b : Nat} (hi : a_ins mi pc = some (.putfield i, (ci, k, p))) (hp : (ptR mi ci k && !isI ci k) = true) (hl : ly[a]? = some (.inl ci)) (kk : ∀ F1, F1 = up2 F a k (.ref b) → Re L xs mi (pc + 3) l st (HP ly F1 G A B) Q) : Re L xs mi pc l (.ref b :: .ref a :: st) (HP ly F G A B) Q := r_putR hi hp hl (kk _ rfl)
theorem r_putJQ {i a ci k p : Nat} {v : Int64} (hi : a_ins mi pc = some (.putfield i, (ci, k, p))) (hp : (pt mi ci k .long && !isI ci k) = true) (hl : ly[a]? = some (.inl ci)) (kk : ∀ F1, F1 = up2 F a k (.long v) → Re L xs mi (pc + 3) l st (HP ly F1 G A B) Q) : Re L xs mi pc l (.long v :: .ref a :: st) (HP ly F G A B) Q := r_putJ hi hp hl (kk _ rfl)
theorem r_iastQ {a n : Nat} {z v : Int} {r : AR} (hi : a_ins mi pc = some (.iastore, r)) (hl : ly[a]? = some (.inr (.int, n))) (hn : n < 2147483648) (h0 : 0 ≤ z) (h1 : z < n) (kk : ∀ A1, A1 = up2 A a z.toNat v → Re L xs mi (pc + 1) l st (HP ly F G A1 B) Q) : Re L xs mi pc l (V v :: V z :: .ref a :: st) (HP ly F G A B) Q := r_iast hi hl hn h0 h1 (kk _ rfl)
theorem r_castQ {a n : Nat} {z v : Int} {r : AR} (hi : a_ins mi pc = some (.castore, r)) (hl : ly[a]? = some (.inr (.char, n))) (hn : n < 2147483648) (h0 : 0 ≤ z) (h1 : z < n) (hv : 0 ≤ v ∧ v < 65536) (kk : ∀ A1, A1 = up2 A a z.toNat v → Re L xs mi (pc + 1) l st (HP ly F G A1 B) Q) : Re L xs mi pc l (V v :: V z :: .ref a :: st) (HP ly F G A B) Q := r_cast hi hl hn h0 h1 hv (kk _ rfl)
theorem r_bastQ {a n : Nat} {z v : Int} {r : AR} (hi : a_ins mi pc = some (.bastore, r)) (hl : ly[a]? = some (.inr (.byte, n))) (hn : n < 2147483648) (h0 : 0 ≤ z) (h1 : z < n) (hv : -128 ≤ v ∧ v < 128) (kk : ∀ A1, A1 = up2 A a z.toNat v → Re L xs mi (pc + 1) l st (HP ly F G A1 B) Q) : Re L xs mi pc l (V v :: V z :: .ref a :: st) (HP ly F G A B) Q := r_bast hi hl hn h0 h1 hv (kk _ rfl)
theorem r_zastQ {a n : Nat} {z v : Int} {r : AR} (hi : a_ins mi pc = some (.bastore, r)) (hl : ly[a]? = some (.inr (.boolean, n))) (hn : n < 2147483648) (h0 : 0 ≤ z) (h1 : z < n) (hv : v = 0 ∨ v = 1) (kk : ∀ A1, A1 = up2 A a z.toNat v → Re L xs mi (pc + 1) l st (HP ly F G A1 B) Q) : Re L xs mi pc l (V v :: V z :: .ref a :: st) (HP ly F G A B) Q := r_zast hi hl hn h0 h1 hv (kk _ rfl)
theorem r_lastQ {a n : Nat} {z : Int} {v : Int64} {r : AR} (hi : a_ins mi pc = some (.lastore, r)) (hl : ly[a]? = some (.inr (.long, n))) (hn : n < 2147483648) (h0 : 0 ≤ z) (h1 : z < n) (kk : ∀ B1, B1 = up2 B a z.toNat v → Re L xs mi (pc + 1) l st (HP ly F G A B1) Q) : Re L xs mi pc l (.long v :: V z :: .ref a :: st) (HP ly F G A B) Q := r_last hi hl hn h0 h1 (kk _ rfl)
theorem r_min {x : Nat} {a b : Int} {r : AR} (hi : a_ins mi pc = some (.invokestatic x, (5, 0, 2))) (hn : a_nt mi = true) (h1 : a_sum st ≤ 8) (ha : inR a) (hb : inR b) (kk : ∀ m, (m ≤ a ∧ m ≤ b ∧ (m = a ∨ m = b)) → Re L xs mi (pc + 3) l (V m :: st) h Q) : Re L xs mi pc l (V b :: V a :: st) h Q := by
  have hs : a_st L xs mi pc l (V b :: V a :: st) h (.invokestatic x) (5, 0, 2) = some (.inl (pc + 3, l, .int (if Int32.ofInt b < Int32.ofInt a then Int32.ofInt b else Int32.ofInt a) :: st, h)) := by
    unfold a_st
    dsimp only
    rw [if_neg (by decide), if_pos (by decide)]
    show (if a_nt mi = true ∧ a_sum st ≤ 8 then a_nx (pc + 3) l (.int (if Int32.ofInt b < Int32.ofInt a then Int32.ofInt b else Int32.ofInt a) :: st) h else none) = _
    rw [if_pos ⟨hn, h1⟩]
    rfl
  refine re_nx hi hs ?_
  by_cases c : b < a
  · rw [if_pos ((oI_lt hb ha).mpr c)]
    exact kk b ⟨by omega, by omega, Or.inr rfl⟩
  · rw [if_neg (fun e => c ((oI_lt hb ha).mp e))]
    exact kk a ⟨by omega, by omega, Or.inl rfl⟩
theorem r_max {x : Nat} {a b : Int} {r : AR} (hi : a_ins mi pc = some (.invokestatic x, (6, 0, 2))) (hn : a_nt mi = true) (h1 : a_sum st ≤ 8) (ha : inR a) (hb : inR b) (kk : ∀ m, (a ≤ m ∧ b ≤ m ∧ (m = a ∨ m = b)) → Re L xs mi (pc + 3) l (V m :: st) h Q) : Re L xs mi pc l (V b :: V a :: st) h Q := by
  have hs : a_st L xs mi pc l (V b :: V a :: st) h (.invokestatic x) (6, 0, 2) = some (.inl (pc + 3, l, .int (if Int32.ofInt a < Int32.ofInt b then Int32.ofInt b else Int32.ofInt a) :: st, h)) := by
    unfold a_st
    dsimp only
    rw [if_neg (by decide), if_pos (by decide)]
    show (if a_nt mi = true ∧ a_sum st ≤ 8 then a_nx (pc + 3) l (.int (if Int32.ofInt a < Int32.ofInt b then Int32.ofInt b else Int32.ofInt a) :: st) h else none) = _
    rw [if_pos ⟨hn, h1⟩]
    rfl
  refine re_nx hi hs ?_
  by_cases c : a < b
  · rw [if_pos ((oI_lt ha hb).mpr c)]
    exact kk b ⟨by omega, by omega, Or.inr rfl⟩
  · rw [if_neg (fun e => c ((oI_lt ha hb).mp e))]
    exact kk a ⟨by omega, by omega, Or.inl rfl⟩
theorem r_obj {x a : Nat} (hi : a_ins mi pc = some (.invokespecial x, (4, 0, 0))) (hn : a_nt mi = true) (h1 : a_sum st ≤ 8) (kk : Re L xs mi (pc + 3) l st h Q) : Re L xs mi pc l (.ref a :: st) h Q := by
  refine re_nx hi ?_ kk
  unfold a_st
  dsimp only
  rw [if_neg (by decide), if_pos (by decide)]
  show (if a_nt mi = true ∧ a_sum st ≤ 8 then a_nx (pc + 3) l st h else none) = _
  rw [if_pos ⟨hn, h1⟩]
  rfl
theorem r_tabO {z d lo hi' : Int} {offs : Array Int} {t : Nat} {r : AR} (hi : a_ins mi pc = some (.tableswitch d lo hi' offs, r)) (ht : (pc : Int) + d = (t : Int)) (hz : inR z) (hc : z < lo ∨ hi' < z) (kk : Re L xs mi t l st h Q) : Re L xs mi pc l (V z :: st) h Q := by
  refine re_nx hi ?_ kk
  unfold a_st
  dsimp only
  rw [oI hz, if_pos hc]
  unfold a_go
  rw [if_pos (by omega), ht]
  rfl
theorem r_tabI {z d lo hi' off : Int} {offs : Array Int} {t : Nat} {r : AR} (hi : a_ins mi pc = some (.tableswitch d lo hi' offs, r)) (hz : inR z) (hc : ¬ (z < lo ∨ hi' < z)) (ho : offs[(z - lo).toNat]? = some off) (ht : (pc : Int) + off = (t : Int)) (kk : Re L xs mi t l st h Q) : Re L xs mi pc l (V z :: st) h Q := by
  refine re_nx hi ?_ kk
  unfold a_st
  dsimp only
  rw [oI hz, if_neg hc, ho]
  dsimp only
  unfold a_go
  rw [if_pos (by omega), ht]
  rfl
end RQ
