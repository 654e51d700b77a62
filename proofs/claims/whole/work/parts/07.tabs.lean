def zNM : List (Nat × Nat × MethodName) := [(7, 65, mN mX10_within), (2, 24, mN mX9_init), (3, 11, mN mX9_init), (3, 23, mN mX4_init), (10, 9, mN mX8_init), (10, 18, mN mX7_init), (10, 25, mN mX6_init), (10, 48, mN mX9_init), (10, 61, mN mX4_init), (10, 81, mN mX0_init), (10, 96, mN mX3_init)]
def zNF : List (Nat × String × String) := [(288, "made", "Z"), (291, "now", "LEdgeWalk$World;"), (292, "told", "LEdgeWalk$World;"), (293, "notes", "LEdgeWalk$Notes;"), (297, "inForce", "I"), (298, "x", "I")]
def zTF_p (e : Nat × Nat × Nat × Nat × Int × Nat) : Prop := ∃ C T N ty, vwCl[e.2.2.1]? = some (C, T, N) ∧ e.2.2.2.1 < N ∧ parseFieldDescriptor (T e.2.2.2.1).2.2.1 = some ty ∧ zTy e.2.2.2.2.1 ty ∧ (T e.2.2.2.1).1 = C ∧ ((T e.2.2.2.1).2.2.2 = (e.2.2.2.2.2 % 2 == 1)) ∧ (e.2.2.2.2.2 = 1 → zNm e.1 = C) ∧ (((e.2.2.2.2.2 < 2 ∨ e.2.2.2.2.2 = 5) ∧ Cond.fieldLink (zNm e.1) e.2.1 C (T e.2.2.2.1).2.1 (T e.2.2.2.1).2.2.1 ∈ zW) ∨ ((e.2.2.2.2.2 = 2 ∨ e.2.2.2.2.2 = 7) ∧ e.1 = 10 ∧ C = RX3 ∧ (e.2.1, (T e.2.2.2.1).2.1, (T e.2.2.2.1).2.2.1) ∈ zNF))
def zTF : List (Nat × Nat × Nat × Nat × Int × Nat) := [(0, 7, 0, 0, 2, 0), (2, 13, 1, 0, 3, 1), (2, 17, 1, 1, 0, 0), (2, 21, 1, 2, 0, 0), (3, 12, 2, 0, 3, 1), (3, 18, 2, 1, 3, 1), (3, 24, 2, 2, 3, 1), (3, 28, 2, 3, 1, 0), (3, 32, 2, 4, 0, 0), (3, 36, 2, 5, 0, 0), (4, 11, 3, 0, 3, 1), (4, 15, 3, 1, 3, 1), (4, 18, 3, 2, 3, 1), (4, 21, 3, 3, 0, 0), (5, 9, 4, 1, 3, 1), (5, 24, 4, 0, 3, 1), (6, 9, 5, 0, 3, 1), (6, 15, 5, 1, 0, 0), (6, 19, 5, 2, 3, 1), (6, 22, 5, 3, 0, 0), (6, 25, 5, 4, 0, 0), (6, 28, 5, 5, 0, 0), (6, 31, 5, 6, 0, 0), (6, 34, 5, 7, 0, 0), (6, 37, 5, 8, 0, 0), (6, 40, 5, 9, 1, 0), (6, 44, 5, 10, 1, 0), (7, 9, 6, 0, 3, 1), (8, 9, 7, 0, 3, 1), (8, 15, 7, 1, 0, 0), (8, 19, 7, 2, 0, 0), (8, 22, 7, 3, 0, 0), (8, 25, 7, 4, 0, 0), (8, 28, 7, 5, 0, 0), (9, 11, 8, 0, 3, 1), (9, 15, 8, 1, 0, 0), (10, 10, 9, 0, 3, 1), (10, 19, 9, 1, 3, 1), (10, 26, 9, 2, 3, 1), (10, 32, 9, 3, 3, 1), (10, 36, 9, 4, 0, 0), (10, 40, 9, 5, 0, 0), (10, 43, 9, 6, 0, 0), (10, 49, 9, 7, 3, 1), (10, 53, 9, 8, 3, 1), (10, 56, 9, 9, 3, 1), (10, 62, 9, 10, 3, 1), (10, 69, 9, 11, 3, 1), (10, 75, 9, 12, 3, 1), (10, 82, 9, 13, 3, 1), (10, 86, 9, 14, 3, 1), (10, 90, 9, 15, 3, 1), (10, 93, 9, 16, 3, 1), (10, 288, 2, 3, 1, 2), (10, 291, 2, 0, 3, 7), (10, 292, 2, 1, 3, 7), (10, 293, 2, 2, 3, 7), (10, 297, 2, 4, 0, 2), (10, 298, 2, 5, 0, 2), (11, 7, 10, 0, 3, 1), (11, 13, 10, 3, 3, 1), (11, 17, 10, 4, 3, 1), (11, 20, 10, 5, 3, 1), (11, 23, 10, 6, 3, 1), (11, 26, 10, 7, 3, 1), (11, 29, 10, 15, 3, 1), (11, 32, 10, 17, 3, 1), (11, 36, 10, 19, 3, 1), (11, 39, 10, 20, 3, 1), (11, 42, 10, 21, 0, 0), (11, 46, 10, 23, 3, 1), (11, 49, 10, 25, 3, 1), (11, 52, 10, 26, 3, 1), (11, 55, 10, 27, 3, 1), (11, 59, 10, 28, 3, 1), (11, 62, 10, 32, 3, 1), (11, 65, 10, 33, 3, 1), (11, 68, 10, 34, 3, 1), (11, 71, 10, 35, 3, 1), (11, 74, 10, 37, 3, 1), (11, 77, 10, 38, 3, 1), (11, 80, 10, 39, 3, 1), (11, 83, 10, 40, 3, 1), (11, 86, 10, 1, 0, 0), (11, 93, 10, 9, 0, 0), (11, 96, 10, 8, 0, 0), (11, 121, 10, 10, 0, 0), (11, 150, 10, 11, 0, 0), (11, 153, 10, 12, 0, 0), (11, 156, 10, 13, 0, 0), (11, 159, 10, 16, 0, 0), (11, 250, 10, 14, 0, 0), (11, 262, 10, 2, 0, 0), (11, 271, 10, 24, 0, 0), (11, 274, 10, 18, 0, 0), (11, 396, 10, 29, 0, 0), (11, 399, 10, 30, 0, 0), (11, 402, 10, 31, 0, 0), (11, 443, 10, 22, 0, 0), (11, 446, 10, 36, 2, 0)]
theorem zTF_0 : zTF_p (0, 7, 0, 0, 2, 0) := ⟨RX0, TX0, 1, .long, rfl, by decide, by decide +kernel, Or.inr (Or.inr (Or.inl ⟨rfl, rfl⟩)), rfl, rfl, fun h => absurd h (by decide), Or.inl ⟨by decide, zW_1 (i := 165) rfl rfl⟩⟩
theorem zTF_1 : zTF_p (2, 13, 1, 0, 3, 1) := ⟨RX2, TX2, 3, .array (.object "EdgeWalk$World"), rfl, by decide, by decide +kernel, Or.inr (Or.inr (Or.inr ⟨rfl, Or.inr ⟨_, rfl⟩⟩)), rfl, rfl, fun _ => rfl, Or.inl ⟨by decide, zW_1 (i := 147) rfl rfl⟩⟩
theorem zTF_2 : zTF_p (2, 17, 1, 1, 0, 0) := ⟨RX2, TX2, 3, .int, rfl, by decide, by decide +kernel, Or.inl ⟨rfl, rfl⟩, rfl, rfl, fun h => absurd h (by decide), Or.inl ⟨by decide, zW_1 (i := 148) rfl rfl⟩⟩
theorem zTF_3 : zTF_p (2, 21, 1, 2, 0, 0) := ⟨RX2, TX2, 3, .int, rfl, by decide, by decide +kernel, Or.inl ⟨rfl, rfl⟩, rfl, rfl, fun h => absurd h (by decide), Or.inl ⟨by decide, zW_1 (i := 149) rfl rfl⟩⟩
theorem zTF_4 : zTF_p (3, 12, 2, 0, 3, 1) := ⟨RX3, TX3, 6, .object "EdgeWalk$World", rfl, by decide, by decide +kernel, Or.inr (Or.inr (Or.inr ⟨rfl, Or.inl ⟨_, rfl⟩⟩)), rfl, rfl, fun _ => rfl, Or.inl ⟨by decide, zW_1 (i := 178) rfl rfl⟩⟩
theorem zTF_5 : zTF_p (3, 18, 2, 1, 3, 1) := ⟨RX3, TX3, 6, .object "EdgeWalk$World", rfl, by decide, by decide +kernel, Or.inr (Or.inr (Or.inr ⟨rfl, Or.inl ⟨_, rfl⟩⟩)), rfl, rfl, fun _ => rfl, Or.inl ⟨by decide, zW_1 (i := 180) rfl rfl⟩⟩
theorem zTF_6 : zTF_p (3, 24, 2, 2, 3, 1) := ⟨RX3, TX3, 6, .object "EdgeWalk$Notes", rfl, by decide, by decide +kernel, Or.inr (Or.inr (Or.inr ⟨rfl, Or.inl ⟨_, rfl⟩⟩)), rfl, rfl, fun _ => rfl, Or.inl ⟨by decide, zW_1 (i := 182) rfl rfl⟩⟩
theorem zTF_7 : zTF_p (3, 28, 2, 3, 1, 0) := ⟨RX3, TX3, 6, .boolean, rfl, by decide, by decide +kernel, Or.inr (Or.inl ⟨rfl, rfl⟩), rfl, rfl, fun h => absurd h (by decide), Or.inl ⟨by decide, zW_1 (i := 184) rfl rfl⟩⟩
theorem zTF_8 : zTF_p (3, 32, 2, 4, 0, 0) := ⟨RX3, TX3, 6, .int, rfl, by decide, by decide +kernel, Or.inl ⟨rfl, rfl⟩, rfl, rfl, fun h => absurd h (by decide), Or.inl ⟨by decide, zW_1 (i := 186) rfl rfl⟩⟩
theorem zTF_9 : zTF_p (3, 36, 2, 5, 0, 0) := ⟨RX3, TX3, 6, .int, rfl, by decide, by decide +kernel, Or.inl ⟨rfl, rfl⟩, rfl, rfl, fun h => absurd h (by decide), Or.inl ⟨by decide, zW_1 (i := 188) rfl rfl⟩⟩
theorem zTF_10 : zTF_p (4, 11, 3, 0, 3, 1) := ⟨RX4, TX4, 4, .array (.int), rfl, by decide, by decide +kernel, Or.inr (Or.inr (Or.inr ⟨rfl, Or.inr ⟨_, rfl⟩⟩)), rfl, rfl, fun _ => rfl, Or.inl ⟨by decide, zW_1 (i := 125) rfl rfl⟩⟩
theorem zTF_11 : zTF_p (4, 15, 3, 1, 3, 1) := ⟨RX4, TX4, 4, .array (.int), rfl, by decide, by decide +kernel, Or.inr (Or.inr (Or.inr ⟨rfl, Or.inr ⟨_, rfl⟩⟩)), rfl, rfl, fun _ => rfl, Or.inl ⟨by decide, zW_1 (i := 126) rfl rfl⟩⟩
theorem zTF_12 : zTF_p (4, 18, 3, 2, 3, 1) := ⟨RX4, TX4, 4, .array (.int), rfl, by decide, by decide +kernel, Or.inr (Or.inr (Or.inr ⟨rfl, Or.inr ⟨_, rfl⟩⟩)), rfl, rfl, fun _ => rfl, Or.inl ⟨by decide, zW_1 (i := 127) rfl rfl⟩⟩
theorem zTF_13 : zTF_p (4, 21, 3, 3, 0, 0) := ⟨RX4, TX4, 4, .int, rfl, by decide, by decide +kernel, Or.inl ⟨rfl, rfl⟩, rfl, rfl, fun h => absurd h (by decide), Or.inl ⟨by decide, zW_1 (i := 128) rfl rfl⟩⟩
theorem zTF_14 : zTF_p (5, 9, 4, 1, 3, 1) := ⟨RX5, TX5, 2, .array (.long), rfl, by decide, by decide +kernel, Or.inr (Or.inr (Or.inr ⟨rfl, Or.inr ⟨_, rfl⟩⟩)), rfl, rfl, fun _ => rfl, Or.inl ⟨by decide, zW_3 (i := 61) rfl rfl⟩⟩
theorem zTF_15 : zTF_p (5, 24, 4, 0, 3, 1) := ⟨RX5, TX5, 2, .array (.int), rfl, by decide, by decide +kernel, Or.inr (Or.inr (Or.inr ⟨rfl, Or.inr ⟨_, rfl⟩⟩)), rfl, rfl, fun _ => rfl, Or.inl ⟨by decide, zW_3 (i := 60) rfl rfl⟩⟩
theorem zTF_16 : zTF_p (6, 9, 5, 0, 3, 1) := ⟨RX6, TX6, 11, .array (.int), rfl, by decide, by decide +kernel, Or.inr (Or.inr (Or.inr ⟨rfl, Or.inr ⟨_, rfl⟩⟩)), rfl, rfl, fun _ => rfl, Or.inl ⟨by decide, zW_1 (i := 70) rfl rfl⟩⟩
theorem zTF_17 : zTF_p (6, 15, 5, 1, 0, 0) := ⟨RX6, TX6, 11, .int, rfl, by decide, by decide +kernel, Or.inl ⟨rfl, rfl⟩, rfl, rfl, fun h => absurd h (by decide), Or.inl ⟨by decide, zW_1 (i := 71) rfl rfl⟩⟩
theorem zTF_18 : zTF_p (6, 19, 5, 2, 3, 1) := ⟨RX6, TX6, 11, .array (.int), rfl, by decide, by decide +kernel, Or.inr (Or.inr (Or.inr ⟨rfl, Or.inr ⟨_, rfl⟩⟩)), rfl, rfl, fun _ => rfl, Or.inl ⟨by decide, zW_1 (i := 72) rfl rfl⟩⟩
theorem zTF_19 : zTF_p (6, 22, 5, 3, 0, 0) := ⟨RX6, TX6, 11, .int, rfl, by decide, by decide +kernel, Or.inl ⟨rfl, rfl⟩, rfl, rfl, fun h => absurd h (by decide), Or.inl ⟨by decide, zW_1 (i := 73) rfl rfl⟩⟩
theorem zTF_20 : zTF_p (6, 25, 5, 4, 0, 0) := ⟨RX6, TX6, 11, .int, rfl, by decide, by decide +kernel, Or.inl ⟨rfl, rfl⟩, rfl, rfl, fun h => absurd h (by decide), Or.inl ⟨by decide, zW_1 (i := 74) rfl rfl⟩⟩
theorem zTF_21 : zTF_p (6, 28, 5, 5, 0, 0) := ⟨RX6, TX6, 11, .int, rfl, by decide, by decide +kernel, Or.inl ⟨rfl, rfl⟩, rfl, rfl, fun h => absurd h (by decide), Or.inl ⟨by decide, zW_1 (i := 75) rfl rfl⟩⟩
theorem zTF_22 : zTF_p (6, 31, 5, 6, 0, 0) := ⟨RX6, TX6, 11, .int, rfl, by decide, by decide +kernel, Or.inl ⟨rfl, rfl⟩, rfl, rfl, fun h => absurd h (by decide), Or.inl ⟨by decide, zW_1 (i := 76) rfl rfl⟩⟩
theorem zTF_23 : zTF_p (6, 34, 5, 7, 0, 0) := ⟨RX6, TX6, 11, .int, rfl, by decide, by decide +kernel, Or.inl ⟨rfl, rfl⟩, rfl, rfl, fun h => absurd h (by decide), Or.inl ⟨by decide, zW_1 (i := 77) rfl rfl⟩⟩
theorem zTF_24 : zTF_p (6, 37, 5, 8, 0, 0) := ⟨RX6, TX6, 11, .int, rfl, by decide, by decide +kernel, Or.inl ⟨rfl, rfl⟩, rfl, rfl, fun h => absurd h (by decide), Or.inl ⟨by decide, zW_1 (i := 78) rfl rfl⟩⟩
theorem zTF_25 : zTF_p (6, 40, 5, 9, 1, 0) := ⟨RX6, TX6, 11, .boolean, rfl, by decide, by decide +kernel, Or.inr (Or.inl ⟨rfl, rfl⟩), rfl, rfl, fun h => absurd h (by decide), Or.inl ⟨by decide, zW_1 (i := 79) rfl rfl⟩⟩
theorem zTF_26 : zTF_p (6, 44, 5, 10, 1, 0) := ⟨RX6, TX6, 11, .boolean, rfl, by decide, by decide +kernel, Or.inr (Or.inl ⟨rfl, rfl⟩), rfl, rfl, fun h => absurd h (by decide), Or.inl ⟨by decide, zW_1 (i := 80) rfl rfl⟩⟩
theorem zTF_27 : zTF_p (7, 9, 6, 0, 3, 1) := ⟨RX7, TX7, 1, .array (.int), rfl, by decide, by decide +kernel, Or.inr (Or.inr (Or.inr ⟨rfl, Or.inr ⟨_, rfl⟩⟩)), rfl, rfl, fun _ => rfl, Or.inl ⟨by decide, zW_1 (i := 60) rfl rfl⟩⟩
theorem zTF_28 : zTF_p (8, 9, 7, 0, 3, 1) := ⟨RX8, TX8, 6, .array (.int), rfl, by decide, by decide +kernel, Or.inr (Or.inr (Or.inr ⟨rfl, Or.inr ⟨_, rfl⟩⟩)), rfl, rfl, fun _ => rfl, Or.inl ⟨by decide, zW_1 (i := 34) rfl rfl⟩⟩
theorem zTF_29 : zTF_p (8, 15, 7, 1, 0, 0) := ⟨RX8, TX8, 6, .int, rfl, by decide, by decide +kernel, Or.inl ⟨rfl, rfl⟩, rfl, rfl, fun h => absurd h (by decide), Or.inl ⟨by decide, zW_1 (i := 35) rfl rfl⟩⟩
theorem zTF_30 : zTF_p (8, 19, 7, 2, 0, 0) := ⟨RX8, TX8, 6, .int, rfl, by decide, by decide +kernel, Or.inl ⟨rfl, rfl⟩, rfl, rfl, fun h => absurd h (by decide), Or.inl ⟨by decide, zW_1 (i := 36) rfl rfl⟩⟩
theorem zTF_31 : zTF_p (8, 22, 7, 3, 0, 0) := ⟨RX8, TX8, 6, .int, rfl, by decide, by decide +kernel, Or.inl ⟨rfl, rfl⟩, rfl, rfl, fun h => absurd h (by decide), Or.inl ⟨by decide, zW_1 (i := 37) rfl rfl⟩⟩
theorem zTF_32 : zTF_p (8, 25, 7, 4, 0, 0) := ⟨RX8, TX8, 6, .int, rfl, by decide, by decide +kernel, Or.inl ⟨rfl, rfl⟩, rfl, rfl, fun h => absurd h (by decide), Or.inl ⟨by decide, zW_1 (i := 38) rfl rfl⟩⟩
theorem zTF_33 : zTF_p (8, 28, 7, 5, 0, 0) := ⟨RX8, TX8, 6, .int, rfl, by decide, by decide +kernel, Or.inl ⟨rfl, rfl⟩, rfl, rfl, fun h => absurd h (by decide), Or.inl ⟨by decide, zW_1 (i := 39) rfl rfl⟩⟩
theorem zTF_34 : zTF_p (9, 11, 8, 0, 3, 1) := ⟨RX9, TX9, 2, .array (.int), rfl, by decide, by decide +kernel, Or.inr (Or.inr (Or.inr ⟨rfl, Or.inr ⟨_, rfl⟩⟩)), rfl, rfl, fun _ => rfl, Or.inl ⟨by decide, zW_1 (i := 112) rfl rfl⟩⟩
theorem zTF_35 : zTF_p (9, 15, 8, 1, 0, 0) := ⟨RX9, TX9, 2, .int, rfl, by decide, by decide +kernel, Or.inl ⟨rfl, rfl⟩, rfl, rfl, fun h => absurd h (by decide), Or.inl ⟨by decide, zW_1 (i := 113) rfl rfl⟩⟩
theorem zTF_36 : zTF_p (10, 10, 9, 0, 3, 1) := ⟨RX10, TX10, 17, .object "EdgeWalk$Text", rfl, by decide, by decide +kernel, Or.inr (Or.inr (Or.inr ⟨rfl, Or.inl ⟨_, rfl⟩⟩)), rfl, rfl, fun _ => rfl, Or.inl ⟨by decide, zW_1 (i := 203) rfl rfl⟩⟩
theorem zTF_37 : zTF_p (10, 19, 9, 1, 3, 1) := ⟨RX10, TX10, 17, .object "EdgeWalk$SheetReader", rfl, by decide, by decide +kernel, Or.inr (Or.inr (Or.inr ⟨rfl, Or.inl ⟨_, rfl⟩⟩)), rfl, rfl, fun _ => rfl, Or.inl ⟨by decide, zW_1 (i := 204) rfl rfl⟩⟩
theorem zTF_38 : zTF_p (10, 26, 9, 2, 3, 1) := ⟨RX10, TX10, 17, .object "EdgeWalk$RuleReader", rfl, by decide, by decide +kernel, Or.inr (Or.inr (Or.inr ⟨rfl, Or.inl ⟨_, rfl⟩⟩)), rfl, rfl, fun _ => rfl, Or.inl ⟨by decide, zW_1 (i := 205) rfl rfl⟩⟩
theorem zTF_39 : zTF_p (10, 32, 9, 3, 3, 1) := ⟨RX10, TX10, 17, .array (.object "EdgeWalk$Rule"), rfl, by decide, by decide +kernel, Or.inr (Or.inr (Or.inr ⟨rfl, Or.inr ⟨_, rfl⟩⟩)), rfl, rfl, fun _ => rfl, Or.inl ⟨by decide, zW_1 (i := 206) rfl rfl⟩⟩
theorem zTF_40 : zTF_p (10, 36, 9, 4, 0, 0) := ⟨RX10, TX10, 17, .int, rfl, by decide, by decide +kernel, Or.inl ⟨rfl, rfl⟩, rfl, rfl, fun h => absurd h (by decide), Or.inl ⟨by decide, zW_1 (i := 207) rfl rfl⟩⟩
theorem zTF_41 : zTF_p (10, 40, 9, 5, 0, 0) := ⟨RX10, TX10, 17, .int, rfl, by decide, by decide +kernel, Or.inl ⟨rfl, rfl⟩, rfl, rfl, fun h => absurd h (by decide), Or.inl ⟨by decide, zW_1 (i := 208) rfl rfl⟩⟩
theorem zTF_42 : zTF_p (10, 43, 9, 6, 0, 0) := ⟨RX10, TX10, 17, .int, rfl, by decide, by decide +kernel, Or.inl ⟨rfl, rfl⟩, rfl, rfl, fun h => absurd h (by decide), Or.inl ⟨by decide, zW_1 (i := 209) rfl rfl⟩⟩
theorem zTF_43 : zTF_p (10, 49, 9, 7, 3, 1) := ⟨RX10, TX10, 17, .object "EdgeWalk$World", rfl, by decide, by decide +kernel, Or.inr (Or.inr (Or.inr ⟨rfl, Or.inl ⟨_, rfl⟩⟩)), rfl, rfl, fun _ => rfl, Or.inl ⟨by decide, zW_1 (i := 210) rfl rfl⟩⟩
theorem zTF_44 : zTF_p (10, 53, 9, 8, 3, 1) := ⟨RX10, TX10, 17, .object "EdgeWalk$World", rfl, by decide, by decide +kernel, Or.inr (Or.inr (Or.inr ⟨rfl, Or.inl ⟨_, rfl⟩⟩)), rfl, rfl, fun _ => rfl, Or.inl ⟨by decide, zW_1 (i := 211) rfl rfl⟩⟩
theorem zTF_45 : zTF_p (10, 56, 9, 9, 3, 1) := ⟨RX10, TX10, 17, .object "EdgeWalk$World", rfl, by decide, by decide +kernel, Or.inr (Or.inr (Or.inr ⟨rfl, Or.inl ⟨_, rfl⟩⟩)), rfl, rfl, fun _ => rfl, Or.inl ⟨by decide, zW_1 (i := 212) rfl rfl⟩⟩
theorem zTF_46 : zTF_p (10, 62, 9, 10, 3, 1) := ⟨RX10, TX10, 17, .object "EdgeWalk$Notes", rfl, by decide, by decide +kernel, Or.inr (Or.inr (Or.inr ⟨rfl, Or.inl ⟨_, rfl⟩⟩)), rfl, rfl, fun _ => rfl, Or.inl ⟨by decide, zW_1 (i := 213) rfl rfl⟩⟩
theorem zTF_47 : zTF_p (10, 69, 9, 11, 3, 1) := ⟨RX10, TX10, 17, .object "EdgeWalk$History", rfl, by decide, by decide +kernel, Or.inr (Or.inr (Or.inr ⟨rfl, Or.inl ⟨_, rfl⟩⟩)), rfl, rfl, fun _ => rfl, Or.inl ⟨by decide, zW_1 (i := 214) rfl rfl⟩⟩
theorem zTF_48 : zTF_p (10, 75, 9, 12, 3, 1) := ⟨RX10, TX10, 17, .array (.object "EdgeWalk$Image"), rfl, by decide, by decide +kernel, Or.inr (Or.inr (Or.inr ⟨rfl, Or.inr ⟨_, rfl⟩⟩)), rfl, rfl, fun _ => rfl, Or.inl ⟨by decide, zW_1 (i := 215) rfl rfl⟩⟩
theorem zTF_49 : zTF_p (10, 82, 9, 13, 3, 1) := ⟨RX10, TX10, 17, .object "EdgeWalk$Draws", rfl, by decide, by decide +kernel, Or.inr (Or.inr (Or.inr ⟨rfl, Or.inl ⟨_, rfl⟩⟩)), rfl, rfl, fun _ => rfl, Or.inl ⟨by decide, zW_1 (i := 216) rfl rfl⟩⟩
theorem zTF_50 : zTF_p (10, 86, 9, 14, 3, 1) := ⟨RX10, TX10, 17, .array (.int), rfl, by decide, by decide +kernel, Or.inr (Or.inr (Or.inr ⟨rfl, Or.inr ⟨_, rfl⟩⟩)), rfl, rfl, fun _ => rfl, Or.inl ⟨by decide, zW_1 (i := 217) rfl rfl⟩⟩
theorem zTF_51 : zTF_p (10, 90, 9, 15, 3, 1) := ⟨RX10, TX10, 17, .array (.int), rfl, by decide, by decide +kernel, Or.inr (Or.inr (Or.inr ⟨rfl, Or.inr ⟨_, rfl⟩⟩)), rfl, rfl, fun _ => rfl, Or.inl ⟨by decide, zW_1 (i := 218) rfl rfl⟩⟩
theorem zTF_52 : zTF_p (10, 93, 9, 16, 3, 1) := ⟨RX10, TX10, 17, .array (.int), rfl, by decide, by decide +kernel, Or.inr (Or.inr (Or.inr ⟨rfl, Or.inr ⟨_, rfl⟩⟩)), rfl, rfl, fun _ => rfl, Or.inl ⟨by decide, zW_1 (i := 219) rfl rfl⟩⟩
theorem zTF_53 : zTF_p (10, 288, 2, 3, 1, 2) := ⟨RX3, TX3, 6, .boolean, rfl, by decide, by decide +kernel, Or.inr (Or.inl ⟨rfl, rfl⟩), rfl, rfl, fun h => absurd h (by decide), Or.inr ⟨by decide, rfl, rfl, List.mem_of_getElem? (i := 0) rfl⟩⟩
theorem zTF_54 : zTF_p (10, 291, 2, 0, 3, 7) := ⟨RX3, TX3, 6, .object "EdgeWalk$World", rfl, by decide, by decide +kernel, Or.inr (Or.inr (Or.inr ⟨rfl, Or.inl ⟨_, rfl⟩⟩)), rfl, rfl, fun h => absurd h (by decide), Or.inr ⟨by decide, rfl, rfl, List.mem_of_getElem? (i := 1) rfl⟩⟩
theorem zTF_55 : zTF_p (10, 292, 2, 1, 3, 7) := ⟨RX3, TX3, 6, .object "EdgeWalk$World", rfl, by decide, by decide +kernel, Or.inr (Or.inr (Or.inr ⟨rfl, Or.inl ⟨_, rfl⟩⟩)), rfl, rfl, fun h => absurd h (by decide), Or.inr ⟨by decide, rfl, rfl, List.mem_of_getElem? (i := 2) rfl⟩⟩
theorem zTF_56 : zTF_p (10, 293, 2, 2, 3, 7) := ⟨RX3, TX3, 6, .object "EdgeWalk$Notes", rfl, by decide, by decide +kernel, Or.inr (Or.inr (Or.inr ⟨rfl, Or.inl ⟨_, rfl⟩⟩)), rfl, rfl, fun h => absurd h (by decide), Or.inr ⟨by decide, rfl, rfl, List.mem_of_getElem? (i := 3) rfl⟩⟩
theorem zTF_57 : zTF_p (10, 297, 2, 4, 0, 2) := ⟨RX3, TX3, 6, .int, rfl, by decide, by decide +kernel, Or.inl ⟨rfl, rfl⟩, rfl, rfl, fun h => absurd h (by decide), Or.inr ⟨by decide, rfl, rfl, List.mem_of_getElem? (i := 4) rfl⟩⟩
theorem zTF_58 : zTF_p (10, 298, 2, 5, 0, 2) := ⟨RX3, TX3, 6, .int, rfl, by decide, by decide +kernel, Or.inl ⟨rfl, rfl⟩, rfl, rfl, fun h => absurd h (by decide), Or.inr ⟨by decide, rfl, rfl, List.mem_of_getElem? (i := 5) rfl⟩⟩
theorem zTF_59 : zTF_p (11, 7, 10, 0, 3, 1) := ⟨RX11, TX11, 41, .array (.byte), rfl, by decide, by decide +kernel, Or.inr (Or.inr (Or.inr ⟨rfl, Or.inr ⟨_, rfl⟩⟩)), rfl, rfl, fun _ => rfl, Or.inl ⟨by decide, zW_5 (i := 6) rfl rfl⟩⟩
theorem zTF_60 : zTF_p (11, 13, 10, 3, 3, 1) := ⟨RX11, TX11, 41, .array (.int), rfl, by decide, by decide +kernel, Or.inr (Or.inr (Or.inr ⟨rfl, Or.inr ⟨_, rfl⟩⟩)), rfl, rfl, fun _ => rfl, Or.inl ⟨by decide, zW_5 (i := 9) rfl rfl⟩⟩
theorem zTF_61 : zTF_p (11, 17, 10, 4, 3, 1) := ⟨RX11, TX11, 41, .array (.int), rfl, by decide, by decide +kernel, Or.inr (Or.inr (Or.inr ⟨rfl, Or.inr ⟨_, rfl⟩⟩)), rfl, rfl, fun _ => rfl, Or.inl ⟨by decide, zW_5 (i := 10) rfl rfl⟩⟩
theorem zTF_62 : zTF_p (11, 20, 10, 5, 3, 1) := ⟨RX11, TX11, 41, .array (.int), rfl, by decide, by decide +kernel, Or.inr (Or.inr (Or.inr ⟨rfl, Or.inr ⟨_, rfl⟩⟩)), rfl, rfl, fun _ => rfl, Or.inl ⟨by decide, zW_5 (i := 11) rfl rfl⟩⟩
theorem zTF_63 : zTF_p (11, 23, 10, 6, 3, 1) := ⟨RX11, TX11, 41, .array (.int), rfl, by decide, by decide +kernel, Or.inr (Or.inr (Or.inr ⟨rfl, Or.inr ⟨_, rfl⟩⟩)), rfl, rfl, fun _ => rfl, Or.inl ⟨by decide, zW_5 (i := 12) rfl rfl⟩⟩
theorem zTF_64 : zTF_p (11, 26, 10, 7, 3, 1) := ⟨RX11, TX11, 41, .array (.int), rfl, by decide, by decide +kernel, Or.inr (Or.inr (Or.inr ⟨rfl, Or.inr ⟨_, rfl⟩⟩)), rfl, rfl, fun _ => rfl, Or.inl ⟨by decide, zW_5 (i := 13) rfl rfl⟩⟩
theorem zTF_65 : zTF_p (11, 29, 10, 15, 3, 1) := ⟨RX11, TX11, 41, .array (.int), rfl, by decide, by decide +kernel, Or.inr (Or.inr (Or.inr ⟨rfl, Or.inr ⟨_, rfl⟩⟩)), rfl, rfl, fun _ => rfl, Or.inl ⟨by decide, zW_5 (i := 21) rfl rfl⟩⟩
theorem zTF_66 : zTF_p (11, 32, 10, 17, 3, 1) := ⟨RX11, TX11, 41, .array (.long), rfl, by decide, by decide +kernel, Or.inr (Or.inr (Or.inr ⟨rfl, Or.inr ⟨_, rfl⟩⟩)), rfl, rfl, fun _ => rfl, Or.inl ⟨by decide, zW_5 (i := 23) rfl rfl⟩⟩
theorem zTF_67 : zTF_p (11, 36, 10, 19, 3, 1) := ⟨RX11, TX11, 41, .array (.long), rfl, by decide, by decide +kernel, Or.inr (Or.inr (Or.inr ⟨rfl, Or.inr ⟨_, rfl⟩⟩)), rfl, rfl, fun _ => rfl, Or.inl ⟨by decide, zW_5 (i := 25) rfl rfl⟩⟩
theorem zTF_68 : zTF_p (11, 39, 10, 20, 3, 1) := ⟨RX11, TX11, 41, .array (.int), rfl, by decide, by decide +kernel, Or.inr (Or.inr (Or.inr ⟨rfl, Or.inr ⟨_, rfl⟩⟩)), rfl, rfl, fun _ => rfl, Or.inl ⟨by decide, zW_5 (i := 26) rfl rfl⟩⟩
theorem zTF_69 : zTF_p (11, 42, 10, 21, 0, 0) := ⟨RX11, TX11, 41, .int, rfl, by decide, by decide +kernel, Or.inl ⟨rfl, rfl⟩, rfl, rfl, fun h => absurd h (by decide), Or.inl ⟨by decide, zW_5 (i := 27) rfl rfl⟩⟩
theorem zTF_70 : zTF_p (11, 46, 10, 23, 3, 1) := ⟨RX11, TX11, 41, .array (.int), rfl, by decide, by decide +kernel, Or.inr (Or.inr (Or.inr ⟨rfl, Or.inr ⟨_, rfl⟩⟩)), rfl, rfl, fun _ => rfl, Or.inl ⟨by decide, zW_5 (i := 29) rfl rfl⟩⟩
theorem zTF_71 : zTF_p (11, 49, 10, 25, 3, 1) := ⟨RX11, TX11, 41, .array (.int), rfl, by decide, by decide +kernel, Or.inr (Or.inr (Or.inr ⟨rfl, Or.inr ⟨_, rfl⟩⟩)), rfl, rfl, fun _ => rfl, Or.inl ⟨by decide, zW_5 (i := 31) rfl rfl⟩⟩
theorem zTF_72 : zTF_p (11, 52, 10, 26, 3, 1) := ⟨RX11, TX11, 41, .array (.int), rfl, by decide, by decide +kernel, Or.inr (Or.inr (Or.inr ⟨rfl, Or.inr ⟨_, rfl⟩⟩)), rfl, rfl, fun _ => rfl, Or.inl ⟨by decide, zW_5 (i := 32) rfl rfl⟩⟩
theorem zTF_73 : zTF_p (11, 55, 10, 27, 3, 1) := ⟨RX11, TX11, 41, .array (.boolean), rfl, by decide, by decide +kernel, Or.inr (Or.inr (Or.inr ⟨rfl, Or.inr ⟨_, rfl⟩⟩)), rfl, rfl, fun _ => rfl, Or.inl ⟨by decide, zW_5 (i := 33) rfl rfl⟩⟩
theorem zTF_74 : zTF_p (11, 59, 10, 28, 3, 1) := ⟨RX11, TX11, 41, .array (.int), rfl, by decide, by decide +kernel, Or.inr (Or.inr (Or.inr ⟨rfl, Or.inr ⟨_, rfl⟩⟩)), rfl, rfl, fun _ => rfl, Or.inl ⟨by decide, zW_5 (i := 34) rfl rfl⟩⟩
theorem zTF_75 : zTF_p (11, 62, 10, 32, 3, 1) := ⟨RX11, TX11, 41, .array (.int), rfl, by decide, by decide +kernel, Or.inr (Or.inr (Or.inr ⟨rfl, Or.inr ⟨_, rfl⟩⟩)), rfl, rfl, fun _ => rfl, Or.inl ⟨by decide, zW_5 (i := 38) rfl rfl⟩⟩
theorem zTF_76 : zTF_p (11, 65, 10, 33, 3, 1) := ⟨RX11, TX11, 41, .array (.int), rfl, by decide, by decide +kernel, Or.inr (Or.inr (Or.inr ⟨rfl, Or.inr ⟨_, rfl⟩⟩)), rfl, rfl, fun _ => rfl, Or.inl ⟨by decide, zW_5 (i := 39) rfl rfl⟩⟩
theorem zTF_77 : zTF_p (11, 68, 10, 34, 3, 1) := ⟨RX11, TX11, 41, .array (.boolean), rfl, by decide, by decide +kernel, Or.inr (Or.inr (Or.inr ⟨rfl, Or.inr ⟨_, rfl⟩⟩)), rfl, rfl, fun _ => rfl, Or.inl ⟨by decide, zW_5 (i := 40) rfl rfl⟩⟩
theorem zTF_78 : zTF_p (11, 71, 10, 35, 3, 1) := ⟨RX11, TX11, 41, .array (.int), rfl, by decide, by decide +kernel, Or.inr (Or.inr (Or.inr ⟨rfl, Or.inr ⟨_, rfl⟩⟩)), rfl, rfl, fun _ => rfl, Or.inl ⟨by decide, zW_5 (i := 41) rfl rfl⟩⟩
theorem zTF_79 : zTF_p (11, 74, 10, 37, 3, 1) := ⟨RX11, TX11, 41, .array (.int), rfl, by decide, by decide +kernel, Or.inr (Or.inr (Or.inr ⟨rfl, Or.inr ⟨_, rfl⟩⟩)), rfl, rfl, fun _ => rfl, Or.inl ⟨by decide, zW_5 (i := 43) rfl rfl⟩⟩
theorem zTF_80 : zTF_p (11, 77, 10, 38, 3, 1) := ⟨RX11, TX11, 41, .array (.int), rfl, by decide, by decide +kernel, Or.inr (Or.inr (Or.inr ⟨rfl, Or.inr ⟨_, rfl⟩⟩)), rfl, rfl, fun _ => rfl, Or.inl ⟨by decide, zW_5 (i := 44) rfl rfl⟩⟩
theorem zTF_81 : zTF_p (11, 80, 10, 39, 3, 1) := ⟨RX11, TX11, 41, .array (.int), rfl, by decide, by decide +kernel, Or.inr (Or.inr (Or.inr ⟨rfl, Or.inr ⟨_, rfl⟩⟩)), rfl, rfl, fun _ => rfl, Or.inl ⟨by decide, zW_5 (i := 45) rfl rfl⟩⟩
theorem zTF_82 : zTF_p (11, 83, 10, 40, 3, 1) := ⟨RX11, TX11, 41, .array (.boolean), rfl, by decide, by decide +kernel, Or.inr (Or.inr (Or.inr ⟨rfl, Or.inr ⟨_, rfl⟩⟩)), rfl, rfl, fun _ => rfl, Or.inl ⟨by decide, zW_5 (i := 46) rfl rfl⟩⟩
theorem zTF_83 : zTF_p (11, 86, 10, 1, 0, 0) := ⟨RX11, TX11, 41, .int, rfl, by decide, by decide +kernel, Or.inl ⟨rfl, rfl⟩, rfl, rfl, fun h => absurd h (by decide), Or.inl ⟨by decide, zW_5 (i := 7) rfl rfl⟩⟩
theorem zTF_84 : zTF_p (11, 93, 10, 9, 0, 0) := ⟨RX11, TX11, 41, .int, rfl, by decide, by decide +kernel, Or.inl ⟨rfl, rfl⟩, rfl, rfl, fun h => absurd h (by decide), Or.inl ⟨by decide, zW_5 (i := 15) rfl rfl⟩⟩
theorem zTF_85 : zTF_p (11, 96, 10, 8, 0, 0) := ⟨RX11, TX11, 41, .int, rfl, by decide, by decide +kernel, Or.inl ⟨rfl, rfl⟩, rfl, rfl, fun h => absurd h (by decide), Or.inl ⟨by decide, zW_5 (i := 14) rfl rfl⟩⟩
theorem zTF_86 : zTF_p (11, 121, 10, 10, 0, 0) := ⟨RX11, TX11, 41, .int, rfl, by decide, by decide +kernel, Or.inl ⟨rfl, rfl⟩, rfl, rfl, fun h => absurd h (by decide), Or.inl ⟨by decide, zW_5 (i := 16) rfl rfl⟩⟩
theorem zTF_87 : zTF_p (11, 150, 10, 11, 0, 0) := ⟨RX11, TX11, 41, .int, rfl, by decide, by decide +kernel, Or.inl ⟨rfl, rfl⟩, rfl, rfl, fun h => absurd h (by decide), Or.inl ⟨by decide, zW_5 (i := 17) rfl rfl⟩⟩
theorem zTF_88 : zTF_p (11, 153, 10, 12, 0, 0) := ⟨RX11, TX11, 41, .int, rfl, by decide, by decide +kernel, Or.inl ⟨rfl, rfl⟩, rfl, rfl, fun h => absurd h (by decide), Or.inl ⟨by decide, zW_5 (i := 18) rfl rfl⟩⟩
theorem zTF_89 : zTF_p (11, 156, 10, 13, 0, 0) := ⟨RX11, TX11, 41, .int, rfl, by decide, by decide +kernel, Or.inl ⟨rfl, rfl⟩, rfl, rfl, fun h => absurd h (by decide), Or.inl ⟨by decide, zW_5 (i := 19) rfl rfl⟩⟩
theorem zTF_90 : zTF_p (11, 159, 10, 16, 0, 0) := ⟨RX11, TX11, 41, .int, rfl, by decide, by decide +kernel, Or.inl ⟨rfl, rfl⟩, rfl, rfl, fun h => absurd h (by decide), Or.inl ⟨by decide, zW_5 (i := 22) rfl rfl⟩⟩
theorem zTF_91 : zTF_p (11, 250, 10, 14, 0, 0) := ⟨RX11, TX11, 41, .int, rfl, by decide, by decide +kernel, Or.inl ⟨rfl, rfl⟩, rfl, rfl, fun h => absurd h (by decide), Or.inl ⟨by decide, zW_5 (i := 20) rfl rfl⟩⟩
theorem zTF_92 : zTF_p (11, 262, 10, 2, 0, 0) := ⟨RX11, TX11, 41, .int, rfl, by decide, by decide +kernel, Or.inl ⟨rfl, rfl⟩, rfl, rfl, fun h => absurd h (by decide), Or.inl ⟨by decide, zW_5 (i := 8) rfl rfl⟩⟩
theorem zTF_93 : zTF_p (11, 271, 10, 24, 0, 0) := ⟨RX11, TX11, 41, .int, rfl, by decide, by decide +kernel, Or.inl ⟨rfl, rfl⟩, rfl, rfl, fun h => absurd h (by decide), Or.inl ⟨by decide, zW_5 (i := 30) rfl rfl⟩⟩
theorem zTF_94 : zTF_p (11, 274, 10, 18, 0, 0) := ⟨RX11, TX11, 41, .int, rfl, by decide, by decide +kernel, Or.inl ⟨rfl, rfl⟩, rfl, rfl, fun h => absurd h (by decide), Or.inl ⟨by decide, zW_5 (i := 24) rfl rfl⟩⟩
theorem zTF_95 : zTF_p (11, 396, 10, 29, 0, 0) := ⟨RX11, TX11, 41, .int, rfl, by decide, by decide +kernel, Or.inl ⟨rfl, rfl⟩, rfl, rfl, fun h => absurd h (by decide), Or.inl ⟨by decide, zW_5 (i := 35) rfl rfl⟩⟩
theorem zTF_96 : zTF_p (11, 399, 10, 30, 0, 0) := ⟨RX11, TX11, 41, .int, rfl, by decide, by decide +kernel, Or.inl ⟨rfl, rfl⟩, rfl, rfl, fun h => absurd h (by decide), Or.inl ⟨by decide, zW_5 (i := 36) rfl rfl⟩⟩
theorem zTF_97 : zTF_p (11, 402, 10, 31, 0, 0) := ⟨RX11, TX11, 41, .int, rfl, by decide, by decide +kernel, Or.inl ⟨rfl, rfl⟩, rfl, rfl, fun h => absurd h (by decide), Or.inl ⟨by decide, zW_5 (i := 37) rfl rfl⟩⟩
theorem zTF_98 : zTF_p (11, 443, 10, 22, 0, 0) := ⟨RX11, TX11, 41, .int, rfl, by decide, by decide +kernel, Or.inl ⟨rfl, rfl⟩, rfl, rfl, fun h => absurd h (by decide), Or.inl ⟨by decide, zW_5 (i := 28) rfl rfl⟩⟩
theorem zTF_99 : zTF_p (11, 446, 10, 36, 2, 0) := ⟨RX11, TX11, 41, .long, rfl, by decide, by decide +kernel, Or.inr (Or.inr (Or.inl ⟨rfl, rfl⟩)), rfl, rfl, fun h => absurd h (by decide), Or.inl ⟨by decide, zW_5 (i := 42) rfl rfl⟩⟩
set_option maxRecDepth 100000 in
theorem zTF_ok : ∀ e ∈ zTF, zTF_p e := List.forall_mem_cons.mpr ⟨zTF_0, List.forall_mem_cons.mpr ⟨zTF_1, List.forall_mem_cons.mpr ⟨zTF_2, List.forall_mem_cons.mpr ⟨zTF_3, List.forall_mem_cons.mpr ⟨zTF_4, List.forall_mem_cons.mpr ⟨zTF_5, List.forall_mem_cons.mpr ⟨zTF_6, List.forall_mem_cons.mpr ⟨zTF_7, List.forall_mem_cons.mpr ⟨zTF_8, List.forall_mem_cons.mpr ⟨zTF_9, List.forall_mem_cons.mpr ⟨zTF_10, List.forall_mem_cons.mpr ⟨zTF_11, List.forall_mem_cons.mpr ⟨zTF_12, List.forall_mem_cons.mpr ⟨zTF_13, List.forall_mem_cons.mpr ⟨zTF_14, List.forall_mem_cons.mpr ⟨zTF_15, List.forall_mem_cons.mpr ⟨zTF_16, List.forall_mem_cons.mpr ⟨zTF_17, List.forall_mem_cons.mpr ⟨zTF_18, List.forall_mem_cons.mpr ⟨zTF_19, List.forall_mem_cons.mpr ⟨zTF_20, List.forall_mem_cons.mpr ⟨zTF_21, List.forall_mem_cons.mpr ⟨zTF_22, List.forall_mem_cons.mpr ⟨zTF_23, List.forall_mem_cons.mpr ⟨zTF_24, List.forall_mem_cons.mpr ⟨zTF_25, List.forall_mem_cons.mpr ⟨zTF_26, List.forall_mem_cons.mpr ⟨zTF_27, List.forall_mem_cons.mpr ⟨zTF_28, List.forall_mem_cons.mpr ⟨zTF_29, List.forall_mem_cons.mpr ⟨zTF_30, List.forall_mem_cons.mpr ⟨zTF_31, List.forall_mem_cons.mpr ⟨zTF_32, List.forall_mem_cons.mpr ⟨zTF_33, List.forall_mem_cons.mpr ⟨zTF_34, List.forall_mem_cons.mpr ⟨zTF_35, List.forall_mem_cons.mpr ⟨zTF_36, List.forall_mem_cons.mpr ⟨zTF_37, List.forall_mem_cons.mpr ⟨zTF_38, List.forall_mem_cons.mpr ⟨zTF_39, List.forall_mem_cons.mpr ⟨zTF_40, List.forall_mem_cons.mpr ⟨zTF_41, List.forall_mem_cons.mpr ⟨zTF_42, List.forall_mem_cons.mpr ⟨zTF_43, List.forall_mem_cons.mpr ⟨zTF_44, List.forall_mem_cons.mpr ⟨zTF_45, List.forall_mem_cons.mpr ⟨zTF_46, List.forall_mem_cons.mpr ⟨zTF_47, List.forall_mem_cons.mpr ⟨zTF_48, List.forall_mem_cons.mpr ⟨zTF_49, List.forall_mem_cons.mpr ⟨zTF_50, List.forall_mem_cons.mpr ⟨zTF_51, List.forall_mem_cons.mpr ⟨zTF_52, List.forall_mem_cons.mpr ⟨zTF_53, List.forall_mem_cons.mpr ⟨zTF_54, List.forall_mem_cons.mpr ⟨zTF_55, List.forall_mem_cons.mpr ⟨zTF_56, List.forall_mem_cons.mpr ⟨zTF_57, List.forall_mem_cons.mpr ⟨zTF_58, List.forall_mem_cons.mpr ⟨zTF_59, List.forall_mem_cons.mpr ⟨zTF_60, List.forall_mem_cons.mpr ⟨zTF_61, List.forall_mem_cons.mpr ⟨zTF_62, List.forall_mem_cons.mpr ⟨zTF_63, List.forall_mem_cons.mpr ⟨zTF_64, List.forall_mem_cons.mpr ⟨zTF_65, List.forall_mem_cons.mpr ⟨zTF_66, List.forall_mem_cons.mpr ⟨zTF_67, List.forall_mem_cons.mpr ⟨zTF_68, List.forall_mem_cons.mpr ⟨zTF_69, List.forall_mem_cons.mpr ⟨zTF_70, List.forall_mem_cons.mpr ⟨zTF_71, List.forall_mem_cons.mpr ⟨zTF_72, List.forall_mem_cons.mpr ⟨zTF_73, List.forall_mem_cons.mpr ⟨zTF_74, List.forall_mem_cons.mpr ⟨zTF_75, List.forall_mem_cons.mpr ⟨zTF_76, List.forall_mem_cons.mpr ⟨zTF_77, List.forall_mem_cons.mpr ⟨zTF_78, List.forall_mem_cons.mpr ⟨zTF_79, List.forall_mem_cons.mpr ⟨zTF_80, List.forall_mem_cons.mpr ⟨zTF_81, List.forall_mem_cons.mpr ⟨zTF_82, List.forall_mem_cons.mpr ⟨zTF_83, List.forall_mem_cons.mpr ⟨zTF_84, List.forall_mem_cons.mpr ⟨zTF_85, List.forall_mem_cons.mpr ⟨zTF_86, List.forall_mem_cons.mpr ⟨zTF_87, List.forall_mem_cons.mpr ⟨zTF_88, List.forall_mem_cons.mpr ⟨zTF_89, List.forall_mem_cons.mpr ⟨zTF_90, List.forall_mem_cons.mpr ⟨zTF_91, List.forall_mem_cons.mpr ⟨zTF_92, List.forall_mem_cons.mpr ⟨zTF_93, List.forall_mem_cons.mpr ⟨zTF_94, List.forall_mem_cons.mpr ⟨zTF_95, List.forall_mem_cons.mpr ⟨zTF_96, List.forall_mem_cons.mpr ⟨zTF_97, List.forall_mem_cons.mpr ⟨zTF_98, List.forall_mem_cons.mpr ⟨zTF_99, fun _ h => absurd h List.not_mem_nil⟩⟩⟩⟩⟩⟩⟩⟩⟩⟩⟩⟩⟩⟩⟩⟩⟩⟩⟩⟩⟩⟩⟩⟩⟩⟩⟩⟩⟩⟩⟩⟩⟩⟩⟩⟩⟩⟩⟩⟩⟩⟩⟩⟩⟩⟩⟩⟩⟩⟩⟩⟩⟩⟩⟩⟩⟩⟩⟩⟩⟩⟩⟩⟩⟩⟩⟩⟩⟩⟩⟩⟩⟩⟩⟩⟩⟩⟩⟩⟩⟩⟩⟩⟩⟩⟩⟩⟩⟩⟩⟩⟩⟩⟩⟩⟩⟩⟩⟩⟩
def zTV_p (e : Nat × Nat × Nat × zMd) : Prop := zMok e.2.2.2 ∧ (∃ T N, vwCl[e.2.2.1]? = some ((mN e.2.2.2).cls, T, N)) ∧ Cond.methodLink (zNm e.1) e.2.1 (mN e.2.2.2) ∈ zW ∧ Cond.instanceMethod (mN e.2.2.2) ∈ zW ∧ Cond.selects (mN e.2.2.2).cls (mN e.2.2.2) (mN e.2.2.2) ∈ zW
def zTV : List (Nat × Nat × Nat × zMd) := [(2, 25, 8, mX9_copyFrom), (4, 37, 3, mX4_holdAt), (4, 41, 8, mX9_pass), (4, 47, 8, mX9_of), (5, 30, 4, mX5_negate), (5, 34, 4, mX5_combine), (5, 38, 8, mX9_wordOf), (6, 47, 7, mX8_rewind), (6, 52, 7, mX8_next), (6, 55, 5, mX6_take), (6, 61, 7, mX8_faultOf), (6, 65, 7, mX8_kind), (6, 74, 5, mX6_takeTurn), (6, 77, 5, mX6_takeValue), (6, 80, 5, mX6_takeFact), (6, 83, 5, mX6_takeBehindValue), (6, 86, 5, mX6_takeBehindFact), (6, 91, 7, mX8_wordIn), (6, 97, 7, mX8_value), (6, 100, 5, mX6_order), (6, 104, 5, mX6_partCounted), (6, 109, 5, mX6_await), (6, 118, 5, mX6_settle), (6, 121, 5, mX6_takeBehindTurn), (6, 126, 5, mX6_takeEnd), (7, 15, 8, mX9_clear), (7, 20, 7, mX8_rewind), (7, 25, 7, mX8_next), (7, 30, 7, mX8_wordIn), (7, 40, 6, mX7_readNumbers), (7, 44, 7, mX8_faultOf), (7, 48, 6, mX7_take), (7, 52, 7, mX8_kind), (7, 56, 8, mX9_get), (7, 59, 7, mX8_value), (7, 69, 8, mX9_cells), (7, 72, 8, mX9_set), (7, 76, 8, mX9_addGoer), (8, 31, 7, mX8_byteAt), (8, 39, 7, mX8_readNumber), (8, 45, 7, mX8_readWord), (8, 48, 7, mX8_readSign), (8, 61, 7, mX8_isWord), (9, 25, 8, mX9_set), (9, 29, 8, mX9_get), (9, 33, 8, mX9_put), (9, 37, 8, mX9_of), (9, 41, 8, mX9_columnOf), (9, 44, 8, mX9_rowOf), (9, 47, 4, mX5_quarters), (9, 53, 8, mX9_goOn), (9, 57, 8, mX9_bideOut), (9, 60, 8, mX9_nextCell), (9, 63, 8, mX9_placeOf), (9, 66, 8, mX9_hasStone), (9, 70, 8, mX9_comeIn), (9, 73, 8, mX9_cellAt), (9, 81, 8, mX9_margin), (9, 84, 8, mX9_othersIn), (10, 97, 7, mX8_hasRoom), (10, 101, 7, mX8_append), (10, 105, 7, mX8_length), (10, 113, 7, mX8_cutTo), (10, 116, 6, mX7_read), (10, 120, 8, mX9_copyFrom), (10, 124, 3, mX4_clear), (10, 127, 1, mX2_clear), (10, 128, 9, mX10_goers), (10, 131, 5, mX6_read), (10, 134, 5, mX6_made), (10, 138, 9, mX10_isGoer), (10, 141, 8, mX9_of), (10, 145, 9, mX10_hasSheet), (10, 152, 8, mX9_get), (10, 156, 9, mX10_isCell), (10, 159, 1, mX2_keep), (10, 162, 9, mX10_ruleInForce), (10, 165, 8, mX9_pass), (10, 169, 8, mX9_bitsOf), (10, 177, 8, mX9_put), (10, 181, 9, mX10_isOn), (10, 184, 8, mX9_turnStone), (10, 187, 8, mX9_set), (10, 191, 1, mX2_goBack), (10, 195, 9, mX10_restart), (10, 198, 9, mX10_walkOn), (10, 202, 8, mX9_isOn), (10, 203, 9, mX10_findWaysFrom), (10, 212, 9, mX10_countOut), (10, 215, 9, mX10_costBehind), (10, 224, 8, mX9_cells), (10, 227, 9, mX10_countOn), (10, 231, 9, mX10_isRest), (10, 234, 9, mX10_trackAll), (10, 237, 9, mX10_sameTrack), (10, 241, 9, mX10_hungerOf), (10, 244, 3, mX4_isFull), (10, 247, 3, mX4_add), (10, 250, 3, mX4_size), (10, 253, 9, mX10_rightlyRuled), (10, 256, 9, mX10_trackFitting), (10, 259, 9, mX10_mostAlike), (10, 262, 9, mX10_rightlyFolded), (10, 265, 9, mX10_behindAllLike), (10, 271, 0, mX0_begin), (10, 274, 9, mX10_gust), (10, 281, 8, mX9_foodOfAll), (10, 284, 8, mX9_stones), (10, 287, 1, mX2_size), (10, 294, 3, mX4_copyFrom), (10, 299, 9, mX10_ruleOf), (10, 303, 9, mX10_spreadFrom), (10, 306, 8, mX9_nextCell), (10, 309, 8, mX9_placeOf), (10, 312, 8, mX9_cellAt), (10, 315, 8, mX9_hasStone), (10, 318, 8, mX9_whereabouts), (10, 321, 3, mX4_holdFrom), (10, 328, 8, mX9_lastUsed), (10, 331, 0, mX0_draw), (11, 89, 10, mX11_four), (11, 99, 10, mX11_see), (11, 103, 10, mX11_isLetter), (11, 107, 10, mX11_isWord), (11, 111, 10, mX11_passWord), (11, 114, 10, mX11_isDigit), (11, 117, 10, mX11_fails), (11, 166, 10, mX11_puts), (11, 171, 10, mX11_numberHere), (11, 174, 10, mX11_makes), (11, 177, 10, mX11_wordHere), (11, 180, 10, mX11_value), (11, 184, 10, mX11_term), (11, 187, 10, mX11_sum), (11, 192, 10, mX11_opens), (11, 195, 10, mX11_compare), (11, 198, 10, mX11_layDown), (11, 201, 10, mX11_isInside), (11, 204, 10, mX11_fact), (11, 207, 10, mX11_closes), (11, 216, 10, mX11_takesWord), (11, 219, 10, mX11_tested), (11, 222, 10, mX11_cellHere), (11, 226, 10, mX11_lastCell), (11, 231, 10, mX11_isSheetHere), (11, 234, 10, mX11_isGoerHere), (11, 239, 10, mX11_isJoinHere), (11, 242, 10, mX11_isStoneHere), (11, 245, 10, mX11_isSheetWord), (11, 253, 10, mX11_sheetLineHere), (11, 256, 10, mX11_isTurnHere), (11, 259, 10, mX11_clauseHere), (11, 265, 10, mX11_readsAll), (11, 268, 10, mX11_begins), (11, 277, 10, mX11_push), (11, 281, 10, mX11_pop), (11, 289, 10, mX11_cells), (11, 292, 10, mX11_isSheet), (11, 297, 10, mX11_statusOf), (11, 300, 10, mX11_foodOf), (11, 303, 10, mX11_marginOf), (11, 307, 10, mX11_isRule), (11, 310, 10, mX11_isGoer), (11, 313, 10, mX11_isOn), (11, 316, 10, mX11_cellOf), (11, 319, 10, mX11_facesOf), (11, 322, 10, mX11_isEdge), (11, 325, 10, mX11_isCell), (11, 328, 10, mX11_reckons), (11, 332, 10, mX11_nextOf), (11, 335, 10, mX11_isStone), (11, 338, 10, mX11_summedBy), (11, 342, 10, mX11_quartersOf), (11, 345, 10, mX11_placeAlong), (11, 348, 10, mX11_cellAt), (11, 351, 10, mX11_comesOn), (11, 354, 10, mX11_walks), (11, 357, 10, mX11_goesOut), (11, 360, 10, mX11_passes), (11, 363, 10, mX11_keepsAct), (11, 366, 10, mX11_onesWhoAre), (11, 375, 10, mX11_keeps), (11, 378, 10, mX11_passesAll), (11, 381, 10, mX11_laysBack), (11, 384, 10, mX11_nears), (11, 387, 10, mX11_goesFrom), (11, 393, 10, mX11_foodAll), (11, 407, 10, mX11_weighs), (11, 410, 10, mX11_isRest), (11, 413, 10, mX11_whereOf), (11, 416, 10, mX11_areAlike), (11, 421, 10, mX11_shortOf), (11, 426, 10, mX11_cellOn), (11, 429, 10, mX11_areNotesSo), (11, 432, 10, mX11_areAllSo), (11, 435, 10, mX11_fillsFits), (11, 438, 10, mX11_alikeAt), (11, 458, 10, mX11_draw), (11, 463, 10, mX11_blows), (12, 13, 9, mX10_feed), (12, 17, 10, mX11_feed), (12, 18, 9, mX10_end), (12, 22, 10, mX11_end), (12, 23, 9, mX10_sheet), (12, 27, 10, mX11_sheet), (12, 28, 9, mX10_rule), (12, 31, 10, mX11_rule), (12, 32, 9, mX10_force), (12, 35, 10, mX11_force), (12, 36, 9, mX10_goer), (12, 40, 10, mX11_goer), (12, 41, 9, mX10_join), (12, 44, 10, mX11_join), (12, 45, 9, mX10_stoneIn), (12, 48, 10, mX11_stoneIn), (12, 49, 9, mX10_step), (12, 52, 10, mX11_step), (12, 53, 9, mX10_give), (12, 56, 10, mX11_give), (12, 57, 9, mX10_way), (12, 60, 10, mX11_way), (12, 61, 9, mX10_stone), (12, 64, 10, mX11_stone), (12, 65, 9, mX10_fold), (12, 68, 10, mX11_fold), (12, 69, 9, mX10_undo), (12, 72, 10, mX11_undo), (12, 73, 9, mX10_ahead), (12, 77, 10, mX11_ahead), (12, 78, 9, mX10_home), (12, 81, 10, mX11_home), (12, 82, 9, mX10_gone), (12, 85, 10, mX11_gone), (12, 86, 9, mX10_leastFood), (12, 89, 10, mX11_leastFood), (12, 90, 9, mX10_meet), (12, 93, 10, mX11_meet), (12, 94, 9, mX10_shortest), (12, 97, 10, mX11_shortest), (12, 98, 9, mX10_seen), (12, 101, 10, mX11_seen), (12, 102, 9, mX10_longest), (12, 105, 10, mX11_longest), (12, 106, 9, mX10_bestFold), (12, 109, 10, mX11_bestFold), (12, 110, 9, mX10_bestStone), (12, 113, 10, mX11_bestStone), (12, 114, 9, mX10_rests), (12, 118, 10, mX11_rests), (12, 119, 9, mX10_ring), (12, 122, 10, mX11_ring), (12, 123, 9, mX10_bread), (12, 126, 10, mX11_bread), (12, 127, 9, mX10_note), (12, 130, 10, mX11_note), (12, 131, 9, mX10_ruled), (12, 134, 10, mX11_ruled), (12, 135, 9, mX10_look), (12, 138, 10, mX11_look), (12, 139, 9, mX10_folds), (12, 142, 10, mX11_folds), (12, 143, 9, mX10_seed), (12, 146, 10, mX11_seed), (12, 147, 9, mX10_gusts), (12, 150, 10, mX11_gusts), (12, 151, 9, mX10_count), (12, 154, 10, mX11_count), (12, 155, 9, mX10_image), (12, 158, 10, mX11_image), (12, 159, 9, mX10_back), (12, 162, 10, mX11_back)]
theorem zVmX9_copyFrom : Cond.instanceMethod (mN mX9_copyFrom) ∈ zW ∧ Cond.selects (mN mX9_copyFrom).cls (mN mX9_copyFrom) (mN mX9_copyFrom) ∈ zW := ⟨zW_2 (i := 191) rfl rfl, zW_2 (i := 192) rfl rfl⟩
theorem zVmX4_holdAt : Cond.instanceMethod (mN mX4_holdAt) ∈ zW ∧ Cond.selects (mN mX4_holdAt).cls (mN mX4_holdAt) (mN mX4_holdAt) ∈ zW := ⟨zW_4 (i := 155) rfl rfl, zW_s (List.mem_of_getElem? (i := 44) rfl) rfl⟩
theorem zVmX9_pass : Cond.instanceMethod (mN mX9_pass) ∈ zW ∧ Cond.selects (mN mX9_pass).cls (mN mX9_pass) (mN mX9_pass) ∈ zW := ⟨zW_3 (i := 123) rfl rfl, zW_3 (i := 124) rfl rfl⟩
theorem zVmX9_of : Cond.instanceMethod (mN mX9_of) ∈ zW ∧ Cond.selects (mN mX9_of).cls (mN mX9_of) (mN mX9_of) ∈ zW := ⟨zW_3 (i := 81) rfl rfl, zW_3 (i := 82) rfl rfl⟩
theorem zVmX5_negate : Cond.instanceMethod (mN mX5_negate) ∈ zW ∧ Cond.selects (mN mX5_negate).cls (mN mX5_negate) (mN mX5_negate) ∈ zW := ⟨zW_3 (i := 134) rfl rfl, zW_s (List.mem_of_getElem? (i := 25) rfl) rfl⟩
theorem zVmX5_combine : Cond.instanceMethod (mN mX5_combine) ∈ zW ∧ Cond.selects (mN mX5_combine).cls (mN mX5_combine) (mN mX5_combine) ∈ zW := ⟨zW_3 (i := 138) rfl rfl, zW_s (List.mem_of_getElem? (i := 26) rfl) rfl⟩
theorem zVmX9_wordOf : Cond.instanceMethod (mN mX9_wordOf) ∈ zW ∧ Cond.selects (mN mX9_wordOf).cls (mN mX9_wordOf) (mN mX9_wordOf) ∈ zW := ⟨zW_3 (i := 147) rfl rfl, zW_3 (i := 148) rfl rfl⟩
theorem zVmX8_rewind : Cond.instanceMethod (mN mX8_rewind) ∈ zW ∧ Cond.selects (mN mX8_rewind).cls (mN mX8_rewind) (mN mX8_rewind) ∈ zW := ⟨zW_2 (i := 59) rfl rfl, zW_2 (i := 60) rfl rfl⟩
theorem zVmX8_next : Cond.instanceMethod (mN mX8_next) ∈ zW ∧ Cond.selects (mN mX8_next).cls (mN mX8_next) (mN mX8_next) ∈ zW := ⟨zW_2 (i := 63) rfl rfl, zW_2 (i := 64) rfl rfl⟩
theorem zVmX6_take : Cond.instanceMethod (mN mX6_take) ∈ zW ∧ Cond.selects (mN mX6_take).cls (mN mX6_take) (mN mX6_take) ∈ zW := ⟨zW_2 (i := 223) rfl rfl, zW_s (List.mem_of_getElem? (i := 8) rfl) rfl⟩
theorem zVmX8_faultOf : Cond.instanceMethod (mN mX8_faultOf) ∈ zW ∧ Cond.selects (mN mX8_faultOf).cls (mN mX8_faultOf) (mN mX8_faultOf) ∈ zW := ⟨zW_2 (i := 174) rfl rfl, zW_2 (i := 175) rfl rfl⟩
theorem zVmX8_kind : Cond.instanceMethod (mN mX8_kind) ∈ zW ∧ Cond.selects (mN mX8_kind).cls (mN mX8_kind) (mN mX8_kind) ∈ zW := ⟨zW_2 (i := 157) rfl rfl, zW_2 (i := 158) rfl rfl⟩
theorem zVmX6_takeTurn : Cond.instanceMethod (mN mX6_takeTurn) ∈ zW ∧ Cond.selects (mN mX6_takeTurn).cls (mN mX6_takeTurn) (mN mX6_takeTurn) ∈ zW := ⟨zW_2 (i := 227) rfl rfl, zW_s (List.mem_of_getElem? (i := 9) rfl) rfl⟩
theorem zVmX6_takeValue : Cond.instanceMethod (mN mX6_takeValue) ∈ zW ∧ Cond.selects (mN mX6_takeValue).cls (mN mX6_takeValue) (mN mX6_takeValue) ∈ zW := ⟨zW_2 (i := 233) rfl rfl, zW_s (List.mem_of_getElem? (i := 10) rfl) rfl⟩
theorem zVmX6_takeFact : Cond.instanceMethod (mN mX6_takeFact) ∈ zW ∧ Cond.selects (mN mX6_takeFact).cls (mN mX6_takeFact) (mN mX6_takeFact) ∈ zW := ⟨zW_3 (i := 8) rfl rfl, zW_s (List.mem_of_getElem? (i := 13) rfl) rfl⟩
theorem zVmX6_takeBehindValue : Cond.instanceMethod (mN mX6_takeBehindValue) ∈ zW ∧ Cond.selects (mN mX6_takeBehindValue).cls (mN mX6_takeBehindValue) (mN mX6_takeBehindValue) ∈ zW := ⟨zW_3 (i := 17) rfl rfl, zW_s (List.mem_of_getElem? (i := 15) rfl) rfl⟩
theorem zVmX6_takeBehindFact : Cond.instanceMethod (mN mX6_takeBehindFact) ∈ zW ∧ Cond.selects (mN mX6_takeBehindFact).cls (mN mX6_takeBehindFact) (mN mX6_takeBehindFact) ∈ zW := ⟨zW_3 (i := 40) rfl rfl, zW_s (List.mem_of_getElem? (i := 19) rfl) rfl⟩
theorem zVmX8_wordIn : Cond.instanceMethod (mN mX8_wordIn) ∈ zW ∧ Cond.selects (mN mX8_wordIn).cls (mN mX8_wordIn) (mN mX8_wordIn) ∈ zW := ⟨zW_2 (i := 90) rfl rfl, zW_2 (i := 91) rfl rfl⟩
theorem zVmX8_value : Cond.instanceMethod (mN mX8_value) ∈ zW ∧ Cond.selects (mN mX8_value).cls (mN mX8_value) (mN mX8_value) ∈ zW := ⟨zW_2 (i := 161) rfl rfl, zW_2 (i := 162) rfl rfl⟩
theorem zVmX6_order : Cond.instanceMethod (mN mX6_order) ∈ zW ∧ Cond.selects (mN mX6_order).cls (mN mX6_order) (mN mX6_order) ∈ zW := ⟨zW_3 (i := 0) rfl rfl, zW_s (List.mem_of_getElem? (i := 11) rfl) rfl⟩
theorem zVmX6_partCounted : Cond.instanceMethod (mN mX6_partCounted) ∈ zW ∧ Cond.selects (mN mX6_partCounted).cls (mN mX6_partCounted) (mN mX6_partCounted) ∈ zW := ⟨zW_3 (i := 4) rfl rfl, zW_s (List.mem_of_getElem? (i := 12) rfl) rfl⟩
theorem zVmX6_await : Cond.instanceMethod (mN mX6_await) ∈ zW ∧ Cond.selects (mN mX6_await).cls (mN mX6_await) (mN mX6_await) ∈ zW := ⟨zW_3 (i := 13) rfl rfl, zW_s (List.mem_of_getElem? (i := 14) rfl) rfl⟩
theorem zVmX6_settle : Cond.instanceMethod (mN mX6_settle) ∈ zW ∧ Cond.selects (mN mX6_settle).cls (mN mX6_settle) (mN mX6_settle) ∈ zW := ⟨zW_3 (i := 27) rfl rfl, zW_s (List.mem_of_getElem? (i := 16) rfl) rfl⟩
theorem zVmX6_takeBehindTurn : Cond.instanceMethod (mN mX6_takeBehindTurn) ∈ zW ∧ Cond.selects (mN mX6_takeBehindTurn).cls (mN mX6_takeBehindTurn) (mN mX6_takeBehindTurn) ∈ zW := ⟨zW_3 (i := 31) rfl rfl, zW_s (List.mem_of_getElem? (i := 17) rfl) rfl⟩
theorem zVmX6_takeEnd : Cond.instanceMethod (mN mX6_takeEnd) ∈ zW ∧ Cond.selects (mN mX6_takeEnd).cls (mN mX6_takeEnd) (mN mX6_takeEnd) ∈ zW := ⟨zW_3 (i := 36) rfl rfl, zW_s (List.mem_of_getElem? (i := 18) rfl) rfl⟩
theorem zVmX9_clear : Cond.instanceMethod (mN mX9_clear) ∈ zW ∧ Cond.selects (mN mX9_clear).cls (mN mX9_clear) (mN mX9_clear) ∈ zW := ⟨zW_2 (i := 51) rfl rfl, zW_2 (i := 52) rfl rfl⟩
theorem zVmX7_readNumbers : Cond.instanceMethod (mN mX7_readNumbers) ∈ zW ∧ Cond.selects (mN mX7_readNumbers).cls (mN mX7_readNumbers) (mN mX7_readNumbers) ∈ zW := ⟨zW_2 (i := 154) rfl rfl, zW_s (List.mem_of_getElem? (i := 5) rfl) rfl⟩
theorem zVmX7_take : Cond.instanceMethod (mN mX7_take) ∈ zW ∧ Cond.selects (mN mX7_take).cls (mN mX7_take) (mN mX7_take) ∈ zW := ⟨zW_2 (i := 179) rfl rfl, zW_s (List.mem_of_getElem? (i := 6) rfl) rfl⟩
theorem zVmX9_get : Cond.instanceMethod (mN mX9_get) ∈ zW ∧ Cond.selects (mN mX9_get).cls (mN mX9_get) (mN mX9_get) ∈ zW := ⟨zW_2 (i := 149) rfl rfl, zW_2 (i := 150) rfl rfl⟩
theorem zVmX9_cells : Cond.instanceMethod (mN mX9_cells) ∈ zW ∧ Cond.selects (mN mX9_cells).cls (mN mX9_cells) (mN mX9_cells) ∈ zW := ⟨zW_2 (i := 168) rfl rfl, zW_2 (i := 169) rfl rfl⟩
theorem zVmX9_set : Cond.instanceMethod (mN mX9_set) ∈ zW ∧ Cond.selects (mN mX9_set).cls (mN mX9_set) (mN mX9_set) ∈ zW := ⟨zW_2 (i := 55) rfl rfl, zW_2 (i := 56) rfl rfl⟩
theorem zVmX9_addGoer : Cond.instanceMethod (mN mX9_addGoer) ∈ zW ∧ Cond.selects (mN mX9_addGoer).cls (mN mX9_addGoer) (mN mX9_addGoer) ∈ zW := ⟨zW_2 (i := 183) rfl rfl, zW_2 (i := 184) rfl rfl⟩
theorem zVmX8_byteAt : Cond.instanceMethod (mN mX8_byteAt) ∈ zW ∧ Cond.selects (mN mX8_byteAt).cls (mN mX8_byteAt) (mN mX8_byteAt) ∈ zW := ⟨zW_2 (i := 68) rfl rfl, zW_s (List.mem_of_getElem? (i := 0) rfl) rfl⟩
theorem zVmX8_readNumber : Cond.instanceMethod (mN mX8_readNumber) ∈ zW ∧ Cond.selects (mN mX8_readNumber).cls (mN mX8_readNumber) (mN mX8_readNumber) ∈ zW := ⟨zW_2 (i := 75) rfl rfl, zW_s (List.mem_of_getElem? (i := 1) rfl) rfl⟩
theorem zVmX8_readWord : Cond.instanceMethod (mN mX8_readWord) ∈ zW ∧ Cond.selects (mN mX8_readWord).cls (mN mX8_readWord) (mN mX8_readWord) ∈ zW := ⟨zW_2 (i := 82) rfl rfl, zW_s (List.mem_of_getElem? (i := 2) rfl) rfl⟩
theorem zVmX8_readSign : Cond.instanceMethod (mN mX8_readSign) ∈ zW ∧ Cond.selects (mN mX8_readSign).cls (mN mX8_readSign) (mN mX8_readSign) ∈ zW := ⟨zW_2 (i := 86) rfl rfl, zW_s (List.mem_of_getElem? (i := 3) rfl) rfl⟩
theorem zVmX8_isWord : Cond.instanceMethod (mN mX8_isWord) ∈ zW ∧ Cond.selects (mN mX8_isWord).cls (mN mX8_isWord) (mN mX8_isWord) ∈ zW := ⟨zW_2 (i := 143) rfl rfl, zW_s (List.mem_of_getElem? (i := 4) rfl) rfl⟩
theorem zVmX9_put : Cond.instanceMethod (mN mX9_put) ∈ zW ∧ Cond.selects (mN mX9_put).cls (mN mX9_put) (mN mX9_put) ∈ zW := ⟨zW_2 (i := 187) rfl rfl, zW_2 (i := 188) rfl rfl⟩
theorem zVmX9_columnOf : Cond.instanceMethod (mN mX9_columnOf) ∈ zW ∧ Cond.selects (mN mX9_columnOf).cls (mN mX9_columnOf) (mN mX9_columnOf) ∈ zW := ⟨zW_3 (i := 155) rfl rfl, zW_3 (i := 156) rfl rfl⟩
theorem zVmX9_rowOf : Cond.instanceMethod (mN mX9_rowOf) ∈ zW ∧ Cond.selects (mN mX9_rowOf).cls (mN mX9_rowOf) (mN mX9_rowOf) ∈ zW := ⟨zW_3 (i := 151) rfl rfl, zW_3 (i := 152) rfl rfl⟩
theorem zVmX5_quarters : Cond.instanceMethod (mN mX5_quarters) ∈ zW ∧ Cond.selects (mN mX5_quarters).cls (mN mX5_quarters) (mN mX5_quarters) ∈ zW := ⟨zW_3 (i := 128) rfl rfl, zW_3 (i := 129) rfl rfl⟩
theorem zVmX9_goOn : Cond.instanceMethod (mN mX9_goOn) ∈ zW ∧ Cond.selects (mN mX9_goOn).cls (mN mX9_goOn) (mN mX9_goOn) ∈ zW := ⟨zW_3 (i := 176) rfl rfl, zW_s (List.mem_of_getElem? (i := 28) rfl) rfl⟩
theorem zVmX9_bideOut : Cond.instanceMethod (mN mX9_bideOut) ∈ zW ∧ Cond.selects (mN mX9_bideOut).cls (mN mX9_bideOut) (mN mX9_bideOut) ∈ zW := ⟨zW_3 (i := 184) rfl rfl, zW_s (List.mem_of_getElem? (i := 29) rfl) rfl⟩
theorem zVmX9_nextCell : Cond.instanceMethod (mN mX9_nextCell) ∈ zW ∧ Cond.selects (mN mX9_nextCell).cls (mN mX9_nextCell) (mN mX9_nextCell) ∈ zW := ⟨zW_3 (i := 163) rfl rfl, zW_3 (i := 164) rfl rfl⟩
theorem zVmX9_placeOf : Cond.instanceMethod (mN mX9_placeOf) ∈ zW ∧ Cond.selects (mN mX9_placeOf).cls (mN mX9_placeOf) (mN mX9_placeOf) ∈ zW := ⟨zW_3 (i := 179) rfl rfl, zW_3 (i := 180) rfl rfl⟩
theorem zVmX9_hasStone : Cond.instanceMethod (mN mX9_hasStone) ∈ zW ∧ Cond.selects (mN mX9_hasStone).cls (mN mX9_hasStone) (mN mX9_hasStone) ∈ zW := ⟨zW_3 (i := 167) rfl rfl, zW_3 (i := 168) rfl rfl⟩
theorem zVmX9_comeIn : Cond.instanceMethod (mN mX9_comeIn) ∈ zW ∧ Cond.selects (mN mX9_comeIn).cls (mN mX9_comeIn) (mN mX9_comeIn) ∈ zW := ⟨zW_3 (i := 188) rfl rfl, zW_s (List.mem_of_getElem? (i := 30) rfl) rfl⟩
theorem zVmX9_cellAt : Cond.instanceMethod (mN mX9_cellAt) ∈ zW ∧ Cond.selects (mN mX9_cellAt).cls (mN mX9_cellAt) (mN mX9_cellAt) ∈ zW := ⟨zW_3 (i := 191) rfl rfl, zW_3 (i := 192) rfl rfl⟩
theorem zVmX9_margin : Cond.instanceMethod (mN mX9_margin) ∈ zW ∧ Cond.selects (mN mX9_margin).cls (mN mX9_margin) (mN mX9_margin) ∈ zW := ⟨zW_3 (i := 159) rfl rfl, zW_3 (i := 160) rfl rfl⟩
theorem zVmX9_othersIn : Cond.instanceMethod (mN mX9_othersIn) ∈ zW ∧ Cond.selects (mN mX9_othersIn).cls (mN mX9_othersIn) (mN mX9_othersIn) ∈ zW := ⟨zW_3 (i := 172) rfl rfl, zW_s (List.mem_of_getElem? (i := 27) rfl) rfl⟩
theorem zVmX8_hasRoom : Cond.instanceMethod (mN mX8_hasRoom) ∈ zW ∧ Cond.selects (mN mX8_hasRoom).cls (mN mX8_hasRoom) (mN mX8_hasRoom) ∈ zW := ⟨zW_2 (i := 20) rfl rfl, zW_2 (i := 21) rfl rfl⟩
theorem zVmX8_append : Cond.instanceMethod (mN mX8_append) ∈ zW ∧ Cond.selects (mN mX8_append).cls (mN mX8_append) (mN mX8_append) ∈ zW := ⟨zW_2 (i := 24) rfl rfl, zW_2 (i := 25) rfl rfl⟩
theorem zVmX8_length : Cond.instanceMethod (mN mX8_length) ∈ zW ∧ Cond.selects (mN mX8_length).cls (mN mX8_length) (mN mX8_length) ∈ zW := ⟨zW_2 (i := 28) rfl rfl, zW_2 (i := 29) rfl rfl⟩
theorem zVmX8_cutTo : Cond.instanceMethod (mN mX8_cutTo) ∈ zW ∧ Cond.selects (mN mX8_cutTo).cls (mN mX8_cutTo) (mN mX8_cutTo) ∈ zW := ⟨zW_2 (i := 39) rfl rfl, zW_2 (i := 40) rfl rfl⟩
theorem zVmX7_read : Cond.instanceMethod (mN mX7_read) ∈ zW ∧ Cond.selects (mN mX7_read).cls (mN mX7_read) (mN mX7_read) ∈ zW := ⟨zW_2 (i := 47) rfl rfl, zW_2 (i := 48) rfl rfl⟩
theorem zVmX4_clear : Cond.instanceMethod (mN mX4_clear) ∈ zW ∧ Cond.selects (mN mX4_clear).cls (mN mX4_clear) (mN mX4_clear) ∈ zW := ⟨zW_2 (i := 198) rfl rfl, zW_2 (i := 199) rfl rfl⟩
theorem zVmX2_clear : Cond.instanceMethod (mN mX2_clear) ∈ zW ∧ Cond.selects (mN mX2_clear).cls (mN mX2_clear) (mN mX2_clear) ∈ zW := ⟨zW_2 (i := 202) rfl rfl, zW_2 (i := 203) rfl rfl⟩
theorem zVmX10_goers : Cond.instanceMethod (mN mX10_goers) ∈ zW ∧ Cond.selects (mN mX10_goers).cls (mN mX10_goers) (mN mX10_goers) ∈ zW := ⟨zW_2 (i := 207) rfl rfl, zW_s (List.mem_of_getElem? (i := 7) rfl) rfl⟩
theorem zVmX6_read : Cond.instanceMethod (mN mX6_read) ∈ zW ∧ Cond.selects (mN mX6_read).cls (mN mX6_read) (mN mX6_read) ∈ zW := ⟨zW_2 (i := 216) rfl rfl, zW_2 (i := 217) rfl rfl⟩
theorem zVmX6_made : Cond.instanceMethod (mN mX6_made) ∈ zW ∧ Cond.selects (mN mX6_made).cls (mN mX6_made) (mN mX6_made) ∈ zW := ⟨zW_3 (i := 45) rfl rfl, zW_3 (i := 46) rfl rfl⟩
theorem zVmX10_isGoer : Cond.instanceMethod (mN mX10_isGoer) ∈ zW ∧ Cond.selects (mN mX10_isGoer).cls (mN mX10_isGoer) (mN mX10_isGoer) ∈ zW := ⟨zW_3 (i := 78) rfl rfl, zW_s (List.mem_of_getElem? (i := 20) rfl) rfl⟩
theorem zVmX10_hasSheet : Cond.instanceMethod (mN mX10_hasSheet) ∈ zW ∧ Cond.selects (mN mX10_hasSheet).cls (mN mX10_hasSheet) (mN mX10_hasSheet) ∈ zW := ⟨zW_3 (i := 90) rfl rfl, zW_s (List.mem_of_getElem? (i := 21) rfl) rfl⟩
theorem zVmX10_isCell : Cond.instanceMethod (mN mX10_isCell) ∈ zW ∧ Cond.selects (mN mX10_isCell).cls (mN mX10_isCell) (mN mX10_isCell) ∈ zW := ⟨zW_3 (i := 101) rfl rfl, zW_s (List.mem_of_getElem? (i := 22) rfl) rfl⟩
theorem zVmX2_keep : Cond.instanceMethod (mN mX2_keep) ∈ zW ∧ Cond.selects (mN mX2_keep).cls (mN mX2_keep) (mN mX2_keep) ∈ zW := ⟨zW_3 (i := 109) rfl rfl, zW_3 (i := 110) rfl rfl⟩
theorem zVmX10_ruleInForce : Cond.instanceMethod (mN mX10_ruleInForce) ∈ zW ∧ Cond.selects (mN mX10_ruleInForce).cls (mN mX10_ruleInForce) (mN mX10_ruleInForce) ∈ zW := ⟨zW_3 (i := 116) rfl rfl, zW_s (List.mem_of_getElem? (i := 23) rfl) rfl⟩
theorem zVmX9_bitsOf : Cond.instanceMethod (mN mX9_bitsOf) ∈ zW ∧ Cond.selects (mN mX9_bitsOf).cls (mN mX9_bitsOf) (mN mX9_bitsOf) ∈ zW := ⟨zW_3 (i := 196) rfl rfl, zW_3 (i := 197) rfl rfl⟩
theorem zVmX10_isOn : Cond.instanceMethod (mN mX10_isOn) ∈ zW ∧ Cond.selects (mN mX10_isOn).cls (mN mX10_isOn) (mN mX10_isOn) ∈ zW := ⟨zW_3 (i := 211) rfl rfl, zW_s (List.mem_of_getElem? (i := 31) rfl) rfl⟩
theorem zVmX9_turnStone : Cond.instanceMethod (mN mX9_turnStone) ∈ zW ∧ Cond.selects (mN mX9_turnStone).cls (mN mX9_turnStone) (mN mX9_turnStone) ∈ zW := ⟨zW_3 (i := 222) rfl rfl, zW_3 (i := 223) rfl rfl⟩
theorem zVmX2_goBack : Cond.instanceMethod (mN mX2_goBack) ∈ zW ∧ Cond.selects (mN mX2_goBack).cls (mN mX2_goBack) (mN mX2_goBack) ∈ zW := ⟨zW_3 (i := 235) rfl rfl, zW_3 (i := 236) rfl rfl⟩
theorem zVmX10_restart : Cond.instanceMethod (mN mX10_restart) ∈ zW ∧ Cond.selects (mN mX10_restart).cls (mN mX10_restart) (mN mX10_restart) ∈ zW := ⟨zW_4 (i := 4) rfl rfl, zW_s (List.mem_of_getElem? (i := 32) rfl) rfl⟩
theorem zVmX10_walkOn : Cond.instanceMethod (mN mX10_walkOn) ∈ zW ∧ Cond.selects (mN mX10_walkOn).cls (mN mX10_walkOn) (mN mX10_walkOn) ∈ zW := ⟨zW_4 (i := 8) rfl rfl, zW_s (List.mem_of_getElem? (i := 33) rfl) rfl⟩
theorem zVmX9_isOn : Cond.instanceMethod (mN mX9_isOn) ∈ zW ∧ Cond.selects (mN mX9_isOn).cls (mN mX9_isOn) (mN mX9_isOn) ∈ zW := ⟨zW_3 (i := 214) rfl rfl, zW_3 (i := 215) rfl rfl⟩
theorem zVmX10_findWaysFrom : Cond.instanceMethod (mN mX10_findWaysFrom) ∈ zW ∧ Cond.selects (mN mX10_findWaysFrom).cls (mN mX10_findWaysFrom) (mN mX10_findWaysFrom) ∈ zW := ⟨zW_4 (i := 32) rfl rfl, zW_s (List.mem_of_getElem? (i := 34) rfl) rfl⟩
theorem zVmX10_countOut : Cond.instanceMethod (mN mX10_countOut) ∈ zW ∧ Cond.selects (mN mX10_countOut).cls (mN mX10_countOut) (mN mX10_countOut) ∈ zW := ⟨zW_4 (i := 58) rfl rfl, zW_s (List.mem_of_getElem? (i := 36) rfl) rfl⟩
theorem zVmX10_costBehind : Cond.instanceMethod (mN mX10_costBehind) ∈ zW ∧ Cond.selects (mN mX10_costBehind).cls (mN mX10_costBehind) (mN mX10_costBehind) ∈ zW := ⟨zW_4 (i := 66) rfl rfl, zW_s (List.mem_of_getElem? (i := 37) rfl) rfl⟩
theorem zVmX10_countOn : Cond.instanceMethod (mN mX10_countOn) ∈ zW ∧ Cond.selects (mN mX10_countOn).cls (mN mX10_countOn) (mN mX10_countOn) ∈ zW := ⟨zW_4 (i := 94) rfl rfl, zW_s (List.mem_of_getElem? (i := 38) rfl) rfl⟩
theorem zVmX10_isRest : Cond.instanceMethod (mN mX10_isRest) ∈ zW ∧ Cond.selects (mN mX10_isRest).cls (mN mX10_isRest) (mN mX10_isRest) ∈ zW := ⟨zW_4 (i := 98) rfl rfl, zW_s (List.mem_of_getElem? (i := 39) rfl) rfl⟩
theorem zVmX10_trackAll : Cond.instanceMethod (mN mX10_trackAll) ∈ zW ∧ Cond.selects (mN mX10_trackAll).cls (mN mX10_trackAll) (mN mX10_trackAll) ∈ zW := ⟨zW_4 (i := 106) rfl rfl, zW_s (List.mem_of_getElem? (i := 40) rfl) rfl⟩
theorem zVmX10_sameTrack : Cond.instanceMethod (mN mX10_sameTrack) ∈ zW ∧ Cond.selects (mN mX10_sameTrack).cls (mN mX10_sameTrack) (mN mX10_sameTrack) ∈ zW := ⟨zW_4 (i := 114) rfl rfl, zW_s (List.mem_of_getElem? (i := 41) rfl) rfl⟩
theorem zVmX10_hungerOf : Cond.instanceMethod (mN mX10_hungerOf) ∈ zW ∧ Cond.selects (mN mX10_hungerOf).cls (mN mX10_hungerOf) (mN mX10_hungerOf) ∈ zW := ⟨zW_4 (i := 122) rfl rfl, zW_s (List.mem_of_getElem? (i := 42) rfl) rfl⟩
theorem zVmX4_isFull : Cond.instanceMethod (mN mX4_isFull) ∈ zW ∧ Cond.selects (mN mX4_isFull).cls (mN mX4_isFull) (mN mX4_isFull) ∈ zW := ⟨zW_4 (i := 129) rfl rfl, zW_4 (i := 130) rfl rfl⟩
theorem zVmX4_add : Cond.instanceMethod (mN mX4_add) ∈ zW ∧ Cond.selects (mN mX4_add).cls (mN mX4_add) (mN mX4_add) ∈ zW := ⟨zW_4 (i := 133) rfl rfl, zW_4 (i := 134) rfl rfl⟩
theorem zVmX4_size : Cond.instanceMethod (mN mX4_size) ∈ zW ∧ Cond.selects (mN mX4_size).cls (mN mX4_size) (mN mX4_size) ∈ zW := ⟨zW_4 (i := 137) rfl rfl, zW_4 (i := 138) rfl rfl⟩
theorem zVmX10_rightlyRuled : Cond.instanceMethod (mN mX10_rightlyRuled) ∈ zW ∧ Cond.selects (mN mX10_rightlyRuled).cls (mN mX10_rightlyRuled) (mN mX10_rightlyRuled) ∈ zW := ⟨zW_4 (i := 146) rfl rfl, zW_s (List.mem_of_getElem? (i := 43) rfl) rfl⟩
theorem zVmX10_trackFitting : Cond.instanceMethod (mN mX10_trackFitting) ∈ zW ∧ Cond.selects (mN mX10_trackFitting).cls (mN mX10_trackFitting) (mN mX10_trackFitting) ∈ zW := ⟨zW_4 (i := 165) rfl rfl, zW_s (List.mem_of_getElem? (i := 45) rfl) rfl⟩
theorem zVmX10_mostAlike : Cond.instanceMethod (mN mX10_mostAlike) ∈ zW ∧ Cond.selects (mN mX10_mostAlike).cls (mN mX10_mostAlike) (mN mX10_mostAlike) ∈ zW := ⟨zW_4 (i := 169) rfl rfl, zW_s (List.mem_of_getElem? (i := 46) rfl) rfl⟩
theorem zVmX10_rightlyFolded : Cond.instanceMethod (mN mX10_rightlyFolded) ∈ zW ∧ Cond.selects (mN mX10_rightlyFolded).cls (mN mX10_rightlyFolded) (mN mX10_rightlyFolded) ∈ zW := ⟨zW_4 (i := 178) rfl rfl, zW_s (List.mem_of_getElem? (i := 47) rfl) rfl⟩
theorem zVmX10_behindAllLike : Cond.instanceMethod (mN mX10_behindAllLike) ∈ zW ∧ Cond.selects (mN mX10_behindAllLike).cls (mN mX10_behindAllLike) (mN mX10_behindAllLike) ∈ zW := ⟨zW_4 (i := 185) rfl rfl, zW_s (List.mem_of_getElem? (i := 48) rfl) rfl⟩
theorem zVmX0_begin : Cond.instanceMethod (mN mX0_begin) ∈ zW ∧ Cond.selects (mN mX0_begin).cls (mN mX0_begin) (mN mX0_begin) ∈ zW := ⟨zW_4 (i := 200) rfl rfl, zW_4 (i := 201) rfl rfl⟩
theorem zVmX10_gust : Cond.instanceMethod (mN mX10_gust) ∈ zW ∧ Cond.selects (mN mX10_gust).cls (mN mX10_gust) (mN mX10_gust) ∈ zW := ⟨zW_4 (i := 205) rfl rfl, zW_s (List.mem_of_getElem? (i := 49) rfl) rfl⟩
theorem zVmX9_foodOfAll : Cond.instanceMethod (mN mX9_foodOfAll) ∈ zW ∧ Cond.selects (mN mX9_foodOfAll).cls (mN mX9_foodOfAll) (mN mX9_foodOfAll) ∈ zW := ⟨zW_4 (i := 75) rfl rfl, zW_4 (i := 76) rfl rfl⟩
theorem zVmX9_stones : Cond.instanceMethod (mN mX9_stones) ∈ zW ∧ Cond.selects (mN mX9_stones).cls (mN mX9_stones) (mN mX9_stones) ∈ zW := ⟨zW_4 (i := 220) rfl rfl, zW_4 (i := 221) rfl rfl⟩
theorem zVmX2_size : Cond.instanceMethod (mN mX2_size) ∈ zW ∧ Cond.selects (mN mX2_size).cls (mN mX2_size) (mN mX2_size) ∈ zW := ⟨zW_4 (i := 224) rfl rfl, zW_4 (i := 225) rfl rfl⟩
theorem zVmX4_copyFrom : Cond.instanceMethod (mN mX4_copyFrom) ∈ zW ∧ Cond.selects (mN mX4_copyFrom).cls (mN mX4_copyFrom) (mN mX4_copyFrom) ∈ zW := ⟨zW_4 (i := 232) rfl rfl, zW_4 (i := 233) rfl rfl⟩
theorem zVmX10_ruleOf : Cond.instanceMethod (mN mX10_ruleOf) ∈ zW ∧ Cond.selects (mN mX10_ruleOf).cls (mN mX10_ruleOf) (mN mX10_ruleOf) ∈ zW := ⟨zW_3 (i := 120) rfl rfl, zW_s (List.mem_of_getElem? (i := 24) rfl) rfl⟩
theorem zVmX10_spreadFrom : Cond.instanceMethod (mN mX10_spreadFrom) ∈ zW ∧ Cond.selects (mN mX10_spreadFrom).cls (mN mX10_spreadFrom) (mN mX10_spreadFrom) ∈ zW := ⟨zW_4 (i := 36) rfl rfl, zW_s (List.mem_of_getElem? (i := 35) rfl) rfl⟩
theorem zVmX9_whereabouts : Cond.instanceMethod (mN mX9_whereabouts) ∈ zW ∧ Cond.selects (mN mX9_whereabouts).cls (mN mX9_whereabouts) (mN mX9_whereabouts) ∈ zW := ⟨zW_4 (i := 109) rfl rfl, zW_4 (i := 110) rfl rfl⟩
theorem zVmX4_holdFrom : Cond.instanceMethod (mN mX4_holdFrom) ∈ zW ∧ Cond.selects (mN mX4_holdFrom).cls (mN mX4_holdFrom) (mN mX4_holdFrom) ∈ zW := ⟨zW_4 (i := 149) rfl rfl, zW_4 (i := 150) rfl rfl⟩
theorem zVmX9_lastUsed : Cond.instanceMethod (mN mX9_lastUsed) ∈ zW ∧ Cond.selects (mN mX9_lastUsed).cls (mN mX9_lastUsed) (mN mX9_lastUsed) ∈ zW := ⟨zW_4 (i := 188) rfl rfl, zW_4 (i := 189) rfl rfl⟩
theorem zVmX0_draw : Cond.instanceMethod (mN mX0_draw) ∈ zW ∧ Cond.selects (mN mX0_draw).cls (mN mX0_draw) (mN mX0_draw) ∈ zW := ⟨zW_4 (i := 208) rfl rfl, zW_4 (i := 209) rfl rfl⟩
theorem zVmX11_four : Cond.instanceMethod (mN mX11_four) ∈ zW ∧ Cond.selects (mN mX11_four).cls (mN mX11_four) (mN mX11_four) ∈ zW := ⟨zW_5 (i := 137) rfl rfl, zW_s (List.mem_of_getElem? (i := 50) rfl) rfl⟩
theorem zVmX11_see : Cond.instanceMethod (mN mX11_see) ∈ zW ∧ Cond.selects (mN mX11_see).cls (mN mX11_see) (mN mX11_see) ∈ zW := ⟨zW_5 (i := 157) rfl rfl, zW_s (List.mem_of_getElem? (i := 53) rfl) rfl⟩
theorem zVmX11_isLetter : Cond.instanceMethod (mN mX11_isLetter) ∈ zW ∧ Cond.selects (mN mX11_isLetter).cls (mN mX11_isLetter) (mN mX11_isLetter) ∈ zW := ⟨zW_5 (i := 170) rfl rfl, zW_s (List.mem_of_getElem? (i := 56) rfl) rfl⟩
theorem zVmX11_isWord : Cond.instanceMethod (mN mX11_isWord) ∈ zW ∧ Cond.selects (mN mX11_isWord).cls (mN mX11_isWord) (mN mX11_isWord) ∈ zW := ⟨zW_5 (i := 166) rfl rfl, zW_s (List.mem_of_getElem? (i := 55) rfl) rfl⟩
theorem zVmX11_passWord : Cond.instanceMethod (mN mX11_passWord) ∈ zW ∧ Cond.selects (mN mX11_passWord).cls (mN mX11_passWord) (mN mX11_passWord) ∈ zW := ⟨zW_5 (i := 190) rfl rfl, zW_s (List.mem_of_getElem? (i := 60) rfl) rfl⟩
theorem zVmX11_isDigit : Cond.instanceMethod (mN mX11_isDigit) ∈ zW ∧ Cond.selects (mN mX11_isDigit).cls (mN mX11_isDigit) (mN mX11_isDigit) ∈ zW := ⟨zW_5 (i := 202) rfl rfl, zW_s (List.mem_of_getElem? (i := 63) rfl) rfl⟩
theorem zVmX11_fails : Cond.instanceMethod (mN mX11_fails) ∈ zW ∧ Cond.selects (mN mX11_fails).cls (mN mX11_fails) (mN mX11_fails) ∈ zW := ⟨zW_5 (i := 178) rfl rfl, zW_s (List.mem_of_getElem? (i := 57) rfl) rfl⟩
theorem zVmX11_puts : Cond.instanceMethod (mN mX11_puts) ∈ zW ∧ Cond.selects (mN mX11_puts).cls (mN mX11_puts) (mN mX11_puts) ∈ zW := ⟨zW_6 (i := 6) rfl rfl, zW_s (List.mem_of_getElem? (i := 73) rfl) rfl⟩
theorem zVmX11_numberHere : Cond.instanceMethod (mN mX11_numberHere) ∈ zW ∧ Cond.selects (mN mX11_numberHere).cls (mN mX11_numberHere) (mN mX11_numberHere) ∈ zW := ⟨zW_5 (i := 198) rfl rfl, zW_s (List.mem_of_getElem? (i := 62) rfl) rfl⟩
theorem zVmX11_makes : Cond.instanceMethod (mN mX11_makes) ∈ zW ∧ Cond.selects (mN mX11_makes).cls (mN mX11_makes) (mN mX11_makes) ∈ zW := ⟨zW_6 (i := 2) rfl rfl, zW_s (List.mem_of_getElem? (i := 72) rfl) rfl⟩
theorem zVmX11_wordHere : Cond.instanceMethod (mN mX11_wordHere) ∈ zW ∧ Cond.selects (mN mX11_wordHere).cls (mN mX11_wordHere) (mN mX11_wordHere) ∈ zW := ⟨zW_6 (i := 10) rfl rfl, zW_s (List.mem_of_getElem? (i := 74) rfl) rfl⟩
theorem zVmX11_value : Cond.instanceMethod (mN mX11_value) ∈ zW ∧ Cond.selects (mN mX11_value).cls (mN mX11_value) (mN mX11_value) ∈ zW := ⟨zW_5 (i := 237) rfl rfl, zW_s (List.mem_of_getElem? (i := 71) rfl) rfl⟩
theorem zVmX11_term : Cond.instanceMethod (mN mX11_term) ∈ zW ∧ Cond.selects (mN mX11_term).cls (mN mX11_term) (mN mX11_term) ∈ zW := ⟨zW_5 (i := 233) rfl rfl, zW_s (List.mem_of_getElem? (i := 70) rfl) rfl⟩
theorem zVmX11_sum : Cond.instanceMethod (mN mX11_sum) ∈ zW ∧ Cond.selects (mN mX11_sum).cls (mN mX11_sum) (mN mX11_sum) ∈ zW := ⟨zW_5 (i := 229) rfl rfl, zW_s (List.mem_of_getElem? (i := 69) rfl) rfl⟩
theorem zVmX11_opens : Cond.instanceMethod (mN mX11_opens) ∈ zW ∧ Cond.selects (mN mX11_opens).cls (mN mX11_opens) (mN mX11_opens) ∈ zW := ⟨zW_6 (i := 37) rfl rfl, zW_s (List.mem_of_getElem? (i := 78) rfl) rfl⟩
theorem zVmX11_compare : Cond.instanceMethod (mN mX11_compare) ∈ zW ∧ Cond.selects (mN mX11_compare).cls (mN mX11_compare) (mN mX11_compare) ∈ zW := ⟨zW_6 (i := 41) rfl rfl, zW_s (List.mem_of_getElem? (i := 79) rfl) rfl⟩
theorem zVmX11_layDown : Cond.instanceMethod (mN mX11_layDown) ∈ zW ∧ Cond.selects (mN mX11_layDown).cls (mN mX11_layDown) (mN mX11_layDown) ∈ zW := ⟨zW_6 (i := 49) rfl rfl, zW_s (List.mem_of_getElem? (i := 81) rfl) rfl⟩
theorem zVmX11_isInside : Cond.instanceMethod (mN mX11_isInside) ∈ zW ∧ Cond.selects (mN mX11_isInside).cls (mN mX11_isInside) (mN mX11_isInside) ∈ zW := ⟨zW_6 (i := 56) rfl rfl, zW_s (List.mem_of_getElem? (i := 82) rfl) rfl⟩
theorem zVmX11_fact : Cond.instanceMethod (mN mX11_fact) ∈ zW ∧ Cond.selects (mN mX11_fact).cls (mN mX11_fact) (mN mX11_fact) ∈ zW := ⟨zW_6 (i := 32) rfl rfl, zW_s (List.mem_of_getElem? (i := 77) rfl) rfl⟩
theorem zVmX11_closes : Cond.instanceMethod (mN mX11_closes) ∈ zW ∧ Cond.selects (mN mX11_closes).cls (mN mX11_closes) (mN mX11_closes) ∈ zW := ⟨zW_6 (i := 45) rfl rfl, zW_s (List.mem_of_getElem? (i := 80) rfl) rfl⟩
theorem zVmX11_takesWord : Cond.instanceMethod (mN mX11_takesWord) ∈ zW ∧ Cond.selects (mN mX11_takesWord).cls (mN mX11_takesWord) (mN mX11_takesWord) ∈ zW := ⟨zW_6 (i := 24) rfl rfl, zW_s (List.mem_of_getElem? (i := 75) rfl) rfl⟩
theorem zVmX11_tested : Cond.instanceMethod (mN mX11_tested) ∈ zW ∧ Cond.selects (mN mX11_tested).cls (mN mX11_tested) (mN mX11_tested) ∈ zW := ⟨zW_6 (i := 28) rfl rfl, zW_s (List.mem_of_getElem? (i := 76) rfl) rfl⟩
theorem zVmX11_cellHere : Cond.instanceMethod (mN mX11_cellHere) ∈ zW ∧ Cond.selects (mN mX11_cellHere).cls (mN mX11_cellHere) (mN mX11_cellHere) ∈ zW := ⟨zW_5 (i := 194) rfl rfl, zW_s (List.mem_of_getElem? (i := 61) rfl) rfl⟩
theorem zVmX11_lastCell : Cond.instanceMethod (mN mX11_lastCell) ∈ zW ∧ Cond.selects (mN mX11_lastCell).cls (mN mX11_lastCell) (mN mX11_lastCell) ∈ zW := ⟨zW_5 (i := 213) rfl rfl, zW_s (List.mem_of_getElem? (i := 65) rfl) rfl⟩
theorem zVmX11_isSheetHere : Cond.instanceMethod (mN mX11_isSheetHere) ∈ zW ∧ Cond.selects (mN mX11_isSheetHere).cls (mN mX11_isSheetHere) (mN mX11_isSheetHere) ∈ zW := ⟨zW_5 (i := 186) rfl rfl, zW_s (List.mem_of_getElem? (i := 59) rfl) rfl⟩
theorem zVmX11_isGoerHere : Cond.instanceMethod (mN mX11_isGoerHere) ∈ zW ∧ Cond.selects (mN mX11_isGoerHere).cls (mN mX11_isGoerHere) (mN mX11_isGoerHere) ∈ zW := ⟨zW_5 (i := 209) rfl rfl, zW_s (List.mem_of_getElem? (i := 64) rfl) rfl⟩
theorem zVmX11_isJoinHere : Cond.instanceMethod (mN mX11_isJoinHere) ∈ zW ∧ Cond.selects (mN mX11_isJoinHere).cls (mN mX11_isJoinHere) (mN mX11_isJoinHere) ∈ zW := ⟨zW_5 (i := 217) rfl rfl, zW_s (List.mem_of_getElem? (i := 66) rfl) rfl⟩
theorem zVmX11_isStoneHere : Cond.instanceMethod (mN mX11_isStoneHere) ∈ zW ∧ Cond.selects (mN mX11_isStoneHere).cls (mN mX11_isStoneHere) (mN mX11_isStoneHere) ∈ zW := ⟨zW_5 (i := 221) rfl rfl, zW_s (List.mem_of_getElem? (i := 67) rfl) rfl⟩
theorem zVmX11_isSheetWord : Cond.instanceMethod (mN mX11_isSheetWord) ∈ zW ∧ Cond.selects (mN mX11_isSheetWord).cls (mN mX11_isSheetWord) (mN mX11_isSheetWord) ∈ zW := ⟨zW_5 (i := 161) rfl rfl, zW_s (List.mem_of_getElem? (i := 54) rfl) rfl⟩
theorem zVmX11_sheetLineHere : Cond.instanceMethod (mN mX11_sheetLineHere) ∈ zW ∧ Cond.selects (mN mX11_sheetLineHere).cls (mN mX11_sheetLineHere) (mN mX11_sheetLineHere) ∈ zW := ⟨zW_5 (i := 182) rfl rfl, zW_s (List.mem_of_getElem? (i := 58) rfl) rfl⟩
theorem zVmX11_isTurnHere : Cond.instanceMethod (mN mX11_isTurnHere) ∈ zW ∧ Cond.selects (mN mX11_isTurnHere).cls (mN mX11_isTurnHere) (mN mX11_isTurnHere) ∈ zW := ⟨zW_5 (i := 225) rfl rfl, zW_s (List.mem_of_getElem? (i := 68) rfl) rfl⟩
theorem zVmX11_clauseHere : Cond.instanceMethod (mN mX11_clauseHere) ∈ zW ∧ Cond.selects (mN mX11_clauseHere).cls (mN mX11_clauseHere) (mN mX11_clauseHere) ∈ zW := ⟨zW_5 (i := 153) rfl rfl, zW_s (List.mem_of_getElem? (i := 52) rfl) rfl⟩
theorem zVmX11_readsAll : Cond.instanceMethod (mN mX11_readsAll) ∈ zW ∧ Cond.selects (mN mX11_readsAll).cls (mN mX11_readsAll) (mN mX11_readsAll) ∈ zW := ⟨zW_5 (i := 149) rfl rfl, zW_s (List.mem_of_getElem? (i := 51) rfl) rfl⟩
theorem zVmX11_begins : Cond.instanceMethod (mN mX11_begins) ∈ zW ∧ Cond.selects (mN mX11_begins).cls (mN mX11_begins) (mN mX11_begins) ∈ zW := ⟨zW_6 (i := 66) rfl rfl, zW_s (List.mem_of_getElem? (i := 83) rfl) rfl⟩
theorem zVmX11_push : Cond.instanceMethod (mN mX11_push) ∈ zW ∧ Cond.selects (mN mX11_push).cls (mN mX11_push) (mN mX11_push) ∈ zW := ⟨zW_6 (i := 175) rfl rfl, zW_s (List.mem_of_getElem? (i := 104) rfl) rfl⟩
theorem zVmX11_pop : Cond.instanceMethod (mN mX11_pop) ∈ zW ∧ Cond.selects (mN mX11_pop).cls (mN mX11_pop) (mN mX11_pop) ∈ zW := ⟨zW_6 (i := 179) rfl rfl, zW_s (List.mem_of_getElem? (i := 105) rfl) rfl⟩
theorem zVmX11_cells : Cond.instanceMethod (mN mX11_cells) ∈ zW ∧ Cond.selects (mN mX11_cells).cls (mN mX11_cells) (mN mX11_cells) ∈ zW := ⟨zW_6 (i := 127) rfl rfl, zW_s (List.mem_of_getElem? (i := 94) rfl) rfl⟩
theorem zVmX11_isSheet : Cond.instanceMethod (mN mX11_isSheet) ∈ zW ∧ Cond.selects (mN mX11_isSheet).cls (mN mX11_isSheet) (mN mX11_isSheet) ∈ zW := ⟨zW_6 (i := 114) rfl rfl, zW_s (List.mem_of_getElem? (i := 92) rfl) rfl⟩
theorem zVmX11_statusOf : Cond.instanceMethod (mN mX11_statusOf) ∈ zW ∧ Cond.selects (mN mX11_statusOf).cls (mN mX11_statusOf) (mN mX11_statusOf) ∈ zW := ⟨zW_6 (i := 90) rfl rfl, zW_s (List.mem_of_getElem? (i := 87) rfl) rfl⟩
theorem zVmX11_foodOf : Cond.instanceMethod (mN mX11_foodOf) ∈ zW ∧ Cond.selects (mN mX11_foodOf).cls (mN mX11_foodOf) (mN mX11_foodOf) ∈ zW := ⟨zW_6 (i := 102) rfl rfl, zW_s (List.mem_of_getElem? (i := 90) rfl) rfl⟩
theorem zVmX11_marginOf : Cond.instanceMethod (mN mX11_marginOf) ∈ zW ∧ Cond.selects (mN mX11_marginOf).cls (mN mX11_marginOf) (mN mX11_marginOf) ∈ zW := ⟨zW_6 (i := 159) rfl rfl, zW_s (List.mem_of_getElem? (i := 100) rfl) rfl⟩
theorem zVmX11_isRule : Cond.instanceMethod (mN mX11_isRule) ∈ zW ∧ Cond.selects (mN mX11_isRule).cls (mN mX11_isRule) (mN mX11_isRule) ∈ zW := ⟨zW_6 (i := 74) rfl rfl, zW_s (List.mem_of_getElem? (i := 84) rfl) rfl⟩
theorem zVmX11_isGoer : Cond.instanceMethod (mN mX11_isGoer) ∈ zW ∧ Cond.selects (mN mX11_isGoer).cls (mN mX11_isGoer) (mN mX11_isGoer) ∈ zW := ⟨zW_6 (i := 82) rfl rfl, zW_s (List.mem_of_getElem? (i := 85) rfl) rfl⟩
theorem zVmX11_isOn : Cond.instanceMethod (mN mX11_isOn) ∈ zW ∧ Cond.selects (mN mX11_isOn).cls (mN mX11_isOn) (mN mX11_isOn) ∈ zW := ⟨zW_6 (i := 86) rfl rfl, zW_s (List.mem_of_getElem? (i := 86) rfl) rfl⟩
theorem zVmX11_cellOf : Cond.instanceMethod (mN mX11_cellOf) ∈ zW ∧ Cond.selects (mN mX11_cellOf).cls (mN mX11_cellOf) (mN mX11_cellOf) ∈ zW := ⟨zW_6 (i := 94) rfl rfl, zW_s (List.mem_of_getElem? (i := 88) rfl) rfl⟩
theorem zVmX11_facesOf : Cond.instanceMethod (mN mX11_facesOf) ∈ zW ∧ Cond.selects (mN mX11_facesOf).cls (mN mX11_facesOf) (mN mX11_facesOf) ∈ zW := ⟨zW_6 (i := 98) rfl rfl, zW_s (List.mem_of_getElem? (i := 89) rfl) rfl⟩
theorem zVmX11_isEdge : Cond.instanceMethod (mN mX11_isEdge) ∈ zW ∧ Cond.selects (mN mX11_isEdge).cls (mN mX11_isEdge) (mN mX11_isEdge) ∈ zW := ⟨zW_6 (i := 110) rfl rfl, zW_s (List.mem_of_getElem? (i := 91) rfl) rfl⟩
theorem zVmX11_isCell : Cond.instanceMethod (mN mX11_isCell) ∈ zW ∧ Cond.selects (mN mX11_isCell).cls (mN mX11_isCell) (mN mX11_isCell) ∈ zW := ⟨zW_6 (i := 123) rfl rfl, zW_s (List.mem_of_getElem? (i := 93) rfl) rfl⟩
theorem zVmX11_reckons : Cond.instanceMethod (mN mX11_reckons) ∈ zW ∧ Cond.selects (mN mX11_reckons).cls (mN mX11_reckons) (mN mX11_reckons) ∈ zW := ⟨zW_6 (i := 171) rfl rfl, zW_s (List.mem_of_getElem? (i := 103) rfl) rfl⟩
theorem zVmX11_nextOf : Cond.instanceMethod (mN mX11_nextOf) ∈ zW ∧ Cond.selects (mN mX11_nextOf).cls (mN mX11_nextOf) (mN mX11_nextOf) ∈ zW := ⟨zW_6 (i := 155) rfl rfl, zW_s (List.mem_of_getElem? (i := 99) rfl) rfl⟩
theorem zVmX11_isStone : Cond.instanceMethod (mN mX11_isStone) ∈ zW ∧ Cond.selects (mN mX11_isStone).cls (mN mX11_isStone) (mN mX11_isStone) ∈ zW := ⟨zW_6 (i := 163) rfl rfl, zW_s (List.mem_of_getElem? (i := 101) rfl) rfl⟩
theorem zVmX11_summedBy : Cond.instanceMethod (mN mX11_summedBy) ∈ zW ∧ Cond.selects (mN mX11_summedBy).cls (mN mX11_summedBy) (mN mX11_summedBy) ∈ zW := ⟨zW_6 (i := 167) rfl rfl, zW_s (List.mem_of_getElem? (i := 102) rfl) rfl⟩
theorem zVmX11_quartersOf : Cond.instanceMethod (mN mX11_quartersOf) ∈ zW ∧ Cond.selects (mN mX11_quartersOf).cls (mN mX11_quartersOf) (mN mX11_quartersOf) ∈ zW := ⟨zW_6 (i := 151) rfl rfl, zW_s (List.mem_of_getElem? (i := 98) rfl) rfl⟩
theorem zVmX11_placeAlong : Cond.instanceMethod (mN mX11_placeAlong) ∈ zW ∧ Cond.selects (mN mX11_placeAlong).cls (mN mX11_placeAlong) (mN mX11_placeAlong) ∈ zW := ⟨zW_6 (i := 186) rfl rfl, zW_s (List.mem_of_getElem? (i := 106) rfl) rfl⟩
theorem zVmX11_cellAt : Cond.instanceMethod (mN mX11_cellAt) ∈ zW ∧ Cond.selects (mN mX11_cellAt).cls (mN mX11_cellAt) (mN mX11_cellAt) ∈ zW := ⟨zW_6 (i := 198) rfl rfl, zW_s (List.mem_of_getElem? (i := 109) rfl) rfl⟩
theorem zVmX11_comesOn : Cond.instanceMethod (mN mX11_comesOn) ∈ zW ∧ Cond.selects (mN mX11_comesOn).cls (mN mX11_comesOn) (mN mX11_comesOn) ∈ zW := ⟨zW_6 (i := 194) rfl rfl, zW_s (List.mem_of_getElem? (i := 108) rfl) rfl⟩
theorem zVmX11_walks : Cond.instanceMethod (mN mX11_walks) ∈ zW ∧ Cond.selects (mN mX11_walks).cls (mN mX11_walks) (mN mX11_walks) ∈ zW := ⟨zW_6 (i := 147) rfl rfl, zW_s (List.mem_of_getElem? (i := 97) rfl) rfl⟩
theorem zVmX11_goesOut : Cond.instanceMethod (mN mX11_goesOut) ∈ zW ∧ Cond.selects (mN mX11_goesOut).cls (mN mX11_goesOut) (mN mX11_goesOut) ∈ zW := ⟨zW_6 (i := 190) rfl rfl, zW_s (List.mem_of_getElem? (i := 107) rfl) rfl⟩
theorem zVmX11_passes : Cond.instanceMethod (mN mX11_passes) ∈ zW ∧ Cond.selects (mN mX11_passes).cls (mN mX11_passes) (mN mX11_passes) ∈ zW := ⟨zW_6 (i := 143) rfl rfl, zW_s (List.mem_of_getElem? (i := 96) rfl) rfl⟩
theorem zVmX11_keepsAct : Cond.instanceMethod (mN mX11_keepsAct) ∈ zW ∧ Cond.selects (mN mX11_keepsAct).cls (mN mX11_keepsAct) (mN mX11_keepsAct) ∈ zW := ⟨zW_6 (i := 139) rfl rfl, zW_s (List.mem_of_getElem? (i := 95) rfl) rfl⟩
theorem zVmX11_onesWhoAre : Cond.instanceMethod (mN mX11_onesWhoAre) ∈ zW ∧ Cond.selects (mN mX11_onesWhoAre).cls (mN mX11_onesWhoAre) (mN mX11_onesWhoAre) ∈ zW := ⟨zW_6 (i := 202) rfl rfl, zW_s (List.mem_of_getElem? (i := 110) rfl) rfl⟩
theorem zVmX11_keeps : Cond.instanceMethod (mN mX11_keeps) ∈ zW ∧ Cond.selects (mN mX11_keeps).cls (mN mX11_keeps) (mN mX11_keeps) ∈ zW := ⟨zW_6 (i := 229) rfl rfl, zW_s (List.mem_of_getElem? (i := 111) rfl) rfl⟩
theorem zVmX11_passesAll : Cond.instanceMethod (mN mX11_passesAll) ∈ zW ∧ Cond.selects (mN mX11_passesAll).cls (mN mX11_passesAll) (mN mX11_passesAll) ∈ zW := ⟨zW_6 (i := 233) rfl rfl, zW_s (List.mem_of_getElem? (i := 112) rfl) rfl⟩
theorem zVmX11_laysBack : Cond.instanceMethod (mN mX11_laysBack) ∈ zW ∧ Cond.selects (mN mX11_laysBack).cls (mN mX11_laysBack) (mN mX11_laysBack) ∈ zW := ⟨zW_6 (i := 237) rfl rfl, zW_s (List.mem_of_getElem? (i := 113) rfl) rfl⟩
theorem zVmX11_nears : Cond.instanceMethod (mN mX11_nears) ∈ zW ∧ Cond.selects (mN mX11_nears).cls (mN mX11_nears) (mN mX11_nears) ∈ zW := ⟨zW_7 (i := 25) rfl rfl, zW_s (List.mem_of_getElem? (i := 115) rfl) rfl⟩
theorem zVmX11_goesFrom : Cond.instanceMethod (mN mX11_goesFrom) ∈ zW ∧ Cond.selects (mN mX11_goesFrom).cls (mN mX11_goesFrom) (mN mX11_goesFrom) ∈ zW := ⟨zW_7 (i := 21) rfl rfl, zW_s (List.mem_of_getElem? (i := 114) rfl) rfl⟩
theorem zVmX11_foodAll : Cond.instanceMethod (mN mX11_foodAll) ∈ zW ∧ Cond.selects (mN mX11_foodAll).cls (mN mX11_foodAll) (mN mX11_foodAll) ∈ zW := ⟨zW_7 (i := 49) rfl rfl, zW_s (List.mem_of_getElem? (i := 117) rfl) rfl⟩
theorem zVmX11_weighs : Cond.instanceMethod (mN mX11_weighs) ∈ zW ∧ Cond.selects (mN mX11_weighs).cls (mN mX11_weighs) (mN mX11_weighs) ∈ zW := ⟨zW_7 (i := 42) rfl rfl, zW_s (List.mem_of_getElem? (i := 116) rfl) rfl⟩
theorem zVmX11_isRest : Cond.instanceMethod (mN mX11_isRest) ∈ zW ∧ Cond.selects (mN mX11_isRest).cls (mN mX11_isRest) (mN mX11_isRest) ∈ zW := ⟨zW_7 (i := 61) rfl rfl, zW_s (List.mem_of_getElem? (i := 118) rfl) rfl⟩
theorem zVmX11_whereOf : Cond.instanceMethod (mN mX11_whereOf) ∈ zW ∧ Cond.selects (mN mX11_whereOf).cls (mN mX11_whereOf) (mN mX11_whereOf) ∈ zW := ⟨zW_7 (i := 69) rfl rfl, zW_s (List.mem_of_getElem? (i := 119) rfl) rfl⟩
theorem zVmX11_areAlike : Cond.instanceMethod (mN mX11_areAlike) ∈ zW ∧ Cond.selects (mN mX11_areAlike).cls (mN mX11_areAlike) (mN mX11_areAlike) ∈ zW := ⟨zW_7 (i := 73) rfl rfl, zW_s (List.mem_of_getElem? (i := 120) rfl) rfl⟩
theorem zVmX11_shortOf : Cond.instanceMethod (mN mX11_shortOf) ∈ zW ∧ Cond.selects (mN mX11_shortOf).cls (mN mX11_shortOf) (mN mX11_shortOf) ∈ zW := ⟨zW_7 (i := 82) rfl rfl, zW_s (List.mem_of_getElem? (i := 121) rfl) rfl⟩
theorem zVmX11_cellOn : Cond.instanceMethod (mN mX11_cellOn) ∈ zW ∧ Cond.selects (mN mX11_cellOn).cls (mN mX11_cellOn) (mN mX11_cellOn) ∈ zW := ⟨zW_7 (i := 107) rfl rfl, zW_s (List.mem_of_getElem? (i := 125) rfl) rfl⟩
theorem zVmX11_areNotesSo : Cond.instanceMethod (mN mX11_areNotesSo) ∈ zW ∧ Cond.selects (mN mX11_areNotesSo).cls (mN mX11_areNotesSo) (mN mX11_areNotesSo) ∈ zW := ⟨zW_7 (i := 103) rfl rfl, zW_s (List.mem_of_getElem? (i := 124) rfl) rfl⟩
theorem zVmX11_areAllSo : Cond.instanceMethod (mN mX11_areAllSo) ∈ zW ∧ Cond.selects (mN mX11_areAllSo).cls (mN mX11_areAllSo) (mN mX11_areAllSo) ∈ zW := ⟨zW_7 (i := 99) rfl rfl, zW_s (List.mem_of_getElem? (i := 123) rfl) rfl⟩
theorem zVmX11_fillsFits : Cond.instanceMethod (mN mX11_fillsFits) ∈ zW ∧ Cond.selects (mN mX11_fillsFits).cls (mN mX11_fillsFits) (mN mX11_fillsFits) ∈ zW := ⟨zW_7 (i := 95) rfl rfl, zW_s (List.mem_of_getElem? (i := 122) rfl) rfl⟩
theorem zVmX11_alikeAt : Cond.instanceMethod (mN mX11_alikeAt) ∈ zW ∧ Cond.selects (mN mX11_alikeAt).cls (mN mX11_alikeAt) (mN mX11_alikeAt) ∈ zW := ⟨zW_7 (i := 115) rfl rfl, zW_s (List.mem_of_getElem? (i := 126) rfl) rfl⟩
theorem zVmX11_draw : Cond.instanceMethod (mN mX11_draw) ∈ zW ∧ Cond.selects (mN mX11_draw).cls (mN mX11_draw) (mN mX11_draw) ∈ zW := ⟨zW_7 (i := 133) rfl rfl, zW_s (List.mem_of_getElem? (i := 127) rfl) rfl⟩
theorem zVmX11_blows : Cond.instanceMethod (mN mX11_blows) ∈ zW ∧ Cond.selects (mN mX11_blows).cls (mN mX11_blows) (mN mX11_blows) ∈ zW := ⟨zW_7 (i := 141) rfl rfl, zW_s (List.mem_of_getElem? (i := 128) rfl) rfl⟩
theorem zVmX10_feed : Cond.instanceMethod (mN mX10_feed) ∈ zW ∧ Cond.selects (mN mX10_feed).cls (mN mX10_feed) (mN mX10_feed) ∈ zW := ⟨zW_2 (i := 16) rfl rfl, zW_2 (i := 17) rfl rfl⟩
theorem zVmX11_feed : Cond.instanceMethod (mN mX11_feed) ∈ zW ∧ Cond.selects (mN mX11_feed).cls (mN mX11_feed) (mN mX11_feed) ∈ zW := ⟨zW_5 (i := 132) rfl rfl, zW_5 (i := 133) rfl rfl⟩
theorem zVmX10_end : Cond.instanceMethod (mN mX10_end) ∈ zW ∧ Cond.selects (mN mX10_end).cls (mN mX10_end) (mN mX10_end) ∈ zW := ⟨zW_2 (i := 32) rfl rfl, zW_2 (i := 33) rfl rfl⟩
theorem zVmX11_end : Cond.instanceMethod (mN mX11_end) ∈ zW ∧ Cond.selects (mN mX11_end).cls (mN mX11_end) (mN mX11_end) ∈ zW := ⟨zW_5 (i := 140) rfl rfl, zW_5 (i := 141) rfl rfl⟩
theorem zVmX10_sheet : Cond.instanceMethod (mN mX10_sheet) ∈ zW ∧ Cond.selects (mN mX10_sheet).cls (mN mX10_sheet) (mN mX10_sheet) ∈ zW := ⟨zW_2 (i := 43) rfl rfl, zW_2 (i := 44) rfl rfl⟩
theorem zVmX11_sheet : Cond.instanceMethod (mN mX11_sheet) ∈ zW ∧ Cond.selects (mN mX11_sheet).cls (mN mX11_sheet) (mN mX11_sheet) ∈ zW := ⟨zW_6 (i := 61) rfl rfl, zW_6 (i := 62) rfl rfl⟩
theorem zVmX10_rule : Cond.instanceMethod (mN mX10_rule) ∈ zW ∧ Cond.selects (mN mX10_rule).cls (mN mX10_rule) (mN mX10_rule) ∈ zW := ⟨zW_2 (i := 212) rfl rfl, zW_2 (i := 213) rfl rfl⟩
theorem zVmX11_rule : Cond.instanceMethod (mN mX11_rule) ∈ zW ∧ Cond.selects (mN mX11_rule).cls (mN mX11_rule) (mN mX11_rule) ∈ zW := ⟨zW_5 (i := 144) rfl rfl, zW_5 (i := 145) rfl rfl⟩
theorem zVmX10_force : Cond.instanceMethod (mN mX10_force) ∈ zW ∧ Cond.selects (mN mX10_force).cls (mN mX10_force) (mN mX10_force) ∈ zW := ⟨zW_3 (i := 69) rfl rfl, zW_3 (i := 70) rfl rfl⟩
theorem zVmX11_force : Cond.instanceMethod (mN mX11_force) ∈ zW ∧ Cond.selects (mN mX11_force).cls (mN mX11_force) (mN mX11_force) ∈ zW := ⟨zW_6 (i := 69) rfl rfl, zW_6 (i := 70) rfl rfl⟩
theorem zVmX10_goer : Cond.instanceMethod (mN mX10_goer) ∈ zW ∧ Cond.selects (mN mX10_goer).cls (mN mX10_goer) (mN mX10_goer) ∈ zW := ⟨zW_3 (i := 73) rfl rfl, zW_3 (i := 74) rfl rfl⟩
theorem zVmX11_goer : Cond.instanceMethod (mN mX11_goer) ∈ zW ∧ Cond.selects (mN mX11_goer).cls (mN mX11_goer) (mN mX11_goer) ∈ zW := ⟨zW_6 (i := 77) rfl rfl, zW_6 (i := 78) rfl rfl⟩
theorem zVmX10_join : Cond.instanceMethod (mN mX10_join) ∈ zW ∧ Cond.selects (mN mX10_join).cls (mN mX10_join) (mN mX10_join) ∈ zW := ⟨zW_3 (i := 85) rfl rfl, zW_3 (i := 86) rfl rfl⟩
theorem zVmX11_join : Cond.instanceMethod (mN mX11_join) ∈ zW ∧ Cond.selects (mN mX11_join).cls (mN mX11_join) (mN mX11_join) ∈ zW := ⟨zW_6 (i := 105) rfl rfl, zW_6 (i := 106) rfl rfl⟩
theorem zVmX10_stoneIn : Cond.instanceMethod (mN mX10_stoneIn) ∈ zW ∧ Cond.selects (mN mX10_stoneIn).cls (mN mX10_stoneIn) (mN mX10_stoneIn) ∈ zW := ⟨zW_3 (i := 96) rfl rfl, zW_3 (i := 97) rfl rfl⟩
theorem zVmX11_stoneIn : Cond.instanceMethod (mN mX11_stoneIn) ∈ zW ∧ Cond.selects (mN mX11_stoneIn).cls (mN mX11_stoneIn) (mN mX11_stoneIn) ∈ zW := ⟨zW_6 (i := 118) rfl rfl, zW_6 (i := 119) rfl rfl⟩
theorem zVmX10_step : Cond.instanceMethod (mN mX10_step) ∈ zW ∧ Cond.selects (mN mX10_step).cls (mN mX10_step) (mN mX10_step) ∈ zW := ⟨zW_3 (i := 105) rfl rfl, zW_3 (i := 106) rfl rfl⟩
theorem zVmX11_step : Cond.instanceMethod (mN mX11_step) ∈ zW ∧ Cond.selects (mN mX11_step).cls (mN mX11_step) (mN mX11_step) ∈ zW := ⟨zW_6 (i := 134) rfl rfl, zW_6 (i := 135) rfl rfl⟩
theorem zVmX10_give : Cond.instanceMethod (mN mX10_give) ∈ zW ∧ Cond.selects (mN mX10_give).cls (mN mX10_give) (mN mX10_give) ∈ zW := ⟨zW_3 (i := 200) rfl rfl, zW_3 (i := 201) rfl rfl⟩
theorem zVmX11_give : Cond.instanceMethod (mN mX11_give) ∈ zW ∧ Cond.selects (mN mX11_give).cls (mN mX11_give) (mN mX11_give) ∈ zW := ⟨zW_6 (i := 205) rfl rfl, zW_6 (i := 206) rfl rfl⟩
theorem zVmX10_way : Cond.instanceMethod (mN mX10_way) ∈ zW ∧ Cond.selects (mN mX10_way).cls (mN mX10_way) (mN mX10_way) ∈ zW := ⟨zW_3 (i := 206) rfl rfl, zW_3 (i := 207) rfl rfl⟩
theorem zVmX11_way : Cond.instanceMethod (mN mX11_way) ∈ zW ∧ Cond.selects (mN mX11_way).cls (mN mX11_way) (mN mX11_way) ∈ zW := ⟨zW_6 (i := 210) rfl rfl, zW_6 (i := 211) rfl rfl⟩
theorem zVmX10_stone : Cond.instanceMethod (mN mX10_stone) ∈ zW ∧ Cond.selects (mN mX10_stone).cls (mN mX10_stone) (mN mX10_stone) ∈ zW := ⟨zW_3 (i := 218) rfl rfl, zW_3 (i := 219) rfl rfl⟩
theorem zVmX11_stone : Cond.instanceMethod (mN mX11_stone) ∈ zW ∧ Cond.selects (mN mX11_stone).cls (mN mX11_stone) (mN mX11_stone) ∈ zW := ⟨zW_6 (i := 214) rfl rfl, zW_6 (i := 215) rfl rfl⟩
theorem zVmX10_fold : Cond.instanceMethod (mN mX10_fold) ∈ zW ∧ Cond.selects (mN mX10_fold).cls (mN mX10_fold) (mN mX10_fold) ∈ zW := ⟨zW_3 (i := 226) rfl rfl, zW_3 (i := 227) rfl rfl⟩
theorem zVmX11_fold : Cond.instanceMethod (mN mX11_fold) ∈ zW ∧ Cond.selects (mN mX11_fold).cls (mN mX11_fold) (mN mX11_fold) ∈ zW := ⟨zW_6 (i := 218) rfl rfl, zW_6 (i := 219) rfl rfl⟩
theorem zVmX10_undo : Cond.instanceMethod (mN mX10_undo) ∈ zW ∧ Cond.selects (mN mX10_undo).cls (mN mX10_undo) (mN mX10_undo) ∈ zW := ⟨zW_3 (i := 231) rfl rfl, zW_3 (i := 232) rfl rfl⟩
theorem zVmX11_undo : Cond.instanceMethod (mN mX11_undo) ∈ zW ∧ Cond.selects (mN mX11_undo).cls (mN mX11_undo) (mN mX11_undo) ∈ zW := ⟨zW_6 (i := 130) rfl rfl, zW_6 (i := 131) rfl rfl⟩
theorem zVmX10_ahead : Cond.instanceMethod (mN mX10_ahead) ∈ zW ∧ Cond.selects (mN mX10_ahead).cls (mN mX10_ahead) (mN mX10_ahead) ∈ zW := ⟨zW_3 (i := 239) rfl rfl, zW_4 (i := 0) rfl rfl⟩
theorem zVmX11_ahead : Cond.instanceMethod (mN mX11_ahead) ∈ zW ∧ Cond.selects (mN mX11_ahead).cls (mN mX11_ahead) (mN mX11_ahead) ∈ zW := ⟨zW_6 (i := 222) rfl rfl, zW_6 (i := 223) rfl rfl⟩
theorem zVmX10_home : Cond.instanceMethod (mN mX10_home) ∈ zW ∧ Cond.selects (mN mX10_home).cls (mN mX10_home) (mN mX10_home) ∈ zW := ⟨zW_4 (i := 11) rfl rfl, zW_4 (i := 12) rfl rfl⟩
theorem zVmX11_home : Cond.instanceMethod (mN mX11_home) ∈ zW ∧ Cond.selects (mN mX11_home).cls (mN mX11_home) (mN mX11_home) ∈ zW := ⟨zW_7 (i := 0) rfl rfl, zW_7 (i := 1) rfl rfl⟩
theorem zVmX10_gone : Cond.instanceMethod (mN mX10_gone) ∈ zW ∧ Cond.selects (mN mX10_gone).cls (mN mX10_gone) (mN mX10_gone) ∈ zW := ⟨zW_4 (i := 15) rfl rfl, zW_4 (i := 16) rfl rfl⟩
theorem zVmX11_gone : Cond.instanceMethod (mN mX11_gone) ∈ zW ∧ Cond.selects (mN mX11_gone).cls (mN mX11_gone) (mN mX11_gone) ∈ zW := ⟨zW_7 (i := 4) rfl rfl, zW_7 (i := 5) rfl rfl⟩
theorem zVmX10_leastFood : Cond.instanceMethod (mN mX10_leastFood) ∈ zW ∧ Cond.selects (mN mX10_leastFood).cls (mN mX10_leastFood) (mN mX10_leastFood) ∈ zW := ⟨zW_4 (i := 19) rfl rfl, zW_4 (i := 20) rfl rfl⟩
theorem zVmX11_leastFood : Cond.instanceMethod (mN mX11_leastFood) ∈ zW ∧ Cond.selects (mN mX11_leastFood).cls (mN mX11_leastFood) (mN mX11_leastFood) ∈ zW := ⟨zW_7 (i := 8) rfl rfl, zW_7 (i := 9) rfl rfl⟩
theorem zVmX10_meet : Cond.instanceMethod (mN mX10_meet) ∈ zW ∧ Cond.selects (mN mX10_meet).cls (mN mX10_meet) (mN mX10_meet) ∈ zW := ⟨zW_4 (i := 23) rfl rfl, zW_4 (i := 24) rfl rfl⟩
theorem zVmX11_meet : Cond.instanceMethod (mN mX11_meet) ∈ zW ∧ Cond.selects (mN mX11_meet).cls (mN mX11_meet) (mN mX11_meet) ∈ zW := ⟨zW_7 (i := 12) rfl rfl, zW_7 (i := 13) rfl rfl⟩
theorem zVmX10_shortest : Cond.instanceMethod (mN mX10_shortest) ∈ zW ∧ Cond.selects (mN mX10_shortest).cls (mN mX10_shortest) (mN mX10_shortest) ∈ zW := ⟨zW_4 (i := 27) rfl rfl, zW_4 (i := 28) rfl rfl⟩
theorem zVmX11_shortest : Cond.instanceMethod (mN mX11_shortest) ∈ zW ∧ Cond.selects (mN mX11_shortest).cls (mN mX11_shortest) (mN mX11_shortest) ∈ zW := ⟨zW_7 (i := 16) rfl rfl, zW_7 (i := 17) rfl rfl⟩
theorem zVmX10_seen : Cond.instanceMethod (mN mX10_seen) ∈ zW ∧ Cond.selects (mN mX10_seen).cls (mN mX10_seen) (mN mX10_seen) ∈ zW := ⟨zW_4 (i := 43) rfl rfl, zW_4 (i := 44) rfl rfl⟩
theorem zVmX11_seen : Cond.instanceMethod (mN mX11_seen) ∈ zW ∧ Cond.selects (mN mX11_seen).cls (mN mX11_seen) (mN mX11_seen) ∈ zW := ⟨zW_7 (i := 28) rfl rfl, zW_7 (i := 29) rfl rfl⟩
theorem zVmX10_longest : Cond.instanceMethod (mN mX10_longest) ∈ zW ∧ Cond.selects (mN mX10_longest).cls (mN mX10_longest) (mN mX10_longest) ∈ zW := ⟨zW_4 (i := 53) rfl rfl, zW_4 (i := 54) rfl rfl⟩
theorem zVmX11_longest : Cond.instanceMethod (mN mX11_longest) ∈ zW ∧ Cond.selects (mN mX11_longest).cls (mN mX11_longest) (mN mX11_longest) ∈ zW := ⟨zW_7 (i := 32) rfl rfl, zW_7 (i := 33) rfl rfl⟩
theorem zVmX10_bestFold : Cond.instanceMethod (mN mX10_bestFold) ∈ zW ∧ Cond.selects (mN mX10_bestFold).cls (mN mX10_bestFold) (mN mX10_bestFold) ∈ zW := ⟨zW_4 (i := 61) rfl rfl, zW_4 (i := 62) rfl rfl⟩
theorem zVmX11_bestFold : Cond.instanceMethod (mN mX11_bestFold) ∈ zW ∧ Cond.selects (mN mX11_bestFold).cls (mN mX11_bestFold) (mN mX11_bestFold) ∈ zW := ⟨zW_7 (i := 36) rfl rfl, zW_7 (i := 37) rfl rfl⟩
theorem zVmX10_bestStone : Cond.instanceMethod (mN mX10_bestStone) ∈ zW ∧ Cond.selects (mN mX10_bestStone).cls (mN mX10_bestStone) (mN mX10_bestStone) ∈ zW := ⟨zW_4 (i := 85) rfl rfl, zW_4 (i := 86) rfl rfl⟩
theorem zVmX11_bestStone : Cond.instanceMethod (mN mX11_bestStone) ∈ zW ∧ Cond.selects (mN mX11_bestStone).cls (mN mX11_bestStone) (mN mX11_bestStone) ∈ zW := ⟨zW_7 (i := 52) rfl rfl, zW_7 (i := 53) rfl rfl⟩
theorem zVmX10_rests : Cond.instanceMethod (mN mX10_rests) ∈ zW ∧ Cond.selects (mN mX10_rests).cls (mN mX10_rests) (mN mX10_rests) ∈ zW := ⟨zW_4 (i := 89) rfl rfl, zW_4 (i := 90) rfl rfl⟩
theorem zVmX11_rests : Cond.instanceMethod (mN mX11_rests) ∈ zW ∧ Cond.selects (mN mX11_rests).cls (mN mX11_rests) (mN mX11_rests) ∈ zW := ⟨zW_7 (i := 56) rfl rfl, zW_7 (i := 57) rfl rfl⟩
theorem zVmX10_ring : Cond.instanceMethod (mN mX10_ring) ∈ zW ∧ Cond.selects (mN mX10_ring).cls (mN mX10_ring) (mN mX10_ring) ∈ zW := ⟨zW_4 (i := 101) rfl rfl, zW_4 (i := 102) rfl rfl⟩
theorem zVmX11_ring : Cond.instanceMethod (mN mX11_ring) ∈ zW ∧ Cond.selects (mN mX11_ring).cls (mN mX11_ring) (mN mX11_ring) ∈ zW := ⟨zW_7 (i := 64) rfl rfl, zW_7 (i := 65) rfl rfl⟩
theorem zVmX10_bread : Cond.instanceMethod (mN mX10_bread) ∈ zW ∧ Cond.selects (mN mX10_bread).cls (mN mX10_bread) (mN mX10_bread) ∈ zW := ⟨zW_4 (i := 117) rfl rfl, zW_4 (i := 118) rfl rfl⟩
theorem zVmX11_bread : Cond.instanceMethod (mN mX11_bread) ∈ zW ∧ Cond.selects (mN mX11_bread).cls (mN mX11_bread) (mN mX11_bread) ∈ zW := ⟨zW_7 (i := 76) rfl rfl, zW_7 (i := 77) rfl rfl⟩
theorem zVmX10_note : Cond.instanceMethod (mN mX10_note) ∈ zW ∧ Cond.selects (mN mX10_note).cls (mN mX10_note) (mN mX10_note) ∈ zW := ⟨zW_4 (i := 125) rfl rfl, zW_4 (i := 126) rfl rfl⟩
theorem zVmX11_note : Cond.instanceMethod (mN mX11_note) ∈ zW ∧ Cond.selects (mN mX11_note).cls (mN mX11_note) (mN mX11_note) ∈ zW := ⟨zW_7 (i := 85) rfl rfl, zW_7 (i := 86) rfl rfl⟩
theorem zVmX10_ruled : Cond.instanceMethod (mN mX10_ruled) ∈ zW ∧ Cond.selects (mN mX10_ruled).cls (mN mX10_ruled) (mN mX10_ruled) ∈ zW := ⟨zW_4 (i := 141) rfl rfl, zW_4 (i := 142) rfl rfl⟩
theorem zVmX11_ruled : Cond.instanceMethod (mN mX11_ruled) ∈ zW ∧ Cond.selects (mN mX11_ruled).cls (mN mX11_ruled) (mN mX11_ruled) ∈ zW := ⟨zW_7 (i := 90) rfl rfl, zW_7 (i := 91) rfl rfl⟩
theorem zVmX10_look : Cond.instanceMethod (mN mX10_look) ∈ zW ∧ Cond.selects (mN mX10_look).cls (mN mX10_look) (mN mX10_look) ∈ zW := ⟨zW_4 (i := 160) rfl rfl, zW_4 (i := 161) rfl rfl⟩
theorem zVmX11_look : Cond.instanceMethod (mN mX11_look) ∈ zW ∧ Cond.selects (mN mX11_look).cls (mN mX11_look) (mN mX11_look) ∈ zW := ⟨zW_7 (i := 110) rfl rfl, zW_7 (i := 111) rfl rfl⟩
theorem zVmX10_folds : Cond.instanceMethod (mN mX10_folds) ∈ zW ∧ Cond.selects (mN mX10_folds).cls (mN mX10_folds) (mN mX10_folds) ∈ zW := ⟨zW_4 (i := 173) rfl rfl, zW_4 (i := 174) rfl rfl⟩
theorem zVmX11_folds : Cond.instanceMethod (mN mX11_folds) ∈ zW ∧ Cond.selects (mN mX11_folds).cls (mN mX11_folds) (mN mX11_folds) ∈ zW := ⟨zW_7 (i := 118) rfl rfl, zW_7 (i := 119) rfl rfl⟩
theorem zVmX10_seed : Cond.instanceMethod (mN mX10_seed) ∈ zW ∧ Cond.selects (mN mX10_seed).cls (mN mX10_seed) (mN mX10_seed) ∈ zW := ⟨zW_4 (i := 192) rfl rfl, zW_4 (i := 193) rfl rfl⟩
theorem zVmX11_seed : Cond.instanceMethod (mN mX11_seed) ∈ zW ∧ Cond.selects (mN mX11_seed).cls (mN mX11_seed) (mN mX11_seed) ∈ zW := ⟨zW_7 (i := 123) rfl rfl, zW_7 (i := 124) rfl rfl⟩
theorem zVmX10_gusts : Cond.instanceMethod (mN mX10_gusts) ∈ zW ∧ Cond.selects (mN mX10_gusts).cls (mN mX10_gusts) (mN mX10_gusts) ∈ zW := ⟨zW_4 (i := 196) rfl rfl, zW_4 (i := 197) rfl rfl⟩
theorem zVmX11_gusts : Cond.instanceMethod (mN mX11_gusts) ∈ zW ∧ Cond.selects (mN mX11_gusts).cls (mN mX11_gusts) (mN mX11_gusts) ∈ zW := ⟨zW_7 (i := 127) rfl rfl, zW_7 (i := 128) rfl rfl⟩
theorem zVmX10_count : Cond.instanceMethod (mN mX10_count) ∈ zW ∧ Cond.selects (mN mX10_count).cls (mN mX10_count) (mN mX10_count) ∈ zW := ⟨zW_4 (i := 216) rfl rfl, zW_4 (i := 217) rfl rfl⟩
theorem zVmX11_count : Cond.instanceMethod (mN mX11_count) ∈ zW ∧ Cond.selects (mN mX11_count).cls (mN mX11_count) (mN mX11_count) ∈ zW := ⟨zW_7 (i := 144) rfl rfl, zW_7 (i := 145) rfl rfl⟩
theorem zVmX10_image : Cond.instanceMethod (mN mX10_image) ∈ zW ∧ Cond.selects (mN mX10_image).cls (mN mX10_image) (mN mX10_image) ∈ zW := ⟨zW_4 (i := 228) rfl rfl, zW_4 (i := 229) rfl rfl⟩
theorem zVmX11_image : Cond.instanceMethod (mN mX11_image) ∈ zW ∧ Cond.selects (mN mX11_image).cls (mN mX11_image) (mN mX11_image) ∈ zW := ⟨zW_7 (i := 148) rfl rfl, zW_7 (i := 149) rfl rfl⟩
theorem zVmX10_back : Cond.instanceMethod (mN mX10_back) ∈ zW ∧ Cond.selects (mN mX10_back).cls (mN mX10_back) (mN mX10_back) ∈ zW := ⟨zW_4 (i := 237) rfl rfl, zW_4 (i := 238) rfl rfl⟩
theorem zVmX11_back : Cond.instanceMethod (mN mX11_back) ∈ zW ∧ Cond.selects (mN mX11_back).cls (mN mX11_back) (mN mX11_back) ∈ zW := ⟨zW_7 (i := 152) rfl rfl, zW_7 (i := 153) rfl rfl⟩
theorem zTV_0 : zTV_p (2, 25, 8, mX9_copyFrom) := ⟨kX9_copyFrom, ⟨TX9, 2, rfl⟩, zW_3 (i := 112) rfl rfl, zVmX9_copyFrom⟩
theorem zTV_1 : zTV_p (4, 37, 3, mX4_holdAt) := ⟨kX4_holdAt, ⟨TX4, 4, rfl⟩, zW_4 (i := 153) rfl rfl, zVmX4_holdAt⟩
theorem zTV_2 : zTV_p (4, 41, 8, mX9_pass) := ⟨kX9_pass, ⟨TX9, 2, rfl⟩, zW_4 (i := 158) rfl rfl, zVmX9_pass⟩
theorem zTV_3 : zTV_p (4, 47, 8, mX9_of) := ⟨kX9_of, ⟨TX9, 2, rfl⟩, zW_4 (i := 157) rfl rfl, zVmX9_of⟩
theorem zTV_4 : zTV_p (5, 30, 4, mX5_negate) := ⟨kX5_negate, ⟨TX5, 2, rfl⟩, zW_3 (i := 132) rfl rfl, zVmX5_negate⟩
theorem zTV_5 : zTV_p (5, 34, 4, mX5_combine) := ⟨kX5_combine, ⟨TX5, 2, rfl⟩, zW_3 (i := 136) rfl rfl, zVmX5_combine⟩
theorem zTV_6 : zTV_p (5, 38, 8, mX9_wordOf) := ⟨kX9_wordOf, ⟨TX9, 2, rfl⟩, zW_3 (i := 146) rfl rfl, zVmX9_wordOf⟩
theorem zTV_7 : zTV_p (6, 47, 7, mX8_rewind) := ⟨kX8_rewind, ⟨TX8, 6, rfl⟩, zW_2 (i := 219) rfl rfl, zVmX8_rewind⟩
theorem zTV_8 : zTV_p (6, 52, 7, mX8_next) := ⟨kX8_next, ⟨TX8, 6, rfl⟩, zW_2 (i := 220) rfl rfl, zVmX8_next⟩
theorem zTV_9 : zTV_p (6, 55, 5, mX6_take) := ⟨kX6_take, ⟨TX6, 11, rfl⟩, zW_2 (i := 221) rfl rfl, zVmX6_take⟩
theorem zTV_10 : zTV_p (6, 61, 7, mX8_faultOf) := ⟨kX8_faultOf, ⟨TX8, 6, rfl⟩, zW_3 (i := 43) rfl rfl, zVmX8_faultOf⟩
theorem zTV_11 : zTV_p (6, 65, 7, mX8_kind) := ⟨kX8_kind, ⟨TX8, 6, rfl⟩, zW_2 (i := 236) rfl rfl, zVmX8_kind⟩
theorem zTV_12 : zTV_p (6, 74, 5, mX6_takeTurn) := ⟨kX6_takeTurn, ⟨TX6, 11, rfl⟩, zW_2 (i := 225) rfl rfl, zVmX6_takeTurn⟩
theorem zTV_13 : zTV_p (6, 77, 5, mX6_takeValue) := ⟨kX6_takeValue, ⟨TX6, 11, rfl⟩, zW_2 (i := 231) rfl rfl, zVmX6_takeValue⟩
theorem zTV_14 : zTV_p (6, 80, 5, mX6_takeFact) := ⟨kX6_takeFact, ⟨TX6, 11, rfl⟩, zW_3 (i := 6) rfl rfl, zVmX6_takeFact⟩
theorem zTV_15 : zTV_p (6, 83, 5, mX6_takeBehindValue) := ⟨kX6_takeBehindValue, ⟨TX6, 11, rfl⟩, zW_3 (i := 15) rfl rfl, zVmX6_takeBehindValue⟩
theorem zTV_16 : zTV_p (6, 86, 5, mX6_takeBehindFact) := ⟨kX6_takeBehindFact, ⟨TX6, 11, rfl⟩, zW_3 (i := 38) rfl rfl, zVmX6_takeBehindFact⟩
theorem zTV_17 : zTV_p (6, 91, 7, mX8_wordIn) := ⟨kX8_wordIn, ⟨TX8, 6, rfl⟩, zW_2 (i := 230) rfl rfl, zVmX8_wordIn⟩
theorem zTV_18 : zTV_p (6, 97, 7, mX8_value) := ⟨kX8_value, ⟨TX8, 6, rfl⟩, zW_2 (i := 237) rfl rfl, zVmX8_value⟩
theorem zTV_19 : zTV_p (6, 100, 5, mX6_order) := ⟨kX6_order, ⟨TX6, 11, rfl⟩, zW_2 (i := 238) rfl rfl, zVmX6_order⟩
theorem zTV_20 : zTV_p (6, 104, 5, mX6_partCounted) := ⟨kX6_partCounted, ⟨TX6, 11, rfl⟩, zW_3 (i := 2) rfl rfl, zVmX6_partCounted⟩
theorem zTV_21 : zTV_p (6, 109, 5, mX6_await) := ⟨kX6_await, ⟨TX6, 11, rfl⟩, zW_3 (i := 11) rfl rfl, zVmX6_await⟩
theorem zTV_22 : zTV_p (6, 118, 5, mX6_settle) := ⟨kX6_settle, ⟨TX6, 11, rfl⟩, zW_3 (i := 25) rfl rfl, zVmX6_settle⟩
theorem zTV_23 : zTV_p (6, 121, 5, mX6_takeBehindTurn) := ⟨kX6_takeBehindTurn, ⟨TX6, 11, rfl⟩, zW_3 (i := 29) rfl rfl, zVmX6_takeBehindTurn⟩
theorem zTV_24 : zTV_p (6, 126, 5, mX6_takeEnd) := ⟨kX6_takeEnd, ⟨TX6, 11, rfl⟩, zW_3 (i := 34) rfl rfl, zVmX6_takeEnd⟩
theorem zTV_25 : zTV_p (7, 15, 8, mX9_clear) := ⟨kX9_clear, ⟨TX9, 2, rfl⟩, zW_2 (i := 50) rfl rfl, zVmX9_clear⟩
theorem zTV_26 : zTV_p (7, 20, 7, mX8_rewind) := ⟨kX8_rewind, ⟨TX8, 6, rfl⟩, zW_2 (i := 58) rfl rfl, zVmX8_rewind⟩
theorem zTV_27 : zTV_p (7, 25, 7, mX8_next) := ⟨kX8_next, ⟨TX8, 6, rfl⟩, zW_2 (i := 62) rfl rfl, zVmX8_next⟩
theorem zTV_28 : zTV_p (7, 30, 7, mX8_wordIn) := ⟨kX8_wordIn, ⟨TX8, 6, rfl⟩, zW_2 (i := 89) rfl rfl, zVmX8_wordIn⟩
theorem zTV_29 : zTV_p (7, 40, 6, mX7_readNumbers) := ⟨kX7_readNumbers, ⟨TX7, 1, rfl⟩, zW_2 (i := 152) rfl rfl, zVmX7_readNumbers⟩
theorem zTV_30 : zTV_p (7, 44, 7, mX8_faultOf) := ⟨kX8_faultOf, ⟨TX8, 6, rfl⟩, zW_2 (i := 173) rfl rfl, zVmX8_faultOf⟩
theorem zTV_31 : zTV_p (7, 48, 6, mX7_take) := ⟨kX7_take, ⟨TX7, 1, rfl⟩, zW_2 (i := 177) rfl rfl, zVmX7_take⟩
theorem zTV_32 : zTV_p (7, 52, 7, mX8_kind) := ⟨kX8_kind, ⟨TX8, 6, rfl⟩, zW_2 (i := 156) rfl rfl, zVmX8_kind⟩
theorem zTV_33 : zTV_p (7, 56, 8, mX9_get) := ⟨kX9_get, ⟨TX9, 2, rfl⟩, zW_2 (i := 148) rfl rfl, zVmX9_get⟩
theorem zTV_34 : zTV_p (7, 59, 7, mX8_value) := ⟨kX8_value, ⟨TX8, 6, rfl⟩, zW_2 (i := 160) rfl rfl, zVmX8_value⟩
theorem zTV_35 : zTV_p (7, 69, 8, mX9_cells) := ⟨kX9_cells, ⟨TX9, 2, rfl⟩, zW_2 (i := 167) rfl rfl, zVmX9_cells⟩
theorem zTV_36 : zTV_p (7, 72, 8, mX9_set) := ⟨kX9_set, ⟨TX9, 2, rfl⟩, zW_2 (i := 181) rfl rfl, zVmX9_set⟩
theorem zTV_37 : zTV_p (7, 76, 8, mX9_addGoer) := ⟨kX9_addGoer, ⟨TX9, 2, rfl⟩, zW_2 (i := 182) rfl rfl, zVmX9_addGoer⟩
theorem zTV_38 : zTV_p (8, 31, 7, mX8_byteAt) := ⟨kX8_byteAt, ⟨TX8, 6, rfl⟩, zW_2 (i := 66) rfl rfl, zVmX8_byteAt⟩
theorem zTV_39 : zTV_p (8, 39, 7, mX8_readNumber) := ⟨kX8_readNumber, ⟨TX8, 6, rfl⟩, zW_2 (i := 73) rfl rfl, zVmX8_readNumber⟩
theorem zTV_40 : zTV_p (8, 45, 7, mX8_readWord) := ⟨kX8_readWord, ⟨TX8, 6, rfl⟩, zW_2 (i := 80) rfl rfl, zVmX8_readWord⟩
theorem zTV_41 : zTV_p (8, 48, 7, mX8_readSign) := ⟨kX8_readSign, ⟨TX8, 6, rfl⟩, zW_2 (i := 84) rfl rfl, zVmX8_readSign⟩
theorem zTV_42 : zTV_p (8, 61, 7, mX8_isWord) := ⟨kX8_isWord, ⟨TX8, 6, rfl⟩, zW_2 (i := 141) rfl rfl, zVmX8_isWord⟩
theorem zTV_43 : zTV_p (9, 25, 8, mX9_set) := ⟨kX9_set, ⟨TX9, 2, rfl⟩, zW_2 (i := 54) rfl rfl, zVmX9_set⟩
theorem zTV_44 : zTV_p (9, 29, 8, mX9_get) := ⟨kX9_get, ⟨TX9, 2, rfl⟩, zW_2 (i := 171) rfl rfl, zVmX9_get⟩
theorem zTV_45 : zTV_p (9, 33, 8, mX9_put) := ⟨kX9_put, ⟨TX9, 2, rfl⟩, zW_2 (i := 186) rfl rfl, zVmX9_put⟩
theorem zTV_46 : zTV_p (9, 37, 8, mX9_of) := ⟨kX9_of, ⟨TX9, 2, rfl⟩, zW_3 (i := 126) rfl rfl, zVmX9_of⟩
theorem zTV_47 : zTV_p (9, 41, 8, mX9_columnOf) := ⟨kX9_columnOf, ⟨TX9, 2, rfl⟩, zW_3 (i := 154) rfl rfl, zVmX9_columnOf⟩
theorem zTV_48 : zTV_p (9, 44, 8, mX9_rowOf) := ⟨kX9_rowOf, ⟨TX9, 2, rfl⟩, zW_3 (i := 150) rfl rfl, zVmX9_rowOf⟩
theorem zTV_49 : zTV_p (9, 47, 4, mX5_quarters) := ⟨kX5_quarters, ⟨TX5, 2, rfl⟩, zW_3 (i := 127) rfl rfl, zVmX5_quarters⟩
theorem zTV_50 : zTV_p (9, 53, 8, mX9_goOn) := ⟨kX9_goOn, ⟨TX9, 2, rfl⟩, zW_3 (i := 174) rfl rfl, zVmX9_goOn⟩
theorem zTV_51 : zTV_p (9, 57, 8, mX9_bideOut) := ⟨kX9_bideOut, ⟨TX9, 2, rfl⟩, zW_3 (i := 182) rfl rfl, zVmX9_bideOut⟩
theorem zTV_52 : zTV_p (9, 60, 8, mX9_nextCell) := ⟨kX9_nextCell, ⟨TX9, 2, rfl⟩, zW_3 (i := 162) rfl rfl, zVmX9_nextCell⟩
theorem zTV_53 : zTV_p (9, 63, 8, mX9_placeOf) := ⟨kX9_placeOf, ⟨TX9, 2, rfl⟩, zW_3 (i := 178) rfl rfl, zVmX9_placeOf⟩
theorem zTV_54 : zTV_p (9, 66, 8, mX9_hasStone) := ⟨kX9_hasStone, ⟨TX9, 2, rfl⟩, zW_3 (i := 166) rfl rfl, zVmX9_hasStone⟩
theorem zTV_55 : zTV_p (9, 70, 8, mX9_comeIn) := ⟨kX9_comeIn, ⟨TX9, 2, rfl⟩, zW_3 (i := 186) rfl rfl, zVmX9_comeIn⟩
theorem zTV_56 : zTV_p (9, 73, 8, mX9_cellAt) := ⟨kX9_cellAt, ⟨TX9, 2, rfl⟩, zW_3 (i := 190) rfl rfl, zVmX9_cellAt⟩
theorem zTV_57 : zTV_p (9, 81, 8, mX9_margin) := ⟨kX9_margin, ⟨TX9, 2, rfl⟩, zW_3 (i := 158) rfl rfl, zVmX9_margin⟩
theorem zTV_58 : zTV_p (9, 84, 8, mX9_othersIn) := ⟨kX9_othersIn, ⟨TX9, 2, rfl⟩, zW_3 (i := 170) rfl rfl, zVmX9_othersIn⟩
theorem zTV_59 : zTV_p (10, 97, 7, mX8_hasRoom) := ⟨kX8_hasRoom, ⟨TX8, 6, rfl⟩, zW_2 (i := 19) rfl rfl, zVmX8_hasRoom⟩
theorem zTV_60 : zTV_p (10, 101, 7, mX8_append) := ⟨kX8_append, ⟨TX8, 6, rfl⟩, zW_2 (i := 23) rfl rfl, zVmX8_append⟩
theorem zTV_61 : zTV_p (10, 105, 7, mX8_length) := ⟨kX8_length, ⟨TX8, 6, rfl⟩, zW_2 (i := 27) rfl rfl, zVmX8_length⟩
theorem zTV_62 : zTV_p (10, 113, 7, mX8_cutTo) := ⟨kX8_cutTo, ⟨TX8, 6, rfl⟩, zW_2 (i := 38) rfl rfl, zVmX8_cutTo⟩
theorem zTV_63 : zTV_p (10, 116, 6, mX7_read) := ⟨kX7_read, ⟨TX7, 1, rfl⟩, zW_2 (i := 46) rfl rfl, zVmX7_read⟩
theorem zTV_64 : zTV_p (10, 120, 8, mX9_copyFrom) := ⟨kX9_copyFrom, ⟨TX9, 2, rfl⟩, zW_2 (i := 190) rfl rfl, zVmX9_copyFrom⟩
theorem zTV_65 : zTV_p (10, 124, 3, mX4_clear) := ⟨kX4_clear, ⟨TX4, 4, rfl⟩, zW_2 (i := 197) rfl rfl, zVmX4_clear⟩
theorem zTV_66 : zTV_p (10, 127, 1, mX2_clear) := ⟨kX2_clear, ⟨TX2, 3, rfl⟩, zW_2 (i := 201) rfl rfl, zVmX2_clear⟩
theorem zTV_67 : zTV_p (10, 128, 9, mX10_goers) := ⟨kX10_goers, ⟨TX10, 17, rfl⟩, zW_2 (i := 205) rfl rfl, zVmX10_goers⟩
theorem zTV_68 : zTV_p (10, 131, 5, mX6_read) := ⟨kX6_read, ⟨TX6, 11, rfl⟩, zW_2 (i := 215) rfl rfl, zVmX6_read⟩
theorem zTV_69 : zTV_p (10, 134, 5, mX6_made) := ⟨kX6_made, ⟨TX6, 11, rfl⟩, zW_3 (i := 44) rfl rfl, zVmX6_made⟩
theorem zTV_70 : zTV_p (10, 138, 9, mX10_isGoer) := ⟨kX10_isGoer, ⟨TX10, 17, rfl⟩, zW_3 (i := 76) rfl rfl, zVmX10_isGoer⟩
theorem zTV_71 : zTV_p (10, 141, 8, mX9_of) := ⟨kX9_of, ⟨TX9, 2, rfl⟩, zW_3 (i := 80) rfl rfl, zVmX9_of⟩
theorem zTV_72 : zTV_p (10, 145, 9, mX10_hasSheet) := ⟨kX10_hasSheet, ⟨TX10, 17, rfl⟩, zW_3 (i := 88) rfl rfl, zVmX10_hasSheet⟩
theorem zTV_73 : zTV_p (10, 152, 8, mX9_get) := ⟨kX9_get, ⟨TX9, 2, rfl⟩, zW_2 (i := 209) rfl rfl, zVmX9_get⟩
theorem zTV_74 : zTV_p (10, 156, 9, mX10_isCell) := ⟨kX10_isCell, ⟨TX10, 17, rfl⟩, zW_3 (i := 99) rfl rfl, zVmX10_isCell⟩
theorem zTV_75 : zTV_p (10, 159, 1, mX2_keep) := ⟨kX2_keep, ⟨TX2, 3, rfl⟩, zW_3 (i := 108) rfl rfl, zVmX2_keep⟩
theorem zTV_76 : zTV_p (10, 162, 9, mX10_ruleInForce) := ⟨kX10_ruleInForce, ⟨TX10, 17, rfl⟩, zW_3 (i := 114) rfl rfl, zVmX10_ruleInForce⟩
theorem zTV_77 : zTV_p (10, 165, 8, mX9_pass) := ⟨kX9_pass, ⟨TX9, 2, rfl⟩, zW_3 (i := 122) rfl rfl, zVmX9_pass⟩
theorem zTV_78 : zTV_p (10, 169, 8, mX9_bitsOf) := ⟨kX9_bitsOf, ⟨TX9, 2, rfl⟩, zW_3 (i := 195) rfl rfl, zVmX9_bitsOf⟩
theorem zTV_79 : zTV_p (10, 177, 8, mX9_put) := ⟨kX9_put, ⟨TX9, 2, rfl⟩, zW_3 (i := 204) rfl rfl, zVmX9_put⟩
theorem zTV_80 : zTV_p (10, 181, 9, mX10_isOn) := ⟨kX10_isOn, ⟨TX10, 17, rfl⟩, zW_3 (i := 209) rfl rfl, zVmX10_isOn⟩
theorem zTV_81 : zTV_p (10, 184, 8, mX9_turnStone) := ⟨kX9_turnStone, ⟨TX9, 2, rfl⟩, zW_3 (i := 221) rfl rfl, zVmX9_turnStone⟩
theorem zTV_82 : zTV_p (10, 187, 8, mX9_set) := ⟨kX9_set, ⟨TX9, 2, rfl⟩, zW_3 (i := 229) rfl rfl, zVmX9_set⟩
theorem zTV_83 : zTV_p (10, 191, 1, mX2_goBack) := ⟨kX2_goBack, ⟨TX2, 3, rfl⟩, zW_3 (i := 234) rfl rfl, zVmX2_goBack⟩
theorem zTV_84 : zTV_p (10, 195, 9, mX10_restart) := ⟨kX10_restart, ⟨TX10, 17, rfl⟩, zW_4 (i := 2) rfl rfl, zVmX10_restart⟩
theorem zTV_85 : zTV_p (10, 198, 9, mX10_walkOn) := ⟨kX10_walkOn, ⟨TX10, 17, rfl⟩, zW_4 (i := 6) rfl rfl, zVmX10_walkOn⟩
theorem zTV_86 : zTV_p (10, 202, 8, mX9_isOn) := ⟨kX9_isOn, ⟨TX9, 2, rfl⟩, zW_3 (i := 213) rfl rfl, zVmX9_isOn⟩
theorem zTV_87 : zTV_p (10, 203, 9, mX10_findWaysFrom) := ⟨kX10_findWaysFrom, ⟨TX10, 17, rfl⟩, zW_4 (i := 30) rfl rfl, zVmX10_findWaysFrom⟩
theorem zTV_88 : zTV_p (10, 212, 9, mX10_countOut) := ⟨kX10_countOut, ⟨TX10, 17, rfl⟩, zW_4 (i := 56) rfl rfl, zVmX10_countOut⟩
theorem zTV_89 : zTV_p (10, 215, 9, mX10_costBehind) := ⟨kX10_costBehind, ⟨TX10, 17, rfl⟩, zW_4 (i := 64) rfl rfl, zVmX10_costBehind⟩
theorem zTV_90 : zTV_p (10, 224, 8, mX9_cells) := ⟨kX9_cells, ⟨TX9, 2, rfl⟩, zW_3 (i := 103) rfl rfl, zVmX9_cells⟩
theorem zTV_91 : zTV_p (10, 227, 9, mX10_countOn) := ⟨kX10_countOn, ⟨TX10, 17, rfl⟩, zW_4 (i := 92) rfl rfl, zVmX10_countOn⟩
theorem zTV_92 : zTV_p (10, 231, 9, mX10_isRest) := ⟨kX10_isRest, ⟨TX10, 17, rfl⟩, zW_4 (i := 96) rfl rfl, zVmX10_isRest⟩
theorem zTV_93 : zTV_p (10, 234, 9, mX10_trackAll) := ⟨kX10_trackAll, ⟨TX10, 17, rfl⟩, zW_4 (i := 104) rfl rfl, zVmX10_trackAll⟩
theorem zTV_94 : zTV_p (10, 237, 9, mX10_sameTrack) := ⟨kX10_sameTrack, ⟨TX10, 17, rfl⟩, zW_4 (i := 112) rfl rfl, zVmX10_sameTrack⟩
theorem zTV_95 : zTV_p (10, 241, 9, mX10_hungerOf) := ⟨kX10_hungerOf, ⟨TX10, 17, rfl⟩, zW_4 (i := 120) rfl rfl, zVmX10_hungerOf⟩
theorem zTV_96 : zTV_p (10, 244, 3, mX4_isFull) := ⟨kX4_isFull, ⟨TX4, 4, rfl⟩, zW_4 (i := 128) rfl rfl, zVmX4_isFull⟩
theorem zTV_97 : zTV_p (10, 247, 3, mX4_add) := ⟨kX4_add, ⟨TX4, 4, rfl⟩, zW_4 (i := 132) rfl rfl, zVmX4_add⟩
theorem zTV_98 : zTV_p (10, 250, 3, mX4_size) := ⟨kX4_size, ⟨TX4, 4, rfl⟩, zW_4 (i := 136) rfl rfl, zVmX4_size⟩
theorem zTV_99 : zTV_p (10, 253, 9, mX10_rightlyRuled) := ⟨kX10_rightlyRuled, ⟨TX10, 17, rfl⟩, zW_4 (i := 144) rfl rfl, zVmX10_rightlyRuled⟩
theorem zTV_100 : zTV_p (10, 256, 9, mX10_trackFitting) := ⟨kX10_trackFitting, ⟨TX10, 17, rfl⟩, zW_4 (i := 163) rfl rfl, zVmX10_trackFitting⟩
theorem zTV_101 : zTV_p (10, 259, 9, mX10_mostAlike) := ⟨kX10_mostAlike, ⟨TX10, 17, rfl⟩, zW_4 (i := 167) rfl rfl, zVmX10_mostAlike⟩
theorem zTV_102 : zTV_p (10, 262, 9, mX10_rightlyFolded) := ⟨kX10_rightlyFolded, ⟨TX10, 17, rfl⟩, zW_4 (i := 176) rfl rfl, zVmX10_rightlyFolded⟩
theorem zTV_103 : zTV_p (10, 265, 9, mX10_behindAllLike) := ⟨kX10_behindAllLike, ⟨TX10, 17, rfl⟩, zW_4 (i := 183) rfl rfl, zVmX10_behindAllLike⟩
theorem zTV_104 : zTV_p (10, 271, 0, mX0_begin) := ⟨kX0_begin, ⟨TX0, 1, rfl⟩, zW_4 (i := 199) rfl rfl, zVmX0_begin⟩
theorem zTV_105 : zTV_p (10, 274, 9, mX10_gust) := ⟨kX10_gust, ⟨TX10, 17, rfl⟩, zW_4 (i := 203) rfl rfl, zVmX10_gust⟩
theorem zTV_106 : zTV_p (10, 281, 8, mX9_foodOfAll) := ⟨kX9_foodOfAll, ⟨TX9, 2, rfl⟩, zW_4 (i := 74) rfl rfl, zVmX9_foodOfAll⟩
theorem zTV_107 : zTV_p (10, 284, 8, mX9_stones) := ⟨kX9_stones, ⟨TX9, 2, rfl⟩, zW_4 (i := 219) rfl rfl, zVmX9_stones⟩
theorem zTV_108 : zTV_p (10, 287, 1, mX2_size) := ⟨kX2_size, ⟨TX2, 3, rfl⟩, zW_4 (i := 223) rfl rfl, zVmX2_size⟩
theorem zTV_109 : zTV_p (10, 294, 3, mX4_copyFrom) := ⟨kX4_copyFrom, ⟨TX4, 4, rfl⟩, zW_4 (i := 231) rfl rfl, zVmX4_copyFrom⟩
theorem zTV_110 : zTV_p (10, 299, 9, mX10_ruleOf) := ⟨kX10_ruleOf, ⟨TX10, 17, rfl⟩, zW_3 (i := 118) rfl rfl, zVmX10_ruleOf⟩
theorem zTV_111 : zTV_p (10, 303, 9, mX10_spreadFrom) := ⟨kX10_spreadFrom, ⟨TX10, 17, rfl⟩, zW_4 (i := 34) rfl rfl, zVmX10_spreadFrom⟩
theorem zTV_112 : zTV_p (10, 306, 8, mX9_nextCell) := ⟨kX9_nextCell, ⟨TX9, 2, rfl⟩, zW_4 (i := 38) rfl rfl, zVmX9_nextCell⟩
theorem zTV_113 : zTV_p (10, 309, 8, mX9_placeOf) := ⟨kX9_placeOf, ⟨TX9, 2, rfl⟩, zW_4 (i := 39) rfl rfl, zVmX9_placeOf⟩
theorem zTV_114 : zTV_p (10, 312, 8, mX9_cellAt) := ⟨kX9_cellAt, ⟨TX9, 2, rfl⟩, zW_4 (i := 40) rfl rfl, zVmX9_cellAt⟩
theorem zTV_115 : zTV_p (10, 315, 8, mX9_hasStone) := ⟨kX9_hasStone, ⟨TX9, 2, rfl⟩, zW_4 (i := 41) rfl rfl, zVmX9_hasStone⟩
theorem zTV_116 : zTV_p (10, 318, 8, mX9_whereabouts) := ⟨kX9_whereabouts, ⟨TX9, 2, rfl⟩, zW_4 (i := 108) rfl rfl, zVmX9_whereabouts⟩
theorem zTV_117 : zTV_p (10, 321, 3, mX4_holdFrom) := ⟨kX4_holdFrom, ⟨TX4, 4, rfl⟩, zW_4 (i := 148) rfl rfl, zVmX4_holdFrom⟩
theorem zTV_118 : zTV_p (10, 328, 8, mX9_lastUsed) := ⟨kX9_lastUsed, ⟨TX9, 2, rfl⟩, zW_4 (i := 187) rfl rfl, zVmX9_lastUsed⟩
theorem zTV_119 : zTV_p (10, 331, 0, mX0_draw) := ⟨kX0_draw, ⟨TX0, 1, rfl⟩, zW_4 (i := 207) rfl rfl, zVmX0_draw⟩
theorem zTV_120 : zTV_p (11, 89, 10, mX11_four) := ⟨kX11_four, ⟨TX11, 41, rfl⟩, zW_5 (i := 135) rfl rfl, zVmX11_four⟩
theorem zTV_121 : zTV_p (11, 99, 10, mX11_see) := ⟨kX11_see, ⟨TX11, 41, rfl⟩, zW_5 (i := 155) rfl rfl, zVmX11_see⟩
theorem zTV_122 : zTV_p (11, 103, 10, mX11_isLetter) := ⟨kX11_isLetter, ⟨TX11, 41, rfl⟩, zW_5 (i := 168) rfl rfl, zVmX11_isLetter⟩
theorem zTV_123 : zTV_p (11, 107, 10, mX11_isWord) := ⟨kX11_isWord, ⟨TX11, 41, rfl⟩, zW_5 (i := 164) rfl rfl, zVmX11_isWord⟩
theorem zTV_124 : zTV_p (11, 111, 10, mX11_passWord) := ⟨kX11_passWord, ⟨TX11, 41, rfl⟩, zW_5 (i := 188) rfl rfl, zVmX11_passWord⟩
theorem zTV_125 : zTV_p (11, 114, 10, mX11_isDigit) := ⟨kX11_isDigit, ⟨TX11, 41, rfl⟩, zW_5 (i := 200) rfl rfl, zVmX11_isDigit⟩
theorem zTV_126 : zTV_p (11, 117, 10, mX11_fails) := ⟨kX11_fails, ⟨TX11, 41, rfl⟩, zW_5 (i := 176) rfl rfl, zVmX11_fails⟩
theorem zTV_127 : zTV_p (11, 166, 10, mX11_puts) := ⟨kX11_puts, ⟨TX11, 41, rfl⟩, zW_6 (i := 4) rfl rfl, zVmX11_puts⟩
theorem zTV_128 : zTV_p (11, 171, 10, mX11_numberHere) := ⟨kX11_numberHere, ⟨TX11, 41, rfl⟩, zW_5 (i := 196) rfl rfl, zVmX11_numberHere⟩
theorem zTV_129 : zTV_p (11, 174, 10, mX11_makes) := ⟨kX11_makes, ⟨TX11, 41, rfl⟩, zW_6 (i := 0) rfl rfl, zVmX11_makes⟩
theorem zTV_130 : zTV_p (11, 177, 10, mX11_wordHere) := ⟨kX11_wordHere, ⟨TX11, 41, rfl⟩, zW_6 (i := 8) rfl rfl, zVmX11_wordHere⟩
theorem zTV_131 : zTV_p (11, 180, 10, mX11_value) := ⟨kX11_value, ⟨TX11, 41, rfl⟩, zW_5 (i := 235) rfl rfl, zVmX11_value⟩
theorem zTV_132 : zTV_p (11, 184, 10, mX11_term) := ⟨kX11_term, ⟨TX11, 41, rfl⟩, zW_5 (i := 231) rfl rfl, zVmX11_term⟩
theorem zTV_133 : zTV_p (11, 187, 10, mX11_sum) := ⟨kX11_sum, ⟨TX11, 41, rfl⟩, zW_5 (i := 227) rfl rfl, zVmX11_sum⟩
theorem zTV_134 : zTV_p (11, 192, 10, mX11_opens) := ⟨kX11_opens, ⟨TX11, 41, rfl⟩, zW_6 (i := 35) rfl rfl, zVmX11_opens⟩
theorem zTV_135 : zTV_p (11, 195, 10, mX11_compare) := ⟨kX11_compare, ⟨TX11, 41, rfl⟩, zW_6 (i := 39) rfl rfl, zVmX11_compare⟩
theorem zTV_136 : zTV_p (11, 198, 10, mX11_layDown) := ⟨kX11_layDown, ⟨TX11, 41, rfl⟩, zW_6 (i := 47) rfl rfl, zVmX11_layDown⟩
theorem zTV_137 : zTV_p (11, 201, 10, mX11_isInside) := ⟨kX11_isInside, ⟨TX11, 41, rfl⟩, zW_6 (i := 54) rfl rfl, zVmX11_isInside⟩
theorem zTV_138 : zTV_p (11, 204, 10, mX11_fact) := ⟨kX11_fact, ⟨TX11, 41, rfl⟩, zW_6 (i := 30) rfl rfl, zVmX11_fact⟩
theorem zTV_139 : zTV_p (11, 207, 10, mX11_closes) := ⟨kX11_closes, ⟨TX11, 41, rfl⟩, zW_6 (i := 43) rfl rfl, zVmX11_closes⟩
theorem zTV_140 : zTV_p (11, 216, 10, mX11_takesWord) := ⟨kX11_takesWord, ⟨TX11, 41, rfl⟩, zW_6 (i := 22) rfl rfl, zVmX11_takesWord⟩
theorem zTV_141 : zTV_p (11, 219, 10, mX11_tested) := ⟨kX11_tested, ⟨TX11, 41, rfl⟩, zW_6 (i := 26) rfl rfl, zVmX11_tested⟩
theorem zTV_142 : zTV_p (11, 222, 10, mX11_cellHere) := ⟨kX11_cellHere, ⟨TX11, 41, rfl⟩, zW_5 (i := 192) rfl rfl, zVmX11_cellHere⟩
theorem zTV_143 : zTV_p (11, 226, 10, mX11_lastCell) := ⟨kX11_lastCell, ⟨TX11, 41, rfl⟩, zW_5 (i := 211) rfl rfl, zVmX11_lastCell⟩
theorem zTV_144 : zTV_p (11, 231, 10, mX11_isSheetHere) := ⟨kX11_isSheetHere, ⟨TX11, 41, rfl⟩, zW_5 (i := 184) rfl rfl, zVmX11_isSheetHere⟩
theorem zTV_145 : zTV_p (11, 234, 10, mX11_isGoerHere) := ⟨kX11_isGoerHere, ⟨TX11, 41, rfl⟩, zW_5 (i := 207) rfl rfl, zVmX11_isGoerHere⟩
theorem zTV_146 : zTV_p (11, 239, 10, mX11_isJoinHere) := ⟨kX11_isJoinHere, ⟨TX11, 41, rfl⟩, zW_5 (i := 215) rfl rfl, zVmX11_isJoinHere⟩
theorem zTV_147 : zTV_p (11, 242, 10, mX11_isStoneHere) := ⟨kX11_isStoneHere, ⟨TX11, 41, rfl⟩, zW_5 (i := 219) rfl rfl, zVmX11_isStoneHere⟩
theorem zTV_148 : zTV_p (11, 245, 10, mX11_isSheetWord) := ⟨kX11_isSheetWord, ⟨TX11, 41, rfl⟩, zW_5 (i := 159) rfl rfl, zVmX11_isSheetWord⟩
theorem zTV_149 : zTV_p (11, 253, 10, mX11_sheetLineHere) := ⟨kX11_sheetLineHere, ⟨TX11, 41, rfl⟩, zW_5 (i := 180) rfl rfl, zVmX11_sheetLineHere⟩
theorem zTV_150 : zTV_p (11, 256, 10, mX11_isTurnHere) := ⟨kX11_isTurnHere, ⟨TX11, 41, rfl⟩, zW_5 (i := 223) rfl rfl, zVmX11_isTurnHere⟩
theorem zTV_151 : zTV_p (11, 259, 10, mX11_clauseHere) := ⟨kX11_clauseHere, ⟨TX11, 41, rfl⟩, zW_5 (i := 151) rfl rfl, zVmX11_clauseHere⟩
theorem zTV_152 : zTV_p (11, 265, 10, mX11_readsAll) := ⟨kX11_readsAll, ⟨TX11, 41, rfl⟩, zW_5 (i := 147) rfl rfl, zVmX11_readsAll⟩
theorem zTV_153 : zTV_p (11, 268, 10, mX11_begins) := ⟨kX11_begins, ⟨TX11, 41, rfl⟩, zW_6 (i := 64) rfl rfl, zVmX11_begins⟩
theorem zTV_154 : zTV_p (11, 277, 10, mX11_push) := ⟨kX11_push, ⟨TX11, 41, rfl⟩, zW_6 (i := 173) rfl rfl, zVmX11_push⟩
theorem zTV_155 : zTV_p (11, 281, 10, mX11_pop) := ⟨kX11_pop, ⟨TX11, 41, rfl⟩, zW_6 (i := 177) rfl rfl, zVmX11_pop⟩
theorem zTV_156 : zTV_p (11, 289, 10, mX11_cells) := ⟨kX11_cells, ⟨TX11, 41, rfl⟩, zW_6 (i := 125) rfl rfl, zVmX11_cells⟩
theorem zTV_157 : zTV_p (11, 292, 10, mX11_isSheet) := ⟨kX11_isSheet, ⟨TX11, 41, rfl⟩, zW_6 (i := 112) rfl rfl, zVmX11_isSheet⟩
theorem zTV_158 : zTV_p (11, 297, 10, mX11_statusOf) := ⟨kX11_statusOf, ⟨TX11, 41, rfl⟩, zW_6 (i := 88) rfl rfl, zVmX11_statusOf⟩
theorem zTV_159 : zTV_p (11, 300, 10, mX11_foodOf) := ⟨kX11_foodOf, ⟨TX11, 41, rfl⟩, zW_6 (i := 100) rfl rfl, zVmX11_foodOf⟩
theorem zTV_160 : zTV_p (11, 303, 10, mX11_marginOf) := ⟨kX11_marginOf, ⟨TX11, 41, rfl⟩, zW_6 (i := 157) rfl rfl, zVmX11_marginOf⟩
theorem zTV_161 : zTV_p (11, 307, 10, mX11_isRule) := ⟨kX11_isRule, ⟨TX11, 41, rfl⟩, zW_6 (i := 72) rfl rfl, zVmX11_isRule⟩
theorem zTV_162 : zTV_p (11, 310, 10, mX11_isGoer) := ⟨kX11_isGoer, ⟨TX11, 41, rfl⟩, zW_6 (i := 80) rfl rfl, zVmX11_isGoer⟩
theorem zTV_163 : zTV_p (11, 313, 10, mX11_isOn) := ⟨kX11_isOn, ⟨TX11, 41, rfl⟩, zW_6 (i := 84) rfl rfl, zVmX11_isOn⟩
theorem zTV_164 : zTV_p (11, 316, 10, mX11_cellOf) := ⟨kX11_cellOf, ⟨TX11, 41, rfl⟩, zW_6 (i := 92) rfl rfl, zVmX11_cellOf⟩
theorem zTV_165 : zTV_p (11, 319, 10, mX11_facesOf) := ⟨kX11_facesOf, ⟨TX11, 41, rfl⟩, zW_6 (i := 96) rfl rfl, zVmX11_facesOf⟩
theorem zTV_166 : zTV_p (11, 322, 10, mX11_isEdge) := ⟨kX11_isEdge, ⟨TX11, 41, rfl⟩, zW_6 (i := 108) rfl rfl, zVmX11_isEdge⟩
theorem zTV_167 : zTV_p (11, 325, 10, mX11_isCell) := ⟨kX11_isCell, ⟨TX11, 41, rfl⟩, zW_6 (i := 121) rfl rfl, zVmX11_isCell⟩
theorem zTV_168 : zTV_p (11, 328, 10, mX11_reckons) := ⟨kX11_reckons, ⟨TX11, 41, rfl⟩, zW_6 (i := 169) rfl rfl, zVmX11_reckons⟩
theorem zTV_169 : zTV_p (11, 332, 10, mX11_nextOf) := ⟨kX11_nextOf, ⟨TX11, 41, rfl⟩, zW_6 (i := 153) rfl rfl, zVmX11_nextOf⟩
theorem zTV_170 : zTV_p (11, 335, 10, mX11_isStone) := ⟨kX11_isStone, ⟨TX11, 41, rfl⟩, zW_6 (i := 161) rfl rfl, zVmX11_isStone⟩
theorem zTV_171 : zTV_p (11, 338, 10, mX11_summedBy) := ⟨kX11_summedBy, ⟨TX11, 41, rfl⟩, zW_6 (i := 165) rfl rfl, zVmX11_summedBy⟩
theorem zTV_172 : zTV_p (11, 342, 10, mX11_quartersOf) := ⟨kX11_quartersOf, ⟨TX11, 41, rfl⟩, zW_6 (i := 149) rfl rfl, zVmX11_quartersOf⟩
theorem zTV_173 : zTV_p (11, 345, 10, mX11_placeAlong) := ⟨kX11_placeAlong, ⟨TX11, 41, rfl⟩, zW_6 (i := 184) rfl rfl, zVmX11_placeAlong⟩
theorem zTV_174 : zTV_p (11, 348, 10, mX11_cellAt) := ⟨kX11_cellAt, ⟨TX11, 41, rfl⟩, zW_6 (i := 196) rfl rfl, zVmX11_cellAt⟩
theorem zTV_175 : zTV_p (11, 351, 10, mX11_comesOn) := ⟨kX11_comesOn, ⟨TX11, 41, rfl⟩, zW_6 (i := 192) rfl rfl, zVmX11_comesOn⟩
theorem zTV_176 : zTV_p (11, 354, 10, mX11_walks) := ⟨kX11_walks, ⟨TX11, 41, rfl⟩, zW_6 (i := 145) rfl rfl, zVmX11_walks⟩
theorem zTV_177 : zTV_p (11, 357, 10, mX11_goesOut) := ⟨kX11_goesOut, ⟨TX11, 41, rfl⟩, zW_6 (i := 188) rfl rfl, zVmX11_goesOut⟩
theorem zTV_178 : zTV_p (11, 360, 10, mX11_passes) := ⟨kX11_passes, ⟨TX11, 41, rfl⟩, zW_6 (i := 141) rfl rfl, zVmX11_passes⟩
theorem zTV_179 : zTV_p (11, 363, 10, mX11_keepsAct) := ⟨kX11_keepsAct, ⟨TX11, 41, rfl⟩, zW_6 (i := 137) rfl rfl, zVmX11_keepsAct⟩
theorem zTV_180 : zTV_p (11, 366, 10, mX11_onesWhoAre) := ⟨kX11_onesWhoAre, ⟨TX11, 41, rfl⟩, zW_6 (i := 200) rfl rfl, zVmX11_onesWhoAre⟩
theorem zTV_181 : zTV_p (11, 375, 10, mX11_keeps) := ⟨kX11_keeps, ⟨TX11, 41, rfl⟩, zW_6 (i := 227) rfl rfl, zVmX11_keeps⟩
theorem zTV_182 : zTV_p (11, 378, 10, mX11_passesAll) := ⟨kX11_passesAll, ⟨TX11, 41, rfl⟩, zW_6 (i := 231) rfl rfl, zVmX11_passesAll⟩
theorem zTV_183 : zTV_p (11, 381, 10, mX11_laysBack) := ⟨kX11_laysBack, ⟨TX11, 41, rfl⟩, zW_6 (i := 235) rfl rfl, zVmX11_laysBack⟩
theorem zTV_184 : zTV_p (11, 384, 10, mX11_nears) := ⟨kX11_nears, ⟨TX11, 41, rfl⟩, zW_7 (i := 23) rfl rfl, zVmX11_nears⟩
theorem zTV_185 : zTV_p (11, 387, 10, mX11_goesFrom) := ⟨kX11_goesFrom, ⟨TX11, 41, rfl⟩, zW_7 (i := 19) rfl rfl, zVmX11_goesFrom⟩
theorem zTV_186 : zTV_p (11, 393, 10, mX11_foodAll) := ⟨kX11_foodAll, ⟨TX11, 41, rfl⟩, zW_7 (i := 47) rfl rfl, zVmX11_foodAll⟩
theorem zTV_187 : zTV_p (11, 407, 10, mX11_weighs) := ⟨kX11_weighs, ⟨TX11, 41, rfl⟩, zW_7 (i := 40) rfl rfl, zVmX11_weighs⟩
theorem zTV_188 : zTV_p (11, 410, 10, mX11_isRest) := ⟨kX11_isRest, ⟨TX11, 41, rfl⟩, zW_7 (i := 59) rfl rfl, zVmX11_isRest⟩
theorem zTV_189 : zTV_p (11, 413, 10, mX11_whereOf) := ⟨kX11_whereOf, ⟨TX11, 41, rfl⟩, zW_7 (i := 67) rfl rfl, zVmX11_whereOf⟩
theorem zTV_190 : zTV_p (11, 416, 10, mX11_areAlike) := ⟨kX11_areAlike, ⟨TX11, 41, rfl⟩, zW_7 (i := 71) rfl rfl, zVmX11_areAlike⟩
theorem zTV_191 : zTV_p (11, 421, 10, mX11_shortOf) := ⟨kX11_shortOf, ⟨TX11, 41, rfl⟩, zW_7 (i := 80) rfl rfl, zVmX11_shortOf⟩
theorem zTV_192 : zTV_p (11, 426, 10, mX11_cellOn) := ⟨kX11_cellOn, ⟨TX11, 41, rfl⟩, zW_7 (i := 105) rfl rfl, zVmX11_cellOn⟩
theorem zTV_193 : zTV_p (11, 429, 10, mX11_areNotesSo) := ⟨kX11_areNotesSo, ⟨TX11, 41, rfl⟩, zW_7 (i := 101) rfl rfl, zVmX11_areNotesSo⟩
theorem zTV_194 : zTV_p (11, 432, 10, mX11_areAllSo) := ⟨kX11_areAllSo, ⟨TX11, 41, rfl⟩, zW_7 (i := 97) rfl rfl, zVmX11_areAllSo⟩
theorem zTV_195 : zTV_p (11, 435, 10, mX11_fillsFits) := ⟨kX11_fillsFits, ⟨TX11, 41, rfl⟩, zW_7 (i := 93) rfl rfl, zVmX11_fillsFits⟩
theorem zTV_196 : zTV_p (11, 438, 10, mX11_alikeAt) := ⟨kX11_alikeAt, ⟨TX11, 41, rfl⟩, zW_7 (i := 113) rfl rfl, zVmX11_alikeAt⟩
theorem zTV_197 : zTV_p (11, 458, 10, mX11_draw) := ⟨kX11_draw, ⟨TX11, 41, rfl⟩, zW_7 (i := 131) rfl rfl, zVmX11_draw⟩
theorem zTV_198 : zTV_p (11, 463, 10, mX11_blows) := ⟨kX11_blows, ⟨TX11, 41, rfl⟩, zW_7 (i := 139) rfl rfl, zVmX11_blows⟩
theorem zTV_199 : zTV_p (12, 13, 9, mX10_feed) := ⟨kX10_feed, ⟨TX10, 17, rfl⟩, zW_2 (i := 15) rfl rfl, zVmX10_feed⟩
theorem zTV_200 : zTV_p (12, 17, 10, mX11_feed) := ⟨kX11_feed, ⟨TX11, 41, rfl⟩, zW_5 (i := 131) rfl rfl, zVmX11_feed⟩
theorem zTV_201 : zTV_p (12, 18, 9, mX10_end) := ⟨kX10_end, ⟨TX10, 17, rfl⟩, zW_2 (i := 31) rfl rfl, zVmX10_end⟩
theorem zTV_202 : zTV_p (12, 22, 10, mX11_end) := ⟨kX11_end, ⟨TX11, 41, rfl⟩, zW_5 (i := 139) rfl rfl, zVmX11_end⟩
theorem zTV_203 : zTV_p (12, 23, 9, mX10_sheet) := ⟨kX10_sheet, ⟨TX10, 17, rfl⟩, zW_2 (i := 42) rfl rfl, zVmX10_sheet⟩
theorem zTV_204 : zTV_p (12, 27, 10, mX11_sheet) := ⟨kX11_sheet, ⟨TX11, 41, rfl⟩, zW_6 (i := 60) rfl rfl, zVmX11_sheet⟩
theorem zTV_205 : zTV_p (12, 28, 9, mX10_rule) := ⟨kX10_rule, ⟨TX10, 17, rfl⟩, zW_2 (i := 211) rfl rfl, zVmX10_rule⟩
theorem zTV_206 : zTV_p (12, 31, 10, mX11_rule) := ⟨kX11_rule, ⟨TX11, 41, rfl⟩, zW_5 (i := 143) rfl rfl, zVmX11_rule⟩
theorem zTV_207 : zTV_p (12, 32, 9, mX10_force) := ⟨kX10_force, ⟨TX10, 17, rfl⟩, zW_3 (i := 68) rfl rfl, zVmX10_force⟩
theorem zTV_208 : zTV_p (12, 35, 10, mX11_force) := ⟨kX11_force, ⟨TX11, 41, rfl⟩, zW_6 (i := 68) rfl rfl, zVmX11_force⟩
theorem zTV_209 : zTV_p (12, 36, 9, mX10_goer) := ⟨kX10_goer, ⟨TX10, 17, rfl⟩, zW_3 (i := 72) rfl rfl, zVmX10_goer⟩
theorem zTV_210 : zTV_p (12, 40, 10, mX11_goer) := ⟨kX11_goer, ⟨TX11, 41, rfl⟩, zW_6 (i := 76) rfl rfl, zVmX11_goer⟩
theorem zTV_211 : zTV_p (12, 41, 9, mX10_join) := ⟨kX10_join, ⟨TX10, 17, rfl⟩, zW_3 (i := 84) rfl rfl, zVmX10_join⟩
theorem zTV_212 : zTV_p (12, 44, 10, mX11_join) := ⟨kX11_join, ⟨TX11, 41, rfl⟩, zW_6 (i := 104) rfl rfl, zVmX11_join⟩
theorem zTV_213 : zTV_p (12, 45, 9, mX10_stoneIn) := ⟨kX10_stoneIn, ⟨TX10, 17, rfl⟩, zW_3 (i := 95) rfl rfl, zVmX10_stoneIn⟩
theorem zTV_214 : zTV_p (12, 48, 10, mX11_stoneIn) := ⟨kX11_stoneIn, ⟨TX11, 41, rfl⟩, zW_6 (i := 117) rfl rfl, zVmX11_stoneIn⟩
theorem zTV_215 : zTV_p (12, 49, 9, mX10_step) := ⟨kX10_step, ⟨TX10, 17, rfl⟩, zW_3 (i := 104) rfl rfl, zVmX10_step⟩
theorem zTV_216 : zTV_p (12, 52, 10, mX11_step) := ⟨kX11_step, ⟨TX11, 41, rfl⟩, zW_6 (i := 133) rfl rfl, zVmX11_step⟩
theorem zTV_217 : zTV_p (12, 53, 9, mX10_give) := ⟨kX10_give, ⟨TX10, 17, rfl⟩, zW_3 (i := 199) rfl rfl, zVmX10_give⟩
theorem zTV_218 : zTV_p (12, 56, 10, mX11_give) := ⟨kX11_give, ⟨TX11, 41, rfl⟩, zW_6 (i := 204) rfl rfl, zVmX11_give⟩
theorem zTV_219 : zTV_p (12, 57, 9, mX10_way) := ⟨kX10_way, ⟨TX10, 17, rfl⟩, zW_3 (i := 205) rfl rfl, zVmX10_way⟩
theorem zTV_220 : zTV_p (12, 60, 10, mX11_way) := ⟨kX11_way, ⟨TX11, 41, rfl⟩, zW_6 (i := 209) rfl rfl, zVmX11_way⟩
theorem zTV_221 : zTV_p (12, 61, 9, mX10_stone) := ⟨kX10_stone, ⟨TX10, 17, rfl⟩, zW_3 (i := 217) rfl rfl, zVmX10_stone⟩
theorem zTV_222 : zTV_p (12, 64, 10, mX11_stone) := ⟨kX11_stone, ⟨TX11, 41, rfl⟩, zW_6 (i := 213) rfl rfl, zVmX11_stone⟩
theorem zTV_223 : zTV_p (12, 65, 9, mX10_fold) := ⟨kX10_fold, ⟨TX10, 17, rfl⟩, zW_3 (i := 225) rfl rfl, zVmX10_fold⟩
theorem zTV_224 : zTV_p (12, 68, 10, mX11_fold) := ⟨kX11_fold, ⟨TX11, 41, rfl⟩, zW_6 (i := 217) rfl rfl, zVmX11_fold⟩
theorem zTV_225 : zTV_p (12, 69, 9, mX10_undo) := ⟨kX10_undo, ⟨TX10, 17, rfl⟩, zW_3 (i := 230) rfl rfl, zVmX10_undo⟩
theorem zTV_226 : zTV_p (12, 72, 10, mX11_undo) := ⟨kX11_undo, ⟨TX11, 41, rfl⟩, zW_6 (i := 129) rfl rfl, zVmX11_undo⟩
theorem zTV_227 : zTV_p (12, 73, 9, mX10_ahead) := ⟨kX10_ahead, ⟨TX10, 17, rfl⟩, zW_3 (i := 238) rfl rfl, zVmX10_ahead⟩
theorem zTV_228 : zTV_p (12, 77, 10, mX11_ahead) := ⟨kX11_ahead, ⟨TX11, 41, rfl⟩, zW_6 (i := 221) rfl rfl, zVmX11_ahead⟩
theorem zTV_229 : zTV_p (12, 78, 9, mX10_home) := ⟨kX10_home, ⟨TX10, 17, rfl⟩, zW_4 (i := 10) rfl rfl, zVmX10_home⟩
theorem zTV_230 : zTV_p (12, 81, 10, mX11_home) := ⟨kX11_home, ⟨TX11, 41, rfl⟩, zW_6 (i := 239) rfl rfl, zVmX11_home⟩
theorem zTV_231 : zTV_p (12, 82, 9, mX10_gone) := ⟨kX10_gone, ⟨TX10, 17, rfl⟩, zW_4 (i := 14) rfl rfl, zVmX10_gone⟩
theorem zTV_232 : zTV_p (12, 85, 10, mX11_gone) := ⟨kX11_gone, ⟨TX11, 41, rfl⟩, zW_7 (i := 3) rfl rfl, zVmX11_gone⟩
theorem zTV_233 : zTV_p (12, 86, 9, mX10_leastFood) := ⟨kX10_leastFood, ⟨TX10, 17, rfl⟩, zW_4 (i := 18) rfl rfl, zVmX10_leastFood⟩
theorem zTV_234 : zTV_p (12, 89, 10, mX11_leastFood) := ⟨kX11_leastFood, ⟨TX11, 41, rfl⟩, zW_7 (i := 7) rfl rfl, zVmX11_leastFood⟩
theorem zTV_235 : zTV_p (12, 90, 9, mX10_meet) := ⟨kX10_meet, ⟨TX10, 17, rfl⟩, zW_4 (i := 22) rfl rfl, zVmX10_meet⟩
theorem zTV_236 : zTV_p (12, 93, 10, mX11_meet) := ⟨kX11_meet, ⟨TX11, 41, rfl⟩, zW_7 (i := 11) rfl rfl, zVmX11_meet⟩
theorem zTV_237 : zTV_p (12, 94, 9, mX10_shortest) := ⟨kX10_shortest, ⟨TX10, 17, rfl⟩, zW_4 (i := 26) rfl rfl, zVmX10_shortest⟩
theorem zTV_238 : zTV_p (12, 97, 10, mX11_shortest) := ⟨kX11_shortest, ⟨TX11, 41, rfl⟩, zW_7 (i := 15) rfl rfl, zVmX11_shortest⟩
theorem zTV_239 : zTV_p (12, 98, 9, mX10_seen) := ⟨kX10_seen, ⟨TX10, 17, rfl⟩, zW_4 (i := 42) rfl rfl, zVmX10_seen⟩
theorem zTV_240 : zTV_p (12, 101, 10, mX11_seen) := ⟨kX11_seen, ⟨TX11, 41, rfl⟩, zW_7 (i := 27) rfl rfl, zVmX11_seen⟩
theorem zTV_241 : zTV_p (12, 102, 9, mX10_longest) := ⟨kX10_longest, ⟨TX10, 17, rfl⟩, zW_4 (i := 52) rfl rfl, zVmX10_longest⟩
theorem zTV_242 : zTV_p (12, 105, 10, mX11_longest) := ⟨kX11_longest, ⟨TX11, 41, rfl⟩, zW_7 (i := 31) rfl rfl, zVmX11_longest⟩
theorem zTV_243 : zTV_p (12, 106, 9, mX10_bestFold) := ⟨kX10_bestFold, ⟨TX10, 17, rfl⟩, zW_4 (i := 60) rfl rfl, zVmX10_bestFold⟩
theorem zTV_244 : zTV_p (12, 109, 10, mX11_bestFold) := ⟨kX11_bestFold, ⟨TX11, 41, rfl⟩, zW_7 (i := 35) rfl rfl, zVmX11_bestFold⟩
theorem zTV_245 : zTV_p (12, 110, 9, mX10_bestStone) := ⟨kX10_bestStone, ⟨TX10, 17, rfl⟩, zW_4 (i := 84) rfl rfl, zVmX10_bestStone⟩
theorem zTV_246 : zTV_p (12, 113, 10, mX11_bestStone) := ⟨kX11_bestStone, ⟨TX11, 41, rfl⟩, zW_7 (i := 51) rfl rfl, zVmX11_bestStone⟩
theorem zTV_247 : zTV_p (12, 114, 9, mX10_rests) := ⟨kX10_rests, ⟨TX10, 17, rfl⟩, zW_4 (i := 88) rfl rfl, zVmX10_rests⟩
theorem zTV_248 : zTV_p (12, 118, 10, mX11_rests) := ⟨kX11_rests, ⟨TX11, 41, rfl⟩, zW_7 (i := 55) rfl rfl, zVmX11_rests⟩
theorem zTV_249 : zTV_p (12, 119, 9, mX10_ring) := ⟨kX10_ring, ⟨TX10, 17, rfl⟩, zW_4 (i := 100) rfl rfl, zVmX10_ring⟩
theorem zTV_250 : zTV_p (12, 122, 10, mX11_ring) := ⟨kX11_ring, ⟨TX11, 41, rfl⟩, zW_7 (i := 63) rfl rfl, zVmX11_ring⟩
theorem zTV_251 : zTV_p (12, 123, 9, mX10_bread) := ⟨kX10_bread, ⟨TX10, 17, rfl⟩, zW_4 (i := 116) rfl rfl, zVmX10_bread⟩
theorem zTV_252 : zTV_p (12, 126, 10, mX11_bread) := ⟨kX11_bread, ⟨TX11, 41, rfl⟩, zW_7 (i := 75) rfl rfl, zVmX11_bread⟩
theorem zTV_253 : zTV_p (12, 127, 9, mX10_note) := ⟨kX10_note, ⟨TX10, 17, rfl⟩, zW_4 (i := 124) rfl rfl, zVmX10_note⟩
theorem zTV_254 : zTV_p (12, 130, 10, mX11_note) := ⟨kX11_note, ⟨TX11, 41, rfl⟩, zW_7 (i := 84) rfl rfl, zVmX11_note⟩
theorem zTV_255 : zTV_p (12, 131, 9, mX10_ruled) := ⟨kX10_ruled, ⟨TX10, 17, rfl⟩, zW_4 (i := 140) rfl rfl, zVmX10_ruled⟩
theorem zTV_256 : zTV_p (12, 134, 10, mX11_ruled) := ⟨kX11_ruled, ⟨TX11, 41, rfl⟩, zW_7 (i := 89) rfl rfl, zVmX11_ruled⟩
theorem zTV_257 : zTV_p (12, 135, 9, mX10_look) := ⟨kX10_look, ⟨TX10, 17, rfl⟩, zW_4 (i := 159) rfl rfl, zVmX10_look⟩
theorem zTV_258 : zTV_p (12, 138, 10, mX11_look) := ⟨kX11_look, ⟨TX11, 41, rfl⟩, zW_7 (i := 109) rfl rfl, zVmX11_look⟩
theorem zTV_259 : zTV_p (12, 139, 9, mX10_folds) := ⟨kX10_folds, ⟨TX10, 17, rfl⟩, zW_4 (i := 172) rfl rfl, zVmX10_folds⟩
theorem zTV_260 : zTV_p (12, 142, 10, mX11_folds) := ⟨kX11_folds, ⟨TX11, 41, rfl⟩, zW_7 (i := 117) rfl rfl, zVmX11_folds⟩
theorem zTV_261 : zTV_p (12, 143, 9, mX10_seed) := ⟨kX10_seed, ⟨TX10, 17, rfl⟩, zW_4 (i := 191) rfl rfl, zVmX10_seed⟩
theorem zTV_262 : zTV_p (12, 146, 10, mX11_seed) := ⟨kX11_seed, ⟨TX11, 41, rfl⟩, zW_7 (i := 122) rfl rfl, zVmX11_seed⟩
theorem zTV_263 : zTV_p (12, 147, 9, mX10_gusts) := ⟨kX10_gusts, ⟨TX10, 17, rfl⟩, zW_4 (i := 195) rfl rfl, zVmX10_gusts⟩
theorem zTV_264 : zTV_p (12, 150, 10, mX11_gusts) := ⟨kX11_gusts, ⟨TX11, 41, rfl⟩, zW_7 (i := 126) rfl rfl, zVmX11_gusts⟩
theorem zTV_265 : zTV_p (12, 151, 9, mX10_count) := ⟨kX10_count, ⟨TX10, 17, rfl⟩, zW_4 (i := 215) rfl rfl, zVmX10_count⟩
theorem zTV_266 : zTV_p (12, 154, 10, mX11_count) := ⟨kX11_count, ⟨TX11, 41, rfl⟩, zW_7 (i := 143) rfl rfl, zVmX11_count⟩
theorem zTV_267 : zTV_p (12, 155, 9, mX10_image) := ⟨kX10_image, ⟨TX10, 17, rfl⟩, zW_4 (i := 227) rfl rfl, zVmX10_image⟩
theorem zTV_268 : zTV_p (12, 158, 10, mX11_image) := ⟨kX11_image, ⟨TX11, 41, rfl⟩, zW_7 (i := 147) rfl rfl, zVmX11_image⟩
theorem zTV_269 : zTV_p (12, 159, 9, mX10_back) := ⟨kX10_back, ⟨TX10, 17, rfl⟩, zW_4 (i := 236) rfl rfl, zVmX10_back⟩
theorem zTV_270 : zTV_p (12, 162, 10, mX11_back) := ⟨kX11_back, ⟨TX11, 41, rfl⟩, zW_7 (i := 151) rfl rfl, zVmX11_back⟩
set_option maxRecDepth 100000 in
theorem zTV_ok : ∀ e ∈ zTV, zTV_p e := List.forall_mem_cons.mpr ⟨zTV_0, List.forall_mem_cons.mpr ⟨zTV_1, List.forall_mem_cons.mpr ⟨zTV_2, List.forall_mem_cons.mpr ⟨zTV_3, List.forall_mem_cons.mpr ⟨zTV_4, List.forall_mem_cons.mpr ⟨zTV_5, List.forall_mem_cons.mpr ⟨zTV_6, List.forall_mem_cons.mpr ⟨zTV_7, List.forall_mem_cons.mpr ⟨zTV_8, List.forall_mem_cons.mpr ⟨zTV_9, List.forall_mem_cons.mpr ⟨zTV_10, List.forall_mem_cons.mpr ⟨zTV_11, List.forall_mem_cons.mpr ⟨zTV_12, List.forall_mem_cons.mpr ⟨zTV_13, List.forall_mem_cons.mpr ⟨zTV_14, List.forall_mem_cons.mpr ⟨zTV_15, List.forall_mem_cons.mpr ⟨zTV_16, List.forall_mem_cons.mpr ⟨zTV_17, List.forall_mem_cons.mpr ⟨zTV_18, List.forall_mem_cons.mpr ⟨zTV_19, List.forall_mem_cons.mpr ⟨zTV_20, List.forall_mem_cons.mpr ⟨zTV_21, List.forall_mem_cons.mpr ⟨zTV_22, List.forall_mem_cons.mpr ⟨zTV_23, List.forall_mem_cons.mpr ⟨zTV_24, List.forall_mem_cons.mpr ⟨zTV_25, List.forall_mem_cons.mpr ⟨zTV_26, List.forall_mem_cons.mpr ⟨zTV_27, List.forall_mem_cons.mpr ⟨zTV_28, List.forall_mem_cons.mpr ⟨zTV_29, List.forall_mem_cons.mpr ⟨zTV_30, List.forall_mem_cons.mpr ⟨zTV_31, List.forall_mem_cons.mpr ⟨zTV_32, List.forall_mem_cons.mpr ⟨zTV_33, List.forall_mem_cons.mpr ⟨zTV_34, List.forall_mem_cons.mpr ⟨zTV_35, List.forall_mem_cons.mpr ⟨zTV_36, List.forall_mem_cons.mpr ⟨zTV_37, List.forall_mem_cons.mpr ⟨zTV_38, List.forall_mem_cons.mpr ⟨zTV_39, List.forall_mem_cons.mpr ⟨zTV_40, List.forall_mem_cons.mpr ⟨zTV_41, List.forall_mem_cons.mpr ⟨zTV_42, List.forall_mem_cons.mpr ⟨zTV_43, List.forall_mem_cons.mpr ⟨zTV_44, List.forall_mem_cons.mpr ⟨zTV_45, List.forall_mem_cons.mpr ⟨zTV_46, List.forall_mem_cons.mpr ⟨zTV_47, List.forall_mem_cons.mpr ⟨zTV_48, List.forall_mem_cons.mpr ⟨zTV_49, List.forall_mem_cons.mpr ⟨zTV_50, List.forall_mem_cons.mpr ⟨zTV_51, List.forall_mem_cons.mpr ⟨zTV_52, List.forall_mem_cons.mpr ⟨zTV_53, List.forall_mem_cons.mpr ⟨zTV_54, List.forall_mem_cons.mpr ⟨zTV_55, List.forall_mem_cons.mpr ⟨zTV_56, List.forall_mem_cons.mpr ⟨zTV_57, List.forall_mem_cons.mpr ⟨zTV_58, List.forall_mem_cons.mpr ⟨zTV_59, List.forall_mem_cons.mpr ⟨zTV_60, List.forall_mem_cons.mpr ⟨zTV_61, List.forall_mem_cons.mpr ⟨zTV_62, List.forall_mem_cons.mpr ⟨zTV_63, List.forall_mem_cons.mpr ⟨zTV_64, List.forall_mem_cons.mpr ⟨zTV_65, List.forall_mem_cons.mpr ⟨zTV_66, List.forall_mem_cons.mpr ⟨zTV_67, List.forall_mem_cons.mpr ⟨zTV_68, List.forall_mem_cons.mpr ⟨zTV_69, List.forall_mem_cons.mpr ⟨zTV_70, List.forall_mem_cons.mpr ⟨zTV_71, List.forall_mem_cons.mpr ⟨zTV_72, List.forall_mem_cons.mpr ⟨zTV_73, List.forall_mem_cons.mpr ⟨zTV_74, List.forall_mem_cons.mpr ⟨zTV_75, List.forall_mem_cons.mpr ⟨zTV_76, List.forall_mem_cons.mpr ⟨zTV_77, List.forall_mem_cons.mpr ⟨zTV_78, List.forall_mem_cons.mpr ⟨zTV_79, List.forall_mem_cons.mpr ⟨zTV_80, List.forall_mem_cons.mpr ⟨zTV_81, List.forall_mem_cons.mpr ⟨zTV_82, List.forall_mem_cons.mpr ⟨zTV_83, List.forall_mem_cons.mpr ⟨zTV_84, List.forall_mem_cons.mpr ⟨zTV_85, List.forall_mem_cons.mpr ⟨zTV_86, List.forall_mem_cons.mpr ⟨zTV_87, List.forall_mem_cons.mpr ⟨zTV_88, List.forall_mem_cons.mpr ⟨zTV_89, List.forall_mem_cons.mpr ⟨zTV_90, List.forall_mem_cons.mpr ⟨zTV_91, List.forall_mem_cons.mpr ⟨zTV_92, List.forall_mem_cons.mpr ⟨zTV_93, List.forall_mem_cons.mpr ⟨zTV_94, List.forall_mem_cons.mpr ⟨zTV_95, List.forall_mem_cons.mpr ⟨zTV_96, List.forall_mem_cons.mpr ⟨zTV_97, List.forall_mem_cons.mpr ⟨zTV_98, List.forall_mem_cons.mpr ⟨zTV_99, List.forall_mem_cons.mpr ⟨zTV_100, List.forall_mem_cons.mpr ⟨zTV_101, List.forall_mem_cons.mpr ⟨zTV_102, List.forall_mem_cons.mpr ⟨zTV_103, List.forall_mem_cons.mpr ⟨zTV_104, List.forall_mem_cons.mpr ⟨zTV_105, List.forall_mem_cons.mpr ⟨zTV_106, List.forall_mem_cons.mpr ⟨zTV_107, List.forall_mem_cons.mpr ⟨zTV_108, List.forall_mem_cons.mpr ⟨zTV_109, List.forall_mem_cons.mpr ⟨zTV_110, List.forall_mem_cons.mpr ⟨zTV_111, List.forall_mem_cons.mpr ⟨zTV_112, List.forall_mem_cons.mpr ⟨zTV_113, List.forall_mem_cons.mpr ⟨zTV_114, List.forall_mem_cons.mpr ⟨zTV_115, List.forall_mem_cons.mpr ⟨zTV_116, List.forall_mem_cons.mpr ⟨zTV_117, List.forall_mem_cons.mpr ⟨zTV_118, List.forall_mem_cons.mpr ⟨zTV_119, List.forall_mem_cons.mpr ⟨zTV_120, List.forall_mem_cons.mpr ⟨zTV_121, List.forall_mem_cons.mpr ⟨zTV_122, List.forall_mem_cons.mpr ⟨zTV_123, List.forall_mem_cons.mpr ⟨zTV_124, List.forall_mem_cons.mpr ⟨zTV_125, List.forall_mem_cons.mpr ⟨zTV_126, List.forall_mem_cons.mpr ⟨zTV_127, List.forall_mem_cons.mpr ⟨zTV_128, List.forall_mem_cons.mpr ⟨zTV_129, List.forall_mem_cons.mpr ⟨zTV_130, List.forall_mem_cons.mpr ⟨zTV_131, List.forall_mem_cons.mpr ⟨zTV_132, List.forall_mem_cons.mpr ⟨zTV_133, List.forall_mem_cons.mpr ⟨zTV_134, List.forall_mem_cons.mpr ⟨zTV_135, List.forall_mem_cons.mpr ⟨zTV_136, List.forall_mem_cons.mpr ⟨zTV_137, List.forall_mem_cons.mpr ⟨zTV_138, List.forall_mem_cons.mpr ⟨zTV_139, List.forall_mem_cons.mpr ⟨zTV_140, List.forall_mem_cons.mpr ⟨zTV_141, List.forall_mem_cons.mpr ⟨zTV_142, List.forall_mem_cons.mpr ⟨zTV_143, List.forall_mem_cons.mpr ⟨zTV_144, List.forall_mem_cons.mpr ⟨zTV_145, List.forall_mem_cons.mpr ⟨zTV_146, List.forall_mem_cons.mpr ⟨zTV_147, List.forall_mem_cons.mpr ⟨zTV_148, List.forall_mem_cons.mpr ⟨zTV_149, List.forall_mem_cons.mpr ⟨zTV_150, List.forall_mem_cons.mpr ⟨zTV_151, List.forall_mem_cons.mpr ⟨zTV_152, List.forall_mem_cons.mpr ⟨zTV_153, List.forall_mem_cons.mpr ⟨zTV_154, List.forall_mem_cons.mpr ⟨zTV_155, List.forall_mem_cons.mpr ⟨zTV_156, List.forall_mem_cons.mpr ⟨zTV_157, List.forall_mem_cons.mpr ⟨zTV_158, List.forall_mem_cons.mpr ⟨zTV_159, List.forall_mem_cons.mpr ⟨zTV_160, List.forall_mem_cons.mpr ⟨zTV_161, List.forall_mem_cons.mpr ⟨zTV_162, List.forall_mem_cons.mpr ⟨zTV_163, List.forall_mem_cons.mpr ⟨zTV_164, List.forall_mem_cons.mpr ⟨zTV_165, List.forall_mem_cons.mpr ⟨zTV_166, List.forall_mem_cons.mpr ⟨zTV_167, List.forall_mem_cons.mpr ⟨zTV_168, List.forall_mem_cons.mpr ⟨zTV_169, List.forall_mem_cons.mpr ⟨zTV_170, List.forall_mem_cons.mpr ⟨zTV_171, List.forall_mem_cons.mpr ⟨zTV_172, List.forall_mem_cons.mpr ⟨zTV_173, List.forall_mem_cons.mpr ⟨zTV_174, List.forall_mem_cons.mpr ⟨zTV_175, List.forall_mem_cons.mpr ⟨zTV_176, List.forall_mem_cons.mpr ⟨zTV_177, List.forall_mem_cons.mpr ⟨zTV_178, List.forall_mem_cons.mpr ⟨zTV_179, List.forall_mem_cons.mpr ⟨zTV_180, List.forall_mem_cons.mpr ⟨zTV_181, List.forall_mem_cons.mpr ⟨zTV_182, List.forall_mem_cons.mpr ⟨zTV_183, List.forall_mem_cons.mpr ⟨zTV_184, List.forall_mem_cons.mpr ⟨zTV_185, List.forall_mem_cons.mpr ⟨zTV_186, List.forall_mem_cons.mpr ⟨zTV_187, List.forall_mem_cons.mpr ⟨zTV_188, List.forall_mem_cons.mpr ⟨zTV_189, List.forall_mem_cons.mpr ⟨zTV_190, List.forall_mem_cons.mpr ⟨zTV_191, List.forall_mem_cons.mpr ⟨zTV_192, List.forall_mem_cons.mpr ⟨zTV_193, List.forall_mem_cons.mpr ⟨zTV_194, List.forall_mem_cons.mpr ⟨zTV_195, List.forall_mem_cons.mpr ⟨zTV_196, List.forall_mem_cons.mpr ⟨zTV_197, List.forall_mem_cons.mpr ⟨zTV_198, List.forall_mem_cons.mpr ⟨zTV_199, List.forall_mem_cons.mpr ⟨zTV_200, List.forall_mem_cons.mpr ⟨zTV_201, List.forall_mem_cons.mpr ⟨zTV_202, List.forall_mem_cons.mpr ⟨zTV_203, List.forall_mem_cons.mpr ⟨zTV_204, List.forall_mem_cons.mpr ⟨zTV_205, List.forall_mem_cons.mpr ⟨zTV_206, List.forall_mem_cons.mpr ⟨zTV_207, List.forall_mem_cons.mpr ⟨zTV_208, List.forall_mem_cons.mpr ⟨zTV_209, List.forall_mem_cons.mpr ⟨zTV_210, List.forall_mem_cons.mpr ⟨zTV_211, List.forall_mem_cons.mpr ⟨zTV_212, List.forall_mem_cons.mpr ⟨zTV_213, List.forall_mem_cons.mpr ⟨zTV_214, List.forall_mem_cons.mpr ⟨zTV_215, List.forall_mem_cons.mpr ⟨zTV_216, List.forall_mem_cons.mpr ⟨zTV_217, List.forall_mem_cons.mpr ⟨zTV_218, List.forall_mem_cons.mpr ⟨zTV_219, List.forall_mem_cons.mpr ⟨zTV_220, List.forall_mem_cons.mpr ⟨zTV_221, List.forall_mem_cons.mpr ⟨zTV_222, List.forall_mem_cons.mpr ⟨zTV_223, List.forall_mem_cons.mpr ⟨zTV_224, List.forall_mem_cons.mpr ⟨zTV_225, List.forall_mem_cons.mpr ⟨zTV_226, List.forall_mem_cons.mpr ⟨zTV_227, List.forall_mem_cons.mpr ⟨zTV_228, List.forall_mem_cons.mpr ⟨zTV_229, List.forall_mem_cons.mpr ⟨zTV_230, List.forall_mem_cons.mpr ⟨zTV_231, List.forall_mem_cons.mpr ⟨zTV_232, List.forall_mem_cons.mpr ⟨zTV_233, List.forall_mem_cons.mpr ⟨zTV_234, List.forall_mem_cons.mpr ⟨zTV_235, List.forall_mem_cons.mpr ⟨zTV_236, List.forall_mem_cons.mpr ⟨zTV_237, List.forall_mem_cons.mpr ⟨zTV_238, List.forall_mem_cons.mpr ⟨zTV_239, List.forall_mem_cons.mpr ⟨zTV_240, List.forall_mem_cons.mpr ⟨zTV_241, List.forall_mem_cons.mpr ⟨zTV_242, List.forall_mem_cons.mpr ⟨zTV_243, List.forall_mem_cons.mpr ⟨zTV_244, List.forall_mem_cons.mpr ⟨zTV_245, List.forall_mem_cons.mpr ⟨zTV_246, List.forall_mem_cons.mpr ⟨zTV_247, List.forall_mem_cons.mpr ⟨zTV_248, List.forall_mem_cons.mpr ⟨zTV_249, List.forall_mem_cons.mpr ⟨zTV_250, List.forall_mem_cons.mpr ⟨zTV_251, List.forall_mem_cons.mpr ⟨zTV_252, List.forall_mem_cons.mpr ⟨zTV_253, List.forall_mem_cons.mpr ⟨zTV_254, List.forall_mem_cons.mpr ⟨zTV_255, List.forall_mem_cons.mpr ⟨zTV_256, List.forall_mem_cons.mpr ⟨zTV_257, List.forall_mem_cons.mpr ⟨zTV_258, List.forall_mem_cons.mpr ⟨zTV_259, List.forall_mem_cons.mpr ⟨zTV_260, List.forall_mem_cons.mpr ⟨zTV_261, List.forall_mem_cons.mpr ⟨zTV_262, List.forall_mem_cons.mpr ⟨zTV_263, List.forall_mem_cons.mpr ⟨zTV_264, List.forall_mem_cons.mpr ⟨zTV_265, List.forall_mem_cons.mpr ⟨zTV_266, List.forall_mem_cons.mpr ⟨zTV_267, List.forall_mem_cons.mpr ⟨zTV_268, List.forall_mem_cons.mpr ⟨zTV_269, List.forall_mem_cons.mpr ⟨zTV_270, fun _ h => absurd h List.not_mem_nil⟩⟩⟩⟩⟩⟩⟩⟩⟩⟩⟩⟩⟩⟩⟩⟩⟩⟩⟩⟩⟩⟩⟩⟩⟩⟩⟩⟩⟩⟩⟩⟩⟩⟩⟩⟩⟩⟩⟩⟩⟩⟩⟩⟩⟩⟩⟩⟩⟩⟩⟩⟩⟩⟩⟩⟩⟩⟩⟩⟩⟩⟩⟩⟩⟩⟩⟩⟩⟩⟩⟩⟩⟩⟩⟩⟩⟩⟩⟩⟩⟩⟩⟩⟩⟩⟩⟩⟩⟩⟩⟩⟩⟩⟩⟩⟩⟩⟩⟩⟩⟩⟩⟩⟩⟩⟩⟩⟩⟩⟩⟩⟩⟩⟩⟩⟩⟩⟩⟩⟩⟩⟩⟩⟩⟩⟩⟩⟩⟩⟩⟩⟩⟩⟩⟩⟩⟩⟩⟩⟩⟩⟩⟩⟩⟩⟩⟩⟩⟩⟩⟩⟩⟩⟩⟩⟩⟩⟩⟩⟩⟩⟩⟩⟩⟩⟩⟩⟩⟩⟩⟩⟩⟩⟩⟩⟩⟩⟩⟩⟩⟩⟩⟩⟩⟩⟩⟩⟩⟩⟩⟩⟩⟩⟩⟩⟩⟩⟩⟩⟩⟩⟩⟩⟩⟩⟩⟩⟩⟩⟩⟩⟩⟩⟩⟩⟩⟩⟩⟩⟩⟩⟩⟩⟩⟩⟩⟩⟩⟩⟩⟩⟩⟩⟩⟩⟩⟩⟩⟩⟩⟩⟩⟩⟩⟩⟩⟩⟩⟩⟩⟩⟩⟩⟩⟩⟩⟩⟩⟩⟩⟩⟩⟩⟩⟩⟩⟩⟩⟩⟩⟩
def zTS_p (e : Nat × Nat × Bool × zMd) : Prop := zMok e.2.2.2 ∧ Cond.static (mN e.2.2.2) ∈ zW ∧ ((e.2.2.1 = false ∧ Cond.methodLink (zNm e.1) e.2.1 (mN e.2.2.2) ∈ zW) ∨ (e.2.2.1 = true ∧ (e.1, e.2.1, mN e.2.2.2) ∈ zNM))
def zTS : List (Nat × Nat × Bool × zMd) := [(5, 43, false, mX5_reckon), (5, 47, false, mX5_judge), (6, 112, false, mX6_operatorOf), (6, 115, false, mX6_rankOf), (7, 34, false, mX7_faultOfClause), (7, 62, false, mX7_mostOf), (7, 65, true, mX10_within), (8, 35, false, mX8_isDigit), (8, 42, false, mX8_isLetter), (10, 109, false, mX10_within), (10, 149, false, mX10_isEdge), (10, 206, false, mJ13_bitCount_95d88), (10, 218, false, mX10_lostOf), (10, 221, false, mX10_foodOf), (10, 268, false, mX10_leadIn), (10, 277, false, mJ6_bitCount_0f7a4), (11, 124, false, mX11_in), (11, 162, false, mX11_strength), (11, 285, false, mX11_one), (11, 390, false, mX11_bits)]
set_option maxRecDepth 100000 in
theorem zTS_ok : ∀ e ∈ zTS, zTS_p e := List.forall_mem_cons.mpr ⟨⟨kX5_reckon, zW_3 (i := 141) rfl rfl, Or.inl ⟨rfl, zW_3 (i := 140) rfl rfl⟩⟩, List.forall_mem_cons.mpr ⟨⟨kX5_judge, zW_3 (i := 144) rfl rfl, Or.inl ⟨rfl, zW_3 (i := 143) rfl rfl⟩⟩, List.forall_mem_cons.mpr ⟨⟨kX6_operatorOf, zW_3 (i := 20) rfl rfl, Or.inl ⟨rfl, zW_3 (i := 19) rfl rfl⟩⟩, List.forall_mem_cons.mpr ⟨⟨kX6_rankOf, zW_3 (i := 23) rfl rfl, Or.inl ⟨rfl, zW_3 (i := 22) rfl rfl⟩⟩, List.forall_mem_cons.mpr ⟨⟨kX7_faultOfClause, zW_2 (i := 146) rfl rfl, Or.inl ⟨rfl, zW_2 (i := 145) rfl rfl⟩⟩, List.forall_mem_cons.mpr ⟨⟨kX7_mostOf, zW_2 (i := 165) rfl rfl, Or.inl ⟨rfl, zW_2 (i := 164) rfl rfl⟩⟩, List.forall_mem_cons.mpr ⟨⟨kX10_within, zW_2 (i := 36) rfl rfl, Or.inr ⟨rfl, List.mem_of_getElem? (i := 0) rfl⟩⟩, List.forall_mem_cons.mpr ⟨⟨kX8_isDigit, zW_2 (i := 71) rfl rfl, Or.inl ⟨rfl, zW_2 (i := 70) rfl rfl⟩⟩, List.forall_mem_cons.mpr ⟨⟨kX8_isLetter, zW_2 (i := 78) rfl rfl, Or.inl ⟨rfl, zW_2 (i := 77) rfl rfl⟩⟩, List.forall_mem_cons.mpr ⟨⟨kX10_within, zW_2 (i := 36) rfl rfl, Or.inl ⟨rfl, zW_2 (i := 35) rfl rfl⟩⟩, List.forall_mem_cons.mpr ⟨⟨kX10_isEdge, zW_3 (i := 93) rfl rfl, Or.inl ⟨rfl, zW_3 (i := 92) rfl rfl⟩⟩, List.forall_mem_cons.mpr ⟨⟨kJ13_bitCount_95d88, zW_4 (i := 47) rfl rfl, Or.inl ⟨rfl, zW_4 (i := 46) rfl rfl⟩⟩, List.forall_mem_cons.mpr ⟨⟨kX10_lostOf, zW_4 (i := 79) rfl rfl, Or.inl ⟨rfl, zW_4 (i := 78) rfl rfl⟩⟩, List.forall_mem_cons.mpr ⟨⟨kX10_foodOf, zW_4 (i := 82) rfl rfl, Or.inl ⟨rfl, zW_4 (i := 81) rfl rfl⟩⟩, List.forall_mem_cons.mpr ⟨⟨kX10_leadIn, zW_4 (i := 181) rfl rfl, Or.inl ⟨rfl, zW_4 (i := 180) rfl rfl⟩⟩, List.forall_mem_cons.mpr ⟨⟨kJ6_bitCount_0f7a4, zW_4 (i := 69) rfl rfl, Or.inl ⟨rfl, zW_4 (i := 68) rfl rfl⟩⟩, List.forall_mem_cons.mpr ⟨⟨kX11_in, zW_5 (i := 205) rfl rfl, Or.inl ⟨rfl, zW_5 (i := 204) rfl rfl⟩⟩, List.forall_mem_cons.mpr ⟨⟨kX11_strength, zW_6 (i := 52) rfl rfl, Or.inl ⟨rfl, zW_6 (i := 51) rfl rfl⟩⟩, List.forall_mem_cons.mpr ⟨⟨kX11_one, zW_6 (i := 182) rfl rfl, Or.inl ⟨rfl, zW_6 (i := 181) rfl rfl⟩⟩, List.forall_mem_cons.mpr ⟨⟨kX11_bits, zW_7 (i := 45) rfl rfl, Or.inl ⟨rfl, zW_7 (i := 44) rfl rfl⟩⟩, fun _ h => absurd h List.not_mem_nil⟩⟩⟩⟩⟩⟩⟩⟩⟩⟩⟩⟩⟩⟩⟩⟩⟩⟩⟩⟩
def zTI_p (e : Nat × Nat × Bool × zMd) : Prop := zMok e.2.2.2 ∧ mR e.2.2.2 = none ∧ (mN e.2.2.2).name = "<init>" ∧ Cond.instanceMethod (mN e.2.2.2) ∈ zW ∧ ((e.2.2.1 = false ∧ Cond.methodLink (zNm e.1) e.2.1 (mN e.2.2.2) ∈ zW) ∨ (e.2.2.1 = true ∧ (e.1, e.2.1, mN e.2.2.2) ∈ zNM))
def zTI : List (Nat × Nat × Bool × zMd) := [(2, 24, true, mX9_init), (3, 11, true, mX9_init), (3, 23, true, mX4_init), (6, 71, false, mX5_init), (10, 9, true, mX8_init), (10, 18, true, mX7_init), (10, 25, true, mX6_init), (10, 48, true, mX9_init), (10, 61, true, mX4_init), (10, 68, false, mX2_init), (10, 81, true, mX0_init), (10, 96, true, mX3_init), (12, 9, false, mX10_init), (12, 12, false, mX11_init)]
set_option maxRecDepth 100000 in
theorem zTI_ok : ∀ e ∈ zTI, zTI_p e := List.forall_mem_cons.mpr ⟨⟨kX9_init, rfl, rfl, zW_1 (i := 109) rfl rfl, Or.inr ⟨rfl, List.mem_of_getElem? (i := 1) rfl⟩⟩, List.forall_mem_cons.mpr ⟨⟨kX9_init, rfl, rfl, zW_1 (i := 109) rfl rfl, Or.inr ⟨rfl, List.mem_of_getElem? (i := 2) rfl⟩⟩, List.forall_mem_cons.mpr ⟨⟨kX4_init, rfl, rfl, zW_1 (i := 122) rfl rfl, Or.inr ⟨rfl, List.mem_of_getElem? (i := 3) rfl⟩⟩, List.forall_mem_cons.mpr ⟨⟨kX5_init, rfl, rfl, zW_3 (i := 51) rfl rfl, Or.inl ⟨rfl, zW_3 (i := 50) rfl rfl⟩⟩, List.forall_mem_cons.mpr ⟨⟨kX8_init, rfl, rfl, zW_1 (i := 31) rfl rfl, Or.inr ⟨rfl, List.mem_of_getElem? (i := 4) rfl⟩⟩, List.forall_mem_cons.mpr ⟨⟨kX7_init, rfl, rfl, zW_1 (i := 57) rfl rfl, Or.inr ⟨rfl, List.mem_of_getElem? (i := 5) rfl⟩⟩, List.forall_mem_cons.mpr ⟨⟨kX6_init, rfl, rfl, zW_1 (i := 67) rfl rfl, Or.inr ⟨rfl, List.mem_of_getElem? (i := 6) rfl⟩⟩, List.forall_mem_cons.mpr ⟨⟨kX9_init, rfl, rfl, zW_1 (i := 109) rfl rfl, Or.inr ⟨rfl, List.mem_of_getElem? (i := 7) rfl⟩⟩, List.forall_mem_cons.mpr ⟨⟨kX4_init, rfl, rfl, zW_1 (i := 122) rfl rfl, Or.inr ⟨rfl, List.mem_of_getElem? (i := 8) rfl⟩⟩, List.forall_mem_cons.mpr ⟨⟨kX2_init, rfl, rfl, zW_1 (i := 141) rfl rfl, Or.inl ⟨rfl, zW_1 (i := 140) rfl rfl⟩⟩, List.forall_mem_cons.mpr ⟨⟨kX0_init, rfl, rfl, zW_1 (i := 162) rfl rfl, Or.inr ⟨rfl, List.mem_of_getElem? (i := 9) rfl⟩⟩, List.forall_mem_cons.mpr ⟨⟨kX3_init, rfl, rfl, zW_1 (i := 171) rfl rfl, Or.inr ⟨rfl, List.mem_of_getElem? (i := 10) rfl⟩⟩, List.forall_mem_cons.mpr ⟨⟨kX10_init, rfl, rfl, zW_1 (i := 23) rfl rfl, Or.inl ⟨rfl, zW_1 (i := 22) rfl rfl⟩⟩, List.forall_mem_cons.mpr ⟨⟨kX11_init, rfl, rfl, zW_5 (i := 3) rfl rfl, Or.inl ⟨rfl, zW_5 (i := 2) rfl rfl⟩⟩, fun _ h => absurd h List.not_mem_nil⟩⟩⟩⟩⟩⟩⟩⟩⟩⟩⟩⟩⟩⟩
def zTO_p (e : Nat × Nat × Unit) : Prop := Cond.methodLink (zNm e.1) e.2.1 Lib.objectInit ∈ zW
def zTO : List (Nat × Nat × Unit) := [(0, 1, ()), (2, 3, ()), (3, 3, ()), (4, 3, ()), (5, 1, ()), (6, 3, ()), (7, 3, ()), (8, 3, ()), (9, 5, ()), (10, 1, ()), (11, 1, ())]
set_option maxRecDepth 100000 in
theorem zTO_ok : ∀ e ∈ zTO, zTO_p e := List.forall_mem_cons.mpr ⟨zW_1 (i := 164) rfl rfl, List.forall_mem_cons.mpr ⟨zW_1 (i := 143) rfl rfl, List.forall_mem_cons.mpr ⟨zW_1 (i := 173) rfl rfl, List.forall_mem_cons.mpr ⟨zW_1 (i := 124) rfl rfl, List.forall_mem_cons.mpr ⟨zW_3 (i := 53) rfl rfl, List.forall_mem_cons.mpr ⟨zW_1 (i := 69) rfl rfl, List.forall_mem_cons.mpr ⟨zW_1 (i := 59) rfl rfl, List.forall_mem_cons.mpr ⟨zW_1 (i := 33) rfl rfl, List.forall_mem_cons.mpr ⟨zW_1 (i := 111) rfl rfl, List.forall_mem_cons.mpr ⟨zW_1 (i := 25) rfl rfl, List.forall_mem_cons.mpr ⟨zW_5 (i := 5) rfl rfl, fun _ h => absurd h List.not_mem_nil⟩⟩⟩⟩⟩⟩⟩⟩⟩⟩⟩
theorem zOI : Cond.instanceMethod Lib.objectInit ∈ zW ∧ Cond.code Lib.objectInit ⟨#[0xb1]⟩ 1 none ∈ zW := ⟨zW_1 (i := 26) rfl rfl, zW_1 (i := 27) rfl rfl⟩
def zTN_p (e : Nat × Nat × Nat) : Prop := ∃ C T N, vwCl[e.2.2]? = some (C, T, N) ∧ Cond.classLink (zNm e.1) e.2.1 C ∈ zW
def zTN : List (Nat × Nat × Nat) := [(2, 11, 8), (3, 9, 8), (3, 21, 3), (6, 69, 4), (10, 7, 7), (10, 16, 6), (10, 23, 5), (10, 46, 8), (10, 59, 3), (10, 66, 1), (10, 79, 0), (10, 73, 2), (12, 7, 9), (12, 10, 10)]
set_option maxRecDepth 100000 in
theorem zTN_ok : ∀ e ∈ zTN, zTN_p e := List.forall_mem_cons.mpr ⟨⟨RX9, TX9, 2, rfl, zW_1 (i := 144) rfl rfl⟩, List.forall_mem_cons.mpr ⟨⟨RX9, TX9, 2, rfl, zW_1 (i := 174) rfl rfl⟩, List.forall_mem_cons.mpr ⟨⟨RX4, TX4, 4, rfl, zW_1 (i := 176) rfl rfl⟩, List.forall_mem_cons.mpr ⟨⟨RX5, TX5, 2, rfl, zW_3 (i := 48) rfl rfl⟩, List.forall_mem_cons.mpr ⟨⟨RX8, TX8, 6, rfl, zW_1 (i := 28) rfl rfl⟩, List.forall_mem_cons.mpr ⟨⟨RX7, TX7, 1, rfl, zW_1 (i := 54) rfl rfl⟩, List.forall_mem_cons.mpr ⟨⟨RX6, TX6, 11, rfl, zW_1 (i := 64) rfl rfl⟩, List.forall_mem_cons.mpr ⟨⟨RX9, TX9, 2, rfl, zW_1 (i := 106) rfl rfl⟩, List.forall_mem_cons.mpr ⟨⟨RX4, TX4, 4, rfl, zW_1 (i := 119) rfl rfl⟩, List.forall_mem_cons.mpr ⟨⟨RX2, TX2, 3, rfl, zW_1 (i := 138) rfl rfl⟩, List.forall_mem_cons.mpr ⟨⟨RX0, TX0, 1, rfl, zW_1 (i := 159) rfl rfl⟩, List.forall_mem_cons.mpr ⟨⟨RX3, TX3, 6, rfl, zW_1 (i := 157) rfl rfl⟩, List.forall_mem_cons.mpr ⟨⟨RX10, TX10, 17, rfl, zW_1 (i := 20) rfl rfl⟩, List.forall_mem_cons.mpr ⟨⟨RX11, TX11, 41, rfl, zW_5 (i := 0) rfl rfl⟩, fun _ h => absurd h List.not_mem_nil⟩⟩⟩⟩⟩⟩⟩⟩⟩⟩⟩⟩⟩⟩
def zAn (k : Nat) : String := match k with | 4 => RX3 | 5 => RX5 | _ => RX9
def zTA_p (e : Nat × Nat × Nat) : Prop := Cond.classLink (zNm e.1) e.2.1 (zAn e.2.2) ∈ zW ∧ (e.2.2 = 4 ∨ e.2.2 = 5 ∨ e.2.2 = 6)
def zTA : List (Nat × Nat × Nat) := [(2, 11, 6), (10, 30, 5), (10, 73, 4)]
set_option maxRecDepth 100000 in
theorem zTA_ok : ∀ e ∈ zTA, zTA_p e := List.forall_mem_cons.mpr ⟨⟨zW_1 (i := 144) rfl rfl, by decide⟩, List.forall_mem_cons.mpr ⟨⟨zW_1 (i := 104) rfl rfl, by decide⟩, List.forall_mem_cons.mpr ⟨⟨zW_1 (i := 157) rfl rfl, by decide⟩, fun _ h => absurd h List.not_mem_nil⟩⟩⟩
def zSt : List (String × Nat × String) := [(RX7, 28, "sheet goer join stone"), (RX6, 89, "turn"), (RX6, 95, "goer cell row column faces food margin stone here been step"), (RX6, 107, "not"), (RX6, 124, "if"), (RX6, 129, "or and")]
def zTR : List (Nat × Nat × Nat) := [(6, 89, 1), (6, 95, 2), (6, 107, 3), (6, 124, 4), (6, 129, 5), (7, 28, 0)]
def zTR_p (e : Nat × Nat × Nat) : Prop := ∃ tx, zSt[e.2.2]? = some (zNm e.1, e.2.1, tx)
set_option maxRecDepth 100000 in
theorem zTR_ok : ∀ e ∈ zTR, zTR_p e := List.forall_mem_cons.mpr ⟨⟨_, rfl⟩, List.forall_mem_cons.mpr ⟨⟨_, rfl⟩, List.forall_mem_cons.mpr ⟨⟨_, rfl⟩, List.forall_mem_cons.mpr ⟨⟨_, rfl⟩, List.forall_mem_cons.mpr ⟨⟨_, rfl⟩, List.forall_mem_cons.mpr ⟨⟨_, rfl⟩, fun _ h => absurd h List.not_mem_nil⟩⟩⟩⟩⟩⟩
def zTL_p (e : Nat × Nat × Int) : Prop := Cond.constantLong (zNm e.1) e.2.1 (Int64.ofInt e.2.2) ∈ zW ∧ i64 e.2.2 = e.2.2
def zTL : List (Nat × Nat × Int) := [(0, 13, 1103515245), (0, 15, 12345), (0, 17, 2147483648), (0, 19, 65536), (5, 28, 3), (11, 128, 1735353714), (11, 130, 1667591276), (11, 132, 7499639), (11, 134, 109330212154734), (11, 136, 439720568179), (11, 138, 1718579044), (11, 140, 120265298635118), (11, 142, 495874698853), (11, 144, 1751478885), (11, 146, 1650812270), (11, 148, 1937007984), (11, 190, 7237492), (11, 210, 6385252), (11, 212, 28530), (11, 214, 26982), (11, 229, 495672714612), (11, 237, 1785686382), (11, 248, 1953854062), (11, 295, 3), (11, 369, 20), (11, 371, 100), (11, 373, 2), (11, 405, 40), (11, 419, 9999), (11, 424, 60), (11, 441, -1), (11, 450, 1103515245), (11, 452, 12345), (11, 454, 2147483648), (11, 456, 65536), (11, 461, 10), (14, 314, 6148914691236517205), (14, 316, 3689348814741910323), (14, 318, 1085102592571150095)]
set_option maxRecDepth 100000 in
theorem zTL_ok : ∀ e ∈ zTL, zTL_p e := List.forall_mem_cons.mpr ⟨⟨zW_4 (i := 211) rfl rfl, by decide +kernel⟩, List.forall_mem_cons.mpr ⟨⟨zW_4 (i := 212) rfl rfl, by decide +kernel⟩, List.forall_mem_cons.mpr ⟨⟨zW_4 (i := 213) rfl rfl, by decide +kernel⟩, List.forall_mem_cons.mpr ⟨⟨zW_4 (i := 214) rfl rfl, by decide +kernel⟩, List.forall_mem_cons.mpr ⟨⟨zW_3 (i := 131) rfl rfl, by decide +kernel⟩, List.forall_mem_cons.mpr ⟨⟨zW_5 (i := 172) rfl rfl, by decide +kernel⟩, List.forall_mem_cons.mpr ⟨⟨zW_6 (i := 12) rfl rfl, by decide +kernel⟩, List.forall_mem_cons.mpr ⟨⟨zW_6 (i := 13) rfl rfl, by decide +kernel⟩, List.forall_mem_cons.mpr ⟨⟨zW_6 (i := 14) rfl rfl, by decide +kernel⟩, List.forall_mem_cons.mpr ⟨⟨zW_6 (i := 15) rfl rfl, by decide +kernel⟩, List.forall_mem_cons.mpr ⟨⟨zW_6 (i := 16) rfl rfl, by decide +kernel⟩, List.forall_mem_cons.mpr ⟨⟨zW_6 (i := 17) rfl rfl, by decide +kernel⟩, List.forall_mem_cons.mpr ⟨⟨zW_5 (i := 174) rfl rfl, by decide +kernel⟩, List.forall_mem_cons.mpr ⟨⟨zW_6 (i := 18) rfl rfl, by decide +kernel⟩, List.forall_mem_cons.mpr ⟨⟨zW_6 (i := 19) rfl rfl, by decide +kernel⟩, List.forall_mem_cons.mpr ⟨⟨zW_6 (i := 20) rfl rfl, by decide +kernel⟩, List.forall_mem_cons.mpr ⟨⟨zW_6 (i := 34) rfl rfl, by decide +kernel⟩, List.forall_mem_cons.mpr ⟨⟨zW_6 (i := 58) rfl rfl, by decide +kernel⟩, List.forall_mem_cons.mpr ⟨⟨zW_6 (i := 59) rfl rfl, by decide +kernel⟩, List.forall_mem_cons.mpr ⟨⟨zW_6 (i := 21) rfl rfl, by decide +kernel⟩, List.forall_mem_cons.mpr ⟨⟨zW_5 (i := 163) rfl rfl, by decide +kernel⟩, List.forall_mem_cons.mpr ⟨⟨zW_5 (i := 173) rfl rfl, by decide +kernel⟩, List.forall_mem_cons.mpr ⟨⟨zW_5 (i := 175) rfl rfl, by decide +kernel⟩, List.forall_mem_cons.mpr ⟨⟨zW_6 (i := 116) rfl rfl, by decide +kernel⟩, List.forall_mem_cons.mpr ⟨⟨zW_6 (i := 208) rfl rfl, by decide +kernel⟩, List.forall_mem_cons.mpr ⟨⟨zW_6 (i := 225) rfl rfl, by decide +kernel⟩, List.forall_mem_cons.mpr ⟨⟨zW_6 (i := 226) rfl rfl, by decide +kernel⟩, List.forall_mem_cons.mpr ⟨⟨zW_7 (i := 39) rfl rfl, by decide +kernel⟩, List.forall_mem_cons.mpr ⟨⟨zW_7 (i := 79) rfl rfl, by decide +kernel⟩, List.forall_mem_cons.mpr ⟨⟨zW_7 (i := 88) rfl rfl, by decide +kernel⟩, List.forall_mem_cons.mpr ⟨⟨zW_7 (i := 121) rfl rfl, by decide +kernel⟩, List.forall_mem_cons.mpr ⟨⟨zW_7 (i := 135) rfl rfl, by decide +kernel⟩, List.forall_mem_cons.mpr ⟨⟨zW_7 (i := 136) rfl rfl, by decide +kernel⟩, List.forall_mem_cons.mpr ⟨⟨zW_7 (i := 137) rfl rfl, by decide +kernel⟩, List.forall_mem_cons.mpr ⟨⟨zW_7 (i := 138) rfl rfl, by decide +kernel⟩, List.forall_mem_cons.mpr ⟨⟨zW_7 (i := 130) rfl rfl, by decide +kernel⟩, List.forall_mem_cons.mpr ⟨⟨zW_4 (i := 49) rfl rfl, by decide +kernel⟩, List.forall_mem_cons.mpr ⟨⟨zW_4 (i := 50) rfl rfl, by decide +kernel⟩, List.forall_mem_cons.mpr ⟨⟨zW_4 (i := 51) rfl rfl, by decide +kernel⟩, fun _ h => absurd h List.not_mem_nil⟩⟩⟩⟩⟩⟩⟩⟩⟩⟩⟩⟩⟩⟩⟩⟩⟩⟩⟩⟩⟩⟩⟩⟩⟩⟩⟩⟩⟩⟩⟩⟩⟩⟩⟩⟩⟩⟩⟩
def zTC_p (e : Nat × Nat × Int) : Prop := Cond.constant (zNm e.1) e.2.1 (Int32.ofInt e.2.2) ∈ zW ∧ i32 e.2.2 = e.2.2
def zTC : List (Nat × Nat × Int) := [(11, 170, 99999), (13, 265, 1431655765), (13, 266, 858993459), (13, 267, 252645135)]
set_option maxRecDepth 100000 in
theorem zTC_ok : ∀ e ∈ zTC, zTC_p e := List.forall_mem_cons.mpr ⟨⟨zW_5 (i := 239) rfl rfl, by decide +kernel⟩, List.forall_mem_cons.mpr ⟨⟨zW_4 (i := 71) rfl rfl, by decide +kernel⟩, List.forall_mem_cons.mpr ⟨⟨zW_4 (i := 72) rfl rfl, by decide +kernel⟩, List.forall_mem_cons.mpr ⟨⟨zW_4 (i := 73) rfl rfl, by decide +kernel⟩, fun _ h => absurd h List.not_mem_nil⟩⟩⟩⟩
def zTX_p (e : Nat × Nat × Unit) : Prop := Cond.methodLink (zNm e.1) e.2.1 arraycopyName ∈ zW
def zTX : List (Nat × Nat × Unit) := [(4, 25, ()), (9, 19, ())]
set_option maxRecDepth 100000 in
theorem zTX_ok : ∀ e ∈ zTX, zTX_p e := List.forall_mem_cons.mpr ⟨zW_4 (i := 235) rfl rfl, List.forall_mem_cons.mpr ⟨zW_2 (i := 194) rfl rfl, fun _ h => absurd h List.not_mem_nil⟩⟩
theorem zXI : Cond.native arraycopyName ∈ zW ∧ Cond.static arraycopyName ∈ zW ∧ Cond.initialized "java/lang/System" ∈ zW := ⟨zW_2 (i := 196) rfl rfl, zW_2 (i := 195) rfl rfl, zW_1 (i := 15) rfl rfl⟩
def zTl_p (e : Nat × Nat × Unit) : Prop := Cond.methodLink (zNm e.1) e.2.1 (⟨"java/lang/String", "length", "()I"⟩ : MethodName) ∈ zW
def zTl : List (Nat × Nat × Unit) := [(8, 52, ())]
set_option maxRecDepth 100000 in
theorem zTl_ok : ∀ e ∈ zTl, zTl_p e := List.forall_mem_cons.mpr ⟨zW_2 (i := 93) rfl rfl, fun _ h => absurd h List.not_mem_nil⟩
def zTc_p (e : Nat × Nat × Unit) : Prop := Cond.methodLink (zNm e.1) e.2.1 (⟨"java/lang/String", "charAt", "(I)C"⟩ : MethodName) ∈ zW
def zTc : List (Nat × Nat × Unit) := [(8, 57, ())]
set_option maxRecDepth 100000 in
theorem zTc_ok : ∀ e ∈ zTc, zTc_p e := List.forall_mem_cons.mpr ⟨zW_2 (i := 103) rfl rfl, fun _ h => absurd h List.not_mem_nil⟩
def zTM_p (e : Nat × Nat × Bool) : Prop := Cond.methodLink (zNm e.1) e.2.1 (if e.2.2 then Lib.Math.max.name else Lib.Math.min.name) ∈ zW
def zTM : List (Nat × Nat × Bool) := [(2, 29, false), (4, 31, true), (5, 15, false), (5, 21, true), (9, 76, true), (10, 172, false), (10, 325, true)]
set_option maxRecDepth 100000 in
theorem zTM_ok : ∀ e ∈ zTM, zTM_p e := List.forall_mem_cons.mpr ⟨zW_3 (i := 113) rfl rfl, List.forall_mem_cons.mpr ⟨zW_4 (i := 152) rfl rfl, List.forall_mem_cons.mpr ⟨zW_3 (i := 54) rfl rfl, List.forall_mem_cons.mpr ⟨zW_3 (i := 57) rfl rfl, List.forall_mem_cons.mpr ⟨zW_3 (i := 194) rfl rfl, List.forall_mem_cons.mpr ⟨zW_3 (i := 203) rfl rfl, List.forall_mem_cons.mpr ⟨zW_4 (i := 171) rfl rfl, fun _ h => absurd h List.not_mem_nil⟩⟩⟩⟩⟩⟩⟩
theorem zMI_max : Cond.static Lib.Math.max.name ∈ zW ∧ Cond.initialized "java/lang/Math" ∈ zW ∧ Cond.code Lib.Math.max.name Lib.Math.max.code 2 (some .int) ∈ zW := ⟨zW_3 (i := 58) rfl rfl, zW_1 (i := 17) rfl rfl, zW_3 (i := 59) rfl rfl⟩
theorem zMI_min : Cond.static Lib.Math.min.name ∈ zW ∧ Cond.initialized "java/lang/Math" ∈ zW ∧ Cond.code Lib.Math.min.name Lib.Math.min.code 2 (some .int) ∈ zW := ⟨zW_3 (i := 55) rfl rfl, zW_1 (i := 17) rfl rfl, zW_3 (i := 56) rfl rfl⟩
def zdv : FieldType → Option zV
  | .int => some (vi 0)
  | .boolean => some (vi 0)
  | .long => some (vl 0)
  | .object _ => some (vr 0)
  | .array _ => some (vr 0)
  | _ => none
/-- the fields of a new object -/
def zDf (ci : Nat) : List zV := match ci with
  | 0 => [vl 0]
  | 1 => [vr 0, vi 0, vi 0]
  | 2 => [vr 0, vr 0, vr 0, vi 0, vi 0, vi 0]
  | 3 => [vr 0, vr 0, vr 0, vi 0]
  | 4 => [vr 0, vr 0]
  | 5 => [vr 0, vi 0, vr 0, vi 0, vi 0, vi 0, vi 0, vi 0, vi 0, vi 0, vi 0]
  | 6 => [vr 0]
  | 7 => [vr 0, vi 0, vi 0, vi 0, vi 0, vi 0]
  | 8 => [vr 0, vi 0]
  | 9 => [vr 0, vr 0, vr 0, vr 0, vi 0, vi 0, vi 0, vr 0, vr 0, vr 0, vr 0, vr 0, vr 0, vr 0, vr 0, vr 0, vr 0]
  | 10 => [vr 0, vi 0, vi 0, vr 0, vr 0, vr 0, vr 0, vr 0, vi 0, vi 0, vi 0, vi 0, vi 0, vi 0, vi 0, vr 0, vi 0, vr 0, vi 0, vr 0, vr 0, vi 0, vi 0, vr 0, vi 0, vr 0, vr 0, vr 0, vr 0, vi 0, vi 0, vi 0, vr 0, vr 0, vr 0, vr 0, vl 0, vr 0, vr 0, vr 0, vr 0]
  | _ => []
def zCok (ci : Nat) : Prop := ∃ (C : String) (T : u_T) (N : Nat) (ty : Nat → FieldType), vwCl[ci]? = some (C, T, N) ∧ (∀ k, k < N → u_lay C T k ∈ zW) ∧ (∀ k, k < N → parseFieldDescriptor (T k).2.2.1 = some (ty k)) ∧ (∀ a, a < N → ∀ b, b < N → a ≠ b → (T a).2.1 ≠ (T b).2.1) ∧ (zDf ci).length = N ∧ (∀ k, k < N → zdv (ty k) = (zDf ci)[k]?) ∧ Cond.instantiable C N ∈ zW ∧ Cond.initialized C ∈ zW
theorem zCl0_0 : u_lay RX0 TX0 0 ∈ zW := zW_1 (i := 166) rfl rfl
theorem zCl0 : ∀ k, k < 1 → u_lay RX0 TX0 k ∈ zW
  | 0, _ => zCl0_0
  | k + 1, h => absurd h (by omega)
theorem zCk0 : zCok 0 := ⟨RX0, TX0, 1, tyX0, rfl, zCl0, tyX0_ok, nmX0, rfl, by decide +kernel, zW_1 (i := 160) rfl rfl, zW_1 (i := 8) rfl rfl⟩
theorem zCl1_0 : u_lay RX2 TX2 0 ∈ zW := zW_1 (i := 150) rfl rfl
theorem zCl1_1 : u_lay RX2 TX2 1 ∈ zW := zW_1 (i := 152) rfl rfl
theorem zCl1_2 : u_lay RX2 TX2 2 ∈ zW := zW_1 (i := 154) rfl rfl
theorem zCl1 : ∀ k, k < 3 → u_lay RX2 TX2 k ∈ zW
  | 0, _ => zCl1_0
  | 1, _ => zCl1_1
  | 2, _ => zCl1_2
  | k + 3, h => absurd h (by omega)
theorem zCk1 : zCok 1 := ⟨RX2, TX2, 3, tyX2, rfl, zCl1, tyX2_ok, nmX2, rfl, by decide +kernel, zW_1 (i := 139) rfl rfl, zW_1 (i := 7) rfl rfl⟩
theorem zCl2_0 : u_lay RX3 TX3 0 ∈ zW := zW_1 (i := 190) rfl rfl
theorem zCl2_1 : u_lay RX3 TX3 1 ∈ zW := zW_1 (i := 192) rfl rfl
theorem zCl2_2 : u_lay RX3 TX3 2 ∈ zW := zW_1 (i := 194) rfl rfl
theorem zCl2_3 : u_lay RX3 TX3 3 ∈ zW := zW_1 (i := 196) rfl rfl
theorem zCl2_4 : u_lay RX3 TX3 4 ∈ zW := zW_1 (i := 198) rfl rfl
theorem zCl2_5 : u_lay RX3 TX3 5 ∈ zW := zW_1 (i := 200) rfl rfl
theorem zCl2 : ∀ k, k < 6 → u_lay RX3 TX3 k ∈ zW
  | 0, _ => zCl2_0
  | 1, _ => zCl2_1
  | 2, _ => zCl2_2
  | 3, _ => zCl2_3
  | 4, _ => zCl2_4
  | 5, _ => zCl2_5
  | k + 6, h => absurd h (by omega)
theorem zCk2 : zCok 2 := ⟨RX3, TX3, 6, tyX3, rfl, zCl2, tyX3_ok, nmX3, rfl, by decide +kernel, zW_1 (i := 169) rfl rfl, zW_1 (i := 9) rfl rfl⟩
theorem zCl3_0 : u_lay RX4 TX4 0 ∈ zW := zW_1 (i := 129) rfl rfl
theorem zCl3_1 : u_lay RX4 TX4 1 ∈ zW := zW_1 (i := 131) rfl rfl
theorem zCl3_2 : u_lay RX4 TX4 2 ∈ zW := zW_1 (i := 133) rfl rfl
theorem zCl3_3 : u_lay RX4 TX4 3 ∈ zW := zW_1 (i := 135) rfl rfl
theorem zCl3 : ∀ k, k < 4 → u_lay RX4 TX4 k ∈ zW
  | 0, _ => zCl3_0
  | 1, _ => zCl3_1
  | 2, _ => zCl3_2
  | 3, _ => zCl3_3
  | k + 4, h => absurd h (by omega)
theorem zCk3 : zCok 3 := ⟨RX4, TX4, 4, tyX4, rfl, zCl3, tyX4_ok, nmX4, rfl, by decide +kernel, zW_1 (i := 120) rfl rfl, zW_1 (i := 6) rfl rfl⟩
theorem zCl4_0 : u_lay RX5 TX5 0 ∈ zW := zW_3 (i := 62) rfl rfl
theorem zCl4_1 : u_lay RX5 TX5 1 ∈ zW := zW_3 (i := 64) rfl rfl
theorem zCl4 : ∀ k, k < 2 → u_lay RX5 TX5 k ∈ zW
  | 0, _ => zCl4_0
  | 1, _ => zCl4_1
  | k + 2, h => absurd h (by omega)
theorem zCk4 : zCok 4 := ⟨RX5, TX5, 2, tyX5, rfl, zCl4, tyX5_ok, nmX5, rfl, by decide +kernel, zW_3 (i := 49) rfl rfl, zW_1 (i := 16) rfl rfl⟩
theorem zCl5_0 : u_lay RX6 TX6 0 ∈ zW := zW_1 (i := 81) rfl rfl
theorem zCl5_1 : u_lay RX6 TX6 1 ∈ zW := zW_1 (i := 83) rfl rfl
theorem zCl5_2 : u_lay RX6 TX6 2 ∈ zW := zW_1 (i := 85) rfl rfl
theorem zCl5_3 : u_lay RX6 TX6 3 ∈ zW := zW_1 (i := 87) rfl rfl
theorem zCl5_4 : u_lay RX6 TX6 4 ∈ zW := zW_1 (i := 89) rfl rfl
theorem zCl5_5 : u_lay RX6 TX6 5 ∈ zW := zW_1 (i := 91) rfl rfl
theorem zCl5_6 : u_lay RX6 TX6 6 ∈ zW := zW_1 (i := 93) rfl rfl
theorem zCl5_7 : u_lay RX6 TX6 7 ∈ zW := zW_1 (i := 95) rfl rfl
theorem zCl5_8 : u_lay RX6 TX6 8 ∈ zW := zW_1 (i := 97) rfl rfl
theorem zCl5_9 : u_lay RX6 TX6 9 ∈ zW := zW_1 (i := 99) rfl rfl
theorem zCl5_10 : u_lay RX6 TX6 10 ∈ zW := zW_1 (i := 101) rfl rfl
theorem zCl5 : ∀ k, k < 11 → u_lay RX6 TX6 k ∈ zW
  | 0, _ => zCl5_0
  | 1, _ => zCl5_1
  | 2, _ => zCl5_2
  | 3, _ => zCl5_3
  | 4, _ => zCl5_4
  | 5, _ => zCl5_5
  | 6, _ => zCl5_6
  | 7, _ => zCl5_7
  | 8, _ => zCl5_8
  | 9, _ => zCl5_9
  | 10, _ => zCl5_10
  | k + 11, h => absurd h (by omega)
theorem zCk5 : zCok 5 := ⟨RX6, TX6, 11, tyX6, rfl, zCl5, tyX6_ok, nmX6, rfl, by decide +kernel, zW_1 (i := 65) rfl rfl, zW_1 (i := 4) rfl rfl⟩
theorem zCl6_0 : u_lay RX7 TX7 0 ∈ zW := zW_1 (i := 61) rfl rfl
theorem zCl6 : ∀ k, k < 1 → u_lay RX7 TX7 k ∈ zW
  | 0, _ => zCl6_0
  | k + 1, h => absurd h (by omega)
theorem zCk6 : zCok 6 := ⟨RX7, TX7, 1, tyX7, rfl, zCl6, tyX7_ok, nmX7, rfl, by decide +kernel, zW_1 (i := 55) rfl rfl, zW_1 (i := 3) rfl rfl⟩
theorem zCl7_0 : u_lay RX8 TX8 0 ∈ zW := zW_1 (i := 40) rfl rfl
theorem zCl7_1 : u_lay RX8 TX8 1 ∈ zW := zW_1 (i := 42) rfl rfl
theorem zCl7_2 : u_lay RX8 TX8 2 ∈ zW := zW_1 (i := 44) rfl rfl
theorem zCl7_3 : u_lay RX8 TX8 3 ∈ zW := zW_1 (i := 46) rfl rfl
theorem zCl7_4 : u_lay RX8 TX8 4 ∈ zW := zW_1 (i := 48) rfl rfl
theorem zCl7_5 : u_lay RX8 TX8 5 ∈ zW := zW_1 (i := 50) rfl rfl
theorem zCl7 : ∀ k, k < 6 → u_lay RX8 TX8 k ∈ zW
  | 0, _ => zCl7_0
  | 1, _ => zCl7_1
  | 2, _ => zCl7_2
  | 3, _ => zCl7_3
  | 4, _ => zCl7_4
  | 5, _ => zCl7_5
  | k + 6, h => absurd h (by omega)
theorem zCk7 : zCok 7 := ⟨RX8, TX8, 6, tyX8, rfl, zCl7, tyX8_ok, nmX8, rfl, by decide +kernel, zW_1 (i := 29) rfl rfl, zW_1 (i := 2) rfl rfl⟩
theorem zCl8_0 : u_lay RX9 TX9 0 ∈ zW := zW_1 (i := 114) rfl rfl
theorem zCl8_1 : u_lay RX9 TX9 1 ∈ zW := zW_1 (i := 116) rfl rfl
theorem zCl8 : ∀ k, k < 2 → u_lay RX9 TX9 k ∈ zW
  | 0, _ => zCl8_0
  | 1, _ => zCl8_1
  | k + 2, h => absurd h (by omega)
theorem zCk8 : zCok 8 := ⟨RX9, TX9, 2, tyX9, rfl, zCl8, tyX9_ok, nmX9, rfl, by decide +kernel, zW_1 (i := 107) rfl rfl, zW_1 (i := 5) rfl rfl⟩
theorem zCl9_0 : u_lay RX10 TX10 0 ∈ zW := zW_1 (i := 220) rfl rfl
theorem zCl9_1 : u_lay RX10 TX10 1 ∈ zW := zW_1 (i := 222) rfl rfl
theorem zCl9_2 : u_lay RX10 TX10 2 ∈ zW := zW_1 (i := 224) rfl rfl
theorem zCl9_3 : u_lay RX10 TX10 3 ∈ zW := zW_1 (i := 226) rfl rfl
theorem zCl9_4 : u_lay RX10 TX10 4 ∈ zW := zW_1 (i := 228) rfl rfl
theorem zCl9_5 : u_lay RX10 TX10 5 ∈ zW := zW_1 (i := 230) rfl rfl
theorem zCl9_6 : u_lay RX10 TX10 6 ∈ zW := zW_1 (i := 232) rfl rfl
theorem zCl9_7 : u_lay RX10 TX10 7 ∈ zW := zW_1 (i := 234) rfl rfl
theorem zCl9_8 : u_lay RX10 TX10 8 ∈ zW := zW_1 (i := 236) rfl rfl
theorem zCl9_9 : u_lay RX10 TX10 9 ∈ zW := zW_1 (i := 238) rfl rfl
theorem zCl9_10 : u_lay RX10 TX10 10 ∈ zW := zW_2 (i := 0) rfl rfl
theorem zCl9_11 : u_lay RX10 TX10 11 ∈ zW := zW_2 (i := 2) rfl rfl
theorem zCl9_12 : u_lay RX10 TX10 12 ∈ zW := zW_2 (i := 4) rfl rfl
theorem zCl9_13 : u_lay RX10 TX10 13 ∈ zW := zW_2 (i := 6) rfl rfl
theorem zCl9_14 : u_lay RX10 TX10 14 ∈ zW := zW_2 (i := 8) rfl rfl
theorem zCl9_15 : u_lay RX10 TX10 15 ∈ zW := zW_2 (i := 10) rfl rfl
theorem zCl9_16 : u_lay RX10 TX10 16 ∈ zW := zW_2 (i := 12) rfl rfl
theorem zCl9 : ∀ k, k < 17 → u_lay RX10 TX10 k ∈ zW
  | 0, _ => zCl9_0
  | 1, _ => zCl9_1
  | 2, _ => zCl9_2
  | 3, _ => zCl9_3
  | 4, _ => zCl9_4
  | 5, _ => zCl9_5
  | 6, _ => zCl9_6
  | 7, _ => zCl9_7
  | 8, _ => zCl9_8
  | 9, _ => zCl9_9
  | 10, _ => zCl9_10
  | 11, _ => zCl9_11
  | 12, _ => zCl9_12
  | 13, _ => zCl9_13
  | 14, _ => zCl9_14
  | 15, _ => zCl9_15
  | 16, _ => zCl9_16
  | k + 17, h => absurd h (by omega)
theorem zCk9 : zCok 9 := ⟨RX10, TX10, 17, tyX10, rfl, zCl9, tyX10_ok, nmX10, rfl, by decide +kernel, zW_1 (i := 21) rfl rfl, zW_1 (i := 1) rfl rfl⟩
theorem zCl10_0 : u_lay RX11 TX11 0 ∈ zW := zW_5 (i := 47) rfl rfl
theorem zCl10_1 : u_lay RX11 TX11 1 ∈ zW := zW_5 (i := 49) rfl rfl
theorem zCl10_2 : u_lay RX11 TX11 2 ∈ zW := zW_5 (i := 51) rfl rfl
theorem zCl10_3 : u_lay RX11 TX11 3 ∈ zW := zW_5 (i := 53) rfl rfl
theorem zCl10_4 : u_lay RX11 TX11 4 ∈ zW := zW_5 (i := 55) rfl rfl
theorem zCl10_5 : u_lay RX11 TX11 5 ∈ zW := zW_5 (i := 57) rfl rfl
theorem zCl10_6 : u_lay RX11 TX11 6 ∈ zW := zW_5 (i := 59) rfl rfl
theorem zCl10_7 : u_lay RX11 TX11 7 ∈ zW := zW_5 (i := 61) rfl rfl
theorem zCl10_8 : u_lay RX11 TX11 8 ∈ zW := zW_5 (i := 63) rfl rfl
theorem zCl10_9 : u_lay RX11 TX11 9 ∈ zW := zW_5 (i := 65) rfl rfl
theorem zCl10_10 : u_lay RX11 TX11 10 ∈ zW := zW_5 (i := 67) rfl rfl
theorem zCl10_11 : u_lay RX11 TX11 11 ∈ zW := zW_5 (i := 69) rfl rfl
theorem zCl10_12 : u_lay RX11 TX11 12 ∈ zW := zW_5 (i := 71) rfl rfl
theorem zCl10_13 : u_lay RX11 TX11 13 ∈ zW := zW_5 (i := 73) rfl rfl
theorem zCl10_14 : u_lay RX11 TX11 14 ∈ zW := zW_5 (i := 75) rfl rfl
theorem zCl10_15 : u_lay RX11 TX11 15 ∈ zW := zW_5 (i := 77) rfl rfl
theorem zCl10_16 : u_lay RX11 TX11 16 ∈ zW := zW_5 (i := 79) rfl rfl
theorem zCl10_17 : u_lay RX11 TX11 17 ∈ zW := zW_5 (i := 81) rfl rfl
theorem zCl10_18 : u_lay RX11 TX11 18 ∈ zW := zW_5 (i := 83) rfl rfl
theorem zCl10_19 : u_lay RX11 TX11 19 ∈ zW := zW_5 (i := 85) rfl rfl
theorem zCl10_20 : u_lay RX11 TX11 20 ∈ zW := zW_5 (i := 87) rfl rfl
theorem zCl10_21 : u_lay RX11 TX11 21 ∈ zW := zW_5 (i := 89) rfl rfl
theorem zCl10_22 : u_lay RX11 TX11 22 ∈ zW := zW_5 (i := 91) rfl rfl
theorem zCl10_23 : u_lay RX11 TX11 23 ∈ zW := zW_5 (i := 93) rfl rfl
theorem zCl10_24 : u_lay RX11 TX11 24 ∈ zW := zW_5 (i := 95) rfl rfl
theorem zCl10_25 : u_lay RX11 TX11 25 ∈ zW := zW_5 (i := 97) rfl rfl
theorem zCl10_26 : u_lay RX11 TX11 26 ∈ zW := zW_5 (i := 99) rfl rfl
theorem zCl10_27 : u_lay RX11 TX11 27 ∈ zW := zW_5 (i := 101) rfl rfl
theorem zCl10_28 : u_lay RX11 TX11 28 ∈ zW := zW_5 (i := 103) rfl rfl
theorem zCl10_29 : u_lay RX11 TX11 29 ∈ zW := zW_5 (i := 105) rfl rfl
theorem zCl10_30 : u_lay RX11 TX11 30 ∈ zW := zW_5 (i := 107) rfl rfl
theorem zCl10_31 : u_lay RX11 TX11 31 ∈ zW := zW_5 (i := 109) rfl rfl
theorem zCl10_32 : u_lay RX11 TX11 32 ∈ zW := zW_5 (i := 111) rfl rfl
theorem zCl10_33 : u_lay RX11 TX11 33 ∈ zW := zW_5 (i := 113) rfl rfl
theorem zCl10_34 : u_lay RX11 TX11 34 ∈ zW := zW_5 (i := 115) rfl rfl
theorem zCl10_35 : u_lay RX11 TX11 35 ∈ zW := zW_5 (i := 117) rfl rfl
theorem zCl10_36 : u_lay RX11 TX11 36 ∈ zW := zW_5 (i := 119) rfl rfl
theorem zCl10_37 : u_lay RX11 TX11 37 ∈ zW := zW_5 (i := 121) rfl rfl
theorem zCl10_38 : u_lay RX11 TX11 38 ∈ zW := zW_5 (i := 123) rfl rfl
theorem zCl10_39 : u_lay RX11 TX11 39 ∈ zW := zW_5 (i := 125) rfl rfl
theorem zCl10_40 : u_lay RX11 TX11 40 ∈ zW := zW_5 (i := 127) rfl rfl
theorem zCl10 : ∀ k, k < 41 → u_lay RX11 TX11 k ∈ zW
  | 0, _ => zCl10_0
  | 1, _ => zCl10_1
  | 2, _ => zCl10_2
  | 3, _ => zCl10_3
  | 4, _ => zCl10_4
  | 5, _ => zCl10_5
  | 6, _ => zCl10_6
  | 7, _ => zCl10_7
  | 8, _ => zCl10_8
  | 9, _ => zCl10_9
  | 10, _ => zCl10_10
  | 11, _ => zCl10_11
  | 12, _ => zCl10_12
  | 13, _ => zCl10_13
  | 14, _ => zCl10_14
  | 15, _ => zCl10_15
  | 16, _ => zCl10_16
  | 17, _ => zCl10_17
  | 18, _ => zCl10_18
  | 19, _ => zCl10_19
  | 20, _ => zCl10_20
  | 21, _ => zCl10_21
  | 22, _ => zCl10_22
  | 23, _ => zCl10_23
  | 24, _ => zCl10_24
  | 25, _ => zCl10_25
  | 26, _ => zCl10_26
  | 27, _ => zCl10_27
  | 28, _ => zCl10_28
  | 29, _ => zCl10_29
  | 30, _ => zCl10_30
  | 31, _ => zCl10_31
  | 32, _ => zCl10_32
  | 33, _ => zCl10_33
  | 34, _ => zCl10_34
  | 35, _ => zCl10_35
  | 36, _ => zCl10_36
  | 37, _ => zCl10_37
  | 38, _ => zCl10_38
  | 39, _ => zCl10_39
  | 40, _ => zCl10_40
  | k + 41, h => absurd h (by omega)
theorem zCk10 : zCok 10 := ⟨RX11, TX11, 41, tyX11, rfl, zCl10, tyX11_ok, nmX11, rfl, by decide +kernel, zW_5 (i := 1) rfl rfl, zW_1 (i := 10) rfl rfl⟩
theorem zCok_all {ci : Nat} {q : vw_C} (h : vwCl[ci]? = some q) : zCok ci := by
  have hl : ci < 11 := (List.getElem?_eq_some_iff.mp h).1
  match ci, hl with
  | 0, _ => exact zCk0
  | 1, _ => exact zCk1
  | 2, _ => exact zCk2
  | 3, _ => exact zCk3
  | 4, _ => exact zCk4
  | 5, _ => exact zCk5
  | 6, _ => exact zCk6
  | 7, _ => exact zCk7
  | 8, _ => exact zCk8
  | 9, _ => exact zCk9
  | 10, _ => exact zCk10
  | n + 11, h => exact absurd h (by omega)
theorem zAc_byte : Cond.arrayClass .byte ∈ zW := zW_2 (i := 210) rfl rfl
theorem zAc_int : Cond.arrayClass .int ∈ zW := zW_1 (i := 53) rfl rfl
theorem zAc_long : Cond.arrayClass .long ∈ zW := zW_3 (i := 67) rfl rfl
theorem zAc_boolean : Cond.arrayClass .boolean ∈ zW := zW_5 (i := 130) rfl rfl
