/-! the whole heap behind the constructors as one thing: A the arrays by address, F the fields by address and place, E the rules' sizes, how many they are, the slots, the script -/
abbrev zE : Type := (Nat → Nat) × Nat × Nat × zC
def hRu (E : zE) : Nat → Int := fun i => if i < E.2.1 then 127 + 3 * (i : Int) else 0
def hWo : Nat → Int := fun i => if i < 20 then 22 + 2 * (i : Int) else 0
def hIm : Nat → Int := fun i => if i < 4 then 67 + 9 * (i : Int) else 0
def hst (E : zE) (j : Nat) (a f : Nat → Int) : zC := match j with
  | 1 => zob 9 [vr 2, vr 4, vr 6, vr 9, vi (f 4), vi (f 5), vi (f 6), vr 10, vr 12, vr 14, vr 16, vr 20, vr 62, vr 63, vr 64, vr 65, vr 66]
  | 2 => zob 7 [vr 3, vi (f 1), vi (f 2), vi (f 3), vi (f 4), vi (f 5)]
  | 3 => zar 1 400 a
  | 4 => zob 6 [vr 5]
  | 5 => zar 1 3 a
  | 6 => zob 5 [vr 7, vi (f 1), vr 8, vi (f 3), vi (f 4), vi (f 5), vi (f 6), vi (f 7), vi (f 8), vi (f 9), vi (f 10)]
  | 7 => zar 1 400 a
  | 8 => zar 1 400 a
  | 9 => zar 5 6 (hRu E)
  | 10 => zob 8 [vr 11, vi (f 1)]
  | 11 => zar 1 82 a
  | 12 => zob 8 [vr 13, vi (f 1)]
  | 13 => zar 1 82 a
  | 14 => zob 8 [vr 15, vi (f 1)]
  | 15 => zar 1 82 a
  | 16 => zob 3 [vr 17, vr 18, vr 19, vi (f 3)]
  | 17 => zar 1 10 a
  | 18 => zar 1 10 a
  | 19 => zar 1 10 a
  | 20 => zob 1 [vr 21, vi (f 1), vi (f 2)]
  | 21 => zar 6 20 hWo
  | 62 => zar 4 4 hIm
  | 63 => zob 0 [vl (f 0)]
  | 64 => zar 1 305 a
  | 65 => zar 1 36 a
  | 66 => zar 1 16 a
  | 103 => zob 10 [vr 104, vi (f 1), vi (f 2), vr 105, vr 106, vr 107, vr 108, vr 109, vi (f 8), vi (f 9), vi (f 10), vi (f 11), vi (f 12), vi (f 13), vi (f 14), vr 110, vi (f 16), vr 111, vi (f 18), vr 112, vr 113, vi (f 21), vi (f 22), vr 114, vi (f 24), vr 115, vr 116, vr 117, vr 118, vi (f 29), vi (f 30), vi (f 31), vr 119, vr 120, vr 121, vr 122, vl (f 36), vr 123, vr 124, vr 125, vr 126]
  | 104 => zar 0 400 a
  | 105 => zar 1 2400 a
  | 106 => zar 1 7 a
  | 107 => zar 1 288 a
  | 108 => zar 1 6 a
  | 109 => zar 1 145 a
  | 110 => zar 1 400 a
  | 111 => zar 2 64 a
  | 112 => zar 2 11 a
  | 113 => zar 1 176 a
  | 114 => zar 1 1520 a
  | 115 => zar 1 76 a
  | 116 => zar 1 36 a
  | 117 => zar 3 36 a
  | 118 => zar 1 5 a
  | 119 => zar 1 32 a
  | 120 => zar 1 305 a
  | 121 => zar 3 7 a
  | 122 => zar 1 35 a
  | 123 => zar 1 704 a
  | 124 => zar 1 4 a
  | 125 => zar 1 4 a
  | 126 => zar 3 4 a
  | _ => zjk
def hc (E : zE) (j : Nat) (a f : Nat → Int) : zC :=
  if 127 ≤ j then (if j = 1000000000 then E.2.2.2 else if j < 127 + 3 * E.2.1 then (if (j - 127) % 3 = 0 then zob 4 [vr (j + 2), vr (j + 1)] else if (j - 127) % 3 = 1 then zar 2 62 a else zar 1 (E.1 ((j - 127) / 3)) a) else zjk)
  else if 22 ≤ j ∧ j < 62 then (if j % 2 = 0 then zob 8 [vr (j + 1), vi (f 1)] else zar 1 82 a)
  else if 67 ≤ j ∧ j < 103 then (if (j - 67) % 9 = 0 then zob 2 [vr (j + 1), vr (j + 3), vr (j + 5), vi (f 3), vi (f 4), vi (f 5)] else if (j - 67) % 9 = 1 ∨ (j - 67) % 9 = 3 then zob 8 [vr (j + 1), vi (f 1)] else if (j - 67) % 9 = 2 ∨ (j - 67) % 9 = 4 then zar 1 82 a else if (j - 67) % 9 = 5 then zob 3 [vr (j + 1), vr (j + 2), vr (j + 3), vi (f 3)] else zar 1 10 a)
  else hst E j a f
def HP (A F : Nat → Nat → Int) (E : zE) : zH := ((126 + 3 * E.2.1, E.2.2.1), fun j => hc E j (A j) (F j))
def aup (A : Nat → Nat → Int) (j : Nat) (g : Nat → Int) : Nat → Nat → Int := fun i => if i = j then g else A i
section HPS
variable {A F : Nat → Nat → Int} {E : zE} {j k : Nat} {g g' f : Nat → Int}
theorem aup_s : aup A j g j = g := if_pos rfl
theorem aup_n (h : k ≠ j) : aup A j g k = A k := if_neg h
theorem aup_id : aup A j (A j) = A := by funext i; by_cases q : i = j <;> simp [aup, q]
theorem aup_aup : aup (aup A j g) j g' = aup A j g' := by funext i; by_cases q : i = j <;> simp [aup, q]
theorem aup_comm (h : j ≠ k) : aup (aup A j g) k g' = aup (aup A k g') j g := by
  funext i
  by_cases q : i = j
  · subst q; simp [aup, h]
  · by_cases r : i = k
    · subst r; simp [aup, q]
    · simp [aup, q, r]
theorem fup_s' {f : Nat → Int} {k : Nat} {v : Int} : fup f k v k = v := if_pos rfl
theorem fup_fup {f : Nat → Int} {k : Nat} {v u : Int} : fup (fup f k v) k u = fup f k u := by funext i; by_cases q : i = k <;> simp [fup, q]
theorem fup_id {f : Nat → Int} {k : Nat} : fup f k (f k) = f := by funext i; by_cases q : i = k <;> simp [fup, q]
theorem HP_2 : (HP A F E).2 j = hc E j (A j) (F j) := rfl
theorem HP_1 : (HP A F E).1 = (126 + 3 * E.2.1, E.2.2.1) := rfl
theorem zup_HP {c : zC} (e : hc E j g f = c) : zup (HP A F E) j c = HP (aup A j g) (aup F j f) E := by
  subst e
  unfold zup HP
  congr 1
  funext i
  by_cases q : i = j
  · subst q; simp [aup]
  · simp [aup, q]
theorem zup_HPa {c : zC} (e : hc E j g (F j) = c) : zup (HP A F E) j c = HP (aup A j g) F E := by rw [zup_HP e, aup_id]
theorem zup_HPf {c : zC} (e : hc E j (A j) f = c) : zup (HP A F E) j c = HP A (aup F j f) E := by rw [zup_HP e, aup_id]
end HPS
section HPL
variable {α : Type} {A F : Nat → Nat → Int} {E : zE} {K : Int → Option α} {Kr : Nat → Option α} {M : zMd} {pc : Nat} {L st : List zV} {z v : Int} {x : Option α}
theorem hk1 : cki ((HP A F E).2 1) 9 x = x := cki_at (fs := [vr 2, vr 4, vr 6, vr 9, vi (F 1 4), vi (F 1 5), vi (F 1 6), vr 10, vr 12, vr 14, vr 16, vr 20, vr 62, vr 63, vr 64, vr 65, vr 66]) rfl
theorem hf1_0 : gfr ((HP A F E).2 1) 9 0 Kr = Kr 2 := gfr_at (fs := [vr 2, vr 4, vr 6, vr 9, vi (F 1 4), vi (F 1 5), vi (F 1 6), vr 10, vr 12, vr 14, vr 16, vr 20, vr 62, vr 63, vr 64, vr 65, vr 66]) rfl rfl
theorem hf1_1 : gfr ((HP A F E).2 1) 9 1 Kr = Kr 4 := gfr_at (fs := [vr 2, vr 4, vr 6, vr 9, vi (F 1 4), vi (F 1 5), vi (F 1 6), vr 10, vr 12, vr 14, vr 16, vr 20, vr 62, vr 63, vr 64, vr 65, vr 66]) rfl rfl
theorem hf1_2 : gfr ((HP A F E).2 1) 9 2 Kr = Kr 6 := gfr_at (fs := [vr 2, vr 4, vr 6, vr 9, vi (F 1 4), vi (F 1 5), vi (F 1 6), vr 10, vr 12, vr 14, vr 16, vr 20, vr 62, vr 63, vr 64, vr 65, vr 66]) rfl rfl
theorem hf1_3 : gfr ((HP A F E).2 1) 9 3 Kr = Kr 9 := gfr_at (fs := [vr 2, vr 4, vr 6, vr 9, vi (F 1 4), vi (F 1 5), vi (F 1 6), vr 10, vr 12, vr 14, vr 16, vr 20, vr 62, vr 63, vr 64, vr 65, vr 66]) rfl rfl
theorem hf1_4 : gfi ((HP A F E).2 1) 9 4 K = K (F 1 4) := gfi_at (fs := [vr 2, vr 4, vr 6, vr 9, vi (F 1 4), vi (F 1 5), vi (F 1 6), vr 10, vr 12, vr 14, vr 16, vr 20, vr 62, vr 63, vr 64, vr 65, vr 66]) rfl rfl
theorem hp1_4 : pfv ((HP A F E).2 1) 9 4 (vi v) (fun c => rn M pc L st (zup (HP A F E) 1 c)) = rn M pc L st (HP A (aup F 1 (fup (F 1) 4 v)) E) := by
  rw [pfv_at (fs := [vr 2, vr 4, vr 6, vr 9, vi (F 1 4), vi (F 1 5), vi (F 1 6), vr 10, vr 12, vr 14, vr 16, vr 20, vr 62, vr 63, vr 64, vr 65, vr 66]) rfl (Nat.le_of_ble_eq_true rfl)]
  exact congrArg (rn M pc L st) (zup_HPf (f := fup (F 1) 4 v) rfl)
theorem hf1_5 : gfi ((HP A F E).2 1) 9 5 K = K (F 1 5) := gfi_at (fs := [vr 2, vr 4, vr 6, vr 9, vi (F 1 4), vi (F 1 5), vi (F 1 6), vr 10, vr 12, vr 14, vr 16, vr 20, vr 62, vr 63, vr 64, vr 65, vr 66]) rfl rfl
theorem hp1_5 : pfv ((HP A F E).2 1) 9 5 (vi v) (fun c => rn M pc L st (zup (HP A F E) 1 c)) = rn M pc L st (HP A (aup F 1 (fup (F 1) 5 v)) E) := by
  rw [pfv_at (fs := [vr 2, vr 4, vr 6, vr 9, vi (F 1 4), vi (F 1 5), vi (F 1 6), vr 10, vr 12, vr 14, vr 16, vr 20, vr 62, vr 63, vr 64, vr 65, vr 66]) rfl (Nat.le_of_ble_eq_true rfl)]
  exact congrArg (rn M pc L st) (zup_HPf (f := fup (F 1) 5 v) rfl)
theorem hf1_6 : gfi ((HP A F E).2 1) 9 6 K = K (F 1 6) := gfi_at (fs := [vr 2, vr 4, vr 6, vr 9, vi (F 1 4), vi (F 1 5), vi (F 1 6), vr 10, vr 12, vr 14, vr 16, vr 20, vr 62, vr 63, vr 64, vr 65, vr 66]) rfl rfl
theorem hp1_6 : pfv ((HP A F E).2 1) 9 6 (vi v) (fun c => rn M pc L st (zup (HP A F E) 1 c)) = rn M pc L st (HP A (aup F 1 (fup (F 1) 6 v)) E) := by
  rw [pfv_at (fs := [vr 2, vr 4, vr 6, vr 9, vi (F 1 4), vi (F 1 5), vi (F 1 6), vr 10, vr 12, vr 14, vr 16, vr 20, vr 62, vr 63, vr 64, vr 65, vr 66]) rfl (Nat.le_of_ble_eq_true rfl)]
  exact congrArg (rn M pc L st) (zup_HPf (f := fup (F 1) 6 v) rfl)
theorem hf1_7 : gfr ((HP A F E).2 1) 9 7 Kr = Kr 10 := gfr_at (fs := [vr 2, vr 4, vr 6, vr 9, vi (F 1 4), vi (F 1 5), vi (F 1 6), vr 10, vr 12, vr 14, vr 16, vr 20, vr 62, vr 63, vr 64, vr 65, vr 66]) rfl rfl
theorem hf1_8 : gfr ((HP A F E).2 1) 9 8 Kr = Kr 12 := gfr_at (fs := [vr 2, vr 4, vr 6, vr 9, vi (F 1 4), vi (F 1 5), vi (F 1 6), vr 10, vr 12, vr 14, vr 16, vr 20, vr 62, vr 63, vr 64, vr 65, vr 66]) rfl rfl
theorem hf1_9 : gfr ((HP A F E).2 1) 9 9 Kr = Kr 14 := gfr_at (fs := [vr 2, vr 4, vr 6, vr 9, vi (F 1 4), vi (F 1 5), vi (F 1 6), vr 10, vr 12, vr 14, vr 16, vr 20, vr 62, vr 63, vr 64, vr 65, vr 66]) rfl rfl
theorem hf1_10 : gfr ((HP A F E).2 1) 9 10 Kr = Kr 16 := gfr_at (fs := [vr 2, vr 4, vr 6, vr 9, vi (F 1 4), vi (F 1 5), vi (F 1 6), vr 10, vr 12, vr 14, vr 16, vr 20, vr 62, vr 63, vr 64, vr 65, vr 66]) rfl rfl
theorem hf1_11 : gfr ((HP A F E).2 1) 9 11 Kr = Kr 20 := gfr_at (fs := [vr 2, vr 4, vr 6, vr 9, vi (F 1 4), vi (F 1 5), vi (F 1 6), vr 10, vr 12, vr 14, vr 16, vr 20, vr 62, vr 63, vr 64, vr 65, vr 66]) rfl rfl
theorem hf1_12 : gfr ((HP A F E).2 1) 9 12 Kr = Kr 62 := gfr_at (fs := [vr 2, vr 4, vr 6, vr 9, vi (F 1 4), vi (F 1 5), vi (F 1 6), vr 10, vr 12, vr 14, vr 16, vr 20, vr 62, vr 63, vr 64, vr 65, vr 66]) rfl rfl
theorem hf1_13 : gfr ((HP A F E).2 1) 9 13 Kr = Kr 63 := gfr_at (fs := [vr 2, vr 4, vr 6, vr 9, vi (F 1 4), vi (F 1 5), vi (F 1 6), vr 10, vr 12, vr 14, vr 16, vr 20, vr 62, vr 63, vr 64, vr 65, vr 66]) rfl rfl
theorem hf1_14 : gfr ((HP A F E).2 1) 9 14 Kr = Kr 64 := gfr_at (fs := [vr 2, vr 4, vr 6, vr 9, vi (F 1 4), vi (F 1 5), vi (F 1 6), vr 10, vr 12, vr 14, vr 16, vr 20, vr 62, vr 63, vr 64, vr 65, vr 66]) rfl rfl
theorem hf1_15 : gfr ((HP A F E).2 1) 9 15 Kr = Kr 65 := gfr_at (fs := [vr 2, vr 4, vr 6, vr 9, vi (F 1 4), vi (F 1 5), vi (F 1 6), vr 10, vr 12, vr 14, vr 16, vr 20, vr 62, vr 63, vr 64, vr 65, vr 66]) rfl rfl
theorem hf1_16 : gfr ((HP A F E).2 1) 9 16 Kr = Kr 66 := gfr_at (fs := [vr 2, vr 4, vr 6, vr 9, vi (F 1 4), vi (F 1 5), vi (F 1 6), vr 10, vr 12, vr 14, vr 16, vr 20, vr 62, vr 63, vr 64, vr 65, vr 66]) rfl rfl
theorem hk2 : cki ((HP A F E).2 2) 7 x = x := cki_at (fs := [vr 3, vi (F 2 1), vi (F 2 2), vi (F 2 3), vi (F 2 4), vi (F 2 5)]) rfl
theorem hf2_0 : gfr ((HP A F E).2 2) 7 0 Kr = Kr 3 := gfr_at (fs := [vr 3, vi (F 2 1), vi (F 2 2), vi (F 2 3), vi (F 2 4), vi (F 2 5)]) rfl rfl
theorem hf2_1 : gfi ((HP A F E).2 2) 7 1 K = K (F 2 1) := gfi_at (fs := [vr 3, vi (F 2 1), vi (F 2 2), vi (F 2 3), vi (F 2 4), vi (F 2 5)]) rfl rfl
theorem hp2_1 : pfv ((HP A F E).2 2) 7 1 (vi v) (fun c => rn M pc L st (zup (HP A F E) 2 c)) = rn M pc L st (HP A (aup F 2 (fup (F 2) 1 v)) E) := by
  rw [pfv_at (fs := [vr 3, vi (F 2 1), vi (F 2 2), vi (F 2 3), vi (F 2 4), vi (F 2 5)]) rfl (Nat.le_of_ble_eq_true rfl)]
  exact congrArg (rn M pc L st) (zup_HPf (f := fup (F 2) 1 v) rfl)
theorem hf2_2 : gfi ((HP A F E).2 2) 7 2 K = K (F 2 2) := gfi_at (fs := [vr 3, vi (F 2 1), vi (F 2 2), vi (F 2 3), vi (F 2 4), vi (F 2 5)]) rfl rfl
theorem hp2_2 : pfv ((HP A F E).2 2) 7 2 (vi v) (fun c => rn M pc L st (zup (HP A F E) 2 c)) = rn M pc L st (HP A (aup F 2 (fup (F 2) 2 v)) E) := by
  rw [pfv_at (fs := [vr 3, vi (F 2 1), vi (F 2 2), vi (F 2 3), vi (F 2 4), vi (F 2 5)]) rfl (Nat.le_of_ble_eq_true rfl)]
  exact congrArg (rn M pc L st) (zup_HPf (f := fup (F 2) 2 v) rfl)
theorem hf2_3 : gfi ((HP A F E).2 2) 7 3 K = K (F 2 3) := gfi_at (fs := [vr 3, vi (F 2 1), vi (F 2 2), vi (F 2 3), vi (F 2 4), vi (F 2 5)]) rfl rfl
theorem hp2_3 : pfv ((HP A F E).2 2) 7 3 (vi v) (fun c => rn M pc L st (zup (HP A F E) 2 c)) = rn M pc L st (HP A (aup F 2 (fup (F 2) 3 v)) E) := by
  rw [pfv_at (fs := [vr 3, vi (F 2 1), vi (F 2 2), vi (F 2 3), vi (F 2 4), vi (F 2 5)]) rfl (Nat.le_of_ble_eq_true rfl)]
  exact congrArg (rn M pc L st) (zup_HPf (f := fup (F 2) 3 v) rfl)
theorem hf2_4 : gfi ((HP A F E).2 2) 7 4 K = K (F 2 4) := gfi_at (fs := [vr 3, vi (F 2 1), vi (F 2 2), vi (F 2 3), vi (F 2 4), vi (F 2 5)]) rfl rfl
theorem hp2_4 : pfv ((HP A F E).2 2) 7 4 (vi v) (fun c => rn M pc L st (zup (HP A F E) 2 c)) = rn M pc L st (HP A (aup F 2 (fup (F 2) 4 v)) E) := by
  rw [pfv_at (fs := [vr 3, vi (F 2 1), vi (F 2 2), vi (F 2 3), vi (F 2 4), vi (F 2 5)]) rfl (Nat.le_of_ble_eq_true rfl)]
  exact congrArg (rn M pc L st) (zup_HPf (f := fup (F 2) 4 v) rfl)
theorem hf2_5 : gfi ((HP A F E).2 2) 7 5 K = K (F 2 5) := gfi_at (fs := [vr 3, vi (F 2 1), vi (F 2 2), vi (F 2 3), vi (F 2 4), vi (F 2 5)]) rfl rfl
theorem hp2_5 : pfv ((HP A F E).2 2) 7 5 (vi v) (fun c => rn M pc L st (zup (HP A F E) 2 c)) = rn M pc L st (HP A (aup F 2 (fup (F 2) 5 v)) E) := by
  rw [pfv_at (fs := [vr 3, vi (F 2 1), vi (F 2 2), vi (F 2 3), vi (F 2 4), vi (F 2 5)]) rfl (Nat.le_of_ble_eq_true rfl)]
  exact congrArg (rn M pc L st) (zup_HPf (f := fup (F 2) 5 v) rfl)
theorem hk4 : cki ((HP A F E).2 4) 6 x = x := cki_at (fs := [vr 5]) rfl
theorem hf4_0 : gfr ((HP A F E).2 4) 6 0 Kr = Kr 5 := gfr_at (fs := [vr 5]) rfl rfl
theorem hk6 : cki ((HP A F E).2 6) 5 x = x := cki_at (fs := [vr 7, vi (F 6 1), vr 8, vi (F 6 3), vi (F 6 4), vi (F 6 5), vi (F 6 6), vi (F 6 7), vi (F 6 8), vi (F 6 9), vi (F 6 10)]) rfl
theorem hf6_0 : gfr ((HP A F E).2 6) 5 0 Kr = Kr 7 := gfr_at (fs := [vr 7, vi (F 6 1), vr 8, vi (F 6 3), vi (F 6 4), vi (F 6 5), vi (F 6 6), vi (F 6 7), vi (F 6 8), vi (F 6 9), vi (F 6 10)]) rfl rfl
theorem hf6_1 : gfi ((HP A F E).2 6) 5 1 K = K (F 6 1) := gfi_at (fs := [vr 7, vi (F 6 1), vr 8, vi (F 6 3), vi (F 6 4), vi (F 6 5), vi (F 6 6), vi (F 6 7), vi (F 6 8), vi (F 6 9), vi (F 6 10)]) rfl rfl
theorem hp6_1 : pfv ((HP A F E).2 6) 5 1 (vi v) (fun c => rn M pc L st (zup (HP A F E) 6 c)) = rn M pc L st (HP A (aup F 6 (fup (F 6) 1 v)) E) := by
  rw [pfv_at (fs := [vr 7, vi (F 6 1), vr 8, vi (F 6 3), vi (F 6 4), vi (F 6 5), vi (F 6 6), vi (F 6 7), vi (F 6 8), vi (F 6 9), vi (F 6 10)]) rfl (Nat.le_of_ble_eq_true rfl)]
  exact congrArg (rn M pc L st) (zup_HPf (f := fup (F 6) 1 v) rfl)
theorem hf6_2 : gfr ((HP A F E).2 6) 5 2 Kr = Kr 8 := gfr_at (fs := [vr 7, vi (F 6 1), vr 8, vi (F 6 3), vi (F 6 4), vi (F 6 5), vi (F 6 6), vi (F 6 7), vi (F 6 8), vi (F 6 9), vi (F 6 10)]) rfl rfl
theorem hf6_3 : gfi ((HP A F E).2 6) 5 3 K = K (F 6 3) := gfi_at (fs := [vr 7, vi (F 6 1), vr 8, vi (F 6 3), vi (F 6 4), vi (F 6 5), vi (F 6 6), vi (F 6 7), vi (F 6 8), vi (F 6 9), vi (F 6 10)]) rfl rfl
theorem hp6_3 : pfv ((HP A F E).2 6) 5 3 (vi v) (fun c => rn M pc L st (zup (HP A F E) 6 c)) = rn M pc L st (HP A (aup F 6 (fup (F 6) 3 v)) E) := by
  rw [pfv_at (fs := [vr 7, vi (F 6 1), vr 8, vi (F 6 3), vi (F 6 4), vi (F 6 5), vi (F 6 6), vi (F 6 7), vi (F 6 8), vi (F 6 9), vi (F 6 10)]) rfl (Nat.le_of_ble_eq_true rfl)]
  exact congrArg (rn M pc L st) (zup_HPf (f := fup (F 6) 3 v) rfl)
theorem hf6_4 : gfi ((HP A F E).2 6) 5 4 K = K (F 6 4) := gfi_at (fs := [vr 7, vi (F 6 1), vr 8, vi (F 6 3), vi (F 6 4), vi (F 6 5), vi (F 6 6), vi (F 6 7), vi (F 6 8), vi (F 6 9), vi (F 6 10)]) rfl rfl
theorem hp6_4 : pfv ((HP A F E).2 6) 5 4 (vi v) (fun c => rn M pc L st (zup (HP A F E) 6 c)) = rn M pc L st (HP A (aup F 6 (fup (F 6) 4 v)) E) := by
  rw [pfv_at (fs := [vr 7, vi (F 6 1), vr 8, vi (F 6 3), vi (F 6 4), vi (F 6 5), vi (F 6 6), vi (F 6 7), vi (F 6 8), vi (F 6 9), vi (F 6 10)]) rfl (Nat.le_of_ble_eq_true rfl)]
  exact congrArg (rn M pc L st) (zup_HPf (f := fup (F 6) 4 v) rfl)
theorem hf6_5 : gfi ((HP A F E).2 6) 5 5 K = K (F 6 5) := gfi_at (fs := [vr 7, vi (F 6 1), vr 8, vi (F 6 3), vi (F 6 4), vi (F 6 5), vi (F 6 6), vi (F 6 7), vi (F 6 8), vi (F 6 9), vi (F 6 10)]) rfl rfl
theorem hp6_5 : pfv ((HP A F E).2 6) 5 5 (vi v) (fun c => rn M pc L st (zup (HP A F E) 6 c)) = rn M pc L st (HP A (aup F 6 (fup (F 6) 5 v)) E) := by
  rw [pfv_at (fs := [vr 7, vi (F 6 1), vr 8, vi (F 6 3), vi (F 6 4), vi (F 6 5), vi (F 6 6), vi (F 6 7), vi (F 6 8), vi (F 6 9), vi (F 6 10)]) rfl (Nat.le_of_ble_eq_true rfl)]
  exact congrArg (rn M pc L st) (zup_HPf (f := fup (F 6) 5 v) rfl)
theorem hf6_6 : gfi ((HP A F E).2 6) 5 6 K = K (F 6 6) := gfi_at (fs := [vr 7, vi (F 6 1), vr 8, vi (F 6 3), vi (F 6 4), vi (F 6 5), vi (F 6 6), vi (F 6 7), vi (F 6 8), vi (F 6 9), vi (F 6 10)]) rfl rfl
theorem hp6_6 : pfv ((HP A F E).2 6) 5 6 (vi v) (fun c => rn M pc L st (zup (HP A F E) 6 c)) = rn M pc L st (HP A (aup F 6 (fup (F 6) 6 v)) E) := by
  rw [pfv_at (fs := [vr 7, vi (F 6 1), vr 8, vi (F 6 3), vi (F 6 4), vi (F 6 5), vi (F 6 6), vi (F 6 7), vi (F 6 8), vi (F 6 9), vi (F 6 10)]) rfl (Nat.le_of_ble_eq_true rfl)]
  exact congrArg (rn M pc L st) (zup_HPf (f := fup (F 6) 6 v) rfl)
theorem hf6_7 : gfi ((HP A F E).2 6) 5 7 K = K (F 6 7) := gfi_at (fs := [vr 7, vi (F 6 1), vr 8, vi (F 6 3), vi (F 6 4), vi (F 6 5), vi (F 6 6), vi (F 6 7), vi (F 6 8), vi (F 6 9), vi (F 6 10)]) rfl rfl
theorem hp6_7 : pfv ((HP A F E).2 6) 5 7 (vi v) (fun c => rn M pc L st (zup (HP A F E) 6 c)) = rn M pc L st (HP A (aup F 6 (fup (F 6) 7 v)) E) := by
  rw [pfv_at (fs := [vr 7, vi (F 6 1), vr 8, vi (F 6 3), vi (F 6 4), vi (F 6 5), vi (F 6 6), vi (F 6 7), vi (F 6 8), vi (F 6 9), vi (F 6 10)]) rfl (Nat.le_of_ble_eq_true rfl)]
  exact congrArg (rn M pc L st) (zup_HPf (f := fup (F 6) 7 v) rfl)
theorem hf6_8 : gfi ((HP A F E).2 6) 5 8 K = K (F 6 8) := gfi_at (fs := [vr 7, vi (F 6 1), vr 8, vi (F 6 3), vi (F 6 4), vi (F 6 5), vi (F 6 6), vi (F 6 7), vi (F 6 8), vi (F 6 9), vi (F 6 10)]) rfl rfl
theorem hp6_8 : pfv ((HP A F E).2 6) 5 8 (vi v) (fun c => rn M pc L st (zup (HP A F E) 6 c)) = rn M pc L st (HP A (aup F 6 (fup (F 6) 8 v)) E) := by
  rw [pfv_at (fs := [vr 7, vi (F 6 1), vr 8, vi (F 6 3), vi (F 6 4), vi (F 6 5), vi (F 6 6), vi (F 6 7), vi (F 6 8), vi (F 6 9), vi (F 6 10)]) rfl (Nat.le_of_ble_eq_true rfl)]
  exact congrArg (rn M pc L st) (zup_HPf (f := fup (F 6) 8 v) rfl)
theorem hf6_9 : gfi ((HP A F E).2 6) 5 9 K = K (F 6 9) := gfi_at (fs := [vr 7, vi (F 6 1), vr 8, vi (F 6 3), vi (F 6 4), vi (F 6 5), vi (F 6 6), vi (F 6 7), vi (F 6 8), vi (F 6 9), vi (F 6 10)]) rfl rfl
theorem hp6_9 : pfv ((HP A F E).2 6) 5 9 (vi v) (fun c => rn M pc L st (zup (HP A F E) 6 c)) = rn M pc L st (HP A (aup F 6 (fup (F 6) 9 v)) E) := by
  rw [pfv_at (fs := [vr 7, vi (F 6 1), vr 8, vi (F 6 3), vi (F 6 4), vi (F 6 5), vi (F 6 6), vi (F 6 7), vi (F 6 8), vi (F 6 9), vi (F 6 10)]) rfl (Nat.le_of_ble_eq_true rfl)]
  exact congrArg (rn M pc L st) (zup_HPf (f := fup (F 6) 9 v) rfl)
theorem hf6_10 : gfi ((HP A F E).2 6) 5 10 K = K (F 6 10) := gfi_at (fs := [vr 7, vi (F 6 1), vr 8, vi (F 6 3), vi (F 6 4), vi (F 6 5), vi (F 6 6), vi (F 6 7), vi (F 6 8), vi (F 6 9), vi (F 6 10)]) rfl rfl
theorem hp6_10 : pfv ((HP A F E).2 6) 5 10 (vi v) (fun c => rn M pc L st (zup (HP A F E) 6 c)) = rn M pc L st (HP A (aup F 6 (fup (F 6) 10 v)) E) := by
  rw [pfv_at (fs := [vr 7, vi (F 6 1), vr 8, vi (F 6 3), vi (F 6 4), vi (F 6 5), vi (F 6 6), vi (F 6 7), vi (F 6 8), vi (F 6 9), vi (F 6 10)]) rfl (Nat.le_of_ble_eq_true rfl)]
  exact congrArg (rn M pc L st) (zup_HPf (f := fup (F 6) 10 v) rfl)
theorem hk10 : cki ((HP A F E).2 10) 8 x = x := cki_at (fs := [vr 11, vi (F 10 1)]) rfl
theorem hf10_0 : gfr ((HP A F E).2 10) 8 0 Kr = Kr 11 := gfr_at (fs := [vr 11, vi (F 10 1)]) rfl rfl
theorem hf10_1 : gfi ((HP A F E).2 10) 8 1 K = K (F 10 1) := gfi_at (fs := [vr 11, vi (F 10 1)]) rfl rfl
theorem hp10_1 : pfv ((HP A F E).2 10) 8 1 (vi v) (fun c => rn M pc L st (zup (HP A F E) 10 c)) = rn M pc L st (HP A (aup F 10 (fup (F 10) 1 v)) E) := by
  rw [pfv_at (fs := [vr 11, vi (F 10 1)]) rfl (Nat.le_of_ble_eq_true rfl)]
  exact congrArg (rn M pc L st) (zup_HPf (f := fup (F 10) 1 v) rfl)
theorem hk12 : cki ((HP A F E).2 12) 8 x = x := cki_at (fs := [vr 13, vi (F 12 1)]) rfl
theorem hf12_0 : gfr ((HP A F E).2 12) 8 0 Kr = Kr 13 := gfr_at (fs := [vr 13, vi (F 12 1)]) rfl rfl
theorem hf12_1 : gfi ((HP A F E).2 12) 8 1 K = K (F 12 1) := gfi_at (fs := [vr 13, vi (F 12 1)]) rfl rfl
theorem hp12_1 : pfv ((HP A F E).2 12) 8 1 (vi v) (fun c => rn M pc L st (zup (HP A F E) 12 c)) = rn M pc L st (HP A (aup F 12 (fup (F 12) 1 v)) E) := by
  rw [pfv_at (fs := [vr 13, vi (F 12 1)]) rfl (Nat.le_of_ble_eq_true rfl)]
  exact congrArg (rn M pc L st) (zup_HPf (f := fup (F 12) 1 v) rfl)
theorem hk14 : cki ((HP A F E).2 14) 8 x = x := cki_at (fs := [vr 15, vi (F 14 1)]) rfl
theorem hf14_0 : gfr ((HP A F E).2 14) 8 0 Kr = Kr 15 := gfr_at (fs := [vr 15, vi (F 14 1)]) rfl rfl
theorem hf14_1 : gfi ((HP A F E).2 14) 8 1 K = K (F 14 1) := gfi_at (fs := [vr 15, vi (F 14 1)]) rfl rfl
theorem hp14_1 : pfv ((HP A F E).2 14) 8 1 (vi v) (fun c => rn M pc L st (zup (HP A F E) 14 c)) = rn M pc L st (HP A (aup F 14 (fup (F 14) 1 v)) E) := by
  rw [pfv_at (fs := [vr 15, vi (F 14 1)]) rfl (Nat.le_of_ble_eq_true rfl)]
  exact congrArg (rn M pc L st) (zup_HPf (f := fup (F 14) 1 v) rfl)
theorem hk16 : cki ((HP A F E).2 16) 3 x = x := cki_at (fs := [vr 17, vr 18, vr 19, vi (F 16 3)]) rfl
theorem hf16_0 : gfr ((HP A F E).2 16) 3 0 Kr = Kr 17 := gfr_at (fs := [vr 17, vr 18, vr 19, vi (F 16 3)]) rfl rfl
theorem hf16_1 : gfr ((HP A F E).2 16) 3 1 Kr = Kr 18 := gfr_at (fs := [vr 17, vr 18, vr 19, vi (F 16 3)]) rfl rfl
theorem hf16_2 : gfr ((HP A F E).2 16) 3 2 Kr = Kr 19 := gfr_at (fs := [vr 17, vr 18, vr 19, vi (F 16 3)]) rfl rfl
theorem hf16_3 : gfi ((HP A F E).2 16) 3 3 K = K (F 16 3) := gfi_at (fs := [vr 17, vr 18, vr 19, vi (F 16 3)]) rfl rfl
theorem hp16_3 : pfv ((HP A F E).2 16) 3 3 (vi v) (fun c => rn M pc L st (zup (HP A F E) 16 c)) = rn M pc L st (HP A (aup F 16 (fup (F 16) 3 v)) E) := by
  rw [pfv_at (fs := [vr 17, vr 18, vr 19, vi (F 16 3)]) rfl (Nat.le_of_ble_eq_true rfl)]
  exact congrArg (rn M pc L st) (zup_HPf (f := fup (F 16) 3 v) rfl)
theorem hk20 : cki ((HP A F E).2 20) 1 x = x := cki_at (fs := [vr 21, vi (F 20 1), vi (F 20 2)]) rfl
theorem hf20_0 : gfr ((HP A F E).2 20) 1 0 Kr = Kr 21 := gfr_at (fs := [vr 21, vi (F 20 1), vi (F 20 2)]) rfl rfl
theorem hf20_1 : gfi ((HP A F E).2 20) 1 1 K = K (F 20 1) := gfi_at (fs := [vr 21, vi (F 20 1), vi (F 20 2)]) rfl rfl
theorem hp20_1 : pfv ((HP A F E).2 20) 1 1 (vi v) (fun c => rn M pc L st (zup (HP A F E) 20 c)) = rn M pc L st (HP A (aup F 20 (fup (F 20) 1 v)) E) := by
  rw [pfv_at (fs := [vr 21, vi (F 20 1), vi (F 20 2)]) rfl (Nat.le_of_ble_eq_true rfl)]
  exact congrArg (rn M pc L st) (zup_HPf (f := fup (F 20) 1 v) rfl)
theorem hf20_2 : gfi ((HP A F E).2 20) 1 2 K = K (F 20 2) := gfi_at (fs := [vr 21, vi (F 20 1), vi (F 20 2)]) rfl rfl
theorem hp20_2 : pfv ((HP A F E).2 20) 1 2 (vi v) (fun c => rn M pc L st (zup (HP A F E) 20 c)) = rn M pc L st (HP A (aup F 20 (fup (F 20) 2 v)) E) := by
  rw [pfv_at (fs := [vr 21, vi (F 20 1), vi (F 20 2)]) rfl (Nat.le_of_ble_eq_true rfl)]
  exact congrArg (rn M pc L st) (zup_HPf (f := fup (F 20) 2 v) rfl)
theorem hk63 : cki ((HP A F E).2 63) 0 x = x := cki_at (fs := [vl (F 63 0)]) rfl
theorem hf63_0 : gfl ((HP A F E).2 63) 0 0 K = K (F 63 0) := gfl_at (fs := [vl (F 63 0)]) rfl rfl
theorem hp63_0 : pfv ((HP A F E).2 63) 0 0 (vl v) (fun c => rn M pc L st (zup (HP A F E) 63 c)) = rn M pc L st (HP A (aup F 63 (fup (F 63) 0 v)) E) := by
  rw [pfv_at (fs := [vl (F 63 0)]) rfl (Nat.le_of_ble_eq_true rfl)]
  exact congrArg (rn M pc L st) (zup_HPf (f := fup (F 63) 0 v) rfl)
theorem hk103 : cki ((HP A F E).2 103) 10 x = x := cki_at (fs := [vr 104, vi (F 103 1), vi (F 103 2), vr 105, vr 106, vr 107, vr 108, vr 109, vi (F 103 8), vi (F 103 9), vi (F 103 10), vi (F 103 11), vi (F 103 12), vi (F 103 13), vi (F 103 14), vr 110, vi (F 103 16), vr 111, vi (F 103 18), vr 112, vr 113, vi (F 103 21), vi (F 103 22), vr 114, vi (F 103 24), vr 115, vr 116, vr 117, vr 118, vi (F 103 29), vi (F 103 30), vi (F 103 31), vr 119, vr 120, vr 121, vr 122, vl (F 103 36), vr 123, vr 124, vr 125, vr 126]) rfl
theorem hf103_0 : gfr ((HP A F E).2 103) 10 0 Kr = Kr 104 := gfr_at (fs := [vr 104, vi (F 103 1), vi (F 103 2), vr 105, vr 106, vr 107, vr 108, vr 109, vi (F 103 8), vi (F 103 9), vi (F 103 10), vi (F 103 11), vi (F 103 12), vi (F 103 13), vi (F 103 14), vr 110, vi (F 103 16), vr 111, vi (F 103 18), vr 112, vr 113, vi (F 103 21), vi (F 103 22), vr 114, vi (F 103 24), vr 115, vr 116, vr 117, vr 118, vi (F 103 29), vi (F 103 30), vi (F 103 31), vr 119, vr 120, vr 121, vr 122, vl (F 103 36), vr 123, vr 124, vr 125, vr 126]) rfl rfl
theorem hf103_1 : gfi ((HP A F E).2 103) 10 1 K = K (F 103 1) := gfi_at (fs := [vr 104, vi (F 103 1), vi (F 103 2), vr 105, vr 106, vr 107, vr 108, vr 109, vi (F 103 8), vi (F 103 9), vi (F 103 10), vi (F 103 11), vi (F 103 12), vi (F 103 13), vi (F 103 14), vr 110, vi (F 103 16), vr 111, vi (F 103 18), vr 112, vr 113, vi (F 103 21), vi (F 103 22), vr 114, vi (F 103 24), vr 115, vr 116, vr 117, vr 118, vi (F 103 29), vi (F 103 30), vi (F 103 31), vr 119, vr 120, vr 121, vr 122, vl (F 103 36), vr 123, vr 124, vr 125, vr 126]) rfl rfl
theorem hp103_1 : pfv ((HP A F E).2 103) 10 1 (vi v) (fun c => rn M pc L st (zup (HP A F E) 103 c)) = rn M pc L st (HP A (aup F 103 (fup (F 103) 1 v)) E) := by
  rw [pfv_at (fs := [vr 104, vi (F 103 1), vi (F 103 2), vr 105, vr 106, vr 107, vr 108, vr 109, vi (F 103 8), vi (F 103 9), vi (F 103 10), vi (F 103 11), vi (F 103 12), vi (F 103 13), vi (F 103 14), vr 110, vi (F 103 16), vr 111, vi (F 103 18), vr 112, vr 113, vi (F 103 21), vi (F 103 22), vr 114, vi (F 103 24), vr 115, vr 116, vr 117, vr 118, vi (F 103 29), vi (F 103 30), vi (F 103 31), vr 119, vr 120, vr 121, vr 122, vl (F 103 36), vr 123, vr 124, vr 125, vr 126]) rfl (Nat.le_of_ble_eq_true rfl)]
  exact congrArg (rn M pc L st) (zup_HPf (f := fup (F 103) 1 v) rfl)
theorem hf103_2 : gfi ((HP A F E).2 103) 10 2 K = K (F 103 2) := gfi_at (fs := [vr 104, vi (F 103 1), vi (F 103 2), vr 105, vr 106, vr 107, vr 108, vr 109, vi (F 103 8), vi (F 103 9), vi (F 103 10), vi (F 103 11), vi (F 103 12), vi (F 103 13), vi (F 103 14), vr 110, vi (F 103 16), vr 111, vi (F 103 18), vr 112, vr 113, vi (F 103 21), vi (F 103 22), vr 114, vi (F 103 24), vr 115, vr 116, vr 117, vr 118, vi (F 103 29), vi (F 103 30), vi (F 103 31), vr 119, vr 120, vr 121, vr 122, vl (F 103 36), vr 123, vr 124, vr 125, vr 126]) rfl rfl
theorem hp103_2 : pfv ((HP A F E).2 103) 10 2 (vi v) (fun c => rn M pc L st (zup (HP A F E) 103 c)) = rn M pc L st (HP A (aup F 103 (fup (F 103) 2 v)) E) := by
  rw [pfv_at (fs := [vr 104, vi (F 103 1), vi (F 103 2), vr 105, vr 106, vr 107, vr 108, vr 109, vi (F 103 8), vi (F 103 9), vi (F 103 10), vi (F 103 11), vi (F 103 12), vi (F 103 13), vi (F 103 14), vr 110, vi (F 103 16), vr 111, vi (F 103 18), vr 112, vr 113, vi (F 103 21), vi (F 103 22), vr 114, vi (F 103 24), vr 115, vr 116, vr 117, vr 118, vi (F 103 29), vi (F 103 30), vi (F 103 31), vr 119, vr 120, vr 121, vr 122, vl (F 103 36), vr 123, vr 124, vr 125, vr 126]) rfl (Nat.le_of_ble_eq_true rfl)]
  exact congrArg (rn M pc L st) (zup_HPf (f := fup (F 103) 2 v) rfl)
theorem hf103_3 : gfr ((HP A F E).2 103) 10 3 Kr = Kr 105 := gfr_at (fs := [vr 104, vi (F 103 1), vi (F 103 2), vr 105, vr 106, vr 107, vr 108, vr 109, vi (F 103 8), vi (F 103 9), vi (F 103 10), vi (F 103 11), vi (F 103 12), vi (F 103 13), vi (F 103 14), vr 110, vi (F 103 16), vr 111, vi (F 103 18), vr 112, vr 113, vi (F 103 21), vi (F 103 22), vr 114, vi (F 103 24), vr 115, vr 116, vr 117, vr 118, vi (F 103 29), vi (F 103 30), vi (F 103 31), vr 119, vr 120, vr 121, vr 122, vl (F 103 36), vr 123, vr 124, vr 125, vr 126]) rfl rfl
theorem hf103_4 : gfr ((HP A F E).2 103) 10 4 Kr = Kr 106 := gfr_at (fs := [vr 104, vi (F 103 1), vi (F 103 2), vr 105, vr 106, vr 107, vr 108, vr 109, vi (F 103 8), vi (F 103 9), vi (F 103 10), vi (F 103 11), vi (F 103 12), vi (F 103 13), vi (F 103 14), vr 110, vi (F 103 16), vr 111, vi (F 103 18), vr 112, vr 113, vi (F 103 21), vi (F 103 22), vr 114, vi (F 103 24), vr 115, vr 116, vr 117, vr 118, vi (F 103 29), vi (F 103 30), vi (F 103 31), vr 119, vr 120, vr 121, vr 122, vl (F 103 36), vr 123, vr 124, vr 125, vr 126]) rfl rfl
theorem hf103_5 : gfr ((HP A F E).2 103) 10 5 Kr = Kr 107 := gfr_at (fs := [vr 104, vi (F 103 1), vi (F 103 2), vr 105, vr 106, vr 107, vr 108, vr 109, vi (F 103 8), vi (F 103 9), vi (F 103 10), vi (F 103 11), vi (F 103 12), vi (F 103 13), vi (F 103 14), vr 110, vi (F 103 16), vr 111, vi (F 103 18), vr 112, vr 113, vi (F 103 21), vi (F 103 22), vr 114, vi (F 103 24), vr 115, vr 116, vr 117, vr 118, vi (F 103 29), vi (F 103 30), vi (F 103 31), vr 119, vr 120, vr 121, vr 122, vl (F 103 36), vr 123, vr 124, vr 125, vr 126]) rfl rfl
theorem hf103_6 : gfr ((HP A F E).2 103) 10 6 Kr = Kr 108 := gfr_at (fs := [vr 104, vi (F 103 1), vi (F 103 2), vr 105, vr 106, vr 107, vr 108, vr 109, vi (F 103 8), vi (F 103 9), vi (F 103 10), vi (F 103 11), vi (F 103 12), vi (F 103 13), vi (F 103 14), vr 110, vi (F 103 16), vr 111, vi (F 103 18), vr 112, vr 113, vi (F 103 21), vi (F 103 22), vr 114, vi (F 103 24), vr 115, vr 116, vr 117, vr 118, vi (F 103 29), vi (F 103 30), vi (F 103 31), vr 119, vr 120, vr 121, vr 122, vl (F 103 36), vr 123, vr 124, vr 125, vr 126]) rfl rfl
theorem hf103_7 : gfr ((HP A F E).2 103) 10 7 Kr = Kr 109 := gfr_at (fs := [vr 104, vi (F 103 1), vi (F 103 2), vr 105, vr 106, vr 107, vr 108, vr 109, vi (F 103 8), vi (F 103 9), vi (F 103 10), vi (F 103 11), vi (F 103 12), vi (F 103 13), vi (F 103 14), vr 110, vi (F 103 16), vr 111, vi (F 103 18), vr 112, vr 113, vi (F 103 21), vi (F 103 22), vr 114, vi (F 103 24), vr 115, vr 116, vr 117, vr 118, vi (F 103 29), vi (F 103 30), vi (F 103 31), vr 119, vr 120, vr 121, vr 122, vl (F 103 36), vr 123, vr 124, vr 125, vr 126]) rfl rfl
theorem hf103_8 : gfi ((HP A F E).2 103) 10 8 K = K (F 103 8) := gfi_at (fs := [vr 104, vi (F 103 1), vi (F 103 2), vr 105, vr 106, vr 107, vr 108, vr 109, vi (F 103 8), vi (F 103 9), vi (F 103 10), vi (F 103 11), vi (F 103 12), vi (F 103 13), vi (F 103 14), vr 110, vi (F 103 16), vr 111, vi (F 103 18), vr 112, vr 113, vi (F 103 21), vi (F 103 22), vr 114, vi (F 103 24), vr 115, vr 116, vr 117, vr 118, vi (F 103 29), vi (F 103 30), vi (F 103 31), vr 119, vr 120, vr 121, vr 122, vl (F 103 36), vr 123, vr 124, vr 125, vr 126]) rfl rfl
theorem hp103_8 : pfv ((HP A F E).2 103) 10 8 (vi v) (fun c => rn M pc L st (zup (HP A F E) 103 c)) = rn M pc L st (HP A (aup F 103 (fup (F 103) 8 v)) E) := by
  rw [pfv_at (fs := [vr 104, vi (F 103 1), vi (F 103 2), vr 105, vr 106, vr 107, vr 108, vr 109, vi (F 103 8), vi (F 103 9), vi (F 103 10), vi (F 103 11), vi (F 103 12), vi (F 103 13), vi (F 103 14), vr 110, vi (F 103 16), vr 111, vi (F 103 18), vr 112, vr 113, vi (F 103 21), vi (F 103 22), vr 114, vi (F 103 24), vr 115, vr 116, vr 117, vr 118, vi (F 103 29), vi (F 103 30), vi (F 103 31), vr 119, vr 120, vr 121, vr 122, vl (F 103 36), vr 123, vr 124, vr 125, vr 126]) rfl (Nat.le_of_ble_eq_true rfl)]
  exact congrArg (rn M pc L st) (zup_HPf (f := fup (F 103) 8 v) rfl)
theorem hf103_9 : gfi ((HP A F E).2 103) 10 9 K = K (F 103 9) := gfi_at (fs := [vr 104, vi (F 103 1), vi (F 103 2), vr 105, vr 106, vr 107, vr 108, vr 109, vi (F 103 8), vi (F 103 9), vi (F 103 10), vi (F 103 11), vi (F 103 12), vi (F 103 13), vi (F 103 14), vr 110, vi (F 103 16), vr 111, vi (F 103 18), vr 112, vr 113, vi (F 103 21), vi (F 103 22), vr 114, vi (F 103 24), vr 115, vr 116, vr 117, vr 118, vi (F 103 29), vi (F 103 30), vi (F 103 31), vr 119, vr 120, vr 121, vr 122, vl (F 103 36), vr 123, vr 124, vr 125, vr 126]) rfl rfl
theorem hp103_9 : pfv ((HP A F E).2 103) 10 9 (vi v) (fun c => rn M pc L st (zup (HP A F E) 103 c)) = rn M pc L st (HP A (aup F 103 (fup (F 103) 9 v)) E) := by
  rw [pfv_at (fs := [vr 104, vi (F 103 1), vi (F 103 2), vr 105, vr 106, vr 107, vr 108, vr 109, vi (F 103 8), vi (F 103 9), vi (F 103 10), vi (F 103 11), vi (F 103 12), vi (F 103 13), vi (F 103 14), vr 110, vi (F 103 16), vr 111, vi (F 103 18), vr 112, vr 113, vi (F 103 21), vi (F 103 22), vr 114, vi (F 103 24), vr 115, vr 116, vr 117, vr 118, vi (F 103 29), vi (F 103 30), vi (F 103 31), vr 119, vr 120, vr 121, vr 122, vl (F 103 36), vr 123, vr 124, vr 125, vr 126]) rfl (Nat.le_of_ble_eq_true rfl)]
  exact congrArg (rn M pc L st) (zup_HPf (f := fup (F 103) 9 v) rfl)
theorem hf103_10 : gfi ((HP A F E).2 103) 10 10 K = K (F 103 10) := gfi_at (fs := [vr 104, vi (F 103 1), vi (F 103 2), vr 105, vr 106, vr 107, vr 108, vr 109, vi (F 103 8), vi (F 103 9), vi (F 103 10), vi (F 103 11), vi (F 103 12), vi (F 103 13), vi (F 103 14), vr 110, vi (F 103 16), vr 111, vi (F 103 18), vr 112, vr 113, vi (F 103 21), vi (F 103 22), vr 114, vi (F 103 24), vr 115, vr 116, vr 117, vr 118, vi (F 103 29), vi (F 103 30), vi (F 103 31), vr 119, vr 120, vr 121, vr 122, vl (F 103 36), vr 123, vr 124, vr 125, vr 126]) rfl rfl
theorem hp103_10 : pfv ((HP A F E).2 103) 10 10 (vi v) (fun c => rn M pc L st (zup (HP A F E) 103 c)) = rn M pc L st (HP A (aup F 103 (fup (F 103) 10 v)) E) := by
  rw [pfv_at (fs := [vr 104, vi (F 103 1), vi (F 103 2), vr 105, vr 106, vr 107, vr 108, vr 109, vi (F 103 8), vi (F 103 9), vi (F 103 10), vi (F 103 11), vi (F 103 12), vi (F 103 13), vi (F 103 14), vr 110, vi (F 103 16), vr 111, vi (F 103 18), vr 112, vr 113, vi (F 103 21), vi (F 103 22), vr 114, vi (F 103 24), vr 115, vr 116, vr 117, vr 118, vi (F 103 29), vi (F 103 30), vi (F 103 31), vr 119, vr 120, vr 121, vr 122, vl (F 103 36), vr 123, vr 124, vr 125, vr 126]) rfl (Nat.le_of_ble_eq_true rfl)]
  exact congrArg (rn M pc L st) (zup_HPf (f := fup (F 103) 10 v) rfl)
theorem hf103_11 : gfi ((HP A F E).2 103) 10 11 K = K (F 103 11) := gfi_at (fs := [vr 104, vi (F 103 1), vi (F 103 2), vr 105, vr 106, vr 107, vr 108, vr 109, vi (F 103 8), vi (F 103 9), vi (F 103 10), vi (F 103 11), vi (F 103 12), vi (F 103 13), vi (F 103 14), vr 110, vi (F 103 16), vr 111, vi (F 103 18), vr 112, vr 113, vi (F 103 21), vi (F 103 22), vr 114, vi (F 103 24), vr 115, vr 116, vr 117, vr 118, vi (F 103 29), vi (F 103 30), vi (F 103 31), vr 119, vr 120, vr 121, vr 122, vl (F 103 36), vr 123, vr 124, vr 125, vr 126]) rfl rfl
theorem hp103_11 : pfv ((HP A F E).2 103) 10 11 (vi v) (fun c => rn M pc L st (zup (HP A F E) 103 c)) = rn M pc L st (HP A (aup F 103 (fup (F 103) 11 v)) E) := by
  rw [pfv_at (fs := [vr 104, vi (F 103 1), vi (F 103 2), vr 105, vr 106, vr 107, vr 108, vr 109, vi (F 103 8), vi (F 103 9), vi (F 103 10), vi (F 103 11), vi (F 103 12), vi (F 103 13), vi (F 103 14), vr 110, vi (F 103 16), vr 111, vi (F 103 18), vr 112, vr 113, vi (F 103 21), vi (F 103 22), vr 114, vi (F 103 24), vr 115, vr 116, vr 117, vr 118, vi (F 103 29), vi (F 103 30), vi (F 103 31), vr 119, vr 120, vr 121, vr 122, vl (F 103 36), vr 123, vr 124, vr 125, vr 126]) rfl (Nat.le_of_ble_eq_true rfl)]
  exact congrArg (rn M pc L st) (zup_HPf (f := fup (F 103) 11 v) rfl)
theorem hf103_12 : gfi ((HP A F E).2 103) 10 12 K = K (F 103 12) := gfi_at (fs := [vr 104, vi (F 103 1), vi (F 103 2), vr 105, vr 106, vr 107, vr 108, vr 109, vi (F 103 8), vi (F 103 9), vi (F 103 10), vi (F 103 11), vi (F 103 12), vi (F 103 13), vi (F 103 14), vr 110, vi (F 103 16), vr 111, vi (F 103 18), vr 112, vr 113, vi (F 103 21), vi (F 103 22), vr 114, vi (F 103 24), vr 115, vr 116, vr 117, vr 118, vi (F 103 29), vi (F 103 30), vi (F 103 31), vr 119, vr 120, vr 121, vr 122, vl (F 103 36), vr 123, vr 124, vr 125, vr 126]) rfl rfl
theorem hp103_12 : pfv ((HP A F E).2 103) 10 12 (vi v) (fun c => rn M pc L st (zup (HP A F E) 103 c)) = rn M pc L st (HP A (aup F 103 (fup (F 103) 12 v)) E) := by
  rw [pfv_at (fs := [vr 104, vi (F 103 1), vi (F 103 2), vr 105, vr 106, vr 107, vr 108, vr 109, vi (F 103 8), vi (F 103 9), vi (F 103 10), vi (F 103 11), vi (F 103 12), vi (F 103 13), vi (F 103 14), vr 110, vi (F 103 16), vr 111, vi (F 103 18), vr 112, vr 113, vi (F 103 21), vi (F 103 22), vr 114, vi (F 103 24), vr 115, vr 116, vr 117, vr 118, vi (F 103 29), vi (F 103 30), vi (F 103 31), vr 119, vr 120, vr 121, vr 122, vl (F 103 36), vr 123, vr 124, vr 125, vr 126]) rfl (Nat.le_of_ble_eq_true rfl)]
  exact congrArg (rn M pc L st) (zup_HPf (f := fup (F 103) 12 v) rfl)
theorem hf103_13 : gfi ((HP A F E).2 103) 10 13 K = K (F 103 13) := gfi_at (fs := [vr 104, vi (F 103 1), vi (F 103 2), vr 105, vr 106, vr 107, vr 108, vr 109, vi (F 103 8), vi (F 103 9), vi (F 103 10), vi (F 103 11), vi (F 103 12), vi (F 103 13), vi (F 103 14), vr 110, vi (F 103 16), vr 111, vi (F 103 18), vr 112, vr 113, vi (F 103 21), vi (F 103 22), vr 114, vi (F 103 24), vr 115, vr 116, vr 117, vr 118, vi (F 103 29), vi (F 103 30), vi (F 103 31), vr 119, vr 120, vr 121, vr 122, vl (F 103 36), vr 123, vr 124, vr 125, vr 126]) rfl rfl
theorem hp103_13 : pfv ((HP A F E).2 103) 10 13 (vi v) (fun c => rn M pc L st (zup (HP A F E) 103 c)) = rn M pc L st (HP A (aup F 103 (fup (F 103) 13 v)) E) := by
  rw [pfv_at (fs := [vr 104, vi (F 103 1), vi (F 103 2), vr 105, vr 106, vr 107, vr 108, vr 109, vi (F 103 8), vi (F 103 9), vi (F 103 10), vi (F 103 11), vi (F 103 12), vi (F 103 13), vi (F 103 14), vr 110, vi (F 103 16), vr 111, vi (F 103 18), vr 112, vr 113, vi (F 103 21), vi (F 103 22), vr 114, vi (F 103 24), vr 115, vr 116, vr 117, vr 118, vi (F 103 29), vi (F 103 30), vi (F 103 31), vr 119, vr 120, vr 121, vr 122, vl (F 103 36), vr 123, vr 124, vr 125, vr 126]) rfl (Nat.le_of_ble_eq_true rfl)]
  exact congrArg (rn M pc L st) (zup_HPf (f := fup (F 103) 13 v) rfl)
theorem hf103_14 : gfi ((HP A F E).2 103) 10 14 K = K (F 103 14) := gfi_at (fs := [vr 104, vi (F 103 1), vi (F 103 2), vr 105, vr 106, vr 107, vr 108, vr 109, vi (F 103 8), vi (F 103 9), vi (F 103 10), vi (F 103 11), vi (F 103 12), vi (F 103 13), vi (F 103 14), vr 110, vi (F 103 16), vr 111, vi (F 103 18), vr 112, vr 113, vi (F 103 21), vi (F 103 22), vr 114, vi (F 103 24), vr 115, vr 116, vr 117, vr 118, vi (F 103 29), vi (F 103 30), vi (F 103 31), vr 119, vr 120, vr 121, vr 122, vl (F 103 36), vr 123, vr 124, vr 125, vr 126]) rfl rfl
theorem hp103_14 : pfv ((HP A F E).2 103) 10 14 (vi v) (fun c => rn M pc L st (zup (HP A F E) 103 c)) = rn M pc L st (HP A (aup F 103 (fup (F 103) 14 v)) E) := by
  rw [pfv_at (fs := [vr 104, vi (F 103 1), vi (F 103 2), vr 105, vr 106, vr 107, vr 108, vr 109, vi (F 103 8), vi (F 103 9), vi (F 103 10), vi (F 103 11), vi (F 103 12), vi (F 103 13), vi (F 103 14), vr 110, vi (F 103 16), vr 111, vi (F 103 18), vr 112, vr 113, vi (F 103 21), vi (F 103 22), vr 114, vi (F 103 24), vr 115, vr 116, vr 117, vr 118, vi (F 103 29), vi (F 103 30), vi (F 103 31), vr 119, vr 120, vr 121, vr 122, vl (F 103 36), vr 123, vr 124, vr 125, vr 126]) rfl (Nat.le_of_ble_eq_true rfl)]
  exact congrArg (rn M pc L st) (zup_HPf (f := fup (F 103) 14 v) rfl)
theorem hf103_15 : gfr ((HP A F E).2 103) 10 15 Kr = Kr 110 := gfr_at (fs := [vr 104, vi (F 103 1), vi (F 103 2), vr 105, vr 106, vr 107, vr 108, vr 109, vi (F 103 8), vi (F 103 9), vi (F 103 10), vi (F 103 11), vi (F 103 12), vi (F 103 13), vi (F 103 14), vr 110, vi (F 103 16), vr 111, vi (F 103 18), vr 112, vr 113, vi (F 103 21), vi (F 103 22), vr 114, vi (F 103 24), vr 115, vr 116, vr 117, vr 118, vi (F 103 29), vi (F 103 30), vi (F 103 31), vr 119, vr 120, vr 121, vr 122, vl (F 103 36), vr 123, vr 124, vr 125, vr 126]) rfl rfl
theorem hf103_16 : gfi ((HP A F E).2 103) 10 16 K = K (F 103 16) := gfi_at (fs := [vr 104, vi (F 103 1), vi (F 103 2), vr 105, vr 106, vr 107, vr 108, vr 109, vi (F 103 8), vi (F 103 9), vi (F 103 10), vi (F 103 11), vi (F 103 12), vi (F 103 13), vi (F 103 14), vr 110, vi (F 103 16), vr 111, vi (F 103 18), vr 112, vr 113, vi (F 103 21), vi (F 103 22), vr 114, vi (F 103 24), vr 115, vr 116, vr 117, vr 118, vi (F 103 29), vi (F 103 30), vi (F 103 31), vr 119, vr 120, vr 121, vr 122, vl (F 103 36), vr 123, vr 124, vr 125, vr 126]) rfl rfl
theorem hp103_16 : pfv ((HP A F E).2 103) 10 16 (vi v) (fun c => rn M pc L st (zup (HP A F E) 103 c)) = rn M pc L st (HP A (aup F 103 (fup (F 103) 16 v)) E) := by
  rw [pfv_at (fs := [vr 104, vi (F 103 1), vi (F 103 2), vr 105, vr 106, vr 107, vr 108, vr 109, vi (F 103 8), vi (F 103 9), vi (F 103 10), vi (F 103 11), vi (F 103 12), vi (F 103 13), vi (F 103 14), vr 110, vi (F 103 16), vr 111, vi (F 103 18), vr 112, vr 113, vi (F 103 21), vi (F 103 22), vr 114, vi (F 103 24), vr 115, vr 116, vr 117, vr 118, vi (F 103 29), vi (F 103 30), vi (F 103 31), vr 119, vr 120, vr 121, vr 122, vl (F 103 36), vr 123, vr 124, vr 125, vr 126]) rfl (Nat.le_of_ble_eq_true rfl)]
  exact congrArg (rn M pc L st) (zup_HPf (f := fup (F 103) 16 v) rfl)
theorem hf103_17 : gfr ((HP A F E).2 103) 10 17 Kr = Kr 111 := gfr_at (fs := [vr 104, vi (F 103 1), vi (F 103 2), vr 105, vr 106, vr 107, vr 108, vr 109, vi (F 103 8), vi (F 103 9), vi (F 103 10), vi (F 103 11), vi (F 103 12), vi (F 103 13), vi (F 103 14), vr 110, vi (F 103 16), vr 111, vi (F 103 18), vr 112, vr 113, vi (F 103 21), vi (F 103 22), vr 114, vi (F 103 24), vr 115, vr 116, vr 117, vr 118, vi (F 103 29), vi (F 103 30), vi (F 103 31), vr 119, vr 120, vr 121, vr 122, vl (F 103 36), vr 123, vr 124, vr 125, vr 126]) rfl rfl
theorem hf103_18 : gfi ((HP A F E).2 103) 10 18 K = K (F 103 18) := gfi_at (fs := [vr 104, vi (F 103 1), vi (F 103 2), vr 105, vr 106, vr 107, vr 108, vr 109, vi (F 103 8), vi (F 103 9), vi (F 103 10), vi (F 103 11), vi (F 103 12), vi (F 103 13), vi (F 103 14), vr 110, vi (F 103 16), vr 111, vi (F 103 18), vr 112, vr 113, vi (F 103 21), vi (F 103 22), vr 114, vi (F 103 24), vr 115, vr 116, vr 117, vr 118, vi (F 103 29), vi (F 103 30), vi (F 103 31), vr 119, vr 120, vr 121, vr 122, vl (F 103 36), vr 123, vr 124, vr 125, vr 126]) rfl rfl
theorem hp103_18 : pfv ((HP A F E).2 103) 10 18 (vi v) (fun c => rn M pc L st (zup (HP A F E) 103 c)) = rn M pc L st (HP A (aup F 103 (fup (F 103) 18 v)) E) := by
  rw [pfv_at (fs := [vr 104, vi (F 103 1), vi (F 103 2), vr 105, vr 106, vr 107, vr 108, vr 109, vi (F 103 8), vi (F 103 9), vi (F 103 10), vi (F 103 11), vi (F 103 12), vi (F 103 13), vi (F 103 14), vr 110, vi (F 103 16), vr 111, vi (F 103 18), vr 112, vr 113, vi (F 103 21), vi (F 103 22), vr 114, vi (F 103 24), vr 115, vr 116, vr 117, vr 118, vi (F 103 29), vi (F 103 30), vi (F 103 31), vr 119, vr 120, vr 121, vr 122, vl (F 103 36), vr 123, vr 124, vr 125, vr 126]) rfl (Nat.le_of_ble_eq_true rfl)]
  exact congrArg (rn M pc L st) (zup_HPf (f := fup (F 103) 18 v) rfl)
theorem hf103_19 : gfr ((HP A F E).2 103) 10 19 Kr = Kr 112 := gfr_at (fs := [vr 104, vi (F 103 1), vi (F 103 2), vr 105, vr 106, vr 107, vr 108, vr 109, vi (F 103 8), vi (F 103 9), vi (F 103 10), vi (F 103 11), vi (F 103 12), vi (F 103 13), vi (F 103 14), vr 110, vi (F 103 16), vr 111, vi (F 103 18), vr 112, vr 113, vi (F 103 21), vi (F 103 22), vr 114, vi (F 103 24), vr 115, vr 116, vr 117, vr 118, vi (F 103 29), vi (F 103 30), vi (F 103 31), vr 119, vr 120, vr 121, vr 122, vl (F 103 36), vr 123, vr 124, vr 125, vr 126]) rfl rfl
theorem hf103_20 : gfr ((HP A F E).2 103) 10 20 Kr = Kr 113 := gfr_at (fs := [vr 104, vi (F 103 1), vi (F 103 2), vr 105, vr 106, vr 107, vr 108, vr 109, vi (F 103 8), vi (F 103 9), vi (F 103 10), vi (F 103 11), vi (F 103 12), vi (F 103 13), vi (F 103 14), vr 110, vi (F 103 16), vr 111, vi (F 103 18), vr 112, vr 113, vi (F 103 21), vi (F 103 22), vr 114, vi (F 103 24), vr 115, vr 116, vr 117, vr 118, vi (F 103 29), vi (F 103 30), vi (F 103 31), vr 119, vr 120, vr 121, vr 122, vl (F 103 36), vr 123, vr 124, vr 125, vr 126]) rfl rfl
theorem hf103_21 : gfi ((HP A F E).2 103) 10 21 K = K (F 103 21) := gfi_at (fs := [vr 104, vi (F 103 1), vi (F 103 2), vr 105, vr 106, vr 107, vr 108, vr 109, vi (F 103 8), vi (F 103 9), vi (F 103 10), vi (F 103 11), vi (F 103 12), vi (F 103 13), vi (F 103 14), vr 110, vi (F 103 16), vr 111, vi (F 103 18), vr 112, vr 113, vi (F 103 21), vi (F 103 22), vr 114, vi (F 103 24), vr 115, vr 116, vr 117, vr 118, vi (F 103 29), vi (F 103 30), vi (F 103 31), vr 119, vr 120, vr 121, vr 122, vl (F 103 36), vr 123, vr 124, vr 125, vr 126]) rfl rfl
theorem hp103_21 : pfv ((HP A F E).2 103) 10 21 (vi v) (fun c => rn M pc L st (zup (HP A F E) 103 c)) = rn M pc L st (HP A (aup F 103 (fup (F 103) 21 v)) E) := by
  rw [pfv_at (fs := [vr 104, vi (F 103 1), vi (F 103 2), vr 105, vr 106, vr 107, vr 108, vr 109, vi (F 103 8), vi (F 103 9), vi (F 103 10), vi (F 103 11), vi (F 103 12), vi (F 103 13), vi (F 103 14), vr 110, vi (F 103 16), vr 111, vi (F 103 18), vr 112, vr 113, vi (F 103 21), vi (F 103 22), vr 114, vi (F 103 24), vr 115, vr 116, vr 117, vr 118, vi (F 103 29), vi (F 103 30), vi (F 103 31), vr 119, vr 120, vr 121, vr 122, vl (F 103 36), vr 123, vr 124, vr 125, vr 126]) rfl (Nat.le_of_ble_eq_true rfl)]
  exact congrArg (rn M pc L st) (zup_HPf (f := fup (F 103) 21 v) rfl)
theorem hf103_22 : gfi ((HP A F E).2 103) 10 22 K = K (F 103 22) := gfi_at (fs := [vr 104, vi (F 103 1), vi (F 103 2), vr 105, vr 106, vr 107, vr 108, vr 109, vi (F 103 8), vi (F 103 9), vi (F 103 10), vi (F 103 11), vi (F 103 12), vi (F 103 13), vi (F 103 14), vr 110, vi (F 103 16), vr 111, vi (F 103 18), vr 112, vr 113, vi (F 103 21), vi (F 103 22), vr 114, vi (F 103 24), vr 115, vr 116, vr 117, vr 118, vi (F 103 29), vi (F 103 30), vi (F 103 31), vr 119, vr 120, vr 121, vr 122, vl (F 103 36), vr 123, vr 124, vr 125, vr 126]) rfl rfl
theorem hp103_22 : pfv ((HP A F E).2 103) 10 22 (vi v) (fun c => rn M pc L st (zup (HP A F E) 103 c)) = rn M pc L st (HP A (aup F 103 (fup (F 103) 22 v)) E) := by
  rw [pfv_at (fs := [vr 104, vi (F 103 1), vi (F 103 2), vr 105, vr 106, vr 107, vr 108, vr 109, vi (F 103 8), vi (F 103 9), vi (F 103 10), vi (F 103 11), vi (F 103 12), vi (F 103 13), vi (F 103 14), vr 110, vi (F 103 16), vr 111, vi (F 103 18), vr 112, vr 113, vi (F 103 21), vi (F 103 22), vr 114, vi (F 103 24), vr 115, vr 116, vr 117, vr 118, vi (F 103 29), vi (F 103 30), vi (F 103 31), vr 119, vr 120, vr 121, vr 122, vl (F 103 36), vr 123, vr 124, vr 125, vr 126]) rfl (Nat.le_of_ble_eq_true rfl)]
  exact congrArg (rn M pc L st) (zup_HPf (f := fup (F 103) 22 v) rfl)
theorem hf103_23 : gfr ((HP A F E).2 103) 10 23 Kr = Kr 114 := gfr_at (fs := [vr 104, vi (F 103 1), vi (F 103 2), vr 105, vr 106, vr 107, vr 108, vr 109, vi (F 103 8), vi (F 103 9), vi (F 103 10), vi (F 103 11), vi (F 103 12), vi (F 103 13), vi (F 103 14), vr 110, vi (F 103 16), vr 111, vi (F 103 18), vr 112, vr 113, vi (F 103 21), vi (F 103 22), vr 114, vi (F 103 24), vr 115, vr 116, vr 117, vr 118, vi (F 103 29), vi (F 103 30), vi (F 103 31), vr 119, vr 120, vr 121, vr 122, vl (F 103 36), vr 123, vr 124, vr 125, vr 126]) rfl rfl
theorem hf103_24 : gfi ((HP A F E).2 103) 10 24 K = K (F 103 24) := gfi_at (fs := [vr 104, vi (F 103 1), vi (F 103 2), vr 105, vr 106, vr 107, vr 108, vr 109, vi (F 103 8), vi (F 103 9), vi (F 103 10), vi (F 103 11), vi (F 103 12), vi (F 103 13), vi (F 103 14), vr 110, vi (F 103 16), vr 111, vi (F 103 18), vr 112, vr 113, vi (F 103 21), vi (F 103 22), vr 114, vi (F 103 24), vr 115, vr 116, vr 117, vr 118, vi (F 103 29), vi (F 103 30), vi (F 103 31), vr 119, vr 120, vr 121, vr 122, vl (F 103 36), vr 123, vr 124, vr 125, vr 126]) rfl rfl
theorem hp103_24 : pfv ((HP A F E).2 103) 10 24 (vi v) (fun c => rn M pc L st (zup (HP A F E) 103 c)) = rn M pc L st (HP A (aup F 103 (fup (F 103) 24 v)) E) := by
  rw [pfv_at (fs := [vr 104, vi (F 103 1), vi (F 103 2), vr 105, vr 106, vr 107, vr 108, vr 109, vi (F 103 8), vi (F 103 9), vi (F 103 10), vi (F 103 11), vi (F 103 12), vi (F 103 13), vi (F 103 14), vr 110, vi (F 103 16), vr 111, vi (F 103 18), vr 112, vr 113, vi (F 103 21), vi (F 103 22), vr 114, vi (F 103 24), vr 115, vr 116, vr 117, vr 118, vi (F 103 29), vi (F 103 30), vi (F 103 31), vr 119, vr 120, vr 121, vr 122, vl (F 103 36), vr 123, vr 124, vr 125, vr 126]) rfl (Nat.le_of_ble_eq_true rfl)]
  exact congrArg (rn M pc L st) (zup_HPf (f := fup (F 103) 24 v) rfl)
theorem hf103_25 : gfr ((HP A F E).2 103) 10 25 Kr = Kr 115 := gfr_at (fs := [vr 104, vi (F 103 1), vi (F 103 2), vr 105, vr 106, vr 107, vr 108, vr 109, vi (F 103 8), vi (F 103 9), vi (F 103 10), vi (F 103 11), vi (F 103 12), vi (F 103 13), vi (F 103 14), vr 110, vi (F 103 16), vr 111, vi (F 103 18), vr 112, vr 113, vi (F 103 21), vi (F 103 22), vr 114, vi (F 103 24), vr 115, vr 116, vr 117, vr 118, vi (F 103 29), vi (F 103 30), vi (F 103 31), vr 119, vr 120, vr 121, vr 122, vl (F 103 36), vr 123, vr 124, vr 125, vr 126]) rfl rfl
theorem hf103_26 : gfr ((HP A F E).2 103) 10 26 Kr = Kr 116 := gfr_at (fs := [vr 104, vi (F 103 1), vi (F 103 2), vr 105, vr 106, vr 107, vr 108, vr 109, vi (F 103 8), vi (F 103 9), vi (F 103 10), vi (F 103 11), vi (F 103 12), vi (F 103 13), vi (F 103 14), vr 110, vi (F 103 16), vr 111, vi (F 103 18), vr 112, vr 113, vi (F 103 21), vi (F 103 22), vr 114, vi (F 103 24), vr 115, vr 116, vr 117, vr 118, vi (F 103 29), vi (F 103 30), vi (F 103 31), vr 119, vr 120, vr 121, vr 122, vl (F 103 36), vr 123, vr 124, vr 125, vr 126]) rfl rfl
theorem hf103_27 : gfr ((HP A F E).2 103) 10 27 Kr = Kr 117 := gfr_at (fs := [vr 104, vi (F 103 1), vi (F 103 2), vr 105, vr 106, vr 107, vr 108, vr 109, vi (F 103 8), vi (F 103 9), vi (F 103 10), vi (F 103 11), vi (F 103 12), vi (F 103 13), vi (F 103 14), vr 110, vi (F 103 16), vr 111, vi (F 103 18), vr 112, vr 113, vi (F 103 21), vi (F 103 22), vr 114, vi (F 103 24), vr 115, vr 116, vr 117, vr 118, vi (F 103 29), vi (F 103 30), vi (F 103 31), vr 119, vr 120, vr 121, vr 122, vl (F 103 36), vr 123, vr 124, vr 125, vr 126]) rfl rfl
theorem hf103_28 : gfr ((HP A F E).2 103) 10 28 Kr = Kr 118 := gfr_at (fs := [vr 104, vi (F 103 1), vi (F 103 2), vr 105, vr 106, vr 107, vr 108, vr 109, vi (F 103 8), vi (F 103 9), vi (F 103 10), vi (F 103 11), vi (F 103 12), vi (F 103 13), vi (F 103 14), vr 110, vi (F 103 16), vr 111, vi (F 103 18), vr 112, vr 113, vi (F 103 21), vi (F 103 22), vr 114, vi (F 103 24), vr 115, vr 116, vr 117, vr 118, vi (F 103 29), vi (F 103 30), vi (F 103 31), vr 119, vr 120, vr 121, vr 122, vl (F 103 36), vr 123, vr 124, vr 125, vr 126]) rfl rfl
theorem hf103_29 : gfi ((HP A F E).2 103) 10 29 K = K (F 103 29) := gfi_at (fs := [vr 104, vi (F 103 1), vi (F 103 2), vr 105, vr 106, vr 107, vr 108, vr 109, vi (F 103 8), vi (F 103 9), vi (F 103 10), vi (F 103 11), vi (F 103 12), vi (F 103 13), vi (F 103 14), vr 110, vi (F 103 16), vr 111, vi (F 103 18), vr 112, vr 113, vi (F 103 21), vi (F 103 22), vr 114, vi (F 103 24), vr 115, vr 116, vr 117, vr 118, vi (F 103 29), vi (F 103 30), vi (F 103 31), vr 119, vr 120, vr 121, vr 122, vl (F 103 36), vr 123, vr 124, vr 125, vr 126]) rfl rfl
theorem hp103_29 : pfv ((HP A F E).2 103) 10 29 (vi v) (fun c => rn M pc L st (zup (HP A F E) 103 c)) = rn M pc L st (HP A (aup F 103 (fup (F 103) 29 v)) E) := by
  rw [pfv_at (fs := [vr 104, vi (F 103 1), vi (F 103 2), vr 105, vr 106, vr 107, vr 108, vr 109, vi (F 103 8), vi (F 103 9), vi (F 103 10), vi (F 103 11), vi (F 103 12), vi (F 103 13), vi (F 103 14), vr 110, vi (F 103 16), vr 111, vi (F 103 18), vr 112, vr 113, vi (F 103 21), vi (F 103 22), vr 114, vi (F 103 24), vr 115, vr 116, vr 117, vr 118, vi (F 103 29), vi (F 103 30), vi (F 103 31), vr 119, vr 120, vr 121, vr 122, vl (F 103 36), vr 123, vr 124, vr 125, vr 126]) rfl (Nat.le_of_ble_eq_true rfl)]
  exact congrArg (rn M pc L st) (zup_HPf (f := fup (F 103) 29 v) rfl)
theorem hf103_30 : gfi ((HP A F E).2 103) 10 30 K = K (F 103 30) := gfi_at (fs := [vr 104, vi (F 103 1), vi (F 103 2), vr 105, vr 106, vr 107, vr 108, vr 109, vi (F 103 8), vi (F 103 9), vi (F 103 10), vi (F 103 11), vi (F 103 12), vi (F 103 13), vi (F 103 14), vr 110, vi (F 103 16), vr 111, vi (F 103 18), vr 112, vr 113, vi (F 103 21), vi (F 103 22), vr 114, vi (F 103 24), vr 115, vr 116, vr 117, vr 118, vi (F 103 29), vi (F 103 30), vi (F 103 31), vr 119, vr 120, vr 121, vr 122, vl (F 103 36), vr 123, vr 124, vr 125, vr 126]) rfl rfl
theorem hp103_30 : pfv ((HP A F E).2 103) 10 30 (vi v) (fun c => rn M pc L st (zup (HP A F E) 103 c)) = rn M pc L st (HP A (aup F 103 (fup (F 103) 30 v)) E) := by
  rw [pfv_at (fs := [vr 104, vi (F 103 1), vi (F 103 2), vr 105, vr 106, vr 107, vr 108, vr 109, vi (F 103 8), vi (F 103 9), vi (F 103 10), vi (F 103 11), vi (F 103 12), vi (F 103 13), vi (F 103 14), vr 110, vi (F 103 16), vr 111, vi (F 103 18), vr 112, vr 113, vi (F 103 21), vi (F 103 22), vr 114, vi (F 103 24), vr 115, vr 116, vr 117, vr 118, vi (F 103 29), vi (F 103 30), vi (F 103 31), vr 119, vr 120, vr 121, vr 122, vl (F 103 36), vr 123, vr 124, vr 125, vr 126]) rfl (Nat.le_of_ble_eq_true rfl)]
  exact congrArg (rn M pc L st) (zup_HPf (f := fup (F 103) 30 v) rfl)
theorem hf103_31 : gfi ((HP A F E).2 103) 10 31 K = K (F 103 31) := gfi_at (fs := [vr 104, vi (F 103 1), vi (F 103 2), vr 105, vr 106, vr 107, vr 108, vr 109, vi (F 103 8), vi (F 103 9), vi (F 103 10), vi (F 103 11), vi (F 103 12), vi (F 103 13), vi (F 103 14), vr 110, vi (F 103 16), vr 111, vi (F 103 18), vr 112, vr 113, vi (F 103 21), vi (F 103 22), vr 114, vi (F 103 24), vr 115, vr 116, vr 117, vr 118, vi (F 103 29), vi (F 103 30), vi (F 103 31), vr 119, vr 120, vr 121, vr 122, vl (F 103 36), vr 123, vr 124, vr 125, vr 126]) rfl rfl
theorem hp103_31 : pfv ((HP A F E).2 103) 10 31 (vi v) (fun c => rn M pc L st (zup (HP A F E) 103 c)) = rn M pc L st (HP A (aup F 103 (fup (F 103) 31 v)) E) := by
  rw [pfv_at (fs := [vr 104, vi (F 103 1), vi (F 103 2), vr 105, vr 106, vr 107, vr 108, vr 109, vi (F 103 8), vi (F 103 9), vi (F 103 10), vi (F 103 11), vi (F 103 12), vi (F 103 13), vi (F 103 14), vr 110, vi (F 103 16), vr 111, vi (F 103 18), vr 112, vr 113, vi (F 103 21), vi (F 103 22), vr 114, vi (F 103 24), vr 115, vr 116, vr 117, vr 118, vi (F 103 29), vi (F 103 30), vi (F 103 31), vr 119, vr 120, vr 121, vr 122, vl (F 103 36), vr 123, vr 124, vr 125, vr 126]) rfl (Nat.le_of_ble_eq_true rfl)]
  exact congrArg (rn M pc L st) (zup_HPf (f := fup (F 103) 31 v) rfl)
theorem hf103_32 : gfr ((HP A F E).2 103) 10 32 Kr = Kr 119 := gfr_at (fs := [vr 104, vi (F 103 1), vi (F 103 2), vr 105, vr 106, vr 107, vr 108, vr 109, vi (F 103 8), vi (F 103 9), vi (F 103 10), vi (F 103 11), vi (F 103 12), vi (F 103 13), vi (F 103 14), vr 110, vi (F 103 16), vr 111, vi (F 103 18), vr 112, vr 113, vi (F 103 21), vi (F 103 22), vr 114, vi (F 103 24), vr 115, vr 116, vr 117, vr 118, vi (F 103 29), vi (F 103 30), vi (F 103 31), vr 119, vr 120, vr 121, vr 122, vl (F 103 36), vr 123, vr 124, vr 125, vr 126]) rfl rfl
theorem hf103_33 : gfr ((HP A F E).2 103) 10 33 Kr = Kr 120 := gfr_at (fs := [vr 104, vi (F 103 1), vi (F 103 2), vr 105, vr 106, vr 107, vr 108, vr 109, vi (F 103 8), vi (F 103 9), vi (F 103 10), vi (F 103 11), vi (F 103 12), vi (F 103 13), vi (F 103 14), vr 110, vi (F 103 16), vr 111, vi (F 103 18), vr 112, vr 113, vi (F 103 21), vi (F 103 22), vr 114, vi (F 103 24), vr 115, vr 116, vr 117, vr 118, vi (F 103 29), vi (F 103 30), vi (F 103 31), vr 119, vr 120, vr 121, vr 122, vl (F 103 36), vr 123, vr 124, vr 125, vr 126]) rfl rfl
theorem hf103_34 : gfr ((HP A F E).2 103) 10 34 Kr = Kr 121 := gfr_at (fs := [vr 104, vi (F 103 1), vi (F 103 2), vr 105, vr 106, vr 107, vr 108, vr 109, vi (F 103 8), vi (F 103 9), vi (F 103 10), vi (F 103 11), vi (F 103 12), vi (F 103 13), vi (F 103 14), vr 110, vi (F 103 16), vr 111, vi (F 103 18), vr 112, vr 113, vi (F 103 21), vi (F 103 22), vr 114, vi (F 103 24), vr 115, vr 116, vr 117, vr 118, vi (F 103 29), vi (F 103 30), vi (F 103 31), vr 119, vr 120, vr 121, vr 122, vl (F 103 36), vr 123, vr 124, vr 125, vr 126]) rfl rfl
theorem hf103_35 : gfr ((HP A F E).2 103) 10 35 Kr = Kr 122 := gfr_at (fs := [vr 104, vi (F 103 1), vi (F 103 2), vr 105, vr 106, vr 107, vr 108, vr 109, vi (F 103 8), vi (F 103 9), vi (F 103 10), vi (F 103 11), vi (F 103 12), vi (F 103 13), vi (F 103 14), vr 110, vi (F 103 16), vr 111, vi (F 103 18), vr 112, vr 113, vi (F 103 21), vi (F 103 22), vr 114, vi (F 103 24), vr 115, vr 116, vr 117, vr 118, vi (F 103 29), vi (F 103 30), vi (F 103 31), vr 119, vr 120, vr 121, vr 122, vl (F 103 36), vr 123, vr 124, vr 125, vr 126]) rfl rfl
theorem hf103_36 : gfl ((HP A F E).2 103) 10 36 K = K (F 103 36) := gfl_at (fs := [vr 104, vi (F 103 1), vi (F 103 2), vr 105, vr 106, vr 107, vr 108, vr 109, vi (F 103 8), vi (F 103 9), vi (F 103 10), vi (F 103 11), vi (F 103 12), vi (F 103 13), vi (F 103 14), vr 110, vi (F 103 16), vr 111, vi (F 103 18), vr 112, vr 113, vi (F 103 21), vi (F 103 22), vr 114, vi (F 103 24), vr 115, vr 116, vr 117, vr 118, vi (F 103 29), vi (F 103 30), vi (F 103 31), vr 119, vr 120, vr 121, vr 122, vl (F 103 36), vr 123, vr 124, vr 125, vr 126]) rfl rfl
theorem hp103_36 : pfv ((HP A F E).2 103) 10 36 (vl v) (fun c => rn M pc L st (zup (HP A F E) 103 c)) = rn M pc L st (HP A (aup F 103 (fup (F 103) 36 v)) E) := by
  rw [pfv_at (fs := [vr 104, vi (F 103 1), vi (F 103 2), vr 105, vr 106, vr 107, vr 108, vr 109, vi (F 103 8), vi (F 103 9), vi (F 103 10), vi (F 103 11), vi (F 103 12), vi (F 103 13), vi (F 103 14), vr 110, vi (F 103 16), vr 111, vi (F 103 18), vr 112, vr 113, vi (F 103 21), vi (F 103 22), vr 114, vi (F 103 24), vr 115, vr 116, vr 117, vr 118, vi (F 103 29), vi (F 103 30), vi (F 103 31), vr 119, vr 120, vr 121, vr 122, vl (F 103 36), vr 123, vr 124, vr 125, vr 126]) rfl (Nat.le_of_ble_eq_true rfl)]
  exact congrArg (rn M pc L st) (zup_HPf (f := fup (F 103) 36 v) rfl)
theorem hf103_37 : gfr ((HP A F E).2 103) 10 37 Kr = Kr 123 := gfr_at (fs := [vr 104, vi (F 103 1), vi (F 103 2), vr 105, vr 106, vr 107, vr 108, vr 109, vi (F 103 8), vi (F 103 9), vi (F 103 10), vi (F 103 11), vi (F 103 12), vi (F 103 13), vi (F 103 14), vr 110, vi (F 103 16), vr 111, vi (F 103 18), vr 112, vr 113, vi (F 103 21), vi (F 103 22), vr 114, vi (F 103 24), vr 115, vr 116, vr 117, vr 118, vi (F 103 29), vi (F 103 30), vi (F 103 31), vr 119, vr 120, vr 121, vr 122, vl (F 103 36), vr 123, vr 124, vr 125, vr 126]) rfl rfl
theorem hf103_38 : gfr ((HP A F E).2 103) 10 38 Kr = Kr 124 := gfr_at (fs := [vr 104, vi (F 103 1), vi (F 103 2), vr 105, vr 106, vr 107, vr 108, vr 109, vi (F 103 8), vi (F 103 9), vi (F 103 10), vi (F 103 11), vi (F 103 12), vi (F 103 13), vi (F 103 14), vr 110, vi (F 103 16), vr 111, vi (F 103 18), vr 112, vr 113, vi (F 103 21), vi (F 103 22), vr 114, vi (F 103 24), vr 115, vr 116, vr 117, vr 118, vi (F 103 29), vi (F 103 30), vi (F 103 31), vr 119, vr 120, vr 121, vr 122, vl (F 103 36), vr 123, vr 124, vr 125, vr 126]) rfl rfl
theorem hf103_39 : gfr ((HP A F E).2 103) 10 39 Kr = Kr 125 := gfr_at (fs := [vr 104, vi (F 103 1), vi (F 103 2), vr 105, vr 106, vr 107, vr 108, vr 109, vi (F 103 8), vi (F 103 9), vi (F 103 10), vi (F 103 11), vi (F 103 12), vi (F 103 13), vi (F 103 14), vr 110, vi (F 103 16), vr 111, vi (F 103 18), vr 112, vr 113, vi (F 103 21), vi (F 103 22), vr 114, vi (F 103 24), vr 115, vr 116, vr 117, vr 118, vi (F 103 29), vi (F 103 30), vi (F 103 31), vr 119, vr 120, vr 121, vr 122, vl (F 103 36), vr 123, vr 124, vr 125, vr 126]) rfl rfl
theorem hf103_40 : gfr ((HP A F E).2 103) 10 40 Kr = Kr 126 := gfr_at (fs := [vr 104, vi (F 103 1), vi (F 103 2), vr 105, vr 106, vr 107, vr 108, vr 109, vi (F 103 8), vi (F 103 9), vi (F 103 10), vi (F 103 11), vi (F 103 12), vi (F 103 13), vi (F 103 14), vr 110, vi (F 103 16), vr 111, vi (F 103 18), vr 112, vr 113, vi (F 103 21), vi (F 103 22), vr 114, vi (F 103 24), vr 115, vr 116, vr 117, vr 118, vi (F 103 29), vi (F 103 30), vi (F 103 31), vr 119, vr 120, vr 121, vr 122, vl (F 103 36), vr 123, vr 124, vr 125, vr 126]) rfl rfl
theorem hg3 (h0 : 0 ≤ z) (h1 : z < 400) : gel ((HP A F E).2 3) 1 z K = K (A 3 z.toNat) := gel_at (n := 400) rfl h0 h1
theorem hs3 (h0 : 0 ≤ z) (h1 : z < 400) : sel ((HP A F E).2 3) 1 z v (fun c => rn M pc L st (zup (HP A F E) 3 c)) = rn M pc L st (HP (aup A 3 (fup (A 3) z.toNat v)) F E) := by
  rw [sel_at (n := 400) (f := A 3) rfl h0 h1]
  exact congrArg (rn M pc L st) (zup_HPa (g := fup (A 3) z.toNat v) rfl)
theorem hl3 : gle ((HP A F E).2 3) K = K 400 := gle_at (n := 400) (kd := 1) (f := A 3) rfl (by omega)
theorem hg5 (h0 : 0 ≤ z) (h1 : z < 3) : gel ((HP A F E).2 5) 1 z K = K (A 5 z.toNat) := gel_at (n := 3) rfl h0 h1
theorem hs5 (h0 : 0 ≤ z) (h1 : z < 3) : sel ((HP A F E).2 5) 1 z v (fun c => rn M pc L st (zup (HP A F E) 5 c)) = rn M pc L st (HP (aup A 5 (fup (A 5) z.toNat v)) F E) := by
  rw [sel_at (n := 3) (f := A 5) rfl h0 h1]
  exact congrArg (rn M pc L st) (zup_HPa (g := fup (A 5) z.toNat v) rfl)
theorem hl5 : gle ((HP A F E).2 5) K = K 3 := gle_at (n := 3) (kd := 1) (f := A 5) rfl (by omega)
theorem hg7 (h0 : 0 ≤ z) (h1 : z < 400) : gel ((HP A F E).2 7) 1 z K = K (A 7 z.toNat) := gel_at (n := 400) rfl h0 h1
theorem hs7 (h0 : 0 ≤ z) (h1 : z < 400) : sel ((HP A F E).2 7) 1 z v (fun c => rn M pc L st (zup (HP A F E) 7 c)) = rn M pc L st (HP (aup A 7 (fup (A 7) z.toNat v)) F E) := by
  rw [sel_at (n := 400) (f := A 7) rfl h0 h1]
  exact congrArg (rn M pc L st) (zup_HPa (g := fup (A 7) z.toNat v) rfl)
theorem hl7 : gle ((HP A F E).2 7) K = K 400 := gle_at (n := 400) (kd := 1) (f := A 7) rfl (by omega)
theorem hg8 (h0 : 0 ≤ z) (h1 : z < 400) : gel ((HP A F E).2 8) 1 z K = K (A 8 z.toNat) := gel_at (n := 400) rfl h0 h1
theorem hs8 (h0 : 0 ≤ z) (h1 : z < 400) : sel ((HP A F E).2 8) 1 z v (fun c => rn M pc L st (zup (HP A F E) 8 c)) = rn M pc L st (HP (aup A 8 (fup (A 8) z.toNat v)) F E) := by
  rw [sel_at (n := 400) (f := A 8) rfl h0 h1]
  exact congrArg (rn M pc L st) (zup_HPa (g := fup (A 8) z.toNat v) rfl)
theorem hl8 : gle ((HP A F E).2 8) K = K 400 := gle_at (n := 400) (kd := 1) (f := A 8) rfl (by omega)
theorem hg11 (h0 : 0 ≤ z) (h1 : z < 82) : gel ((HP A F E).2 11) 1 z K = K (A 11 z.toNat) := gel_at (n := 82) rfl h0 h1
theorem hs11 (h0 : 0 ≤ z) (h1 : z < 82) : sel ((HP A F E).2 11) 1 z v (fun c => rn M pc L st (zup (HP A F E) 11 c)) = rn M pc L st (HP (aup A 11 (fup (A 11) z.toNat v)) F E) := by
  rw [sel_at (n := 82) (f := A 11) rfl h0 h1]
  exact congrArg (rn M pc L st) (zup_HPa (g := fup (A 11) z.toNat v) rfl)
theorem hl11 : gle ((HP A F E).2 11) K = K 82 := gle_at (n := 82) (kd := 1) (f := A 11) rfl (by omega)
theorem hg13 (h0 : 0 ≤ z) (h1 : z < 82) : gel ((HP A F E).2 13) 1 z K = K (A 13 z.toNat) := gel_at (n := 82) rfl h0 h1
theorem hs13 (h0 : 0 ≤ z) (h1 : z < 82) : sel ((HP A F E).2 13) 1 z v (fun c => rn M pc L st (zup (HP A F E) 13 c)) = rn M pc L st (HP (aup A 13 (fup (A 13) z.toNat v)) F E) := by
  rw [sel_at (n := 82) (f := A 13) rfl h0 h1]
  exact congrArg (rn M pc L st) (zup_HPa (g := fup (A 13) z.toNat v) rfl)
theorem hl13 : gle ((HP A F E).2 13) K = K 82 := gle_at (n := 82) (kd := 1) (f := A 13) rfl (by omega)
theorem hg15 (h0 : 0 ≤ z) (h1 : z < 82) : gel ((HP A F E).2 15) 1 z K = K (A 15 z.toNat) := gel_at (n := 82) rfl h0 h1
theorem hs15 (h0 : 0 ≤ z) (h1 : z < 82) : sel ((HP A F E).2 15) 1 z v (fun c => rn M pc L st (zup (HP A F E) 15 c)) = rn M pc L st (HP (aup A 15 (fup (A 15) z.toNat v)) F E) := by
  rw [sel_at (n := 82) (f := A 15) rfl h0 h1]
  exact congrArg (rn M pc L st) (zup_HPa (g := fup (A 15) z.toNat v) rfl)
theorem hl15 : gle ((HP A F E).2 15) K = K 82 := gle_at (n := 82) (kd := 1) (f := A 15) rfl (by omega)
theorem hg17 (h0 : 0 ≤ z) (h1 : z < 10) : gel ((HP A F E).2 17) 1 z K = K (A 17 z.toNat) := gel_at (n := 10) rfl h0 h1
theorem hs17 (h0 : 0 ≤ z) (h1 : z < 10) : sel ((HP A F E).2 17) 1 z v (fun c => rn M pc L st (zup (HP A F E) 17 c)) = rn M pc L st (HP (aup A 17 (fup (A 17) z.toNat v)) F E) := by
  rw [sel_at (n := 10) (f := A 17) rfl h0 h1]
  exact congrArg (rn M pc L st) (zup_HPa (g := fup (A 17) z.toNat v) rfl)
theorem hl17 : gle ((HP A F E).2 17) K = K 10 := gle_at (n := 10) (kd := 1) (f := A 17) rfl (by omega)
theorem hg18 (h0 : 0 ≤ z) (h1 : z < 10) : gel ((HP A F E).2 18) 1 z K = K (A 18 z.toNat) := gel_at (n := 10) rfl h0 h1
theorem hs18 (h0 : 0 ≤ z) (h1 : z < 10) : sel ((HP A F E).2 18) 1 z v (fun c => rn M pc L st (zup (HP A F E) 18 c)) = rn M pc L st (HP (aup A 18 (fup (A 18) z.toNat v)) F E) := by
  rw [sel_at (n := 10) (f := A 18) rfl h0 h1]
  exact congrArg (rn M pc L st) (zup_HPa (g := fup (A 18) z.toNat v) rfl)
theorem hl18 : gle ((HP A F E).2 18) K = K 10 := gle_at (n := 10) (kd := 1) (f := A 18) rfl (by omega)
theorem hg19 (h0 : 0 ≤ z) (h1 : z < 10) : gel ((HP A F E).2 19) 1 z K = K (A 19 z.toNat) := gel_at (n := 10) rfl h0 h1
theorem hs19 (h0 : 0 ≤ z) (h1 : z < 10) : sel ((HP A F E).2 19) 1 z v (fun c => rn M pc L st (zup (HP A F E) 19 c)) = rn M pc L st (HP (aup A 19 (fup (A 19) z.toNat v)) F E) := by
  rw [sel_at (n := 10) (f := A 19) rfl h0 h1]
  exact congrArg (rn M pc L st) (zup_HPa (g := fup (A 19) z.toNat v) rfl)
theorem hl19 : gle ((HP A F E).2 19) K = K 10 := gle_at (n := 10) (kd := 1) (f := A 19) rfl (by omega)
theorem hg64 (h0 : 0 ≤ z) (h1 : z < 305) : gel ((HP A F E).2 64) 1 z K = K (A 64 z.toNat) := gel_at (n := 305) rfl h0 h1
theorem hs64 (h0 : 0 ≤ z) (h1 : z < 305) : sel ((HP A F E).2 64) 1 z v (fun c => rn M pc L st (zup (HP A F E) 64 c)) = rn M pc L st (HP (aup A 64 (fup (A 64) z.toNat v)) F E) := by
  rw [sel_at (n := 305) (f := A 64) rfl h0 h1]
  exact congrArg (rn M pc L st) (zup_HPa (g := fup (A 64) z.toNat v) rfl)
theorem hl64 : gle ((HP A F E).2 64) K = K 305 := gle_at (n := 305) (kd := 1) (f := A 64) rfl (by omega)
theorem hg65 (h0 : 0 ≤ z) (h1 : z < 36) : gel ((HP A F E).2 65) 1 z K = K (A 65 z.toNat) := gel_at (n := 36) rfl h0 h1
theorem hs65 (h0 : 0 ≤ z) (h1 : z < 36) : sel ((HP A F E).2 65) 1 z v (fun c => rn M pc L st (zup (HP A F E) 65 c)) = rn M pc L st (HP (aup A 65 (fup (A 65) z.toNat v)) F E) := by
  rw [sel_at (n := 36) (f := A 65) rfl h0 h1]
  exact congrArg (rn M pc L st) (zup_HPa (g := fup (A 65) z.toNat v) rfl)
theorem hl65 : gle ((HP A F E).2 65) K = K 36 := gle_at (n := 36) (kd := 1) (f := A 65) rfl (by omega)
theorem hg66 (h0 : 0 ≤ z) (h1 : z < 16) : gel ((HP A F E).2 66) 1 z K = K (A 66 z.toNat) := gel_at (n := 16) rfl h0 h1
theorem hs66 (h0 : 0 ≤ z) (h1 : z < 16) : sel ((HP A F E).2 66) 1 z v (fun c => rn M pc L st (zup (HP A F E) 66 c)) = rn M pc L st (HP (aup A 66 (fup (A 66) z.toNat v)) F E) := by
  rw [sel_at (n := 16) (f := A 66) rfl h0 h1]
  exact congrArg (rn M pc L st) (zup_HPa (g := fup (A 66) z.toNat v) rfl)
theorem hl66 : gle ((HP A F E).2 66) K = K 16 := gle_at (n := 16) (kd := 1) (f := A 66) rfl (by omega)
theorem hg104 (h0 : 0 ≤ z) (h1 : z < 400) : geb ((HP A F E).2 104) z K = K (A 104 z.toNat) := by
  rw [HP_2, show hc E 104 (A 104) (F 104) = .inr (0, 400, A 104) from rfl, geb_0 h0 h1]
theorem hs104 (h0 : 0 ≤ z) (h1 : z < 400) : seb ((HP A F E).2 104) z v (fun c => rn M pc L st (zup (HP A F E) 104 c)) = rn M pc L st (HP (aup A 104 (fup (A 104) z.toNat (i8 v))) F E) := by
  rw [HP_2, show hc E 104 (A 104) (F 104) = .inr (0, 400, A 104) from rfl, seb_0 h0 h1]
  exact congrArg (rn M pc L st) (zup_HPa (g := fup (A 104) z.toNat (i8 v)) rfl)
theorem hl104 : gle ((HP A F E).2 104) K = K 400 := gle_at (n := 400) (kd := 0) (f := A 104) rfl (by omega)
theorem hg105 (h0 : 0 ≤ z) (h1 : z < 2400) : gel ((HP A F E).2 105) 1 z K = K (A 105 z.toNat) := gel_at (n := 2400) rfl h0 h1
theorem hs105 (h0 : 0 ≤ z) (h1 : z < 2400) : sel ((HP A F E).2 105) 1 z v (fun c => rn M pc L st (zup (HP A F E) 105 c)) = rn M pc L st (HP (aup A 105 (fup (A 105) z.toNat v)) F E) := by
  rw [sel_at (n := 2400) (f := A 105) rfl h0 h1]
  exact congrArg (rn M pc L st) (zup_HPa (g := fup (A 105) z.toNat v) rfl)
theorem hl105 : gle ((HP A F E).2 105) K = K 2400 := gle_at (n := 2400) (kd := 1) (f := A 105) rfl (by omega)
theorem hg106 (h0 : 0 ≤ z) (h1 : z < 7) : gel ((HP A F E).2 106) 1 z K = K (A 106 z.toNat) := gel_at (n := 7) rfl h0 h1
theorem hs106 (h0 : 0 ≤ z) (h1 : z < 7) : sel ((HP A F E).2 106) 1 z v (fun c => rn M pc L st (zup (HP A F E) 106 c)) = rn M pc L st (HP (aup A 106 (fup (A 106) z.toNat v)) F E) := by
  rw [sel_at (n := 7) (f := A 106) rfl h0 h1]
  exact congrArg (rn M pc L st) (zup_HPa (g := fup (A 106) z.toNat v) rfl)
theorem hl106 : gle ((HP A F E).2 106) K = K 7 := gle_at (n := 7) (kd := 1) (f := A 106) rfl (by omega)
theorem hg107 (h0 : 0 ≤ z) (h1 : z < 288) : gel ((HP A F E).2 107) 1 z K = K (A 107 z.toNat) := gel_at (n := 288) rfl h0 h1
theorem hs107 (h0 : 0 ≤ z) (h1 : z < 288) : sel ((HP A F E).2 107) 1 z v (fun c => rn M pc L st (zup (HP A F E) 107 c)) = rn M pc L st (HP (aup A 107 (fup (A 107) z.toNat v)) F E) := by
  rw [sel_at (n := 288) (f := A 107) rfl h0 h1]
  exact congrArg (rn M pc L st) (zup_HPa (g := fup (A 107) z.toNat v) rfl)
theorem hl107 : gle ((HP A F E).2 107) K = K 288 := gle_at (n := 288) (kd := 1) (f := A 107) rfl (by omega)
theorem hg108 (h0 : 0 ≤ z) (h1 : z < 6) : gel ((HP A F E).2 108) 1 z K = K (A 108 z.toNat) := gel_at (n := 6) rfl h0 h1
theorem hs108 (h0 : 0 ≤ z) (h1 : z < 6) : sel ((HP A F E).2 108) 1 z v (fun c => rn M pc L st (zup (HP A F E) 108 c)) = rn M pc L st (HP (aup A 108 (fup (A 108) z.toNat v)) F E) := by
  rw [sel_at (n := 6) (f := A 108) rfl h0 h1]
  exact congrArg (rn M pc L st) (zup_HPa (g := fup (A 108) z.toNat v) rfl)
theorem hl108 : gle ((HP A F E).2 108) K = K 6 := gle_at (n := 6) (kd := 1) (f := A 108) rfl (by omega)
theorem hg109 (h0 : 0 ≤ z) (h1 : z < 145) : gel ((HP A F E).2 109) 1 z K = K (A 109 z.toNat) := gel_at (n := 145) rfl h0 h1
theorem hs109 (h0 : 0 ≤ z) (h1 : z < 145) : sel ((HP A F E).2 109) 1 z v (fun c => rn M pc L st (zup (HP A F E) 109 c)) = rn M pc L st (HP (aup A 109 (fup (A 109) z.toNat v)) F E) := by
  rw [sel_at (n := 145) (f := A 109) rfl h0 h1]
  exact congrArg (rn M pc L st) (zup_HPa (g := fup (A 109) z.toNat v) rfl)
theorem hl109 : gle ((HP A F E).2 109) K = K 145 := gle_at (n := 145) (kd := 1) (f := A 109) rfl (by omega)
theorem hg110 (h0 : 0 ≤ z) (h1 : z < 400) : gel ((HP A F E).2 110) 1 z K = K (A 110 z.toNat) := gel_at (n := 400) rfl h0 h1
theorem hs110 (h0 : 0 ≤ z) (h1 : z < 400) : sel ((HP A F E).2 110) 1 z v (fun c => rn M pc L st (zup (HP A F E) 110 c)) = rn M pc L st (HP (aup A 110 (fup (A 110) z.toNat v)) F E) := by
  rw [sel_at (n := 400) (f := A 110) rfl h0 h1]
  exact congrArg (rn M pc L st) (zup_HPa (g := fup (A 110) z.toNat v) rfl)
theorem hl110 : gle ((HP A F E).2 110) K = K 400 := gle_at (n := 400) (kd := 1) (f := A 110) rfl (by omega)
theorem hg111 (h0 : 0 ≤ z) (h1 : z < 64) : gel ((HP A F E).2 111) 2 z K = K (A 111 z.toNat) := gel_at (n := 64) rfl h0 h1
theorem hs111 (h0 : 0 ≤ z) (h1 : z < 64) : sel ((HP A F E).2 111) 2 z v (fun c => rn M pc L st (zup (HP A F E) 111 c)) = rn M pc L st (HP (aup A 111 (fup (A 111) z.toNat v)) F E) := by
  rw [sel_at (n := 64) (f := A 111) rfl h0 h1]
  exact congrArg (rn M pc L st) (zup_HPa (g := fup (A 111) z.toNat v) rfl)
theorem hl111 : gle ((HP A F E).2 111) K = K 64 := gle_at (n := 64) (kd := 2) (f := A 111) rfl (by omega)
theorem hg112 (h0 : 0 ≤ z) (h1 : z < 11) : gel ((HP A F E).2 112) 2 z K = K (A 112 z.toNat) := gel_at (n := 11) rfl h0 h1
theorem hs112 (h0 : 0 ≤ z) (h1 : z < 11) : sel ((HP A F E).2 112) 2 z v (fun c => rn M pc L st (zup (HP A F E) 112 c)) = rn M pc L st (HP (aup A 112 (fup (A 112) z.toNat v)) F E) := by
  rw [sel_at (n := 11) (f := A 112) rfl h0 h1]
  exact congrArg (rn M pc L st) (zup_HPa (g := fup (A 112) z.toNat v) rfl)
theorem hl112 : gle ((HP A F E).2 112) K = K 11 := gle_at (n := 11) (kd := 2) (f := A 112) rfl (by omega)
theorem hg113 (h0 : 0 ≤ z) (h1 : z < 176) : gel ((HP A F E).2 113) 1 z K = K (A 113 z.toNat) := gel_at (n := 176) rfl h0 h1
theorem hs113 (h0 : 0 ≤ z) (h1 : z < 176) : sel ((HP A F E).2 113) 1 z v (fun c => rn M pc L st (zup (HP A F E) 113 c)) = rn M pc L st (HP (aup A 113 (fup (A 113) z.toNat v)) F E) := by
  rw [sel_at (n := 176) (f := A 113) rfl h0 h1]
  exact congrArg (rn M pc L st) (zup_HPa (g := fup (A 113) z.toNat v) rfl)
theorem hl113 : gle ((HP A F E).2 113) K = K 176 := gle_at (n := 176) (kd := 1) (f := A 113) rfl (by omega)
theorem hg114 (h0 : 0 ≤ z) (h1 : z < 1520) : gel ((HP A F E).2 114) 1 z K = K (A 114 z.toNat) := gel_at (n := 1520) rfl h0 h1
theorem hs114 (h0 : 0 ≤ z) (h1 : z < 1520) : sel ((HP A F E).2 114) 1 z v (fun c => rn M pc L st (zup (HP A F E) 114 c)) = rn M pc L st (HP (aup A 114 (fup (A 114) z.toNat v)) F E) := by
  rw [sel_at (n := 1520) (f := A 114) rfl h0 h1]
  exact congrArg (rn M pc L st) (zup_HPa (g := fup (A 114) z.toNat v) rfl)
theorem hl114 : gle ((HP A F E).2 114) K = K 1520 := gle_at (n := 1520) (kd := 1) (f := A 114) rfl (by omega)
theorem hg115 (h0 : 0 ≤ z) (h1 : z < 76) : gel ((HP A F E).2 115) 1 z K = K (A 115 z.toNat) := gel_at (n := 76) rfl h0 h1
theorem hs115 (h0 : 0 ≤ z) (h1 : z < 76) : sel ((HP A F E).2 115) 1 z v (fun c => rn M pc L st (zup (HP A F E) 115 c)) = rn M pc L st (HP (aup A 115 (fup (A 115) z.toNat v)) F E) := by
  rw [sel_at (n := 76) (f := A 115) rfl h0 h1]
  exact congrArg (rn M pc L st) (zup_HPa (g := fup (A 115) z.toNat v) rfl)
theorem hl115 : gle ((HP A F E).2 115) K = K 76 := gle_at (n := 76) (kd := 1) (f := A 115) rfl (by omega)
theorem hg116 (h0 : 0 ≤ z) (h1 : z < 36) : gel ((HP A F E).2 116) 1 z K = K (A 116 z.toNat) := gel_at (n := 36) rfl h0 h1
theorem hs116 (h0 : 0 ≤ z) (h1 : z < 36) : sel ((HP A F E).2 116) 1 z v (fun c => rn M pc L st (zup (HP A F E) 116 c)) = rn M pc L st (HP (aup A 116 (fup (A 116) z.toNat v)) F E) := by
  rw [sel_at (n := 36) (f := A 116) rfl h0 h1]
  exact congrArg (rn M pc L st) (zup_HPa (g := fup (A 116) z.toNat v) rfl)
theorem hl116 : gle ((HP A F E).2 116) K = K 36 := gle_at (n := 36) (kd := 1) (f := A 116) rfl (by omega)
theorem hg117 (h0 : 0 ≤ z) (h1 : z < 36) : geb ((HP A F E).2 117) z K = K (A 117 z.toNat) := by
  rw [HP_2, show hc E 117 (A 117) (F 117) = .inr (3, 36, A 117) from rfl, geb_3 h0 h1]
theorem hs117 (h0 : 0 ≤ z) (h1 : z < 36) : seb ((HP A F E).2 117) z v (fun c => rn M pc L st (zup (HP A F E) 117 c)) = rn M pc L st (HP (aup A 117 (fup (A 117) z.toNat (i1 v))) F E) := by
  rw [HP_2, show hc E 117 (A 117) (F 117) = .inr (3, 36, A 117) from rfl, seb_3 h0 h1]
  exact congrArg (rn M pc L st) (zup_HPa (g := fup (A 117) z.toNat (i1 v)) rfl)
theorem hl117 : gle ((HP A F E).2 117) K = K 36 := gle_at (n := 36) (kd := 3) (f := A 117) rfl (by omega)
theorem hg118 (h0 : 0 ≤ z) (h1 : z < 5) : gel ((HP A F E).2 118) 1 z K = K (A 118 z.toNat) := gel_at (n := 5) rfl h0 h1
theorem hs118 (h0 : 0 ≤ z) (h1 : z < 5) : sel ((HP A F E).2 118) 1 z v (fun c => rn M pc L st (zup (HP A F E) 118 c)) = rn M pc L st (HP (aup A 118 (fup (A 118) z.toNat v)) F E) := by
  rw [sel_at (n := 5) (f := A 118) rfl h0 h1]
  exact congrArg (rn M pc L st) (zup_HPa (g := fup (A 118) z.toNat v) rfl)
theorem hl118 : gle ((HP A F E).2 118) K = K 5 := gle_at (n := 5) (kd := 1) (f := A 118) rfl (by omega)
theorem hg119 (h0 : 0 ≤ z) (h1 : z < 32) : gel ((HP A F E).2 119) 1 z K = K (A 119 z.toNat) := gel_at (n := 32) rfl h0 h1
theorem hs119 (h0 : 0 ≤ z) (h1 : z < 32) : sel ((HP A F E).2 119) 1 z v (fun c => rn M pc L st (zup (HP A F E) 119 c)) = rn M pc L st (HP (aup A 119 (fup (A 119) z.toNat v)) F E) := by
  rw [sel_at (n := 32) (f := A 119) rfl h0 h1]
  exact congrArg (rn M pc L st) (zup_HPa (g := fup (A 119) z.toNat v) rfl)
theorem hl119 : gle ((HP A F E).2 119) K = K 32 := gle_at (n := 32) (kd := 1) (f := A 119) rfl (by omega)
theorem hg120 (h0 : 0 ≤ z) (h1 : z < 305) : gel ((HP A F E).2 120) 1 z K = K (A 120 z.toNat) := gel_at (n := 305) rfl h0 h1
theorem hs120 (h0 : 0 ≤ z) (h1 : z < 305) : sel ((HP A F E).2 120) 1 z v (fun c => rn M pc L st (zup (HP A F E) 120 c)) = rn M pc L st (HP (aup A 120 (fup (A 120) z.toNat v)) F E) := by
  rw [sel_at (n := 305) (f := A 120) rfl h0 h1]
  exact congrArg (rn M pc L st) (zup_HPa (g := fup (A 120) z.toNat v) rfl)
theorem hl120 : gle ((HP A F E).2 120) K = K 305 := gle_at (n := 305) (kd := 1) (f := A 120) rfl (by omega)
theorem hg121 (h0 : 0 ≤ z) (h1 : z < 7) : geb ((HP A F E).2 121) z K = K (A 121 z.toNat) := by
  rw [HP_2, show hc E 121 (A 121) (F 121) = .inr (3, 7, A 121) from rfl, geb_3 h0 h1]
theorem hs121 (h0 : 0 ≤ z) (h1 : z < 7) : seb ((HP A F E).2 121) z v (fun c => rn M pc L st (zup (HP A F E) 121 c)) = rn M pc L st (HP (aup A 121 (fup (A 121) z.toNat (i1 v))) F E) := by
  rw [HP_2, show hc E 121 (A 121) (F 121) = .inr (3, 7, A 121) from rfl, seb_3 h0 h1]
  exact congrArg (rn M pc L st) (zup_HPa (g := fup (A 121) z.toNat (i1 v)) rfl)
theorem hl121 : gle ((HP A F E).2 121) K = K 7 := gle_at (n := 7) (kd := 3) (f := A 121) rfl (by omega)
theorem hg122 (h0 : 0 ≤ z) (h1 : z < 35) : gel ((HP A F E).2 122) 1 z K = K (A 122 z.toNat) := gel_at (n := 35) rfl h0 h1
theorem hs122 (h0 : 0 ≤ z) (h1 : z < 35) : sel ((HP A F E).2 122) 1 z v (fun c => rn M pc L st (zup (HP A F E) 122 c)) = rn M pc L st (HP (aup A 122 (fup (A 122) z.toNat v)) F E) := by
  rw [sel_at (n := 35) (f := A 122) rfl h0 h1]
  exact congrArg (rn M pc L st) (zup_HPa (g := fup (A 122) z.toNat v) rfl)
theorem hl122 : gle ((HP A F E).2 122) K = K 35 := gle_at (n := 35) (kd := 1) (f := A 122) rfl (by omega)
theorem hg123 (h0 : 0 ≤ z) (h1 : z < 704) : gel ((HP A F E).2 123) 1 z K = K (A 123 z.toNat) := gel_at (n := 704) rfl h0 h1
theorem hs123 (h0 : 0 ≤ z) (h1 : z < 704) : sel ((HP A F E).2 123) 1 z v (fun c => rn M pc L st (zup (HP A F E) 123 c)) = rn M pc L st (HP (aup A 123 (fup (A 123) z.toNat v)) F E) := by
  rw [sel_at (n := 704) (f := A 123) rfl h0 h1]
  exact congrArg (rn M pc L st) (zup_HPa (g := fup (A 123) z.toNat v) rfl)
theorem hl123 : gle ((HP A F E).2 123) K = K 704 := gle_at (n := 704) (kd := 1) (f := A 123) rfl (by omega)
theorem hg124 (h0 : 0 ≤ z) (h1 : z < 4) : gel ((HP A F E).2 124) 1 z K = K (A 124 z.toNat) := gel_at (n := 4) rfl h0 h1
theorem hs124 (h0 : 0 ≤ z) (h1 : z < 4) : sel ((HP A F E).2 124) 1 z v (fun c => rn M pc L st (zup (HP A F E) 124 c)) = rn M pc L st (HP (aup A 124 (fup (A 124) z.toNat v)) F E) := by
  rw [sel_at (n := 4) (f := A 124) rfl h0 h1]
  exact congrArg (rn M pc L st) (zup_HPa (g := fup (A 124) z.toNat v) rfl)
theorem hl124 : gle ((HP A F E).2 124) K = K 4 := gle_at (n := 4) (kd := 1) (f := A 124) rfl (by omega)
theorem hg125 (h0 : 0 ≤ z) (h1 : z < 4) : gel ((HP A F E).2 125) 1 z K = K (A 125 z.toNat) := gel_at (n := 4) rfl h0 h1
theorem hs125 (h0 : 0 ≤ z) (h1 : z < 4) : sel ((HP A F E).2 125) 1 z v (fun c => rn M pc L st (zup (HP A F E) 125 c)) = rn M pc L st (HP (aup A 125 (fup (A 125) z.toNat v)) F E) := by
  rw [sel_at (n := 4) (f := A 125) rfl h0 h1]
  exact congrArg (rn M pc L st) (zup_HPa (g := fup (A 125) z.toNat v) rfl)
theorem hl125 : gle ((HP A F E).2 125) K = K 4 := gle_at (n := 4) (kd := 1) (f := A 125) rfl (by omega)
theorem hg126 (h0 : 0 ≤ z) (h1 : z < 4) : geb ((HP A F E).2 126) z K = K (A 126 z.toNat) := by
  rw [HP_2, show hc E 126 (A 126) (F 126) = .inr (3, 4, A 126) from rfl, geb_3 h0 h1]
theorem hs126 (h0 : 0 ≤ z) (h1 : z < 4) : seb ((HP A F E).2 126) z v (fun c => rn M pc L st (zup (HP A F E) 126 c)) = rn M pc L st (HP (aup A 126 (fup (A 126) z.toNat (i1 v))) F E) := by
  rw [HP_2, show hc E 126 (A 126) (F 126) = .inr (3, 4, A 126) from rfl, seb_3 h0 h1]
  exact congrArg (rn M pc L st) (zup_HPa (g := fup (A 126) z.toNat (i1 v)) rfl)
theorem hl126 : gle ((HP A F E).2 126) K = K 4 := gle_at (n := 4) (kd := 3) (f := A 126) rfl (by omega)
end HPL
