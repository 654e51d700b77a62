/-! Draws; Notes.copyFrom; History -/
theorem bm64 {z : Int} (h1 : -9223372036854775808 ≤ z) (h2 : z ≤ 9223372036854775807) : z.bmod (2 ^ 64) = z := by
  have e : (2 : Nat) ^ 64 = 18446744073709551616 := by decide
  rw [e]
  exact Int.bmod_eq_of_le (by omega) (by omega)
theorem q4_div {x y : Int} (h0 : 0 ≤ x) (h1 : x ≤ 4611686018427387904) (h2 : 0 < y) (h3 : y ≤ 4611686018427387904) : q4 (· / ·) x y = x / y := by
  have ex : (Int64.ofInt x).toInt = x := i64_of (by omega) (by omega)
  have ey : (Int64.ofInt y).toInt = y := i64_of (by omega) (by omega)
  show (Int64.ofInt x / Int64.ofInt y).toInt = _
  have d0 := Int.ediv_nonneg h0 (show 0 ≤ y by omega)
  have d1 := Int.ediv_le_self y h0
  rw [Int64.toInt_div, ex, ey, Int.tdiv_eq_ediv_of_nonneg h0]
  exact bm64 (by omega) (by omega)
theorem q4_rem {x y : Int} (h0 : 0 ≤ x) (h1 : x ≤ 4611686018427387904) (h2 : 0 < y) (h3 : y ≤ 4611686018427387904) : q4 qreml x y = x % y := by
  have ex : (Int64.ofInt x).toInt = x := i64_of (by omega) (by omega)
  have ey : (Int64.ofInt y).toInt = y := i64_of (by omega) (by omega)
  have dv : (Int64.ofInt x / Int64.ofInt y).toInt = x / y := q4_div h0 h1 h2 h3
  have em := Int.emod_add_mul_ediv x y
  have m0 := Int.emod_nonneg x (show y ≠ 0 by omega)
  have m1 := Int.emod_lt_of_pos x h2
  have c : x / y * y = y * (x / y) := Int.mul_comm _ _
  show (Int64.ofInt x - Int64.ofInt x / Int64.ofInt y * Int64.ofInt y).toInt = _
  rw [Int64.toInt_sub, Int64.toInt_mul, dv, ex, ey]
  have d0 := Int.mul_nonneg (Int.ediv_nonneg h0 (show 0 ≤ y by omega)) (show 0 ≤ y by omega)
  generalize hq : x / y * y = t at *
  rw [bm64 (z := t) (by omega) (by omega), bm64 (by omega) (by omega)]
  omega
/-- x after a draw -/
def drx (x : Int) : Int := (x * 1103515245 + 12345) % 2147483648
theorem drx_b (x : Int) : 0 ≤ drx x ∧ drx x < 2147483648 := by unfold drx; omega
section DR
variable {h : zH} {d : Nat} {x : Int}
theorem D_begin {v : Int} (hd : h.2 d = zob 0 [vl x]) : cl mX0_begin [vr d, vi v] h = some (vn, zup h d (zob 0 [vl v])) := by
  simp (disch := simp) only [eX0_begin, sX0_begin_0, sX0_begin_1, sX0_begin_2, sX0_begin_3, sX0_begin_6, gfi_0, gfi_s, gfr_0, gfr_s, gfl_0, gfl_s, cki_k, bndi_k, bndl_k, bndr_k, bndv_k, zup_2, zup_1, ↓reduceIte, if_true, if_false, true_or, or_true, not_true_eq_false, not_false_eq_true, ↓pfv_at hd]
  rfl
theorem D_draw (hd : h.2 d = zob 0 [vl x]) (h0 : 0 ≤ x) (h1 : x < 2147483648) : cl mX0_draw [vr d] h = some (vi (drx x / 65536), zup h d (zob 0 [vl (drx x)])) := by
  have b := drx_b x
  have e1 : i64 (x * 1103515245) = x * 1103515245 := i64_of (by omega) (by omega)
  have e2 : i64 (x * 1103515245 + 12345) = x * 1103515245 + 12345 := i64_of (by omega) (by omega)
  have e3 : q4 qreml (x * 1103515245 + 12345) 2147483648 = drx x := q4_rem (by omega) (by omega) (by omega) (by omega)
  have e4 : q4 (· / ·) (drx x) 65536 = drx x / 65536 := q4_div (by omega) (by omega) (by omega) (by omega)
  have e5 : i32 (drx x / 65536) = drx x / 65536 := i32_of (by omega) (by omega)
  have s : (zup h d (zob 0 [vl (drx x)])).2 d = zob 0 [vl (drx x)] := zup_s
  have z1 : ¬ ((2147483648 : Int) = 0) := by omega
  have z2 : ¬ ((65536 : Int) = 0) := by omega
  simp only [sX0_draw_0, eX0_draw, sX0_draw_1, sX0_draw_2, ↓gfl_at (k := 0) hd rfl, sX0_draw_5, sX0_draw_8, sX0_draw_9, sX0_draw_12, sX0_draw_13, sX0_draw_16, e1, e2, ↓if_neg z1, e3, sX0_draw_17]
  rw [pfv_at hd (by simp)]
  show rn mX0_draw 20 [vr d] [] (zup h d (zob 0 [vl (drx x)])) = _
  simp only [sX0_draw_20, sX0_draw_21, ↓gfl_at (k := 0) s rfl, sX0_draw_24, sX0_draw_27, ↓if_neg z2, e4, sX0_draw_28, e5, sX0_draw_29]
end DR
