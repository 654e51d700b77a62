/-! the class's World, by goers: sums, bits, steps -/
section WORLD3
variable {h : zH} {a r : Nat} {lu : Int} {f : Nat → Int}
theorem W_of0 {g : Nat} (ha : h.2 a = zob 8 [vr r, vi lu]) (hr : h.2 r = zar 1 82 f) (hg : g ≤ 4) : cl mX9_of [vr a, vi (g : Int), vi 0] h = some (vi (f (47 + 7 * g)), h) := by
  have e := W_of (g := (g : Int)) (p := 0) ha hr (by omega) (by omega) (by omega) (by omega)
  rw [show (47 + 7 * (g : Int) + 0).toNat = 47 + 7 * g by omega] at e
  exact e
theorem W_put0 {g : Nat} {v : Int} (ha : h.2 a = zob 8 [vr r, vi lu]) (hr : h.2 r = zar 1 82 f) (hg : g ≤ 4) : cl mX9_put [vr a, vi (g : Int), vi 0, vi v] h = some (vn, zup h r (zar 1 82 (fup f (47 + 7 * g) v))) := by
  have e := W_put (g := (g : Int)) (p := 0) (v := v) ha hr (by omega) (by omega) (by omega) (by omega)
  rw [show (47 + 7 * (g : Int) + 0).toNat = 47 + 7 * g by omega] at e
  exact e
theorem W_of1 {g : Nat} (ha : h.2 a = zob 8 [vr r, vi lu]) (hr : h.2 r = zar 1 82 f) (hg : g ≤ 4) : cl mX9_of [vr a, vi (g : Int), vi 1] h = some (vi (f (48 + 7 * g)), h) := by
  have e := W_of (g := (g : Int)) (p := 1) ha hr (by omega) (by omega) (by omega) (by omega)
  rw [show (47 + 7 * (g : Int) + 1).toNat = 48 + 7 * g by omega] at e
  exact e
theorem W_put1 {g : Nat} {v : Int} (ha : h.2 a = zob 8 [vr r, vi lu]) (hr : h.2 r = zar 1 82 f) (hg : g ≤ 4) : cl mX9_put [vr a, vi (g : Int), vi 1, vi v] h = some (vn, zup h r (zar 1 82 (fup f (48 + 7 * g) v))) := by
  have e := W_put (g := (g : Int)) (p := 1) (v := v) ha hr (by omega) (by omega) (by omega) (by omega)
  rw [show (47 + 7 * (g : Int) + 1).toNat = 48 + 7 * g by omega] at e
  exact e
theorem W_of2 {g : Nat} (ha : h.2 a = zob 8 [vr r, vi lu]) (hr : h.2 r = zar 1 82 f) (hg : g ≤ 4) : cl mX9_of [vr a, vi (g : Int), vi 2] h = some (vi (f (49 + 7 * g)), h) := by
  have e := W_of (g := (g : Int)) (p := 2) ha hr (by omega) (by omega) (by omega) (by omega)
  rw [show (47 + 7 * (g : Int) + 2).toNat = 49 + 7 * g by omega] at e
  exact e
theorem W_put2 {g : Nat} {v : Int} (ha : h.2 a = zob 8 [vr r, vi lu]) (hr : h.2 r = zar 1 82 f) (hg : g ≤ 4) : cl mX9_put [vr a, vi (g : Int), vi 2, vi v] h = some (vn, zup h r (zar 1 82 (fup f (49 + 7 * g) v))) := by
  have e := W_put (g := (g : Int)) (p := 2) (v := v) ha hr (by omega) (by omega) (by omega) (by omega)
  rw [show (47 + 7 * (g : Int) + 2).toNat = 49 + 7 * g by omega] at e
  exact e
theorem W_of3 {g : Nat} (ha : h.2 a = zob 8 [vr r, vi lu]) (hr : h.2 r = zar 1 82 f) (hg : g ≤ 4) : cl mX9_of [vr a, vi (g : Int), vi 3] h = some (vi (f (50 + 7 * g)), h) := by
  have e := W_of (g := (g : Int)) (p := 3) ha hr (by omega) (by omega) (by omega) (by omega)
  rw [show (47 + 7 * (g : Int) + 3).toNat = 50 + 7 * g by omega] at e
  exact e
theorem W_put3 {g : Nat} {v : Int} (ha : h.2 a = zob 8 [vr r, vi lu]) (hr : h.2 r = zar 1 82 f) (hg : g ≤ 4) : cl mX9_put [vr a, vi (g : Int), vi 3, vi v] h = some (vn, zup h r (zar 1 82 (fup f (50 + 7 * g) v))) := by
  have e := W_put (g := (g : Int)) (p := 3) (v := v) ha hr (by omega) (by omega) (by omega) (by omega)
  rw [show (47 + 7 * (g : Int) + 3).toNat = 50 + 7 * g by omega] at e
  exact e
theorem W_of4 {g : Nat} (ha : h.2 a = zob 8 [vr r, vi lu]) (hr : h.2 r = zar 1 82 f) (hg : g ≤ 4) : cl mX9_of [vr a, vi (g : Int), vi 4] h = some (vi (f (51 + 7 * g)), h) := by
  have e := W_of (g := (g : Int)) (p := 4) ha hr (by omega) (by omega) (by omega) (by omega)
  rw [show (47 + 7 * (g : Int) + 4).toNat = 51 + 7 * g by omega] at e
  exact e
theorem W_put4 {g : Nat} {v : Int} (ha : h.2 a = zob 8 [vr r, vi lu]) (hr : h.2 r = zar 1 82 f) (hg : g ≤ 4) : cl mX9_put [vr a, vi (g : Int), vi 4, vi v] h = some (vn, zup h r (zar 1 82 (fup f (51 + 7 * g) v))) := by
  have e := W_put (g := (g : Int)) (p := 4) (v := v) ha hr (by omega) (by omega) (by omega) (by omega)
  rw [show (47 + 7 * (g : Int) + 4).toNat = 51 + 7 * g by omega] at e
  exact e
theorem W_of5 {g : Nat} (ha : h.2 a = zob 8 [vr r, vi lu]) (hr : h.2 r = zar 1 82 f) (hg : g ≤ 4) : cl mX9_of [vr a, vi (g : Int), vi 5] h = some (vi (f (52 + 7 * g)), h) := by
  have e := W_of (g := (g : Int)) (p := 5) ha hr (by omega) (by omega) (by omega) (by omega)
  rw [show (47 + 7 * (g : Int) + 5).toNat = 52 + 7 * g by omega] at e
  exact e
theorem W_put5 {g : Nat} {v : Int} (ha : h.2 a = zob 8 [vr r, vi lu]) (hr : h.2 r = zar 1 82 f) (hg : g ≤ 4) : cl mX9_put [vr a, vi (g : Int), vi 5, vi v] h = some (vn, zup h r (zar 1 82 (fup f (52 + 7 * g) v))) := by
  have e := W_put (g := (g : Int)) (p := 5) (v := v) ha hr (by omega) (by omega) (by omega) (by omega)
  rw [show (47 + 7 * (g : Int) + 5).toNat = 52 + 7 * g by omega] at e
  exact e
theorem W_of6 {g : Nat} (ha : h.2 a = zob 8 [vr r, vi lu]) (hr : h.2 r = zar 1 82 f) (hg : g ≤ 4) : cl mX9_of [vr a, vi (g : Int), vi 6] h = some (vi (f (53 + 7 * g)), h) := by
  have e := W_of (g := (g : Int)) (p := 6) ha hr (by omega) (by omega) (by omega) (by omega)
  rw [show (47 + 7 * (g : Int) + 6).toNat = 53 + 7 * g by omega] at e
  exact e
theorem W_put6 {g : Nat} {v : Int} (ha : h.2 a = zob 8 [vr r, vi lu]) (hr : h.2 r = zar 1 82 f) (hg : g ≤ 4) : cl mX9_put [vr a, vi (g : Int), vi 6, vi v] h = some (vn, zup h r (zar 1 82 (fup f (53 + 7 * g) v))) := by
  have e := W_put (g := (g : Int)) (p := 6) (v := v) ha hr (by omega) (by omega) (by omega) (by omega)
  rw [show (47 + 7 * (g : Int) + 6).toNat = 53 + 7 * g by omega] at e
  exact e
theorem W_isOnN {g : Nat} (ha : h.2 a = zob 8 [vr r, vi lu]) (hr : h.2 r = zar 1 82 f) (hg : g ≤ 4) : cl mX9_isOn [vr a, vi (g : Int)] h = some (vi (if f (50 + 7 * g) = 0 then 1 else 0), h) := by
  have e := W_isOn (g := (g : Int)) ha hr (by omega) (by omega)
  rw [show (47 + 7 * (g : Int) + 3).toNat = 50 + 7 * g by omega] at e
  exact e
theorem i32_s (k : Nat) (hk : k < 2147483647) : i32 ((k : Int) + 1) = ((k + 1 : Nat) : Int) := by
  rw [i32_of (by omega) (by omega)]
  omega
/-- a sum from the first on -/
def sumN (g : Nat → Int) : Nat → Int
  | 0 => 0
  | n + 1 => sumN g n + g n
theorem sumN_bd {g : Nat → Int} {b : Int} : ∀ (n : Nat), (∀ j, j < n → 0 ≤ g j ∧ g j ≤ b) → 0 ≤ sumN g n ∧ sumN g n ≤ b * n
  | 0, _ => by simp [sumN]
  | n + 1, h => by
    have ih := sumN_bd n (fun j hj => h j (by omega))
    have h1 := h n (by omega)
    have e : b * ((n + 1 : Nat) : Int) = b * (n : Int) + b := by
      rw [Int.natCast_add, Int.mul_add]; simp
    rw [e]
    simp only [sumN]
    omega
theorem W_stones_l (ha : h.2 a = zob 8 [vr r, vi lu]) (hr : h.2 r = zar 1 82 f) (hs : ∀ j, j < 36 → 0 ≤ f (11 + j) ∧ f (11 + j) ≤ 1) : ∀ (n k : Nat), k + n = 36 → rn mX9_stones 4 [vr a, vi (sumN (fun j => f (11 + j)) k), vi (k : Int)] [] h = some (vi (sumN (fun j => f (11 + j)) 36), h) := by
  intro n
  induction n with
  | zero =>
    intro k hk
    have : k = 36 := by omega
    subst this
    rw [sX9_stones_4]
    simp (disch := omega) only [eX9_stones, sX9_stones_0, sX9_stones_1, sX9_stones_2, sX9_stones_3, sX9_stones_5, sX9_stones_7, sX9_stones_10, sX9_stones_11, sX9_stones_12, sX9_stones_15, sX9_stones_17, sX9_stones_18, sX9_stones_19, sX9_stones_20, sX9_stones_21, sX9_stones_22, sX9_stones_25, sX9_stones_28, sX9_stones_29, gfi_0, gfi_s, gfr_0, gfr_s, gfl_0, gfl_s, cki_k, bndi_k, bndl_k, bndr_k, bndv_k, zup_2, zup_1, ↓reduceIte, if_true, if_false, true_or, or_true, not_true_eq_false, not_false_eq_true, ha, hr, if_pos]
  | succ n ih =>
    intro k hk
    have b := sumN_bd (g := fun j => f (11 + j)) (b := 1) k (fun j hj => hs j (by omega))
    have b2 := hs k (by omega)
    have e : (11 + (k : Int)).toNat = 11 + k := by omega
    have e2 : sumN (fun j => f (11 + j)) k + f (11 + k) = sumN (fun j => f (11 + j)) (k + 1) := rfl
    rw [sX9_stones_4]
    simp (disch := omega) only [eX9_stones, sX9_stones_0, sX9_stones_1, sX9_stones_2, sX9_stones_3, sX9_stones_5, sX9_stones_7, sX9_stones_10, sX9_stones_11, sX9_stones_12, sX9_stones_15, sX9_stones_17, sX9_stones_18, sX9_stones_19, sX9_stones_20, sX9_stones_21, sX9_stones_22, sX9_stones_25, sX9_stones_28, sX9_stones_29, gfi_0, gfi_s, gfr_0, gfr_s, gfl_0, gfl_s, cki_k, bndi_k, bndl_k, bndr_k, bndv_k, zup_2, zup_1, ↓reduceIte, if_true, if_false, true_or, or_true, not_true_eq_false, not_false_eq_true, ha, hr, gel_k, if_neg, i32_s, i32_of, e, e2]
    exact ih (k + 1) (by omega)
theorem W_stones (ha : h.2 a = zob 8 [vr r, vi lu]) (hr : h.2 r = zar 1 82 f) (hs : ∀ j, j < 36 → 0 ≤ f (11 + j) ∧ f (11 + j) ≤ 1) : cl mX9_stones [vr a] h = some (vi (sumN (fun j => f (11 + j)) 36), h) := by
  have l := W_stones_l ha hr hs 36 0 rfl
  simp only [eX9_stones, sX9_stones_0, sX9_stones_1, sX9_stones_2, sX9_stones_3, sX9_stones_5, sX9_stones_7, sX9_stones_10, sX9_stones_11, sX9_stones_12, sX9_stones_15, sX9_stones_17, sX9_stones_18, sX9_stones_19, sX9_stones_20, sX9_stones_21, sX9_stones_22, sX9_stones_25, sX9_stones_28, sX9_stones_29, gfi_0, gfi_s, gfr_0, gfr_s, gfl_0, gfl_s, cki_k, bndi_k, bndl_k, bndr_k, bndv_k, zup_2, zup_1, ↓reduceIte, if_true, if_false, true_or, or_true, not_true_eq_false, not_false_eq_true]
  exact l
end WORLD3
