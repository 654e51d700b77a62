/-! numbers: what the machine's operations are on small numbers -/
theorem bm32 {z : Int} (h1 : -2147483648 ≤ z) (h2 : z ≤ 2147483647) : z.bmod 4294967296 = z := Int.bmod_eq_of_le (by omega) (by omega)
theorem t32 {z : Int} (h1 : -2147483648 ≤ z) (h2 : z ≤ 2147483647) : (Int32.ofInt z).toInt = z := i32_of h1 h2
theorem t64 {z : Int} (h1 : -9223372036854775808 ≤ z) (h2 : z ≤ 9223372036854775807) : (Int64.ofInt z).toInt = z := i64_of h1 h2
theorem q_div {x y : Int} (h0 : 0 ≤ x) (h1 : x ≤ 2147483647) (h2 : 0 < y) (h3 : y ≤ 2147483647) : q2 (· / ·) x y = x / y := by
  unfold q2
  rw [Int32.toInt_div, t32 (by omega) h1, t32 (by omega) h3, Int.tdiv_eq_ediv_of_nonneg h0]
  have a := Int.ediv_le_self y h0
  have b := Int.ediv_nonneg h0 (Int.le_of_lt h2)
  exact bm32 (by omega) (by omega)
theorem q_rem {x y : Int} (h0 : 0 ≤ x) (h1 : x ≤ 2147483647) (h2 : 0 < y) (h3 : y ≤ 2147483647) : q2 qrem x y = x % y := by
  have hd := q_div h0 h1 h2 h3
  unfold q2 at hd
  unfold q2 qrem
  rw [Int32.toInt_sub, Int32.toInt_mul, hd, t32 (by omega) h1, t32 (by omega) h3]
  have e := Int.emod_add_mul_ediv x y
  have b := Int.emod_nonneg x (show y ≠ 0 by omega)
  have c := Int.emod_lt_of_pos x h2
  have m : x / y * y = y * (x / y) := Int.mul_comm _ _
  have d : x / y * y = x - x % y := by rw [m]; omega
  rw [d]
  have f : 0 ≤ x - x % y := by
    rw [← d]
    exact Int.mul_nonneg (Int.ediv_nonneg h0 (Int.le_of_lt h2)) (Int.le_of_lt h2)
  have g : (x - x % y).bmod (2 ^ 32) = x - x % y := bm32 (by omega) (by omega)
  rw [g]
  have k : (x - (x - x % y)).bmod (2 ^ 32) = x - (x - x % y) := bm32 (by omega) (by omega)
  rw [k]
  omega
theorem bv_and {x : Int} {k : Nat} (hk : k < 31) (hx : i32 x = x) : (Int32.ofInt x &&& Int32.ofInt ((2 ^ k - 1 : Nat) : Int)).toInt = x % ((2 ^ k : Nat) : Int) := by
  have hp : 2 ^ k ≤ 2 ^ 30 := Nat.pow_le_pow_right (by omega) (by omega)
  have hp0 : 0 < 2 ^ k := Nat.two_pow_pos k
  have e : (Int32.ofInt x &&& Int32.ofInt ((2 ^ k - 1 : Nat) : Int)).toBitVec.toNat = (x % 4294967296).toNat % 2 ^ k := by
    rw [Int32.toBitVec_and, BitVec.toNat_and]
    have e1 : (Int32.ofInt ((2 ^ k - 1 : Nat) : Int)).toBitVec.toNat = 2 ^ k - 1 := by
      show (BitVec.ofInt 32 ((2 ^ k - 1 : Nat) : Int)).toNat = _
      rw [BitVec.toNat_ofInt]
      have : (((2 ^ k - 1 : Nat) : Int) % ((2 ^ 32 : Nat) : Int)) = ((2 ^ k - 1 : Nat) : Int) := Int.emod_eq_of_lt (by omega) (by omega)
      rw [this]
      exact Int.toNat_natCast _
    have e2 : (Int32.ofInt x).toBitVec.toNat = (x % 4294967296).toNat := by
      show (BitVec.ofInt 32 x).toNat = _
      rw [BitVec.toNat_ofInt]
      rfl
    rw [e1, e2, Nat.and_two_pow_sub_one_eq_mod]
  have hlt : (x % 4294967296).toNat % 2 ^ k < 2 ^ k := Nat.mod_lt _ hp0
  show (Int32.ofInt x &&& Int32.ofInt ((2 ^ k - 1 : Nat) : Int)).toBitVec.toInt = _
  rw [BitVec.toInt_eq_toNat_of_lt (by rw [e]; omega), e]
  have h1 : (((x % 4294967296).toNat % 2 ^ k : Nat) : Int) = (x % 4294967296) % ((2 ^ k : Nat) : Int) := by
    rw [Int.natCast_emod, Int.toNat_of_nonneg (Int.emod_nonneg _ (by omega))]
  rw [h1]
  apply Int.emod_emod_of_dvd
  have h2 : ((2 ^ k : Nat) : Int) ∣ ((2 ^ 32 : Nat) : Int) := Int.natCast_dvd_natCast.mpr (Nat.pow_dvd_pow 2 (by omega))
  exact h2
theorem q_and1 {x : Int} (hx : i32 x = x) : q2 (· &&& ·) x 1 = x % 2 := bv_and (k := 1) (by omega) hx
theorem q_and3 {x : Int} (hx : i32 x = x) : q2 (· &&& ·) x 3 = x % 4 := bv_and (k := 2) (by omega) hx
theorem q_and255 {x : Int} (hx : i32 x = x) : q2 (· &&& ·) x 255 = x % 256 := bv_and (k := 8) (by omega) hx
theorem q_and63 {x : Int} (hx : i32 x = x) : q2 (· &&& ·) x 63 = x % 64 := bv_and (k := 6) (by omega) hx
theorem q_and15 {x : Int} (hx : i32 x = x) : q2 (· &&& ·) x 15 = x % 16 := bv_and (k := 4) (by omega) hx
