/-! Long.bitCount counts bits -/
theorem nb64 {a : Nat} (h : a < 9223372036854775808) : (Int64.ofInt (a : Int)).toBitVec.toNat = a := by
  show (BitVec.ofInt 64 (a : Int)).toNat = a
  rw [BitVec.toNat_ofInt]
  have : ((a : Int) % ((2 ^ 64 : Nat) : Int)) = (a : Int) := Int.emod_eq_of_lt (by omega) (by omega)
  rw [this]
  exact Int.toNat_natCast a
theorem bi64 {b : BitVec 64} {n : Nat} (h : b.toNat = n) (hn : n < 9223372036854775808) : b.toInt = (n : Int) := by
  rw [BitVec.toInt_eq_toNat_of_lt (by rw [h]; omega), h]
theorem q4_andN {a b : Nat} (ha : a < 9223372036854775808) (hb : b < 9223372036854775808) : q4 (· &&& ·) (a : Int) (b : Int) = ((a &&& b : Nat) : Int) := by
  show (Int64.ofInt (a : Int) &&& Int64.ofInt (b : Int)).toBitVec.toInt = _
  have l : a &&& b ≤ a := Nat.and_le_left
  refine bi64 ?_ (by omega)
  rw [Int64.toBitVec_and, BitVec.toNat_and, nb64 ha, nb64 hb]
theorem q4_orN {a b : Nat} (ha : a < 68719476736) (hb : b < 68719476736) : q4 (· ||| ·) (a : Int) (b : Int) = ((a ||| b : Nat) : Int) ∧ a ||| b < 68719476736 := by
  have l : a ||| b < 2 ^ 36 := Nat.or_lt_two_pow (by omega) (by omega)
  refine ⟨?_, by omega⟩
  show (Int64.ofInt (a : Int) ||| Int64.ofInt (b : Int)).toBitVec.toInt = _
  refine bi64 ?_ (by omega)
  rw [Int64.toBitVec_or, BitVec.toNat_or, nb64 (by omega), nb64 (by omega)]
theorem q_lushr {a k : Nat} (ha : a < 9223372036854775808) (h6 : k < 64) (hk : ((Int32.ofInt (k : Int)).toInt64.toUInt64 &&& Int64.toUInt64 63).toNat = k) : q42 qlushr (a : Int) (k : Int) = ((a / 2 ^ k : Nat) : Int) := by
  have e : (Int64.ofInt (a : Int)).toUInt64.toNat = a := nb64 ha
  have l : a / 2 ^ k ≤ a := Nat.div_le_self _ _
  refine bi64 (b := ((Int64.ofInt (a : Int)).toUInt64 >>> ((Int32.ofInt (k : Int)).toInt64.toUInt64 &&& Int64.toUInt64 63)).toBitVec) ?_ (by omega)
  show ((Int64.ofInt (a : Int)).toUInt64 >>> ((Int32.ofInt (k : Int)).toInt64.toUInt64 &&& Int64.toUInt64 63)).toNat = _
  rw [UInt64.toNat_shiftRight, hk, Nat.mod_eq_of_lt h6, Nat.shiftRight_eq_div_pow, e]
theorem q_sh1 {a : Nat} (ha : a < 9223372036854775808) : q42 qlushr (a : Int) 1 = ((a / 2 : Nat) : Int) := q_lushr (k := 1) ha (by omega) (by decide +kernel)
theorem q_sh2 {a : Nat} (ha : a < 9223372036854775808) : q42 qlushr (a : Int) 2 = ((a / 4 : Nat) : Int) := q_lushr (k := 2) ha (by omega) (by decide +kernel)
theorem q_sh4 {a : Nat} (ha : a < 9223372036854775808) : q42 qlushr (a : Int) 4 = ((a / 16 : Nat) : Int) := q_lushr (k := 4) ha (by omega) (by decide +kernel)
theorem q_sh8 {a : Nat} (ha : a < 9223372036854775808) : q42 qlushr (a : Int) 8 = ((a / 256 : Nat) : Int) := q_lushr (k := 8) ha (by omega) (by decide +kernel)
theorem q_sh16 {a : Nat} (ha : a < 9223372036854775808) : q42 qlushr (a : Int) 16 = ((a / 65536 : Nat) : Int) := q_lushr (k := 16) ha (by omega) (by decide +kernel)
theorem q_sh32 {a : Nat} (ha : a < 9223372036854775808) : q42 qlushr (a : Int) 32 = ((a / 4294967296 : Nat) : Int) := q_lushr (k := 32) ha (by omega) (by decide +kernel)
theorem q_1sh_dec : ∀ c : Fin 36, q42 qlshl 1 (c.val : Int) = ((2 ^ c.val : Nat) : Int) := by decide +kernel
theorem q_and127 {x : Int} : q2 (· &&& ·) (i32 x) 127 = x % 128 := by
  have b := i32_r x
  have e : q2 (· &&& ·) (i32 x) 127 = i32 x % 128 := bv_and (k := 7) (by omega) (i32_of b.1 b.2)
  rw [e]
  unfold i32
  rw [Int32.toInt_ofInt]
  have h1 : (x.bmod (2 ^ 32)) % 128 = (x.bmod (2 ^ 32) % ((2 ^ 32 : Nat) : Int)) % 128 := by
    rw [Int.emod_emod_of_dvd _ (by decide)]
  rw [h1, Int.bmod_emod, Int.emod_emod_of_dvd _ (by decide)]
/-- byte by byte -/
def mk8 (c : Nat) : Nat → Nat
  | 0 => 0
  | n + 1 => c + 256 * mk8 c n
def pX (n w : Nat) : Nat := w - (w / 2 &&& mk8 85 n)
def pY (n x : Nat) : Nat := (x &&& mk8 51 n) + (x / 4 &&& mk8 51 n)
def pZ (n y : Nat) : Nat := (y + y / 16) &&& mk8 15 n
def s1b (b : Nat) : Nat := b - (b / 2 &&& 85)
def s2b (x : Nat) : Nat := (x &&& 51) + (x / 4 &&& 51)
def pcb (b : Nat) : Nat := (s2b (s1b b) + s2b (s1b b) / 16) &&& 15
theorem and8 {a c m : Nat} (hc : c < 256) : a &&& (c + 256 * m) = (a % 256 &&& c) + 256 * (a / 256 &&& m) := by
  have e1 : (a &&& (c + 256 * m)) % 2 ^ 8 = (a % 2 ^ 8) &&& ((c + 256 * m) % 2 ^ 8) := Nat.and_mod_two_pow
  have e2 : (a &&& (c + 256 * m)) / 2 ^ 8 = (a / 2 ^ 8) &&& ((c + 256 * m) / 2 ^ 8) := Nat.and_div_two_pow
  have e3 : (c + 256 * m) % 2 ^ 8 = c := by omega
  have e4 : (c + 256 * m) / 2 ^ 8 = m := by omega
  rw [e3] at e1
  rw [e4] at e2
  simp only [Nat.reducePow] at e1 e2
  rw [← e1, ← e2]
  omega
theorem byte_dec : ∀ b : Fin 256, s1b b.val < 256 ∧ (s2b (s1b b.val) ≤ 68 ∧ s2b (s1b b.val) % 16 ≤ 4) ∧ pcb b.val ≤ 8 ∧ (pcb b.val : Int) = sumN (fun k => if b.val.testBit k then 1 else 0) 8 := by decide +kernel
theorem h85_dec : ∀ b : Fin 256, ∀ t : Fin 2, (b.val / 2 + 128 * t.val) &&& 85 = b.val / 2 &&& 85 := by decide +kernel
theorem h51_dec : ∀ b : Fin 256, ∀ t : Fin 4, (b.val / 4 + 64 * t.val) &&& 51 = b.val / 4 &&& 51 := by decide +kernel
theorem pX_s {n w : Nat} : pX (n + 1) w = s1b (w % 256) + 256 * pX n (w / 256) := by
  unfold pX s1b
  rw [mk8, and8 (by omega), show w / 2 % 256 = w % 256 / 2 + 128 * (w / 256 % 2) by omega, show w / 2 / 256 = w / 256 / 2 by omega]
  have e := h85_dec ⟨w % 256, by omega⟩ ⟨w / 256 % 2, by omega⟩
  simp only at e
  rw [e]
  have l1 : w % 256 / 2 &&& 85 ≤ w % 256 / 2 := Nat.and_le_left
  have l2 : w / 256 / 2 &&& mk8 85 n ≤ w / 256 / 2 := Nat.and_le_left
  omega
theorem pY_s {n x : Nat} : pY (n + 1) x = s2b (x % 256) + 256 * pY n (x / 256) := by
  unfold pY s2b
  rw [mk8, and8 (by omega), and8 (by omega), show x / 4 % 256 = x % 256 / 4 + 64 * (x / 256 % 4) by omega, show x / 4 / 256 = x / 256 / 4 by omega]
  have e := h51_dec ⟨x % 256, by omega⟩ ⟨x / 256 % 4, by omega⟩
  simp only at e
  rw [e]
  omega
theorem pZ_s {n y0 Y : Nat} (h0 : y0 ≤ 68) (h1 : Y % 16 ≤ 4) : pZ (n + 1) (y0 + 256 * Y) = ((y0 + y0 / 16) &&& 15) + 256 * pZ n Y := by
  unfold pZ
  rw [mk8, and8 (by omega), show (y0 + 256 * Y + (y0 + 256 * Y) / 16) / 256 = Y + Y / 16 by omega, show (y0 + 256 * Y + (y0 + 256 * Y) / 16) % 256 = y0 + y0 / 16 + 16 * (Y % 16) by omega]
  have e1 : (y0 + y0 / 16 + 16 * (Y % 16)) &&& 15 = (y0 + y0 / 16 + 16 * (Y % 16)) % 2 ^ 4 := Nat.and_two_pow_sub_one_eq_mod (n := 4) _
  have e2 : (y0 + y0 / 16) &&& 15 = (y0 + y0 / 16) % 2 ^ 4 := Nat.and_two_pow_sub_one_eq_mod (n := 4) _
  rw [e1, e2]
  omega
theorem pYX_s {n w : Nat} : pY (n + 1) (pX (n + 1) w) = s2b (s1b (w % 256)) + 256 * pY n (pX n (w / 256)) := by
  have d := byte_dec ⟨w % 256, by omega⟩
  simp only at d
  rw [pX_s, pY_s, show (s1b (w % 256) + 256 * pX n (w / 256)) % 256 = s1b (w % 256) by omega, show (s1b (w % 256) + 256 * pX n (w / 256)) / 256 = pX n (w / 256) by omega]
theorem pYX_m : ∀ {n w : Nat}, pY n (pX n w) % 16 ≤ 4
  | 0, w => by
    have a : mk8 51 0 = 0 := rfl
    unfold pY
    rw [a, Nat.and_zero, Nat.and_zero]
    omega
  | n + 1, w => by
    have d := byte_dec ⟨w % 256, by omega⟩
    simp only at d
    rw [pYX_s]
    omega
def pV : Nat → Nat → Nat
  | 0, _ => 0
  | n + 1, w => pcb (w % 256) + 256 * pV n (w / 256)
theorem pV_e : ∀ {n w : Nat}, pZ n (pY n (pX n w)) = pV n w
  | 0, w => by
    have a : mk8 15 0 = 0 := rfl
    unfold pZ
    rw [a, Nat.and_zero]
    rfl
  | n + 1, w => by
    have d := byte_dec ⟨w % 256, by omega⟩
    simp only at d
    rw [pYX_s, pZ_s d.2.1.1 pYX_m, pV_e, pV]
    rfl
/-- so many bits -/
def bcN (w : Nat) : Int := sumN (fun k => if w.testBit k then 1 else 0) 36
theorem bc_byte {w i : Nat} (hi : i < 5) : (pcb (w / 256 ^ i % 256) : Int) = sumN (fun k => if w.testBit (8 * i + k) then 1 else 0) 8 := by
  have d := (byte_dec ⟨w / 256 ^ i % 256, by omega⟩).2.2.2
  simp only at d
  rw [d]
  have key : ∀ k, k < 8 → (w / 256 ^ i % 256).testBit k = w.testBit (8 * i + k) := fun k hk => by
    have e1 : (w / 256 ^ i % 2 ^ 8).testBit k = (decide (k < 8) && (w / 256 ^ i).testBit k) := Nat.testBit_mod_two_pow _ _ _
    rw [decide_eq_true hk, Bool.true_and] at e1
    have e2 : 256 ^ i = 2 ^ (8 * i) := by rw [Nat.pow_mul]
    rw [e2] at e1 ⊢
    rw [Nat.testBit_div_two_pow, Nat.add_comm] at e1
    exact e1
  have s : ∀ n, n ≤ 8 → sumN (fun k => if (w / 256 ^ i % 256).testBit k then 1 else 0) n = sumN (fun k => if w.testBit (8 * i + k) then 1 else 0) n := by
    intro n
    induction n with
    | zero => intro _; rfl
    | succ n ih => intro hn; rw [sumN, sumN, ih (by omega), key n (by omega)]
  exact s 8 (by omega)
theorem bc_fin {w : Nat} (hw : w < 68719476736) : ∃ T : Nat, pZ 8 (pY 8 (pX 8 w)) = T ∧ T ≤ 40000000000 ∧ ((((T + T / 256) + (T + T / 256) / 65536) + ((T + T / 256) + (T + T / 256) / 65536) / 4294967296 : Nat) : Int) % 128 = bcN w := by
  have b0 := bc_byte (w := w) (i := 0) (by omega)
  have b1 := bc_byte (w := w) (i := 1) (by omega)
  have b2 := bc_byte (w := w) (i := 2) (by omega)
  have b3 := bc_byte (w := w) (i := 3) (by omega)
  have b4 := bc_byte (w := w) (i := 4) (by omega)
  simp only [Nat.reducePow, Nat.div_one] at b0 b1 b2 b3 b4
  have c0 := (byte_dec ⟨w % 256, by omega⟩).2.2.1
  have c1 := (byte_dec ⟨w / 256 % 256, by omega⟩).2.2.1
  have c2 := (byte_dec ⟨w / 65536 % 256, by omega⟩).2.2.1
  have c3 := (byte_dec ⟨w / 16777216 % 256, by omega⟩).2.2.1
  have c4 := (byte_dec ⟨w / 4294967296 % 256, by omega⟩).2.2.1
  simp only at c0 c1 c2 c3 c4
  have z36 : w.testBit 36 = false := Nat.testBit_lt_two_pow (by omega)
  have z37 : w.testBit 37 = false := Nat.testBit_lt_two_pow (by omega)
  have z38 : w.testBit 38 = false := Nat.testBit_lt_two_pow (by omega)
  have z39 : w.testBit 39 = false := Nat.testBit_lt_two_pow (by omega)
  have p0 : pcb 0 = 0 := by decide +kernel
  have v : pV 8 w = pcb (w % 256) + 256 * (pcb (w / 256 % 256) + 256 * (pcb (w / 65536 % 256) + 256 * (pcb (w / 16777216 % 256) + 256 * pcb (w / 4294967296 % 256)))) := by
    simp only [pV]
    rw [show w / 256 / 256 = w / 65536 by omega, show w / 65536 / 256 = w / 16777216 by omega, show w / 16777216 / 256 = w / 4294967296 by omega, show w / 4294967296 / 256 = 0 by omega]
    simp only [Nat.zero_div, Nat.zero_mod, p0, Nat.mul_zero, Nat.add_zero]
  refine ⟨pV 8 w, pV_e, by omega, ?_⟩
  have s : bcN w = (pcb (w % 256) : Int) + pcb (w / 256 % 256) + pcb (w / 65536 % 256) + pcb (w / 16777216 % 256) + pcb (w / 4294967296 % 256) := by
    rw [b0, b1, b2, b3, b4]
    unfold bcN
    simp only [sumN, Nat.reduceAdd, Nat.reduceMul, z36, z37, z38, z39, Bool.false_eq_true, if_false]
    omega
  rw [s]
  generalize pcb (w % 256) = d0 at *
  generalize pcb (w / 256 % 256) = d1 at *
  generalize pcb (w / 65536 % 256) = d2 at *
  generalize pcb (w / 16777216 % 256) = d3 at *
  generalize pcb (w / 4294967296 % 256) = d4 at *
  have t1 : pV 8 w + pV 8 w / 256 = (d0 + d1) + 256 * (d1 + d2) + 65536 * (d2 + d3) + 16777216 * (d3 + d4) + 4294967296 * d4 := by omega
  generalize pV 8 w + pV 8 w / 256 = T1 at *
  have t2 : T1 + T1 / 65536 = (d0 + d1 + d2 + d3) + 256 * (d1 + d2 + d3 + d4) + 65536 * (d2 + d3 + d4) + 16777216 * (d3 + d4) + 4294967296 * d4 := by omega
  generalize T1 + T1 / 65536 = T2 at *
  have t3 : T2 + T2 / 4294967296 = (d0 + d1 + d2 + d3 + d4) + 256 * (d1 + d2 + d3 + d4) + 65536 * (d2 + d3 + d4) + 16777216 * (d3 + d4) + 4294967296 * d4 := by omega
  rw [t3]
  omega
theorem J_bitCount {w : Nat} {h : zH} (hw : w < 68719476736) : cl mJ13_bitCount_95d88 [vl (w : Int)] h = some (vi (bcN w), h) := by
  obtain ⟨T, r1, r2, r3⟩ := bc_fin hw
  have m5 : mk8 85 8 = 6148914691236517205 := by decide +kernel
  have m3 : mk8 51 8 = 3689348814741910323 := by decide +kernel
  have m1 : mk8 15 8 = 1085102592571150095 := by decide +kernel
  have a1 := q_sh1 (a := w) (by omega)
  have a2 : q4 (· &&& ·) ((w / 2 : Nat) : Int) 6148914691236517205 = ((w / 2 &&& 6148914691236517205 : Nat) : Int) := q4_andN (b := 6148914691236517205) (by omega) (by decide)
  have l1 : w / 2 &&& 6148914691236517205 ≤ w / 2 := Nat.and_le_left
  have xe : pX 8 w = w - (w / 2 &&& 6148914691236517205) := by unfold pX; rw [m5]
  have a3 : i64 ((w : Int) - ((w / 2 &&& 6148914691236517205 : Nat) : Int)) = (pX 8 w : Int) := by rw [i64_of (by omega) (by omega)]; omega
  generalize hX : pX 8 w = X at *
  have xb : X < 68719476736 := by omega
  have b1 : q4 (· &&& ·) (X : Int) 3689348814741910323 = ((X &&& 3689348814741910323 : Nat) : Int) := q4_andN (b := 3689348814741910323) (by omega) (by decide)
  have b2 := q_sh2 (a := X) (by omega)
  have b3 : q4 (· &&& ·) ((X / 4 : Nat) : Int) 3689348814741910323 = ((X / 4 &&& 3689348814741910323 : Nat) : Int) := q4_andN (b := 3689348814741910323) (by omega) (by decide)
  have l2 : X &&& 3689348814741910323 ≤ X := Nat.and_le_left
  have l3 : X / 4 &&& 3689348814741910323 ≤ X / 4 := Nat.and_le_left
  have ye : pY 8 X = (X &&& 3689348814741910323) + (X / 4 &&& 3689348814741910323) := by unfold pY; rw [m3]
  have b4 : i64 (((X &&& 3689348814741910323 : Nat) : Int) + ((X / 4 &&& 3689348814741910323 : Nat) : Int)) = (pY 8 X : Int) := by rw [i64_of (by omega) (by omega)]; omega
  generalize hY : pY 8 X = Y at *
  have yb : Y < 137438953472 := by omega
  have c1 := q_sh4 (a := Y) (by omega)
  have c2 : i64 ((Y : Int) + ((Y / 16 : Nat) : Int)) = ((Y + Y / 16 : Nat) : Int) := by rw [i64_of (by omega) (by omega)]; omega
  have c3 : q4 (· &&& ·) ((Y + Y / 16 : Nat) : Int) 1085102592571150095 = (T : Int) := by
    have e : pZ 8 Y = (Y + Y / 16) &&& 1085102592571150095 := by unfold pZ; rw [m1]
    have : q4 (· &&& ·) ((Y + Y / 16 : Nat) : Int) 1085102592571150095 = (((Y + Y / 16) &&& 1085102592571150095 : Nat) : Int) := q4_andN (b := 1085102592571150095) (by omega) (by decide)
    rw [this, ← e, r1]
  have d1 := q_sh8 (a := T) (by omega)
  have d2 : i64 ((T : Int) + ((T / 256 : Nat) : Int)) = ((T + T / 256 : Nat) : Int) := by rw [i64_of (by omega) (by omega)]; omega
  generalize hT1 : T + T / 256 = T1 at *
  have t1b : T1 < 100000000000 := by omega
  have e1 := q_sh16 (a := T1) (by omega)
  have e2 : i64 ((T1 : Int) + ((T1 / 65536 : Nat) : Int)) = ((T1 + T1 / 65536 : Nat) : Int) := by rw [i64_of (by omega) (by omega)]; omega
  generalize hT2 : T1 + T1 / 65536 = T2 at *
  have t2b : T2 < 200000000000 := by omega
  have f1 := q_sh32 (a := T2) (by omega)
  have f2 : i64 ((T2 : Int) + ((T2 / 4294967296 : Nat) : Int)) = ((T2 + T2 / 4294967296 : Nat) : Int) := by rw [i64_of (by omega) (by omega)]; omega
  simp only [eJ13_bitCount_95d88, sJ13_bitCount_95d88_0, sJ13_bitCount_95d88_1, sJ13_bitCount_95d88_2, sJ13_bitCount_95d88_3, sJ13_bitCount_95d88_4, sJ13_bitCount_95d88_7, sJ13_bitCount_95d88_8, sJ13_bitCount_95d88_9, sJ13_bitCount_95d88_10, sJ13_bitCount_95d88_11, sJ13_bitCount_95d88_14, sJ13_bitCount_95d88_15, sJ13_bitCount_95d88_16, sJ13_bitCount_95d88_17, sJ13_bitCount_95d88_18, sJ13_bitCount_95d88_21, sJ13_bitCount_95d88_22, sJ13_bitCount_95d88_23, sJ13_bitCount_95d88_24, sJ13_bitCount_95d88_25, sJ13_bitCount_95d88_26, sJ13_bitCount_95d88_27, sJ13_bitCount_95d88_28, sJ13_bitCount_95d88_29, sJ13_bitCount_95d88_32, sJ13_bitCount_95d88_33, sJ13_bitCount_95d88_34, sJ13_bitCount_95d88_35, sJ13_bitCount_95d88_36, sJ13_bitCount_95d88_38, sJ13_bitCount_95d88_39, sJ13_bitCount_95d88_40, sJ13_bitCount_95d88_41, sJ13_bitCount_95d88_42, sJ13_bitCount_95d88_43, sJ13_bitCount_95d88_45, sJ13_bitCount_95d88_46, sJ13_bitCount_95d88_47, sJ13_bitCount_95d88_48, sJ13_bitCount_95d88_49, sJ13_bitCount_95d88_50, sJ13_bitCount_95d88_52, sJ13_bitCount_95d88_53, sJ13_bitCount_95d88_54, sJ13_bitCount_95d88_55, sJ13_bitCount_95d88_56, sJ13_bitCount_95d88_57, sJ13_bitCount_95d88_59, sJ13_bitCount_95d88_60, a1, a2, a3, b1, b2, b3, b4, c1, c2, c3, d1, d2, e1, e2, f1, f2, q_and127, r3]
