/-! counting bits: small numbers -/
def bA1 (x : Int) : Int := i32 (x - q2 (· &&& ·) (q2 qushr x 1) 1431655765)
def bA2 (y : Int) : Int := i32 (q2 (· &&& ·) y 858993459 + q2 (· &&& ·) (q2 qushr y 2) 858993459)
def bA3 (y : Int) : Int := q2 (· &&& ·) (i32 (y + q2 qushr y 4)) 252645135
def bA4 (y : Int) : Int := i32 (y + q2 qushr y 8)
def bA5 (y : Int) : Int := i32 (y + q2 qushr y 16)
def bcE (x : Int) : Int := q2 (· &&& ·) (bA5 (bA4 (bA3 (bA2 (bA1 x))))) 63
theorem J_bits {x : Int} {h : zH} : cl mJ6_bitCount_0f7a4 [vi x] h = some (vi (bcE x), h) := by
  simp only [eJ6_bitCount_0f7a4, sJ6_bitCount_0f7a4_0, sJ6_bitCount_0f7a4_1, sJ6_bitCount_0f7a4_2, sJ6_bitCount_0f7a4_3, sJ6_bitCount_0f7a4_4, sJ6_bitCount_0f7a4_7, sJ6_bitCount_0f7a4_8, sJ6_bitCount_0f7a4_9, sJ6_bitCount_0f7a4_10, sJ6_bitCount_0f7a4_11, sJ6_bitCount_0f7a4_14, sJ6_bitCount_0f7a4_15, sJ6_bitCount_0f7a4_16, sJ6_bitCount_0f7a4_17, sJ6_bitCount_0f7a4_18, sJ6_bitCount_0f7a4_21, sJ6_bitCount_0f7a4_22, sJ6_bitCount_0f7a4_23, sJ6_bitCount_0f7a4_24, sJ6_bitCount_0f7a4_25, sJ6_bitCount_0f7a4_26, sJ6_bitCount_0f7a4_27, sJ6_bitCount_0f7a4_28, sJ6_bitCount_0f7a4_29, sJ6_bitCount_0f7a4_32, sJ6_bitCount_0f7a4_33, sJ6_bitCount_0f7a4_34, sJ6_bitCount_0f7a4_35, sJ6_bitCount_0f7a4_36, sJ6_bitCount_0f7a4_38, sJ6_bitCount_0f7a4_39, sJ6_bitCount_0f7a4_40, sJ6_bitCount_0f7a4_41, sJ6_bitCount_0f7a4_42, sJ6_bitCount_0f7a4_43, sJ6_bitCount_0f7a4_45, sJ6_bitCount_0f7a4_46, sJ6_bitCount_0f7a4_47, sJ6_bitCount_0f7a4_48, sJ6_bitCount_0f7a4_49, sJ6_bitCount_0f7a4_51, sJ6_bitCount_0f7a4_52]
  rfl
/-- the model's way -/
def mbN : Nat → Int → Int → Int
  | 0, _, n => n
  | k + 1, s, n => if s = 0 then n else mbN k (q2 (· &&& ·) s (i32 (s - 1))) (i32 (n + 1))
def mbZ : Nat → Int → Bool
  | 0, s => decide (s = 0)
  | k + 1, s => if s = 0 then true else mbZ k (q2 (· &&& ·) s (i32 (s - 1)))
theorem m_bits_lp {x : Int} {h : zH} : ∀ (k : Nat) (s n : Int), mbZ k s = true → rn mX11_bits 4 [vi x, vi n, vi s] [] h = some (vi (mbN k s n), h)
  | 0, s, n, z => by
    have z0 : s = 0 := of_decide_eq_true z
    rw [sX11_bits_4]
    simp (disch := omega) only [eX11_bits, sX11_bits_0, sX11_bits_1, sX11_bits_2, sX11_bits_3, sX11_bits_5, sX11_bits_8, sX11_bits_11, sX11_bits_12, sX11_bits_13, sX11_bits_14, sX11_bits_15, sX11_bits_16, sX11_bits_17, sX11_bits_20, sX11_bits_21, z0, mbN, ↓if_pos]
  | k + 1, s, n, z => by
    rw [mbN, sX11_bits_4]
    by_cases y : s = 0
    · rw [if_pos y]
      simp (disch := omega) only [eX11_bits, sX11_bits_0, sX11_bits_1, sX11_bits_2, sX11_bits_3, sX11_bits_5, sX11_bits_8, sX11_bits_11, sX11_bits_12, sX11_bits_13, sX11_bits_14, sX11_bits_15, sX11_bits_16, sX11_bits_17, sX11_bits_20, sX11_bits_21, y, ↓if_pos]
    · rw [mbZ, if_neg y] at z
      rw [if_neg y, ← m_bits_lp (x := x) k _ _ z]
      simp (disch := omega) only [eX11_bits, sX11_bits_0, sX11_bits_1, sX11_bits_2, sX11_bits_3, sX11_bits_5, sX11_bits_8, sX11_bits_11, sX11_bits_12, sX11_bits_13, sX11_bits_14, sX11_bits_15, sX11_bits_16, sX11_bits_17, sX11_bits_20, sX11_bits_21, ↓if_neg]
theorem bc_32 : ∀ n : Nat, n < 32 → bcE (n : Int) = mbN 5 (n : Int) 0 ∧ mbZ 5 (n : Int) = true ∧ 0 ≤ mbN 5 (n : Int) 0 ∧ mbN 5 (n : Int) 0 ≤ 5 := by decide +kernel
theorem q_or {x y : Int} (x0 : 0 ≤ x) (x1 : x < 2147483648) (y0 : 0 ≤ y) (y1 : y < 2147483648) : q2 (· ||| ·) x y = ((x.toNat ||| y.toNat : Nat) : Int) := by
  have e : ∀ {z : Int}, 0 ≤ z → z < 2147483648 → (Int32.ofInt z).toBitVec.toNat = z.toNat := fun {z} h0 h1 => by
    show (BitVec.ofInt 32 z).toNat = _
    rw [BitVec.toNat_ofInt]
    have : z % ((2 ^ 32 : Nat) : Int) = z := Int.emod_eq_of_lt h0 (by omega)
    rw [this]
  have t : (Int32.ofInt x ||| Int32.ofInt y).toBitVec.toNat = x.toNat ||| y.toNat := by
    rw [Int32.toBitVec_or, BitVec.toNat_or, e x0 x1, e y0 y1]
  have b : x.toNat ||| y.toNat < 2 ^ 31 := Nat.or_lt_two_pow (by omega) (by omega)
  show (Int32.ofInt x ||| Int32.ofInt y).toBitVec.toInt = _
  rw [BitVec.toInt_eq_toNat_of_lt (by rw [t]; omega), t]
theorem bitsN_b {s : Int} {f : Nat → Int} : ∀ n : Nat, n ≤ 5 → 0 ≤ bitsN s f n ∧ bitsN s f n < 2 ^ n
  | 0, _ => by rw [bitsN]; decide
  | n + 1, h => by
    have i := bitsN_b (s := s) (f := f) n (by omega)
    have hp : (2 : Int) ^ n ≤ 16 := by
      have : n = 0 ∨ n = 1 ∨ n = 2 ∨ n = 3 ∨ n = 4 := by omega
      rcases this with rfl | rfl | rfl | rfl | rfl <;> decide
    have sh : q2 qshl 1 (n : Int) = 2 ^ n := by
      have : n = 0 ∨ n = 1 ∨ n = 2 ∨ n = 3 ∨ n = 4 := by omega
      rcases this with rfl | rfl | rfl | rfl | rfl <;> decide
    rw [bitsN, sh]
    have en : ((2 : Int) ^ n).toNat = 2 ^ n := by
      rw [show (2 : Int) ^ n = ((2 ^ n : Nat) : Int) by simp]; exact Int.toNat_natCast _
    have hn : (bitsN s f n).toNat < 2 ^ (n + 1) := by
      have e1 : (2 : Int) ^ n = ((2 ^ n : Nat) : Int) := by simp
      have e2 : (2 : Nat) ^ (n + 1) = 2 ^ n * 2 := Nat.pow_succ 2 n
      have i2 := i.2
      rw [e1] at i2
      omega
    have e3 : ((2 ^ (n + 1) : Nat) : Int) = (2 : Int) ^ (n + 1) := by simp
    split
    · have p0 : (0 : Int) < 2 ^ n := by rw [show (2 : Int) ^ n = ((2 ^ n : Nat) : Int) by simp]; have := Nat.two_pow_pos n; omega
      rw [q_or i.1 (by omega) (by omega) (by omega), en]
      have := Nat.or_lt_two_pow hn (show 2 ^ n < 2 ^ (n + 1) by rw [Nat.pow_succ]; have := Nat.two_pow_pos n; omega)
      rw [← e3]
      omega
    · rw [q_or i.1 (by omega) (by omega) (by omega)]
      have : (bitsN s f n).toNat ||| (0 : Int).toNat = (bitsN s f n).toNat := Nat.or_zero _
      rw [this, ← e3]
      omega
/-- how many of the goers are in a state -/
def cntN (s : Int) (f : Nat → Int) (G : Nat) : Int := mbN 5 (bitsN s f G) 0
theorem cnt_n {s : Int} {f : Nat → Int} {G : Nat} (h : G ≤ 5) : ∃ n : Nat, n < 32 ∧ bitsN s f G = (n : Int) := by
  have b := bitsN_b (s := s) (f := f) G h
  have hp : (2 : Int) ^ G ≤ 32 := by
    have : G = 0 ∨ G = 1 ∨ G = 2 ∨ G = 3 ∨ G = 4 ∨ G = 5 := by omega
    rcases this with rfl | rfl | rfl | rfl | rfl | rfl <;> decide
  exact ⟨(bitsN s f G).toNat, by omega, by omega⟩
theorem J_cnt {s : Int} {f : Nat → Int} {G : Nat} {h : zH} (hG : G ≤ 5) : cl mJ6_bitCount_0f7a4 [vi (bitsN s f G)] h = some (vi (cntN s f G), h) := by
  obtain ⟨n, n1, n2⟩ := cnt_n (s := s) (f := f) hG
  rw [J_bits, cntN, n2, (bc_32 n n1).1]
theorem m_cnt {s : Int} {f : Nat → Int} {G : Nat} {h : zH} (hG : G ≤ 5) : cl mX11_bits [vi (bitsN s f G)] h = some (vi (cntN s f G), h) := by
  obtain ⟨n, n1, n2⟩ := cnt_n (s := s) (f := f) hG
  have l := m_bits_lp (x := bitsN s f G) (h := h) 5 (bitsN s f G) 0 (by rw [n2]; exact (bc_32 n n1).2.1)
  rw [cntN, ← l]
  simp only [eX11_bits, sX11_bits_0, sX11_bits_1, sX11_bits_2, sX11_bits_3, sX11_bits_5, sX11_bits_8, sX11_bits_11, sX11_bits_12, sX11_bits_13, sX11_bits_14, sX11_bits_15, sX11_bits_16, sX11_bits_17, sX11_bits_20, sX11_bits_21]
theorem cnt_b {s : Int} {f : Nat → Int} {G : Nat} (hG : G ≤ 5) : 0 ≤ cntN s f G ∧ cntN s f G ≤ 5 := by
  obtain ⟨n, n1, n2⟩ := cnt_n (s := s) (f := f) hG
  rw [cntN, n2]
  exact (bc_32 n n1).2.2
theorem food_b {f : Nat → Int} {G : Nat} (h : wok f G) : ∀ n : Nat, n ≤ G → 0 ≤ foodN f n ∧ foodN f n ≤ 99 * n
  | 0, _ => by rw [foodN]; omega
  | n + 1, hn => by
    have i := food_b h n (by omega)
    have gk := h.2.2.2.2.2.2 n (by omega)
    unfold gok at gk
    have h5 := h.2.1
    rw [foodN]
    split
    · rw [i32_of (by omega) (by omega)]; omega
    · rw [i32_of (by omega) (by omega)]; omega
