/-! Text.append -/
/-- a byte of a number -/
def bt (x k : Int) : Int := q2 (· &&& ·) (q2 qshr x k) 255
section AP
variable {h : zH} {t y : Nat} {L p s kd va x : Int} {f : Nat → Int}
theorem t_s {c : zC} (ne : y ≠ t) : zup (txs h t y L p s kd va) y c = txs (zup h y c) t y L p s kd va := zup_comm (Ne.symm ne)
theorem T_app1 {k : Int} (hy : h.2 y = zar 1 400 f) (ne : y ≠ t) (h0 : 0 ≤ L) (h1 : L < 400) (k0 : 0 ≤ k) (k1 : k ≤ 24) : rn mX8_append 3 [vr t, vi x, vi k] [] (txs h t y L p s kd va) = rn mX8_append 3 [vr t, vi x, vi (k + -8)] [] (txs (zup h y (zar 1 400 (fup f L.toNat (bt x k)))) t y (L + 1) p s kd va) := by
  have y1 := t_y (L := L) (p := p) (s := s) (kd := kd) (va := va) hy ne
  have q1 : ¬ k < 0 := by omega
  have q2' : ¬ L < 0 := by omega
  have q3 : ¬ ((400 : Nat) : Int) ≤ L := by omega
  have e1 : i32 (L + 1) = L + 1 := i32_of (by omega) (by omega)
  have e2 : i32 (k + -8) = k + -8 := i32_of (by omega) (by omega)
  have eb : q2 (· &&& ·) (q2 qshr x k) 255 = bt x k := rfl
  have T : ∀ d : zC, zup (txs h t y L p s kd va) y d = txs (zup h y d) t y L p s kd va := fun d => t_s ne
  conv => lhs; rw [sX8_append_3]
  simp (disch := omega) only [eX8_append, sX8_append_0, sX8_append_2, sX8_append_4, sX8_append_7, sX8_append_8, sX8_append_11, sX8_append_14, sX8_append_15, sX8_append_18, sX8_append_19, sX8_append_22, sX8_append_23, sX8_append_26, sX8_append_27, sX8_append_30, sX8_append_31, sX8_append_34, sX8_append_35, sX8_append_36, sX8_append_37, sX8_append_40, sX8_append_41, sX8_append_42, sX8_append_43, sX8_append_44, sX8_append_47, sX8_append_48, sX8_append_49, sX8_append_52, sX8_append_55, sX8_append_58, ↓if_neg q1, ↓t_1, ↓if_neg q2', ↓t_0, ↓gle_at y1, ↓if_neg q3, eb, ↓sel_at y1, T, e1, ↓t_w1, t_u, e2]
def ap4 (f : Nat → Int) (L : Nat) (x : Int) : Nat → Int := fup (fup (fup (fup f L (bt x 24)) (L + 1) (bt x 16)) (L + 2) (bt x 8)) (L + 3) (bt x 0)
theorem T_append (hy : h.2 y = zar 1 400 f) (ne : y ≠ t) (h0 : 0 ≤ L) (h1 : L ≤ 396) : cl mX8_append [vr t, vi x] (txs h t y L p s kd va) = some (vn, txs (zup h y (zar 1 400 (ap4 f L.toNat x))) t y (L + 4) p s kd va) := by
  rw [eX8_append, sX8_append_0, sX8_append_2]
  rw [T_app1 (k := 24) hy ne h0 (by omega) (by omega) (by omega), show (24 : Int) + -8 = 16 from rfl]
  rw [T_app1 (k := 16) zup_s ne (by omega) (by omega) (by omega) (by omega), show (16 : Int) + -8 = 8 from rfl, zup_zup]
  rw [T_app1 (k := 8) zup_s ne (by omega) (by omega) (by omega) (by omega), show (8 : Int) + -8 = 0 from rfl, zup_zup]
  rw [T_app1 (k := 0) zup_s ne (by omega) (by omega) (by omega) (by omega), show (0 : Int) + -8 = -8 from rfl, zup_zup]
  have q : (-8 : Int) < 0 := by omega
  rw [show (L + 1).toNat = L.toNat + 1 by omega, show (L + 1 + 1).toNat = L.toNat + 2 by omega, show (L + 1 + 1 + 1).toNat = L.toNat + 3 by omega, show L + 1 + 1 + 1 + 1 = L + 4 by omega]
  rw [sX8_append_3]
  simp only [sX8_append_4, ↓if_pos q, sX8_append_58]
  rfl
end AP
