/-! the class's World: a row of 82 ints -/
section WORLD
variable {h : zH} {a r : Nat} {lu : Int} {f : Nat → Int}
theorem W_get {i : Int} (ha : h.2 a = zob 8 [vr r, vi lu]) (hr : h.2 r = zar 1 82 f) (h0 : 0 ≤ i) (h1 : i < 82) : cl mX9_get [vr a, vi i] h = some (vi (f i.toNat), h) := by
  simp (disch := omega) only [eX9_get, sX9_get_0, sX9_get_1, sX9_get_4, sX9_get_5, sX9_get_6, sX9_get_9, sX9_get_10, sX9_get_13, sX9_get_14, sX9_get_17, sX9_get_18, sX9_get_19, sX9_get_22, sX9_get_23, gfi_0, gfi_s, gfr_0, gfr_s, gfl_0, gfl_s, cki_k, bndi_k, bndl_k, bndr_k, bndv_k, zup_2, zup_1, ha, hr, gle_k, gel_k, if_pos, if_neg]
theorem W_set {i v : Int} (ha : h.2 a = zob 8 [vr r, vi lu]) (hr : h.2 r = zar 1 82 f) (h0 : 0 ≤ i) (h1 : i < 82) : cl mX9_set [vr a, vi i, vi v] h = some (vn, zup h r (zar 1 82 (fup f i.toNat v))) := by
  simp (disch := omega) only [eX9_set, sX9_set_0, sX9_set_1, sX9_set_4, sX9_set_5, sX9_set_6, sX9_set_9, sX9_set_10, sX9_set_13, sX9_set_14, sX9_set_17, sX9_set_18, sX9_set_19, sX9_set_20, gfi_0, gfi_s, gfr_0, gfr_s, gfl_0, gfl_s, cki_k, bndi_k, bndl_k, bndr_k, bndv_k, zup_2, zup_1, ha, hr, gle_k, sel_k, if_pos, if_neg]
theorem W_of {g p : Int} (ha : h.2 a = zob 8 [vr r, vi lu]) (hr : h.2 r = zar 1 82 f) (h0 : 0 ≤ g) (h1 : g ≤ 4) (h2 : 0 ≤ p) (h3 : p ≤ 6) : cl mX9_of [vr a, vi g, vi p] h = some (vi (f (47 + 7 * g + p).toNat), h) := by
  have e : i32 (i32 (47 + i32 (g * 7)) + p) = 47 + 7 * g + p := by
    rw [i32_of (z := g * 7) (by omega) (by omega), i32_of (z := 47 + g * 7) (by omega) (by omega), i32_of (by omega) (by omega)]
    omega
  simp (disch := omega) only [eX9_of, sX9_of_0, sX9_of_2, sX9_of_3, sX9_of_5, sX9_of_6, sX9_of_7, sX9_of_8, sX9_of_9, sX9_of_10, sX9_of_11, sX9_of_13, sX9_of_16, sX9_of_17, sX9_of_18, sX9_of_21, sX9_of_22, sX9_of_25, sX9_of_26, sX9_of_29, sX9_of_30, sX9_of_31, sX9_of_34, sX9_of_35, gfi_0, gfi_s, gfr_0, gfr_s, gfl_0, gfl_s, cki_k, bndi_k, bndl_k, bndr_k, bndv_k, zup_2, zup_1, ha, hr, e, gle_k, gel_k, if_pos, if_neg]
theorem W_put {g p v : Int} (ha : h.2 a = zob 8 [vr r, vi lu]) (hr : h.2 r = zar 1 82 f) (h0 : 0 ≤ g) (h1 : g ≤ 4) (h2 : 0 ≤ p) (h3 : p ≤ 6) : cl mX9_put [vr a, vi g, vi p, vi v] h = some (vn, zup h r (zar 1 82 (fup f (47 + 7 * g + p).toNat v))) := by
  have e : i32 (i32 (47 + i32 (g * 7)) + p) = 47 + 7 * g + p := by
    rw [i32_of (z := g * 7) (by omega) (by omega), i32_of (z := 47 + g * 7) (by omega) (by omega), i32_of (by omega) (by omega)]
    omega
  simp (disch := omega) only [eX9_put, sX9_put_0, sX9_put_2, sX9_put_3, sX9_put_5, sX9_put_6, sX9_put_7, sX9_put_8, sX9_put_9, sX9_put_11, sX9_put_13, sX9_put_15, sX9_put_18, sX9_put_20, sX9_put_21, sX9_put_24, sX9_put_25, sX9_put_28, sX9_put_29, sX9_put_32, sX9_put_34, sX9_put_35, sX9_put_36, gfi_0, gfi_s, gfr_0, gfr_s, gfl_0, gfl_s, cki_k, bndi_k, bndl_k, bndr_k, bndv_k, zup_2, zup_1, ha, hr, e, gle_k, sel_k, if_pos, if_neg]
theorem W_isOn {g : Int} (ha : h.2 a = zob 8 [vr r, vi lu]) (hr : h.2 r = zar 1 82 f) (h0 : 0 ≤ g) (h1 : g ≤ 4) : cl mX9_isOn [vr a, vi g] h = some (vi (if f (47 + 7 * g + 3).toNat = 0 then 1 else 0), h) := by
  simp (disch := omega) only [eX9_isOn, sX9_isOn_0, sX9_isOn_1, sX9_isOn_2, sX9_isOn_3, sX9_isOn_6, sX9_isOn_9, sX9_isOn_10, sX9_isOn_13, sX9_isOn_14, gfi_0, gfi_s, gfr_0, gfr_s, gfl_0, gfl_s, cki_k, bndi_k, bndl_k, bndr_k, bndv_k, zup_2, zup_1, ha, W_of ha hr h0 h1 (show (0 : Int) ≤ 3 by omega) (show (3 : Int) ≤ 6 by omega), if_pos, if_neg]
  split <;> simp_all
theorem W_cells {s : Int} (ha : h.2 a = zob 8 [vr r, vi lu]) (hr : h.2 r = zar 1 82 f) (hs : f 0 = s) (h0 : 0 ≤ s) (h1 : s ≤ 6) : cl mX9_cells [vr a] h = some (vi (s * s), h) := by
  have e : f (Int.toNat 0) = s := hs
  have q : 0 ≤ s * s := Int.mul_nonneg h0 h0
  have q2 : s * s ≤ 6 * 6 := Int.mul_le_mul h1 h1 h0 (by omega)
  simp (disch := omega) only [eX9_cells, sX9_cells_0, sX9_cells_1, sX9_cells_2, sX9_cells_5, sX9_cells_6, sX9_cells_7, sX9_cells_10, sX9_cells_11, gfi_0, gfi_s, gfr_0, gfr_s, gfl_0, gfl_s, cki_k, bndi_k, bndl_k, bndr_k, bndv_k, zup_2, zup_1, ha, W_get ha hr, e, i32_of]
theorem W_lastUsed (ha : h.2 a = zob 8 [vr r, vi lu]) : cl mX9_lastUsed [vr a] h = some (vi lu, h) := by
  simp only [eX9_lastUsed, sX9_lastUsed_0, sX9_lastUsed_1, sX9_lastUsed_4, gfi_0, gfi_s, gfr_0, gfr_s, gfl_0, gfl_s, cki_k, bndi_k, bndl_k, bndr_k, bndv_k, zup_2, zup_1, ha]
end WORLD
