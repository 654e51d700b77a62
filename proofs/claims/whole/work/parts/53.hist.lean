/-! Notes.copyFrom; History -/
section NC
variable {h : zH} {p s g c p' s' g' c' : Nat} {fs fg fc fs' fg' fc' : Nat → Int} {z z' : Int}
theorem cpy_at {m n : Nat} {f g : Nat → Int} {x y : Nat} {K : zC → Option (zV × zH)} (hx : h.2 x = .inr (1, m, f)) (hy : h.2 y = .inr (1, n, g)) (h3 : 10 ≤ m) (h4 : 10 ≤ n) : cpy (h.2 x) (h.2 y) 0 0 10 K = K (.inr (1, n, va_cpy f g 0 0 10)) := by
  rw [hx, hy, cpy_k (by omega) (by omega) (by omega) (by omega) (by omega)]
  rfl
theorem N_copy (hn : isN h p s g c fs fg fc z) (hm : isN h p' s' g' c' fs' fg' fc' z') (d1 : p ≠ s) (d2 : p ≠ g) (d3 : p ≠ c) (d4 : s ≠ g) (d5 : s ≠ c) (d6 : g ≠ c) (a1 : p' ≠ s) (a2 : p' ≠ g) (a3 : p' ≠ c) (b1 : g' ≠ s) (b2 : c' ≠ s) (b3 : c' ≠ g) (k1 : cn 10 fs) (k2 : cn 10 fg) (k3 : cn 10 fc) (k4 : cn 10 fs') (k5 : cn 10 fg') (k6 : cn 10 fc') : cl mX4_copyFrom [vr p, vr p'] h = some (vn, nst h p s g c fs' fg' fc' z') := by
  obtain ⟨h1, h2, h3, h4⟩ := hn
  obtain ⟨m1, m2, m3, m4⟩ := hm
  have v1 : va_cpy fs' fs 0 0 10 = fs' := cpy_cn k4 k1
  have v2 : va_cpy fg' fg 0 0 10 = fg' := cpy_cn k5 k2
  have v3 : va_cpy fc' fc 0 0 10 = fc' := cpy_cn k6 k3
  have p1 : (zup h s (zar 1 10 fs')).2 p = zob 3 [vr s, vr g, vr c, vi z] := by rw [zup_n d1]; exact h1
  have q1 : (zup h s (zar 1 10 fs')).2 p' = zob 3 [vr s', vr g', vr c', vi z'] := by rw [zup_n a1]; exact m1
  have g1 : (zup h s (zar 1 10 fs')).2 g = zar 1 10 fg := by rw [zup_n (Ne.symm d4)]; exact h3
  have c1 : (zup h s (zar 1 10 fs')).2 c = zar 1 10 fc := by rw [zup_n (Ne.symm d5)]; exact h4
  have g1' : (zup h s (zar 1 10 fs')).2 g' = zar 1 10 fg' := by rw [zup_n b1]; exact m3
  have c1' : (zup h s (zar 1 10 fs')).2 c' = zar 1 10 fc' := by rw [zup_n b2]; exact m4
  have p2 : (zup (zup h s (zar 1 10 fs')) g (zar 1 10 fg')).2 p = zob 3 [vr s, vr g, vr c, vi z] := by rw [zup_n d2]; exact p1
  have q2 : (zup (zup h s (zar 1 10 fs')) g (zar 1 10 fg')).2 p' = zob 3 [vr s', vr g', vr c', vi z'] := by rw [zup_n a2]; exact q1
  have c2 : (zup (zup h s (zar 1 10 fs')) g (zar 1 10 fg')).2 c = zar 1 10 fc := by rw [zup_n (Ne.symm d6)]; exact c1
  have c2' : (zup (zup h s (zar 1 10 fs')) g (zar 1 10 fg')).2 c' = zar 1 10 fc' := by rw [zup_n b3]; exact c1'
  have p3 : (zup (zup (zup h s (zar 1 10 fs')) g (zar 1 10 fg')) c (zar 1 10 fc')).2 p = zob 3 [vr s, vr g, vr c, vi z] := by rw [zup_n d3]; exact p2
  have q3 : (zup (zup (zup h s (zar 1 10 fs')) g (zar 1 10 fg')) c (zar 1 10 fc')).2 p' = zob 3 [vr s', vr g', vr c', vi z'] := by rw [zup_n a3]; exact q2
  unfold nst
  generalize hH1 : zup h s (zar 1 10 fs') = K1 at *
  generalize hH2 : zup K1 g (zar 1 10 fg') = K2 at *
  generalize hH3 : zup K2 c (zar 1 10 fc') = K3 at *
  have hH1' : zup h s (.inr (1, 10, fs')) = K1 := hH1
  have hH2' : zup K1 g (.inr (1, 10, fg')) = K2 := hH2
  have hH3' : zup K2 c (.inr (1, 10, fc')) = K3 := hH3
  simp (disch := first | omega | simp) only [eX4_copyFrom, sX4_copyFrom_0, sX4_copyFrom_1, sX4_copyFrom_4, sX4_copyFrom_5, sX4_copyFrom_6, sX4_copyFrom_9, sX4_copyFrom_10, sX4_copyFrom_12, sX4_copyFrom_15, sX4_copyFrom_16, sX4_copyFrom_19, sX4_copyFrom_20, sX4_copyFrom_21, sX4_copyFrom_24, sX4_copyFrom_25, sX4_copyFrom_27, sX4_copyFrom_30, sX4_copyFrom_31, sX4_copyFrom_34, sX4_copyFrom_35, sX4_copyFrom_36, sX4_copyFrom_39, sX4_copyFrom_40, sX4_copyFrom_42, sX4_copyFrom_45, sX4_copyFrom_46, sX4_copyFrom_47, sX4_copyFrom_50, sX4_copyFrom_53, ↓gfr_at (k := 0) h1 rfl, ↓gfr_at (k := 0) m1 rfl, ↓cpy_at m2 h2, v1, hH1', ↓gfr_at (k := 1) p1 rfl, ↓gfr_at (k := 1) q1 rfl, ↓cpy_at g1' g1, v2, hH2', ↓gfr_at (k := 2) p2 rfl, ↓gfr_at (k := 2) q2 rfl, ↓cpy_at c2' c2, v3, hH3', ↓gfi_at (k := 3) q3 rfl, ↓pfv_at p3]
  rfl
end NC
/-! History -/
section HI
variable {h : zH} {s w now kd : Nat} {ar : Nat → Int} {nx sz : Int}
theorem gea_at {α : Type} {kd n a : Nat} {f : Nat → Int} {z : Int} {K : Nat → Option α} (hc : h.2 a = .inr (kd, n, f)) (hk : kd = 4 ∨ kd = 5 ∨ kd = 6) (h0 : 0 ≤ z) (h1 : z < (n : Int)) : gea (h.2 a) z K = K (f z.toNat).toNat := by rw [hc, gea_4 hk h0 h1]
theorem H_size (hs : h.2 s = zob 1 [vr w, vi nx, vi sz]) : cl mX2_size [vr s] h = some (vi sz, h) := by
  simp only [eX2_size, sX2_size_0, sX2_size_1, sX2_size_4, gfi_0, gfi_s, gfr_0, gfr_s, gfl_0, gfl_s, cki_k, bndi_k, bndl_k, bndr_k, bndv_k, zup_2, zup_1, ↓reduceIte, if_true, if_false, true_or, or_true, not_true_eq_false, not_false_eq_true, hs]
theorem H_clear (hs : h.2 s = zob 1 [vr w, vi nx, vi sz]) : cl mX2_clear [vr s] h = some (vn, zup h s (zob 1 [vr w, vi nx, vi 0])) := by
  simp (disch := simp) only [eX2_clear, sX2_clear_0, sX2_clear_1, sX2_clear_2, sX2_clear_5, gfi_0, gfi_s, gfr_0, gfr_s, gfl_0, gfl_s, cki_k, bndi_k, bndl_k, bndr_k, bndv_k, zup_2, zup_1, ↓reduceIte, if_true, if_false, true_or, or_true, not_true_eq_false, not_false_eq_true, ↓pfv_at hs]
  rfl
theorem H_keep (hs : h.2 s = zob 1 [vr w, vi nx, vi sz]) (hw : h.2 w = zar kd 20 ar) (hk : kd = 4 ∨ kd = 5 ∨ kd = 6) (n0 : 0 ≤ nx) (n1 : nx < 20) (z0 : 0 ≤ sz) (z1 : sz ≤ 20) (w1 : isW h (ar nx.toNat).toNat) (w2 : isW h now) (c1 : cn 82 (wf h (ar nx.toNat).toNat)) (c2 : cn 82 (wf h now)) (d1 : s ≠ (ar nx.toNat).toNat) (d2 : s ≠ wr h (ar nx.toNat).toNat) : cl mX2_keep [vr s, vr now] h = some (vn, zup (wlu (wst h (ar nx.toNat).toNat (wf h now)) (ar nx.toNat).toNat (-1)) s (zob 1 [vr w, vi (if nx + 1 < 20 then nx + 1 else 0), vi (if sz + 1 < 20 then sz + 1 else 20)])) := by
  have C := w_copyC w1 w2 c1 c2
  generalize hb : (ar nx.toNat).toNat = b at *
  have s1 : (wlu (wst h b (wf h now)) b (-1)).2 s = zob 1 [vr w, vi nx, vi sz] := by rw [wlu, zup_n d1, wst, zup_n d2]; exact hs
  generalize wlu (wst h b (wf h now)) b (-1) = K at *
  have e1 : i32 (nx + 1) = nx + 1 := i32_of (by omega) (by omega)
  have e2 : i32 (sz + 1) = sz + 1 := i32_of (by omega) (by omega)
  have fin : ∀ v : Int, rn mX2_keep 38 [vr s, vr now] [] (zup K s (zob 1 [vr w, vi v, vi sz])) = some (vn, zup K s (zob 1 [vr w, vi v, vi (if sz + 1 < 20 then sz + 1 else 20)])) := by
    intro v
    have s2 : (zup K s (zob 1 [vr w, vi v, vi sz])).2 s = zob 1 [vr w, vi v, vi sz] := zup_s
    simp (disch := simp) only [eX2_keep, sX2_keep_0, sX2_keep_1, sX2_keep_4, sX2_keep_5, sX2_keep_8, sX2_keep_9, sX2_keep_10, sX2_keep_13, sX2_keep_14, sX2_keep_15, sX2_keep_18, sX2_keep_19, sX2_keep_20, sX2_keep_22, sX2_keep_25, sX2_keep_26, sX2_keep_29, sX2_keep_30, sX2_keep_31, sX2_keep_34, sX2_keep_35, sX2_keep_38, sX2_keep_39, sX2_keep_41, sX2_keep_42, sX2_keep_45, sX2_keep_46, sX2_keep_47, sX2_keep_50, sX2_keep_53, ↓gfi_at (k := 2) s2 rfl, e2, ↓pfv_at s2]
    rw [zup_zup]
    rfl
  by_cases q : nx + 1 < 20
  · rw [if_pos q]
    have q' : ¬ (20 ≤ nx + 1) := by omega
    rw [← fin (nx + 1)]
    simp (disch := first | omega | assumption | simp) only [eX2_keep, sX2_keep_0, sX2_keep_1, sX2_keep_4, sX2_keep_5, sX2_keep_8, sX2_keep_9, sX2_keep_10, sX2_keep_13, sX2_keep_14, sX2_keep_15, sX2_keep_18, sX2_keep_19, sX2_keep_20, sX2_keep_22, sX2_keep_25, sX2_keep_26, sX2_keep_29, sX2_keep_30, sX2_keep_31, sX2_keep_34, sX2_keep_35, sX2_keep_39, sX2_keep_41, sX2_keep_42, sX2_keep_45, sX2_keep_46, sX2_keep_47, sX2_keep_50, sX2_keep_53, ↓gfr_at (k := 0) hs rfl, ↓gfi_at (k := 1) hs rfl, ↓gea_at hw, hb, ↓isW_cell w1, ↓bndv_at C, ↓gfi_at (k := 1) s1 rfl, e1, ↓if_neg q', ↓pfv_at s1]
    rfl
  · rw [if_neg q]
    have q' : 20 ≤ nx + 1 := by omega
    rw [← fin 0]
    simp (disch := first | omega | assumption | simp) only [eX2_keep, sX2_keep_0, sX2_keep_1, sX2_keep_4, sX2_keep_5, sX2_keep_8, sX2_keep_9, sX2_keep_10, sX2_keep_13, sX2_keep_14, sX2_keep_15, sX2_keep_18, sX2_keep_19, sX2_keep_20, sX2_keep_22, sX2_keep_25, sX2_keep_26, sX2_keep_29, sX2_keep_30, sX2_keep_31, sX2_keep_34, sX2_keep_35, sX2_keep_39, sX2_keep_41, sX2_keep_42, sX2_keep_45, sX2_keep_46, sX2_keep_47, sX2_keep_50, sX2_keep_53, ↓gfr_at (k := 0) hs rfl, ↓gfi_at (k := 1) hs rfl, ↓gea_at hw, hb, ↓isW_cell w1, ↓bndv_at C, ↓gfi_at (k := 1) s1 rfl, e1, ↓if_pos q', ↓pfv_at s1]
    rfl
theorem H_back0 (hs : h.2 s = zob 1 [vr w, vi nx, vi 0]) : cl mX2_goBack [vr s, vr now] h = some (vi (-1), h) := by
  simp only [eX2_goBack, sX2_goBack_0, sX2_goBack_1, sX2_goBack_4, sX2_goBack_7, sX2_goBack_8, sX2_goBack_9, sX2_goBack_10, sX2_goBack_11, sX2_goBack_14, sX2_goBack_17, sX2_goBack_18, sX2_goBack_21, sX2_goBack_22, sX2_goBack_23, sX2_goBack_26, sX2_goBack_28, sX2_goBack_31, sX2_goBack_32, sX2_goBack_33, sX2_goBack_36, sX2_goBack_37, sX2_goBack_40, sX2_goBack_41, sX2_goBack_44, sX2_goBack_45, sX2_goBack_46, sX2_goBack_49, sX2_goBack_50, sX2_goBack_51, sX2_goBack_54, sX2_goBack_55, sX2_goBack_58, gfi_0, gfi_s, gfr_0, gfr_s, gfl_0, gfl_s, cki_k, bndi_k, bndl_k, bndr_k, bndv_k, zup_2, zup_1, ↓reduceIte, if_true, if_false, true_or, or_true, not_true_eq_false, not_false_eq_true, ↓gfi_at (k := 2) hs rfl]
/-- where the one kept last stands -/
def hpr (nx : Int) : Int := if nx ≤ 0 then 19 else nx - 1
theorem H_back (hs : h.2 s = zob 1 [vr w, vi nx, vi sz]) (hw : h.2 w = zar kd 20 ar) (hk : kd = 4 ∨ kd = 5 ∨ kd = 6) (n0 : 0 ≤ nx) (n1 : nx < 20) (z0 : 1 ≤ sz) (z1 : sz ≤ 20) (w1 : isW h (ar (hpr nx).toNat).toNat) (w2 : isW h now) (c1 : cn 82 (wf h (ar (hpr nx).toNat).toNat)) (c2 : cn 82 (wf h now)) (d1 : s ≠ now) (d2 : s ≠ wr h now) (d3 : s ≠ (ar (hpr nx).toNat).toNat) (d4 : s ≠ wr h (ar (hpr nx).toNat).toNat) (d5 : s ≠ w) : cl mX2_goBack [vr s, vr now] h = some (vi (sz - 1), zup (wlu (wst h now (wf h (ar (hpr nx).toNat).toNat)) now (-1)) s (zob 1 [vr w, vi (hpr nx), vi (sz - 1)])) := by
  have pb : 0 ≤ hpr nx ∧ hpr nx < 20 := by unfold hpr; split <;> omega
  have fin : rn mX2_goBack 31 [vr s, vr now] [] (zup h s (zob 1 [vr w, vi (hpr nx), vi sz])) = some (vi (sz - 1), zup (wlu (wst h now (wf h (ar (hpr nx).toNat).toNat)) now (-1)) s (zob 1 [vr w, vi (hpr nx), vi (sz - 1)])) := by
    have s1 : (zup h s (zob 1 [vr w, vi (hpr nx), vi sz])).2 s = zob 1 [vr w, vi (hpr nx), vi sz] := zup_s
    have a1 : (zup h s (zob 1 [vr w, vi (hpr nx), vi sz])).2 w = zar kd 20 ar := by rw [zup_n (Ne.symm d5)]; exact hw
    generalize hb : (ar (hpr nx).toNat).toNat = b at *
    obtain ⟨v1, v2, v3, v4⟩ := isW_off (c := zob 1 [vr w, vi (hpr nx), vi sz]) w1 (Ne.symm d3) (Ne.symm d4)
    obtain ⟨u1, u2, u3, u4⟩ := isW_off (c := zob 1 [vr w, vi (hpr nx), vi sz]) w2 (Ne.symm d1) (Ne.symm d2)
    have C := w_copyC u1 v1 (by rw [u4]; exact c2) (by rw [v4]; exact c1)
    rw [v4, ← zup_wst w2 (Ne.symm d1) (Ne.symm d2), ← zup_wlu (isW_st w2) (Ne.symm d1) (by rw [wr_st w2]; exact Ne.symm d2)] at C
    have s2 : (zup (wlu (wst h now (wf h b)) now (-1)) s (zob 1 [vr w, vi (hpr nx), vi sz])).2 s = zob 1 [vr w, vi (hpr nx), vi sz] := zup_s
    have e2 : i32 (sz - 1) = sz - 1 := i32_of (by omega) (by omega)
    have zz : ∀ x y, zup (zup (wlu (wst h now (wf h b)) now (-1)) s x) s y = zup (wlu (wst h now (wf h b)) now (-1)) s y := fun x y => zup_zup
    generalize wlu (wst h now (wf h b)) now (-1) = K at *
    have s3 : (zup K s (zob 1 [vr w, vi (hpr nx), vi (sz - 1)])).2 s = zob 1 [vr w, vi (hpr nx), vi (sz - 1)] := zup_s
    generalize hH : zup h s (zob 1 [vr w, vi (hpr nx), vi sz]) = H at *
    have pz : ∀ {Kk : zC → Option (zV × zH)}, pfv ((zup K s (zob 1 [vr w, vi (hpr nx), vi sz])).2 s) 1 2 (vi (sz - 1)) Kk = Kk (zob 1 [vr w, vi (hpr nx), vi (sz - 1)]) := fun {Kk} => pfv_at s2 (by simp)
    simp (disch := first | omega | assumption | simp) only [eX2_goBack, sX2_goBack_0, sX2_goBack_1, sX2_goBack_4, sX2_goBack_7, sX2_goBack_8, sX2_goBack_9, sX2_goBack_10, sX2_goBack_11, sX2_goBack_14, sX2_goBack_17, sX2_goBack_18, sX2_goBack_21, sX2_goBack_22, sX2_goBack_23, sX2_goBack_26, sX2_goBack_28, sX2_goBack_31, sX2_goBack_32, sX2_goBack_33, sX2_goBack_36, sX2_goBack_37, sX2_goBack_40, sX2_goBack_41, sX2_goBack_44, sX2_goBack_45, sX2_goBack_46, sX2_goBack_49, sX2_goBack_50, sX2_goBack_51, sX2_goBack_54, sX2_goBack_55, sX2_goBack_58, ↓gfr_at (k := 0) s1 rfl, ↓gfi_at (k := 1) s1 rfl, ↓gea_at a1, hb, ↓isW_cell u1, ↓bndv_at C, ↓gfi_at (k := 2) s2 rfl, e2, ↓pz, zz, ↓gfi_at (k := 2) s3 rfl]
  have zn : ¬ sz = 0 := by omega
  by_cases q : nx ≤ 0
  · have e : hpr nx = 19 := if_pos q
    rw [← fin, e]
    simp (disch := first | omega | assumption | simp) only [eX2_goBack, sX2_goBack_0, sX2_goBack_1, sX2_goBack_4, sX2_goBack_7, sX2_goBack_8, sX2_goBack_9, sX2_goBack_10, sX2_goBack_11, sX2_goBack_14, sX2_goBack_17, sX2_goBack_18, sX2_goBack_21, sX2_goBack_22, sX2_goBack_23, sX2_goBack_26, sX2_goBack_28, sX2_goBack_32, sX2_goBack_33, sX2_goBack_36, sX2_goBack_37, sX2_goBack_40, sX2_goBack_41, sX2_goBack_44, sX2_goBack_45, sX2_goBack_46, sX2_goBack_49, sX2_goBack_50, sX2_goBack_51, sX2_goBack_54, sX2_goBack_55, sX2_goBack_58, ↓gfi_at (k := 2) hs rfl, ↓gfi_at (k := 1) hs rfl, zn, not_false_eq_true, ↓if_pos, ↓if_neg, ↓pfv_at hs]
    rfl
  · have e : hpr nx = nx - 1 := if_neg q
    have e1 : i32 (nx - 1) = nx - 1 := i32_of (by omega) (by omega)
    rw [← fin, e]
    simp (disch := first | omega | assumption | simp) only [eX2_goBack, sX2_goBack_0, sX2_goBack_1, sX2_goBack_4, sX2_goBack_7, sX2_goBack_8, sX2_goBack_9, sX2_goBack_10, sX2_goBack_11, sX2_goBack_14, sX2_goBack_17, sX2_goBack_18, sX2_goBack_21, sX2_goBack_22, sX2_goBack_23, sX2_goBack_26, sX2_goBack_28, sX2_goBack_32, sX2_goBack_33, sX2_goBack_36, sX2_goBack_37, sX2_goBack_40, sX2_goBack_41, sX2_goBack_44, sX2_goBack_45, sX2_goBack_46, sX2_goBack_49, sX2_goBack_50, sX2_goBack_51, sX2_goBack_54, sX2_goBack_55, sX2_goBack_58, ↓gfi_at (k := 2) hs rfl, ↓gfi_at (k := 1) hs rfl, zn, not_false_eq_true, ↓if_pos, ↓if_neg, e1, ↓pfv_at hs]
    rfl
end HI
