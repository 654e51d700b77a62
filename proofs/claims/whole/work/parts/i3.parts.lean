/-! the class's history and images, made -/
section CI3
variable {h : zH} {c0 : zC}
theorem u_5 {n1 n2 n3 n4 n5 : Nat} {c e c2 c3 c4 c5 : zC} : zup (zpu (zpu (zpu (zpu (zpu h n1 (c)) n2 c2) n3 c3) n4 c4) n5 c5) (h.1.1 + 1) e = zpu (zpu (zpu (zpu (zpu h n1 (e)) n2 c2) n3 c3) n4 c4) n5 c5 := by rw [zup_pu (by simp only [zpu_1]; omega), u_4]
theorem pfv_5 {n1 n2 n3 n4 n5 ci k : Nat} {fs : List zV} {v : zV} {c2 c3 c4 c5 : zC} {K : zC → Option (zV × zH)} (hk : k < fs.length) : pfv ((zpu (zpu (zpu (zpu (zpu h n1 (zob ci fs)) n2 c2) n3 c3) n4 c4) n5 c5).2 (h.1.1 + 1)) ci k v K = K (zob ci (fs.set k v)) := by rw [zpu_n (by simp only [zpu_1]; omega)]; exact pfv_4 hk
theorem u_6 {n1 n2 n3 n4 n5 n6 : Nat} {c e c2 c3 c4 c5 c6 : zC} : zup (zpu (zpu (zpu (zpu (zpu (zpu h n1 (c)) n2 c2) n3 c3) n4 c4) n5 c5) n6 c6) (h.1.1 + 1) e = zpu (zpu (zpu (zpu (zpu (zpu h n1 (e)) n2 c2) n3 c3) n4 c4) n5 c5) n6 c6 := by rw [zup_pu (by simp only [zpu_1]; omega), u_5]
theorem pfv_6 {n1 n2 n3 n4 n5 n6 ci k : Nat} {fs : List zV} {v : zV} {c2 c3 c4 c5 c6 : zC} {K : zC → Option (zV × zH)} (hk : k < fs.length) : pfv ((zpu (zpu (zpu (zpu (zpu (zpu h n1 (zob ci fs)) n2 c2) n3 c3) n4 c4) n5 c5) n6 c6).2 (h.1.1 + 1)) ci k v K = K (zob ci (fs.set k v)) := by rw [zpu_n (by simp only [zpu_1]; omega)]; exact pfv_5 hk
theorem u_7 {n1 n2 n3 n4 n5 n6 n7 : Nat} {c e c2 c3 c4 c5 c6 c7 : zC} : zup (zpu (zpu (zpu (zpu (zpu (zpu (zpu h n1 (c)) n2 c2) n3 c3) n4 c4) n5 c5) n6 c6) n7 c7) (h.1.1 + 1) e = zpu (zpu (zpu (zpu (zpu (zpu (zpu h n1 (e)) n2 c2) n3 c3) n4 c4) n5 c5) n6 c6) n7 c7 := by rw [zup_pu (by simp only [zpu_1]; omega), u_6]
theorem pfv_7 {n1 n2 n3 n4 n5 n6 n7 ci k : Nat} {fs : List zV} {v : zV} {c2 c3 c4 c5 c6 c7 : zC} {K : zC → Option (zV × zH)} (hk : k < fs.length) : pfv ((zpu (zpu (zpu (zpu (zpu (zpu (zpu h n1 (zob ci fs)) n2 c2) n3 c3) n4 c4) n5 c5) n6 c6) n7 c7).2 (h.1.1 + 1)) ci k v K = K (zob ci (fs.set k v)) := by rw [zpu_n (by simp only [zpu_1]; omega)]; exact pfv_6 hk
theorem u_8 {n1 n2 n3 n4 n5 n6 n7 n8 : Nat} {c e c2 c3 c4 c5 c6 c7 c8 : zC} : zup (zpu (zpu (zpu (zpu (zpu (zpu (zpu (zpu h n1 (c)) n2 c2) n3 c3) n4 c4) n5 c5) n6 c6) n7 c7) n8 c8) (h.1.1 + 1) e = zpu (zpu (zpu (zpu (zpu (zpu (zpu (zpu h n1 (e)) n2 c2) n3 c3) n4 c4) n5 c5) n6 c6) n7 c7) n8 c8 := by rw [zup_pu (by simp only [zpu_1]; omega), u_7]
theorem pfv_8 {n1 n2 n3 n4 n5 n6 n7 n8 ci k : Nat} {fs : List zV} {v : zV} {c2 c3 c4 c5 c6 c7 c8 : zC} {K : zC → Option (zV × zH)} (hk : k < fs.length) : pfv ((zpu (zpu (zpu (zpu (zpu (zpu (zpu (zpu h n1 (zob ci fs)) n2 c2) n3 c3) n4 c4) n5 c5) n6 c6) n7 c7) n8 c8).2 (h.1.1 + 1)) ci k v K = K (zob ci (fs.set k v)) := by rw [zpu_n (by simp only [zpu_1]; omega)]; exact pfv_7 hk
theorem u_9 {n1 n2 n3 n4 n5 n6 n7 n8 n9 : Nat} {c e c2 c3 c4 c5 c6 c7 c8 c9 : zC} : zup (zpu (zpu (zpu (zpu (zpu (zpu (zpu (zpu (zpu h n1 (c)) n2 c2) n3 c3) n4 c4) n5 c5) n6 c6) n7 c7) n8 c8) n9 c9) (h.1.1 + 1) e = zpu (zpu (zpu (zpu (zpu (zpu (zpu (zpu (zpu h n1 (e)) n2 c2) n3 c3) n4 c4) n5 c5) n6 c6) n7 c7) n8 c8) n9 c9 := by rw [zup_pu (by simp only [zpu_1]; omega), u_8]
theorem pfv_9 {n1 n2 n3 n4 n5 n6 n7 n8 n9 ci k : Nat} {fs : List zV} {v : zV} {c2 c3 c4 c5 c6 c7 c8 c9 : zC} {K : zC → Option (zV × zH)} (hk : k < fs.length) : pfv ((zpu (zpu (zpu (zpu (zpu (zpu (zpu (zpu (zpu h n1 (zob ci fs)) n2 c2) n3 c3) n4 c4) n5 c5) n6 c6) n7 c7) n8 c8) n9 c9).2 (h.1.1 + 1)) ci k v K = K (zob ci (fs.set k v)) := by rw [zpu_n (by simp only [zpu_1]; omega)]; exact pfv_8 hk
theorem I_new (hh : h.1.1 < 800000000) : cl mX3_init [vr (h.1.1 + 1)] (zpu h 6 (zob 2 [vr 0, vr 0, vr 0, vi 0, vi 0, vi 0])) = some (vn, zpu (zpu (zpu (zpu (zpu (zpu (zpu (zpu (zpu h 6 (zob 2 [vr (h.1.1 + 2), vr (h.1.1 + 4), vr (h.1.1 + 6), vi 0, vi (-1), vi 0])) 2 (zob 8 [vr (h.1.1 + 3), vi (-1)])) 82 (zar 1 82 (fun _ => 0))) 2 (zob 8 [vr (h.1.1 + 5), vi (-1)])) 82 (zar 1 82 (fun _ => 0))) 4 (zob 3 [vr (h.1.1 + 7), vr (h.1.1 + 8), vr (h.1.1 + 9), vi 0])) 10 (zar 1 10 (fun _ => 0))) 10 (zar 1 10 (fun _ => 0))) 10 (zar 1 10 (fun _ => 0))) := by
  have w1 := fun (o : zC) => W_new (h := zpu h 6 o) (by simp only [zpu_1]; omega)
  have w2 := fun (o a b : zC) => W_new (h := zpu (zpu (zpu h 6 o) 2 a) 82 b) (by simp only [zpu_1]; omega)
  have w3 := fun (o a b c d : zC) => N_new (h := zpu (zpu (zpu (zpu (zpu h 6 o) 2 a) 82 b) 2 c) 82 d) (by simp only [zpu_1]; omega)
  simp only [zpu_1] at w1 w2 w3
  have d8 : zDf 8 = [vr 0, vi 0] := rfl
  have d3 : zDf 3 = [vr 0, vr 0, vr 0, vi 0] := rfl
  simp (disch := first | omega | exact of_decide_eq_true rfl) only [eX3_init, sX3_init_0, sX3_init_1, sX3_init_4, sX3_init_5, sX3_init_8, sX3_init_9, sX3_init_12, sX3_init_15, sX3_init_16, sX3_init_19, sX3_init_20, sX3_init_23, sX3_init_26, sX3_init_27, sX3_init_30, sX3_init_31, sX3_init_34, sX3_init_37, sX3_init_38, sX3_init_39, sX3_init_42, sX3_init_43, sX3_init_44, sX3_init_47, sX3_init_48, sX3_init_49, sX3_init_52, d8, d3, ↓if_neg, ↓if_pos, if_pos, zpu_1, ↓bndv_at (w1 _), ↓bndv_at (w2 _ _ _), ↓bndv_at (w3 _ _ _ _ _), ↓pfv_3, ↓pfv_5, ↓pfv_9, u_3, u_5, u_9, List.set]
theorem H_new1 (hh : h.1.1 < 900000000) : cl mX2_init [vr (h.1.1 + 1)] (zpu h 3 (zob 1 [vr 0, vi 0, vi 0])) = rn mX2_init 25 [vr (h.1.1 + 1), vi 0] [] (zpu (zpu h 3 (zob 1 [vr (h.1.1 + 2), vi 0, vi 0])) 20 (zar 6 20 (fun _ => 0))) := by
  have e : (20 : Int).toNat = 20 := rfl
  simp (disch := first | omega | exact of_decide_eq_true rfl) only [eX2_init, sX2_init_0, sX2_init_1, sX2_init_4, sX2_init_5, sX2_init_7, sX2_init_10, sX2_init_13, sX2_init_14, sX2_init_15, sX2_init_18, sX2_init_19, sX2_init_20, sX2_init_23, sX2_init_24, sX2_init_26, sX2_init_28, sX2_init_31, sX2_init_32, sX2_init_35, sX2_init_36, sX2_init_39, sX2_init_40, sX2_init_43, sX2_init_44, sX2_init_47, sX2_init_50, ↓if_neg, ↓if_pos, if_pos, zpu_1, e, ↓pfv_2, u_2, List.set]
theorem sea_w {h : zH} {a v n : Nat} {z : Int} {K : zC → Option (zV × zH)} {fs : List zV} {g : Nat → Int} (h9 : h.2 a = zar 6 n g) (hv : h.2 v = zob 8 fs) (z0 : 0 ≤ z) (z1 : z < (n : Int)) : sea h a z v K = K (zar 6 n (fup g z.toNat (v : Int))) := by
  unfold sea
  rw [h9, hv]
  simp [zis, zst, odx, z0, z1]
theorem sea_i {h : zH} {a v n : Nat} {z : Int} {K : zC → Option (zV × zH)} {fs : List zV} {g : Nat → Int} (h9 : h.2 a = zar 4 n g) (hv : h.2 v = zob 2 fs) (z0 : 0 ≤ z) (z1 : z < (n : Int)) : sea h a z v K = K (zar 4 n (fup g z.toNat (v : Int))) := by
  unfold sea
  rw [h9, hv]
  simp [zis, zst, odx, z0, z1]
theorem HQ_c {k s j : Nat} (hj : j ≤ k) : (HQ k s c0).2 j = hc (e0 c0) j (fun _ => 0) (f0 j) := if_pos (Or.inl hj)
theorem any_1 {k s n x : Nat} {o c : zC} (hx : x ≠ k + 1) (hk : k + 1 < 127) : zpu (zup (HQ k s c0) x o) n c = zup (zup (HQ (k + 1) (s + n) c0) x o) (k + 1) c := by
  rw [← zup_pu (h := HQ k s c0) hx, HQ_any hk, zup_comm (fun q => hx q.symm)]
theorem hcW {k : Nat} (hk : k < 20) : hc (e0 c0) (22 + 2 * k) (fun _ => 0) (f0 (22 + 2 * k)) = zob 8 [vr (23 + 2 * k), vi (-1)] := by
  unfold hc
  rw [if_neg (by omega), if_pos (by omega), if_pos (by omega), show 22 + 2 * k + 1 = 23 + 2 * k by omega]
  unfold f0
  rw [if_pos (by omega)]
theorem hcR {k : Nat} (hk : k < 20) : hc (e0 c0) (23 + 2 * k) (fun _ => 0) (f0 (23 + 2 * k)) = zar 1 82 (fun _ => 0) := by
  unfold hc
  rw [if_neg (by omega), if_pos (by omega), if_neg (by omega)]
def wk (k : Nat) : Nat → Int := fun i => if i < k then 22 + 2 * (i : Int) else 0
theorem wk_s {k : Nat} : fup (wk k) k ((22 + 2 * k : Nat) : Int) = wk (k + 1) := by
  funext i
  unfold wk
  by_cases q : i = k
  · rw [q, fup_s, if_pos (by omega)]; omega
  · rw [fup_n q]
    by_cases q2' : i < k
    · rw [if_pos q2', if_pos (by omega)]
    · rw [if_neg q2', if_neg (by omega)]
theorem H_loop {o : zC} : ∀ (m k s : Nat), k + m = 20 → rn mX2_init 25 [vr 20, vi (k : Int)] [] (zup (zup (HQ (21 + 2 * k) s c0) 1 o) 21 (zar 6 20 (wk k))) = some (vn, zup (zup (HQ 61 (s + 84 * m) c0) 1 o) 21 (zar 6 20 (wk 20))) := by
  intro m
  induction m with
  | zero =>
    intro k s hk
    have : k = 20 := by omega
    subst this
    rw [sX2_init_25]
    simp (disch := omega) only [eX2_init, sX2_init_0, sX2_init_1, sX2_init_4, sX2_init_5, sX2_init_7, sX2_init_10, sX2_init_13, sX2_init_14, sX2_init_15, sX2_init_18, sX2_init_19, sX2_init_20, sX2_init_23, sX2_init_24, sX2_init_26, sX2_init_28, sX2_init_31, sX2_init_32, sX2_init_35, sX2_init_36, sX2_init_39, sX2_init_40, sX2_init_43, sX2_init_44, sX2_init_47, sX2_init_50, ↓if_pos]
    rfl
  | succ m ih =>
    intro k s hk
    have i := ih (k + 1) (s + 2 + 82) (by omega)
    generalize hH : zup (zup (HQ (21 + 2 * k) s c0) 1 o) 21 (zar 6 20 (wk k)) = H
    have b1 : H.1.1 = 21 + 2 * k := by rw [← hH]; rfl
    have c20 : H.2 20 = zob 1 [vr 21, vi 0, vi 0] := by rw [← hH, zup_n (by omega), zup_n (by omega), HQ_c (by omega)]; rfl
    have wn := W_new (h := H) (by omega)
    rw [b1] at wn
    have e1 : zpu (zpu H 2 (zob 8 [vr (21 + 2 * k + 2), vi (-1)])) 82 (zar 1 82 (fun _ => 0)) = zup (zup (HQ (21 + 2 * (k + 1)) (s + 2 + 82) c0) 1 o) 21 (zar 6 20 (wk k)) := by
      rw [← hH, pu_2 (k := 21 + 2 * k) (by omega) (by omega) (by omega) (by rw [show 21 + 2 * k + 1 = 22 + 2 * k by omega, hcW (by omega), show 21 + 2 * k + 2 = 23 + 2 * k by omega]), pu_2 (k := 21 + 2 * k + 1) (by omega) (by omega) (by omega) (by rw [show 21 + 2 * k + 1 + 1 = 23 + 2 * k by omega, hcR (by omega)]), show 21 + 2 * k + 1 + 1 = 21 + 2 * (k + 1) by omega]
    rw [e1] at wn
    have s9 : (zup (zup (HQ (21 + 2 * (k + 1)) (s + 2 + 82) c0) 1 o) 21 (zar 6 20 (wk k))).2 21 = zar 6 20 (wk k) := zup_s
    have sv : (zup (zup (HQ (21 + 2 * (k + 1)) (s + 2 + 82) c0) 1 o) 21 (zar 6 20 (wk k))).2 (21 + 2 * k + 1) = zob 8 [vr (23 + 2 * k), vi (-1)] := by
      rw [zup_n (by omega), zup_n (by omega), HQ_c (by omega), show 21 + 2 * k + 1 = 22 + 2 * k by omega, hcW (by omega)]
    have se := fun (K : zC → Option (zV × zH)) => sea_w (K := K) (z := (k : Int)) s9 sv (by omega) (by omega)
    rw [Int.toNat_natCast, show 21 + 2 * k + 1 = 22 + 2 * k by omega, wk_s] at se
    rw [show 21 + 2 * k + 1 = 22 + 2 * k by omega] at wn
    have d8 : zDf 8 = [vr 0, vi 0] := rfl
    have n1 : 21 + 2 * k + 1 = 22 + 2 * k := by omega
    have is : i32 ((k : Int) + 1) = ((k + 1 : Nat) : Int) := i32_s k (by omega)
    rw [← zup_zup (c := zar 6 20 (wk k))] at i
    rw [show s + 84 * (m + 1) = s + 2 + 82 + 84 * m by omega, ← i, sX2_init_25]
    generalize zup (zup (HQ (21 + 2 * (k + 1)) (s + 2 + 82) c0) 1 o) 21 (zar 6 20 (wk k)) = H2 at *
    simp (disch := omega) only [eX2_init, sX2_init_0, sX2_init_1, sX2_init_4, sX2_init_5, sX2_init_7, sX2_init_10, sX2_init_13, sX2_init_14, sX2_init_15, sX2_init_18, sX2_init_19, sX2_init_20, sX2_init_23, sX2_init_24, sX2_init_26, sX2_init_28, sX2_init_31, sX2_init_32, sX2_init_35, sX2_init_36, sX2_init_39, sX2_init_40, sX2_init_43, sX2_init_44, sX2_init_47, sX2_init_50, ↓if_neg, ↓if_pos, if_pos, ↓gfr_at (k := 0) c20 rfl, d8, b1, n1, ↓bndv_at wn, ↓se, is]
end CI3
