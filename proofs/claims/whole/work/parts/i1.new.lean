/-! constructors of the class's parts -/
section CN
variable {h : zH}
theorem zup_pu {n x : Nat} {c e : zC} (hx : x ≠ h.1.1 + 1) : zup (zpu h n c) x e = zpu (zup h x e) n c := by
  refine Prod.ext rfl ?_
  funext j
  show (if j = x then e else if j = h.1.1 + 1 then c else h.2 j) = (if j = h.1.1 + 1 then c else if j = x then e else h.2 j)
  by_cases q : j = x
  · rw [if_pos q, if_neg (by omega), if_pos q]
  · rw [if_neg q, if_neg q]
theorem zup_pt {n x : Nat} {c e : zC} (hx : x = h.1.1 + 1) : zup (zpu h n c) x e = zpu h n e := by
  refine Prod.ext rfl ?_
  funext j
  show (if j = x then e else if j = h.1.1 + 1 then c else h.2 j) = (if j = h.1.1 + 1 then e else h.2 j)
  by_cases q : j = x
  · rw [if_pos q, if_pos (by omega)]
  · rw [if_neg q, if_neg (by omega), if_neg (by omega)]
theorem zpu_1 {n : Nat} {c : zC} : (zpu h n c).1.1 = h.1.1 + 1 := rfl
theorem zpu_t {n : Nat} {c : zC} : (zpu h n c).2 (h.1.1 + 1) = c := if_pos rfl
theorem pfv_1 {n : Nat} {ci k : Nat} {fs : List zV} {v : zV} {K : zC → Option (zV × zH)} (hk : k < fs.length) : pfv ((zpu h n (zob ci fs)).2 (h.1.1 + 1)) ci k v K = K (zob ci (fs.set k v)) := by rw [zpu_t]; exact pfv_k hk
theorem pfv_2 {n m : Nat} {ci k : Nat} {fs : List zV} {v : zV} {c : zC} {K : zC → Option (zV × zH)} (hk : k < fs.length) : pfv ((zpu (zpu h n (zob ci fs)) m c).2 (h.1.1 + 1)) ci k v K = K (zob ci (fs.set k v)) := by
  rw [zpu_n (by rw [zpu_1]; omega), zpu_t]; exact pfv_k hk
theorem u_1 {n : Nat} {c e : zC} : zup (zpu h n c) (h.1.1 + 1) e = zpu h n e := zup_pt rfl
theorem u_2 {n m : Nat} {c d e : zC} : zup (zpu (zpu h n c) m d) (h.1.1 + 1) e = zpu (zpu h n e) m d := by rw [zup_pu (by rw [zpu_1]; omega), zup_pt rfl]
theorem u_3 {n m l : Nat} {c d e f : zC} : zup (zpu (zpu (zpu h n c) m d) l f) (h.1.1 + 1) e = zpu (zpu (zpu h n e) m d) l f := by rw [zup_pu (by rw [zpu_1, zpu_1]; omega), u_2]
theorem pfv_3 {n m l : Nat} {ci k : Nat} {fs : List zV} {v : zV} {c d : zC} {K : zC → Option (zV × zH)} (hk : k < fs.length) : pfv ((zpu (zpu (zpu h n (zob ci fs)) m c) l d).2 (h.1.1 + 1)) ci k v K = K (zob ci (fs.set k v)) := by
  rw [zpu_n (by rw [zpu_1, zpu_1]; omega), zpu_n (by rw [zpu_1]; omega), zpu_t]; exact pfv_k hk
theorem u_4 {n m l o : Nat} {c d e f g : zC} : zup (zpu (zpu (zpu (zpu h n c) m d) l f) o g) (h.1.1 + 1) e = zpu (zpu (zpu (zpu h n e) m d) l f) o g := by rw [zup_pu (by rw [zpu_1, zpu_1, zpu_1]; omega), u_3]
theorem pfv_4 {n m l o : Nat} {ci k : Nat} {fs : List zV} {v : zV} {c d g : zC} {K : zC → Option (zV × zH)} (hk : k < fs.length) : pfv ((zpu (zpu (zpu (zpu h n (zob ci fs)) m c) l d) o g).2 (h.1.1 + 1)) ci k v K = K (zob ci (fs.set k v)) := by
  rw [zpu_n (by rw [zpu_1, zpu_1, zpu_1]; omega), zpu_n (by rw [zpu_1, zpu_1]; omega), zpu_n (by rw [zpu_1]; omega), zpu_t]; exact pfv_k hk
theorem D_new (hh : h.1.1 < 900000000) : cl mX0_init [vr (h.1.1 + 1)] (zpu h 1 (zob 0 [vl 0])) = some (vn, zpu h 1 (zob 0 [vl 0])) := by
  simp (disch := first | omega | exact of_decide_eq_true rfl) only [eX0_init, sX0_init_0, sX0_init_1, sX0_init_4, sX0_init_5, sX0_init_6, sX0_init_9, ↓if_neg, ↓pfv_1, u_1, List.set]
theorem W_new (hh : h.1.1 < 900000000) : cl mX9_init [vr (h.1.1 + 1)] (zpu h 2 (zob 8 [vr 0, vi 0])) = some (vn, zpu (zpu h 2 (zob 8 [vr (h.1.1 + 2), vi (-1)])) 82 (zar 1 82 (fun _ => 0))) := by
  have e : (82 : Int).toNat = 82 := rfl
  simp (disch := first | omega | exact of_decide_eq_true rfl) only [eX9_init, sX9_init_0, sX9_init_1, sX9_init_4, sX9_init_5, sX9_init_7, sX9_init_9, sX9_init_12, sX9_init_13, sX9_init_14, sX9_init_17, ↓if_neg, ↓if_pos, zpu_1, e, ↓pfv_2, u_2, List.set]
theorem S_new (hh : h.1.1 < 900000000) : cl mX7_init [vr (h.1.1 + 1)] (zpu h 1 (zob 6 [vr 0])) = some (vn, zpu (zpu h 1 (zob 6 [vr (h.1.1 + 2)])) 3 (zar 1 3 (fun _ => 0))) := by
  have e : (3 : Int).toNat = 3 := rfl
  simp (disch := first | omega | exact of_decide_eq_true rfl) only [eX7_init, sX7_init_0, sX7_init_1, sX7_init_4, sX7_init_5, sX7_init_6, sX7_init_8, sX7_init_11, ↓if_neg, ↓if_pos, zpu_1, e, ↓pfv_2, u_2, List.set]
theorem T_new (hh : h.1.1 < 900000000) : cl mX8_init [vr (h.1.1 + 1)] (zpu h 6 (zob 7 [vr 0, vi 0, vi 0, vi 0, vi 0, vi 0])) = some (vn, zpu (zpu h 6 (zob 7 [vr (h.1.1 + 2), vi 0, vi 0, vi 0, vi (-1), vi 0])) 400 (zar 1 400 (fun _ => 0))) := by
  have e : (400 : Int).toNat = 400 := rfl
  simp (disch := first | omega | exact of_decide_eq_true rfl) only [eX8_init, sX8_init_0, sX8_init_1, sX8_init_4, sX8_init_5, sX8_init_8, sX8_init_10, sX8_init_13, sX8_init_14, sX8_init_15, sX8_init_18, sX8_init_19, sX8_init_20, sX8_init_23, sX8_init_24, sX8_init_25, sX8_init_28, sX8_init_29, sX8_init_30, sX8_init_33, sX8_init_34, sX8_init_35, sX8_init_38, ↓if_neg, ↓if_pos, zpu_1, e, ↓pfv_2, u_2, List.set]
theorem Q_new (hh : h.1.1 < 900000000) : cl mX6_init [vr (h.1.1 + 1)] (zpu h 11 (zob 5 [vr 0, vi 0, vr 0, vi 0, vi 0, vi 0, vi 0, vi 0, vi 0, vi 0, vi 0])) = some (vn, zpu (zpu (zpu h 11 (zob 5 [vr (h.1.1 + 2), vi 0, vr (h.1.1 + 3), vi 0, vi 0, vi 0, vi 0, vi 0, vi 0, vi 0, vi 0])) 400 (zar 1 400 (fun _ => 0))) 400 (zar 1 400 (fun _ => 0))) := by
  have e : (400 : Int).toNat = 400 := rfl
  simp (disch := first | omega | exact of_decide_eq_true rfl) only [eX6_init, sX6_init_0, sX6_init_1, sX6_init_4, sX6_init_5, sX6_init_8, sX6_init_10, sX6_init_13, sX6_init_14, sX6_init_15, sX6_init_18, sX6_init_19, sX6_init_22, sX6_init_24, sX6_init_27, sX6_init_28, sX6_init_29, sX6_init_32, sX6_init_33, sX6_init_34, sX6_init_37, sX6_init_38, sX6_init_39, sX6_init_42, sX6_init_43, sX6_init_44, sX6_init_47, sX6_init_48, sX6_init_49, sX6_init_52, sX6_init_53, sX6_init_54, sX6_init_57, sX6_init_58, sX6_init_59, sX6_init_62, sX6_init_63, sX6_init_64, sX6_init_67, ↓if_neg, ↓if_pos, zpu_1, e, ↓pfv_2, ↓pfv_3, u_2, u_3, List.set]
theorem N_new (hh : h.1.1 < 900000000) : cl mX4_init [vr (h.1.1 + 1)] (zpu h 4 (zob 3 [vr 0, vr 0, vr 0, vi 0])) = some (vn, zpu (zpu (zpu (zpu h 4 (zob 3 [vr (h.1.1 + 2), vr (h.1.1 + 3), vr (h.1.1 + 4), vi 0])) 10 (zar 1 10 (fun _ => 0))) 10 (zar 1 10 (fun _ => 0))) 10 (zar 1 10 (fun _ => 0))) := by
  have e : (10 : Int).toNat = 10 := rfl
  simp (disch := first | omega | exact of_decide_eq_true rfl) only [eX4_init, sX4_init_0, sX4_init_1, sX4_init_4, sX4_init_5, sX4_init_7, sX4_init_9, sX4_init_12, sX4_init_13, sX4_init_15, sX4_init_17, sX4_init_20, sX4_init_21, sX4_init_23, sX4_init_25, sX4_init_28, sX4_init_29, sX4_init_30, sX4_init_33, ↓if_neg, ↓if_pos, zpu_1, e, ↓pfv_2, ↓pfv_3, ↓pfv_4, u_2, u_3, u_4, List.set]
end CN
