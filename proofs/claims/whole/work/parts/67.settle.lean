/-! RuleReader.settle -/
def stl (wt : Nat → Int) (rk : Int) : Nat → (Nat → Int) × (Nat → Int) → (Nat → Int) × (Nat → Int)
  | 0, x => x
  | n + 1, x => if rkf (wt n) < rk then x else stl wt rk n (fup x.1 (x.2 1).toNat (wt n), fup (fup (fup x.2 3 (n : Int)) 7 (x.2 7 - (if wt n = 22 then 1 else 0))) 1 (x.2 1 + 1))
section SE
variable {h : zH} {r o w : Nat} {wt : Nat → Int} {rk : Int}
theorem Q_settle_l (d1 : o ≠ r) (d2 : o ≠ w) (d3 : w ≠ r) : ∀ (n : Nat) (od V : Nat → Int), V 3 = (n : Int) → n ≤ 400 → (∀ j, j < n → 0 ≤ wt j ∧ wt j ≤ 100) → 0 ≤ V 1 → V 1 + n ≤ 400 → (n : Int) ≤ V 7 + 1000 → V 7 ≤ 1000 → rn mX6_settle 0 [vr r, vi rk] [] (rrs h r o w od wt V) = some (vn, rrs h r o w (stl wt rk n (od, V)).1 wt (stl wt rk n (od, V)).2) := by
  intro n
  induction n with
  | zero =>
    intro od V e3 hn hw h0 h1 h7 h8
    have q : V 3 ≤ 0 := by omega
    rw [sX6_settle_0]
    simp only [eX6_settle, sX6_settle_1, sX6_settle_4, sX6_settle_7, sX6_settle_8, sX6_settle_11, sX6_settle_12, sX6_settle_15, sX6_settle_16, sX6_settle_19, sX6_settle_20, sX6_settle_23, sX6_settle_24, sX6_settle_27, sX6_settle_28, sX6_settle_29, sX6_settle_30, sX6_settle_33, sX6_settle_34, sX6_settle_37, sX6_settle_38, sX6_settle_39, sX6_settle_42, sX6_settle_43, sX6_settle_44, sX6_settle_47, sX6_settle_48, sX6_settle_49, sX6_settle_52, sX6_settle_53, sX6_settle_56, sX6_settle_57, sX6_settle_60, sX6_settle_61, sX6_settle_63, sX6_settle_66, sX6_settle_67, sX6_settle_70, sX6_settle_71, sX6_settle_72, sX6_settle_75, sX6_settle_76, sX6_settle_77, sX6_settle_80, sX6_settle_81, sX6_settle_84, sX6_settle_85, sX6_settle_88, sX6_settle_91, ↓r_3, ↓if_pos q, stl]
  | succ n ih =>
    intro od V e3 hn hw h0 h1 h7 h8
    have q : ¬ V 3 ≤ 0 := by omega
    have q2 : ¬ ((400 : Nat) : Int) < V 3 := by omega
    have wb := hw n (by omega)
    have e4 : i32 (V 3 - 1) = (n : Int) := by rw [i32_of (by omega) (by omega)]; omega
    have t1 := r_t (h := h) (o := o) (od := od) (wt := wt) (V := V) d3
    have t2 := r_t (h := h) (o := o) (od := od) (wt := wt) (V := fup V 3 (n : Int)) d3
    have RK := Q_rank (h := rrs h r o w od wt V) (o := wt n) wb.1 wb.2
    have en : Int.toNat (n : Int) = n := Int.toNat_natCast n
    rw [sX6_settle_0, stl]
    by_cases g : rkf (wt n) < rk
    · rw [if_pos g]
      simp (disch := omega) only [eX6_settle, sX6_settle_1, sX6_settle_4, sX6_settle_7, sX6_settle_8, sX6_settle_11, sX6_settle_12, sX6_settle_15, sX6_settle_16, sX6_settle_19, sX6_settle_20, sX6_settle_23, sX6_settle_24, sX6_settle_27, sX6_settle_28, sX6_settle_29, sX6_settle_30, sX6_settle_33, sX6_settle_34, sX6_settle_37, sX6_settle_38, sX6_settle_39, sX6_settle_42, sX6_settle_43, sX6_settle_44, sX6_settle_47, sX6_settle_48, sX6_settle_49, sX6_settle_52, sX6_settle_53, sX6_settle_56, sX6_settle_57, sX6_settle_60, sX6_settle_61, sX6_settle_63, sX6_settle_66, sX6_settle_67, sX6_settle_70, sX6_settle_71, sX6_settle_72, sX6_settle_75, sX6_settle_76, sX6_settle_77, sX6_settle_80, sX6_settle_81, sX6_settle_84, sX6_settle_85, sX6_settle_88, sX6_settle_91, ↓r_3, ↓if_neg q, ↓r_2, ↓gle_at t1, ↓if_neg q2, e4, ↓gel_at t1, en, ↓bndi_at RK, ↓if_pos g]
    · rw [if_neg g]
      have f37 : fup V 3 (n : Int) 7 = V 7 := fup_n (by omega)
      have f33 : fup V 3 (n : Int) 3 = (n : Int) := fup_s
      have fin : ∀ dd : Int, (if wt n = 22 then 1 else 0) = dd → (0 ≤ dd ∧ dd ≤ 1) → rn mX6_settle 71 [vr r, vi rk] [vi dd, vi (V 7), vr r] (rrs h r o w od wt (fup V 3 (n : Int))) = some (vn, rrs h r o w (stl wt rk n (fup od (V 1).toNat (wt n), fup (fup (fup V 3 (n : Int)) 7 (V 7 - dd)) 1 (V 1 + 1))).1 wt (stl wt rk n (fup od (V 1).toNat (wt n), fup (fup (fup V 3 (n : Int)) 7 (V 7 - dd)) 1 (V 1 + 1))).2) := by
        intro dd _ db
        have e7 : i32 (V 7 - dd) = V 7 - dd := i32_of (by omega) (by omega)
        have t3 := r_t (h := h) (o := o) (od := od) (wt := wt) (V := fup (fup V 3 (n : Int)) 7 (V 7 - dd)) d3
        have g3 : fup (fup V 3 (n : Int)) 7 (V 7 - dd) 3 = (n : Int) := by rw [fup_n (by omega), fup_s]
        have g1 : fup (fup V 3 (n : Int)) 7 (V 7 - dd) 1 = V 1 := by rw [fup_n (by omega), fup_n (by omega)]
        have O := Q_order (h := h) (r := r) (o := o) (w := w) (od := od) (wt := wt) (V := fup (fup V 3 (n : Int)) 7 (V 7 - dd)) (x := wt n) d1 d2 (by rw [g1]; exact h0) (by rw [g1]; omega)
        rw [g1] at O
        have I := ih (fup od (V 1).toNat (wt n)) (fup (fup (fup V 3 (n : Int)) 7 (V 7 - dd)) 1 (V 1 + 1)) (by rw [fup_n (by omega)]; exact g3) (by omega) (fun j hj => hw j (by omega)) (by rw [fup_s]; omega) (by rw [fup_s]; omega) (by rw [fup_n (by omega), fup_s]; omega) (by rw [fup_n (by omega), fup_s]; omega)
        simp (disch := omega) only [eX6_settle, sX6_settle_1, sX6_settle_4, sX6_settle_7, sX6_settle_8, sX6_settle_11, sX6_settle_12, sX6_settle_15, sX6_settle_16, sX6_settle_19, sX6_settle_20, sX6_settle_23, sX6_settle_24, sX6_settle_27, sX6_settle_28, sX6_settle_29, sX6_settle_30, sX6_settle_33, sX6_settle_34, sX6_settle_37, sX6_settle_38, sX6_settle_39, sX6_settle_42, sX6_settle_43, sX6_settle_44, sX6_settle_47, sX6_settle_48, sX6_settle_49, sX6_settle_52, sX6_settle_53, sX6_settle_56, sX6_settle_57, sX6_settle_60, sX6_settle_61, sX6_settle_63, sX6_settle_66, sX6_settle_67, sX6_settle_70, sX6_settle_71, sX6_settle_72, sX6_settle_75, sX6_settle_76, sX6_settle_77, sX6_settle_80, sX6_settle_81, sX6_settle_84, sX6_settle_85, sX6_settle_88, sX6_settle_91, e7, ↓r_w7, r_u, ↓r_2, ↓r_3, g3, ↓gel_at t3, en, ↓r_c, ↓bndv_at O]
        exact I
      by_cases z : wt n = 22
      · have F := fin 1 (if_pos z) (by omega)
        have z' : ¬ ¬ wt n = 22 := fun k => k z
        simp only [if_pos z]
        rw [← F]
        simp (disch := omega) only [eX6_settle, sX6_settle_1, sX6_settle_4, sX6_settle_7, sX6_settle_8, sX6_settle_11, sX6_settle_12, sX6_settle_15, sX6_settle_16, sX6_settle_19, sX6_settle_20, sX6_settle_23, sX6_settle_24, sX6_settle_27, sX6_settle_28, sX6_settle_29, sX6_settle_30, sX6_settle_33, sX6_settle_34, sX6_settle_37, sX6_settle_38, sX6_settle_39, sX6_settle_42, sX6_settle_43, sX6_settle_44, sX6_settle_47, sX6_settle_48, sX6_settle_49, sX6_settle_52, sX6_settle_53, sX6_settle_56, sX6_settle_57, sX6_settle_60, sX6_settle_61, sX6_settle_63, sX6_settle_66, sX6_settle_67, sX6_settle_70, sX6_settle_72, sX6_settle_75, sX6_settle_76, sX6_settle_77, sX6_settle_80, sX6_settle_81, sX6_settle_84, sX6_settle_85, sX6_settle_88, sX6_settle_91, ↓r_3, ↓if_neg q, ↓r_2, ↓gle_at t1, ↓if_neg q2, e4, ↓gel_at t1, en, ↓bndi_at RK, ↓if_neg g, ↓r_w3, r_u, ↓r_7, f37, f33, ↓gel_at t2, ↓if_neg z']
      · have F := fin 0 (if_neg z) (by omega)
        simp only [if_neg z]
        rw [← F]
        simp (disch := omega) only [eX6_settle, sX6_settle_1, sX6_settle_4, sX6_settle_7, sX6_settle_8, sX6_settle_11, sX6_settle_12, sX6_settle_15, sX6_settle_16, sX6_settle_19, sX6_settle_20, sX6_settle_23, sX6_settle_24, sX6_settle_27, sX6_settle_28, sX6_settle_29, sX6_settle_30, sX6_settle_33, sX6_settle_34, sX6_settle_37, sX6_settle_38, sX6_settle_39, sX6_settle_42, sX6_settle_43, sX6_settle_44, sX6_settle_47, sX6_settle_48, sX6_settle_49, sX6_settle_52, sX6_settle_53, sX6_settle_56, sX6_settle_57, sX6_settle_60, sX6_settle_61, sX6_settle_63, sX6_settle_66, sX6_settle_67, sX6_settle_70, sX6_settle_72, sX6_settle_75, sX6_settle_76, sX6_settle_77, sX6_settle_80, sX6_settle_81, sX6_settle_84, sX6_settle_85, sX6_settle_88, sX6_settle_91, ↓r_3, ↓if_neg q, ↓r_2, ↓gle_at t1, ↓if_neg q2, e4, ↓gel_at t1, en, ↓bndi_at RK, ↓if_neg g, ↓r_w3, r_u, ↓r_7, f37, f33, ↓gel_at t2, ↓if_pos z]
theorem Q_settle {od V : Nat → Int} {n : Nat} (d1 : o ≠ r) (d2 : o ≠ w) (d3 : w ≠ r) (e3 : V 3 = (n : Int)) (hn : n ≤ 400) (hw : ∀ j, j < n → 0 ≤ wt j ∧ wt j ≤ 100) (h0 : 0 ≤ V 1) (h1 : V 1 + n ≤ 400) (h7 : (n : Int) ≤ V 7 + 1000) (h8 : V 7 ≤ 1000) : cl mX6_settle [vr r, vi rk] (rrs h r o w od wt V) = some (vn, rrs h r o w (stl wt rk n (od, V)).1 wt (stl wt rk n (od, V)).2) := by
  rw [eX6_settle]
  exact Q_settle_l d1 d2 d3 n od V e3 hn hw h0 h1 h7 h8
end SE
