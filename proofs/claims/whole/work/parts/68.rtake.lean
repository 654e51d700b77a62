/-! RuleReader's takes, under what the text answers (contracts given as hypotheses) -/
section TA
variable {h : zH} {r o w t : Nat} {od wt V : Nat → Int} {x kd : Int}
theorem Q_turn (tc : ∀ {y : Option (zV × zH)}, cki ((rrs h r o w od wt V).2 t) 7 y = y) (WI : cl mX8_wordIn [vr t, vr (zsa 1)] (rrs h r o w od wt V) = some (vi x, rrs h r o w od wt V)) (h0 : 0 ≤ V 5) (h1 : V 5 ≤ 1000) : cl mX6_takeTurn [vr r, vr t] (rrs h r o w od wt V) = some (if x = -1 then (vi 0, rrs h r o w od wt V) else (vi (if V 5 < 12 then -1 else 4), rrs h r o w od wt (fup (fup (fup V 5 (V 5 + 1)) 9 0) 4 1))) := by
  have e : i32 (V 5 + 1) = V 5 + 1 := i32_of (by omega) (by omega)
  have e5 : fup (fup (fup V 5 (V 5 + 1)) 9 0) 4 1 5 = V 5 + 1 := by rw [fup_n (by omega), fup_n (by omega), fup_s]
  by_cases q : x = -1
  · rw [if_pos q]
    subst q
    simp only [eX6_takeTurn, sX6_takeTurn_0, sX6_takeTurn_1, sX6_takeTurn_3, sX6_takeTurn_6, sX6_takeTurn_7, sX6_takeTurn_10, sX6_takeTurn_11, sX6_takeTurn_12, sX6_takeTurn_13, sX6_takeTurn_14, sX6_takeTurn_17, sX6_takeTurn_18, sX6_takeTurn_19, sX6_takeTurn_22, sX6_takeTurn_23, sX6_takeTurn_24, sX6_takeTurn_27, sX6_takeTurn_28, sX6_takeTurn_29, sX6_takeTurn_32, sX6_takeTurn_33, sX6_takeTurn_36, sX6_takeTurn_38, sX6_takeTurn_41, sX6_takeTurn_42, sX6_takeTurn_45, sX6_takeTurn_46, ↓tc, ↓bndi_at WI, not_true_eq_false, ↓reduceIte]
  · rw [if_neg q]
    by_cases g : V 5 < 12
    · have g' : V 5 + 1 ≤ 12 := by omega
      rw [if_pos g]
      simp only [eX6_takeTurn, sX6_takeTurn_0, sX6_takeTurn_1, sX6_takeTurn_3, sX6_takeTurn_6, sX6_takeTurn_7, sX6_takeTurn_10, sX6_takeTurn_11, sX6_takeTurn_12, sX6_takeTurn_13, sX6_takeTurn_14, sX6_takeTurn_17, sX6_takeTurn_18, sX6_takeTurn_19, sX6_takeTurn_22, sX6_takeTurn_23, sX6_takeTurn_24, sX6_takeTurn_27, sX6_takeTurn_28, sX6_takeTurn_29, sX6_takeTurn_32, sX6_takeTurn_33, sX6_takeTurn_36, sX6_takeTurn_38, sX6_takeTurn_41, sX6_takeTurn_42, sX6_takeTurn_45, sX6_takeTurn_46, ↓tc, ↓bndi_at WI, ↓if_pos q, ↓r_5, e, ↓r_w5, r_u, true_or, ↓reduceIte, ↓r_w9, ↓r_w4, e5, ↓if_pos g']
    · have g' : ¬ V 5 + 1 ≤ 12 := by omega
      rw [if_neg g]
      simp only [eX6_takeTurn, sX6_takeTurn_0, sX6_takeTurn_1, sX6_takeTurn_3, sX6_takeTurn_6, sX6_takeTurn_7, sX6_takeTurn_10, sX6_takeTurn_11, sX6_takeTurn_12, sX6_takeTurn_13, sX6_takeTurn_14, sX6_takeTurn_17, sX6_takeTurn_18, sX6_takeTurn_19, sX6_takeTurn_22, sX6_takeTurn_23, sX6_takeTurn_24, sX6_takeTurn_27, sX6_takeTurn_28, sX6_takeTurn_29, sX6_takeTurn_32, sX6_takeTurn_33, sX6_takeTurn_36, sX6_takeTurn_38, sX6_takeTurn_41, sX6_takeTurn_42, sX6_takeTurn_45, sX6_takeTurn_46, ↓tc, ↓bndi_at WI, ↓if_pos q, ↓r_5, e, ↓r_w5, r_u, true_or, ↓reduceIte, ↓r_w9, ↓r_w4, e5, ↓if_neg g']
end TA
section TE
variable {h : zH} {r o w t n : Nat} {od wt V : Nat → Int} {kd : Int}
theorem Q_end (d1 : o ≠ r) (d2 : o ≠ w) (d3 : w ≠ r) (tc : ∀ {y : Option (zV × zH)}, cki ((rrs h r o w od wt V).2 t) 7 y = y) (KI : cl mX8_kind [vr t] (rrs h r o w od wt V) = some (vi kd, rrs h r o w od wt V)) (e3 : V 3 = (n : Int)) (hn : n ≤ 400) (hw : ∀ j, j < n → 0 ≤ wt j ∧ wt j ≤ 100) (h0 : 0 ≤ V 1) (h1 : V 1 + n ≤ 400) (h7 : (n : Int) ≤ V 7 + 1000) (h8 : V 7 ≤ 1000) (s0 : 0 ≤ (stl wt 0 n (od, V)).2 1) (s1 : (stl wt 0 n (od, V)).2 1 < 400) : cl mX6_takeEnd [vr r, vr t] (rrs h r o w od wt V) = some (if kd = -1 ∨ kd = 59 then (vi (-1), rrs h r o w (fup (stl wt 0 n (od, V)).1 ((stl wt 0 n (od, V)).2 1).toNat (if (stl wt 0 n (od, V)).2 9 = 0 then 40 else 41)) wt (fup (fup (stl wt 0 n (od, V)).2 1 ((stl wt 0 n (od, V)).2 1 + 1)) 4 0)) else (vi 0, rrs h r o w od wt V)) := by
  have S := Q_settle (h := h) (rk := 0) (od := od) d1 d2 d3 e3 hn hw h0 h1 h7 h8
  generalize stl wt 0 n (od, V) = Z at *
  have fin : rn mX6_takeEnd 19 [vr r, vr t] [] (rrs h r o w od wt V) = some (vi (-1), rrs h r o w (fup Z.1 (Z.2 1).toNat (if Z.2 9 = 0 then 40 else 41)) wt (fup (fup Z.2 1 (Z.2 1 + 1)) 4 0)) := by
    by_cases z : Z.2 9 = 0
    · have O := Q_order (h := h) (r := r) (o := o) (w := w) (od := Z.1) (wt := wt) (V := Z.2) (x := 40) d1 d2 s0 s1
      rw [if_pos z]
      simp only [eX6_takeEnd, sX6_takeEnd_0, sX6_takeEnd_1, sX6_takeEnd_4, sX6_takeEnd_5, sX6_takeEnd_8, sX6_takeEnd_9, sX6_takeEnd_12, sX6_takeEnd_14, sX6_takeEnd_17, sX6_takeEnd_18, sX6_takeEnd_19, sX6_takeEnd_20, sX6_takeEnd_21, sX6_takeEnd_24, sX6_takeEnd_25, sX6_takeEnd_26, sX6_takeEnd_29, sX6_takeEnd_32, sX6_takeEnd_34, sX6_takeEnd_37, sX6_takeEnd_39, sX6_takeEnd_42, sX6_takeEnd_43, sX6_takeEnd_44, sX6_takeEnd_47, sX6_takeEnd_48, ↓r_c, ↓bndv_at S, ↓r_9, ↓if_pos z, ↓bndv_at O, ↓r_w4, r_u]
    · have O := Q_order (h := h) (r := r) (o := o) (w := w) (od := Z.1) (wt := wt) (V := Z.2) (x := 41) d1 d2 s0 s1
      rw [if_neg z]
      simp only [eX6_takeEnd, sX6_takeEnd_0, sX6_takeEnd_1, sX6_takeEnd_4, sX6_takeEnd_5, sX6_takeEnd_8, sX6_takeEnd_9, sX6_takeEnd_12, sX6_takeEnd_14, sX6_takeEnd_17, sX6_takeEnd_18, sX6_takeEnd_19, sX6_takeEnd_20, sX6_takeEnd_21, sX6_takeEnd_24, sX6_takeEnd_25, sX6_takeEnd_26, sX6_takeEnd_29, sX6_takeEnd_32, sX6_takeEnd_34, sX6_takeEnd_37, sX6_takeEnd_39, sX6_takeEnd_42, sX6_takeEnd_43, sX6_takeEnd_44, sX6_takeEnd_47, sX6_takeEnd_48, ↓r_c, ↓bndv_at S, ↓r_9, ↓if_neg z, ↓bndv_at O, ↓r_w4, r_u]
  by_cases q1 : kd = -1
  · rw [if_pos (Or.inl q1), ← fin]
    simp only [eX6_takeEnd, sX6_takeEnd_0, sX6_takeEnd_1, sX6_takeEnd_4, sX6_takeEnd_5, sX6_takeEnd_8, sX6_takeEnd_9, sX6_takeEnd_12, sX6_takeEnd_14, sX6_takeEnd_17, sX6_takeEnd_18, sX6_takeEnd_20, sX6_takeEnd_21, sX6_takeEnd_24, sX6_takeEnd_25, sX6_takeEnd_26, sX6_takeEnd_29, sX6_takeEnd_32, sX6_takeEnd_34, sX6_takeEnd_37, sX6_takeEnd_39, sX6_takeEnd_42, sX6_takeEnd_43, sX6_takeEnd_44, sX6_takeEnd_47, sX6_takeEnd_48, ↓tc, ↓bndi_at KI, ↓if_pos q1]
  · by_cases q2 : kd = 59
    · rw [if_pos (Or.inr q2), ← fin]
      simp only [eX6_takeEnd, sX6_takeEnd_0, sX6_takeEnd_1, sX6_takeEnd_4, sX6_takeEnd_5, sX6_takeEnd_8, sX6_takeEnd_9, sX6_takeEnd_12, sX6_takeEnd_14, sX6_takeEnd_17, sX6_takeEnd_18, sX6_takeEnd_20, sX6_takeEnd_21, sX6_takeEnd_24, sX6_takeEnd_25, sX6_takeEnd_26, sX6_takeEnd_29, sX6_takeEnd_32, sX6_takeEnd_34, sX6_takeEnd_37, sX6_takeEnd_39, sX6_takeEnd_42, sX6_takeEnd_43, sX6_takeEnd_44, sX6_takeEnd_47, sX6_takeEnd_48, ↓tc, ↓bndi_at KI, ↓if_neg q1, ↓if_pos q2]
    · rw [if_neg (by omega)]
      simp only [eX6_takeEnd, sX6_takeEnd_0, sX6_takeEnd_1, sX6_takeEnd_4, sX6_takeEnd_5, sX6_takeEnd_8, sX6_takeEnd_9, sX6_takeEnd_12, sX6_takeEnd_14, sX6_takeEnd_17, sX6_takeEnd_18, sX6_takeEnd_20, sX6_takeEnd_21, sX6_takeEnd_24, sX6_takeEnd_25, sX6_takeEnd_26, sX6_takeEnd_29, sX6_takeEnd_32, sX6_takeEnd_34, sX6_takeEnd_37, sX6_takeEnd_39, sX6_takeEnd_42, sX6_takeEnd_43, sX6_takeEnd_44, sX6_takeEnd_47, sX6_takeEnd_48, ↓tc, ↓bndi_at KI, ↓if_neg q1, ↓if_neg q2]
end TE
