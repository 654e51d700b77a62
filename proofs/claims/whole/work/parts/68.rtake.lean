/-! RuleReader's takes, under what the text answers (contracts given as hypotheses) -/
section TA
variable {h : zH} {r o w t : Nat} {od wt V : Nat → Int} {x kd : Int}
theorem Q_turn (tc : ∀ {y : Option (zV × zH)}, cki ((rrs h r o w od wt V).2 t) 7 y = y) (WI : cl mX8_wordIn [vr t, vr (zsa 1)] (rrs h r o w od wt V) = some (vi x, rrs h r o w od wt V)) (h0 : 0 ≤ V 5) (h1 : V 5 ≤ 1000) : cl mX6_takeTurn [vr r, vr t] (rrs h r o w od wt V) = some (if x = -1 then (vi 0, rrs h r o w od wt V) else (vi (if V 5 < 12 then -1 else 4), rrs h r o w od wt (fup (fup (fup V 5 (V 5 + 1)) 9 0) 4 1))) := by
  have e : i32 (V 5 + 1) = V 5 + 1 := i32_of (by omega) (by omega)
  have e5 : fup (fup (fup V 5 (V 5 + 1)) 9 0) 4 1 5 = V 5 + 1 := by rw [fup_n (by omega), fup_n (by omega), fup_s]
  by_cases q : x = -1
  · rw [if_pos q]
    subst q
    simp only [eX6_takeTurn, sX6_takeTurn_0, sX6_takeTurn_1, sX6_takeTurn_3, sX6_takeTurn_6, sX6_takeTurn_7, sX6_takeTurn_10, sX6_takeTurn_11, sX6_takeTurn_12, sX6_takeTurn_13, sX6_takeTurn_14, sX6_takeTurn_17, sX6_takeTurn_18, sX6_takeTurn_19, sX6_takeTurn_22, sX6_takeTurn_23, sX6_takeTurn_24, sX6_takeTurn_27, sX6_takeTurn_28, sX6_takeTurn_29, sX6_takeTurn_32, sX6_takeTurn_33, sX6_takeTurn_36, sX6_takeTurn_38, sX6_takeTurn_41, sX6_takeTurn_42, sX6_takeTurn_45, sX6_takeTurn_46, ↓tc, ↓bndi_at WI, not_true_eq_false, ↓reduceIte]
  · rw [if_neg q]
    by_cases g : V 5 < 12
    · have g' : V 5 + 1 ≤ 12 := by omega
      rw [if_pos g]
      simp only [eX6_takeTurn, sX6_takeTurn_0, sX6_takeTurn_1, sX6_takeTurn_3, sX6_takeTurn_6, sX6_takeTurn_7, sX6_takeTurn_10, sX6_takeTurn_11, sX6_takeTurn_12, sX6_takeTurn_13, sX6_takeTurn_14, sX6_takeTurn_17, sX6_takeTurn_18, sX6_takeTurn_19, sX6_takeTurn_22, sX6_takeTurn_23, sX6_takeTurn_24, sX6_takeTurn_27, sX6_takeTurn_28, sX6_takeTurn_29, sX6_takeTurn_32, sX6_takeTurn_33, sX6_takeTurn_36, sX6_takeTurn_38, sX6_takeTurn_41, sX6_takeTurn_42, sX6_takeTurn_45, sX6_takeTurn_46, ↓tc, ↓bndi_at WI, ↓if_pos q, ↓r_5, e, ↓r_w5, r_u, true_or, ↓reduceIte, ↓r_w9, ↓r_w4, e5, ↓if_pos g']
    · have g' : ¬ V 5 + 1 ≤ 12 := by omega
      rw [if_neg g]
      simp only [eX6_takeTurn, sX6_takeTurn_0, sX6_takeTurn_1, sX6_takeTurn_3, sX6_takeTurn_6, sX6_takeTurn_7, sX6_takeTurn_10, sX6_takeTurn_11, sX6_takeTurn_12, sX6_takeTurn_13, sX6_takeTurn_14, sX6_takeTurn_17, sX6_takeTurn_18, sX6_takeTurn_19, sX6_takeTurn_22, sX6_takeTurn_23, sX6_takeTurn_24, sX6_takeTurn_27, sX6_takeTurn_28, sX6_takeTurn_29, sX6_takeTurn_32, sX6_takeTurn_33, sX6_takeTurn_36, sX6_takeTurn_38, sX6_takeTurn_41, sX6_takeTurn_42, sX6_takeTurn_45, sX6_takeTurn_46, ↓tc, ↓bndi_at WI, ↓if_pos q, ↓r_5, e, ↓r_w5, r_u, true_or, ↓reduceIte, ↓r_w9, ↓r_w4, e5, ↓if_neg g']
end TA
