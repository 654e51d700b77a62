/-! RuleReader's takes over lists: the rest -/
section TU
variable {A F : Nat → Nat → Int} {E : zE} {O W : List Int} {v b : Nat → Int} {L x va0 : Int} {X : Int × Int × Int × Int}
theorem q_bt (h : RH A F O W v) (tt : TT A F b L X) (tx : X = tnx b L x va0) (hx : 0 ≤ x ∧ x ≤ L) (hv : -1 ≤ va0 ∧ va0 ≤ 99999) (c : CI O W v x) (v4 : v 4 ≠ 0) : ∃ A' F', cl mX6_takeBehindTurn [vr 6, vr 2] (HP A F E) = some (vi (tkBT X.2.2.1 b L X.2.1 O W v).1, HP A' F' E) ∧ RH A' F' (tkBT X.2.2.1 b L X.2.1 O W v).2.1 (tkBT X.2.2.1 b L X.2.1 O W v).2.2.1 (tkBT X.2.2.1 b L X.2.1 O W v).2.2.2 ∧ rfr A F A' F' := by
  have xb := X_b tx hx hv tt.2.2.2.1.2
  have xs := X_s tx hx tt.2.2.2.2
  have L4 := tt.2.2.2.1
  have WI := t_word (E := E) tt S_wI xb.1
  have wv := wI_t (b := b) (L := L) (x := x) (va := va0) tt.2.2.2.2 hx
  rw [← tx] at wv
  rw [wv, ← xs] at WI
  unfold tkBT
  by_cases y : tkI b L X.2.1 = -1
  · have yy : ¬ ¬ tkI b L X.2.1 = -1 := fun q => q y
    rw [if_pos y]
    obtain ⟨A', F', u1, u2, u3⟩ := q_end (E := E) h tt c (by omega) v4
    refine ⟨A', F', ?_, u2, u3⟩
    simp (disch := omega) only [eX6_takeBehindTurn, sX6_takeBehindTurn_0, sX6_takeBehindTurn_1, sX6_takeBehindTurn_3, sX6_takeBehindTurn_6, sX6_takeBehindTurn_7, sX6_takeBehindTurn_10, sX6_takeBehindTurn_11, sX6_takeBehindTurn_12, sX6_takeBehindTurn_15, sX6_takeBehindTurn_16, sX6_takeBehindTurn_17, sX6_takeBehindTurn_18, sX6_takeBehindTurn_21, sX6_takeBehindTurn_22, sX6_takeBehindTurn_23, sX6_takeBehindTurn_26, sX6_takeBehindTurn_27, sX6_takeBehindTurn_28, sX6_takeBehindTurn_31, sX6_takeBehindTurn_32, ↓hk2, ↓hk6, ↓bndi_at WI, ↓if_neg yy, ↓bndi_at u1]
  · rw [if_neg y]
    have ln := c.2.2.2.2.2.1
    rw [if_neg v4] at ln
    have h7 : (W.length : Int) ≤ v 7 + 1000 ∧ v 7 ≤ 1000 := by rcases CI_h7 c with q | q; exact q; omega
    obtain ⟨A1, F1, u1, u2, u3⟩ := RH_settle (E := E) (rk := 0) h (CI_w c) (by omega) h7
    refine ⟨A1, q6 (q6 F1 9 1) 4 2, ?_, RH_q (RH_q u2 (by omega)) (by omega), rfr_t u3 (rfr_t rfr_q rfr_q)⟩
    have g : q6 (q6 F1 9 1) 4 2 = aup F1 6 (fup (fup (F1 6) 9 1) 4 2) := by unfold q6; rw [aup_s, aup_aup]
    rw [g]
    simp (disch := omega) only [eX6_takeBehindTurn, sX6_takeBehindTurn_0, sX6_takeBehindTurn_1, sX6_takeBehindTurn_3, sX6_takeBehindTurn_6, sX6_takeBehindTurn_7, sX6_takeBehindTurn_10, sX6_takeBehindTurn_11, sX6_takeBehindTurn_12, sX6_takeBehindTurn_15, sX6_takeBehindTurn_16, sX6_takeBehindTurn_17, sX6_takeBehindTurn_18, sX6_takeBehindTurn_21, sX6_takeBehindTurn_22, sX6_takeBehindTurn_23, sX6_takeBehindTurn_26, sX6_takeBehindTurn_27, sX6_takeBehindTurn_28, sX6_takeBehindTurn_31, sX6_takeBehindTurn_32, ↓hk2, ↓hk6, ↓bndi_at WI, ↓if_pos y, ↓bndv_at u1, ↓hp6_9, ↓hp6_4, aup_s, aup_aup, or_true, ↓reduceIte]
theorem jop_b {s : Int} : jop b L s = 20 ∨ jop b L s = 21 := by unfold jop; split; exact Or.inl rfl; exact Or.inr rfl
theorem q_bf (h : RH A F O W v) (tt : TT A F b L X) (tx : X = tnx b L x va0) (hx : 0 ≤ x ∧ x ≤ L) (hv : -1 ≤ va0 ∧ va0 ≤ 99999) (c : CI O W v x) (v4 : v 4 ≠ 0) : ∃ A' F', cl mX6_takeBehindFact [vr 6, vr 2] (HP A F E) = some (vi (tkBF X.2.2.1 b L X.2.1 O W v).1, HP A' F' E) ∧ RH A' F' (tkBF X.2.2.1 b L X.2.1 O W v).2.1 (tkBF X.2.2.1 b L X.2.1 O W v).2.2.1 (tkBF X.2.2.1 b L X.2.1 O W v).2.2.2 ∧ rfr A F A' F' := by
  have xb := X_b tx hx hv tt.2.2.2.1.2
  have xs := X_s tx hx tt.2.2.2.2
  have L4 := tt.2.2.2.1
  have KI := t_kind (E := E) tt
  have WI := t_word (E := E) tt S_wJ xb.1
  have wv := wJ_t (b := b) (L := L) (x := x) (va := va0) tt.2.2.2.2 hx
  rw [← tx] at wv
  rw [wv, ← xs] at WI
  have ln := c.2.2.2.2.2.1
  rw [if_neg v4] at ln
  have h7 : (W.length : Int) ≤ v 7 + 1000 ∧ v 7 ≤ 1000 := by rcases CI_h7 c with q | q; exact q; omega
  have e8 := h.2.2.2.2 8 (by omega) (by omega)
  have c8 := c50_b W
  have v8 := c.2.2.1
  unfold tkBF
  by_cases y : tkJ b L X.2.1 = -1
  · have yy : ¬ ¬ tkJ b L X.2.1 = -1 := fun q => q y
    rw [if_neg yy]
    by_cases z : v 8 = 0
    · rw [if_pos z]
      have zz : ¬ ¬ v 8 = 0 := fun q => q z
      obtain ⟨A', F', u1, u2, u3⟩ := q_end (E := E) h tt c (by omega) v4
      refine ⟨A', F', ?_, u2, u3⟩
      simp (disch := omega) only [eX6_takeBehindFact, sX6_takeBehindFact_0, sX6_takeBehindFact_1, sX6_takeBehindFact_3, sX6_takeBehindFact_6, sX6_takeBehindFact_7, sX6_takeBehindFact_8, sX6_takeBehindFact_9, sX6_takeBehindFact_12, sX6_takeBehindFact_13, sX6_takeBehindFact_16, sX6_takeBehindFact_18, sX6_takeBehindFact_21, sX6_takeBehindFact_23, sX6_takeBehindFact_24, sX6_takeBehindFact_25, sX6_takeBehindFact_26, sX6_takeBehindFact_29, sX6_takeBehindFact_32, sX6_takeBehindFact_33, sX6_takeBehindFact_34, sX6_takeBehindFact_37, sX6_takeBehindFact_38, sX6_takeBehindFact_39, sX6_takeBehindFact_42, sX6_takeBehindFact_43, sX6_takeBehindFact_44, sX6_takeBehindFact_45, sX6_takeBehindFact_48, sX6_takeBehindFact_51, sX6_takeBehindFact_52, sX6_takeBehindFact_53, sX6_takeBehindFact_56, sX6_takeBehindFact_57, sX6_takeBehindFact_58, sX6_takeBehindFact_61, sX6_takeBehindFact_63, sX6_takeBehindFact_66, sX6_takeBehindFact_67, sX6_takeBehindFact_68, sX6_takeBehindFact_69, sX6_takeBehindFact_70, sX6_takeBehindFact_73, sX6_takeBehindFact_74, sX6_takeBehindFact_75, sX6_takeBehindFact_78, sX6_takeBehindFact_79, sX6_takeBehindFact_80, sX6_takeBehindFact_83, sX6_takeBehindFact_84, sX6_takeBehindFact_85, sX6_takeBehindFact_88, sX6_takeBehindFact_89, sX6_takeBehindFact_90, sX6_takeBehindFact_93, sX6_takeBehindFact_94, sX6_takeBehindFact_95, sX6_takeBehindFact_98, sX6_takeBehindFact_99, sX6_takeBehindFact_100, sX6_takeBehindFact_103, sX6_takeBehindFact_104, sX6_takeBehindFact_105, sX6_takeBehindFact_108, sX6_takeBehindFact_109, ↓hk2, ↓hk6, ↓hf6_8, e8, ↓bndi_at WI, ↓if_pos y, ↓if_neg zz, ↓bndi_at u1]
    · rw [if_neg z]
      by_cases k : X.2.2.1 = 93
      · have kk : ¬ ¬ X.2.2.1 = 93 := fun q => q k
        rw [if_neg kk]
        obtain ⟨A1, F1, u1, u2, u3⟩ := RH_settle (E := E) (rk := 0) h (CI_w c) (by omega) h7
        obtain ⟨W', w1, w2⟩ := stl2_50 (rk := 0) (by omega) W O (by omega)
        have sn := stl2_n (rk := 0) W O
        generalize stl2 0 W O = R at *
        obtain ⟨o, W2, hW⟩ : ∃ o W2, R.2.1 = o :: W2 := by
          rw [w1]
          cases W' with
          | nil => exact absurd rfl w2
          | cons o W2 => exact ⟨o, W2, rfl⟩
        rw [hW, List.tail_cons]
        rw [hW] at u2 sn
        rw [List.length_cons] at sn
        have f3 := u2.2.2.1
        rw [List.length_cons] at f3
        have f7 := u2.2.2.2.2 7 (by omega) (by omega)
        rw [fup_s] at f7
        have f8 := u2.2.2.2.2 8 (by omega) (by omega)
        rw [fup_n (by omega)] at f8
        have u5 : RH A1 (q6 F1 3 (W2.length : Int)) R.1 W2 (fup v 7 (v 7 - R.2.2)) := by
          obtain ⟨a1, a2, a3, a4, a5⟩ := u2
          refine ⟨by rw [q6_n (by omega)]; exact a1, a2, q6_s, fun k hk => ?_, fun k k1 k2 => by rw [q6_n (by omega)]; exact a5 k k1 k2⟩
          rw [a4 k (by rw [List.length_cons]; omega), wat, if_neg (by omega)]
        refine ⟨A1, q6 (q6 (q6 (q6 F1 3 (W2.length : Int)) 7 (v 7 - R.2.2 - 1)) 8 (v 8 - 1)) 4 4, ?_, RH_q (RH_q (RH_q u5 (by omega)) (by omega)) (by omega), rfr_t u3 (rfr_t rfr_q (rfr_t rfr_q (rfr_t rfr_q rfr_q)))⟩
        have g : q6 (q6 (q6 (q6 F1 3 (W2.length : Int)) 7 (v 7 - R.2.2 - 1)) 8 (v 8 - 1)) 4 4 = aup F1 6 (fup (fup (fup (fup (F1 6) 3 (W2.length : Int)) 7 (v 7 - R.2.2 - 1)) 8 (v 8 - 1)) 4 4) := by unfold q6; rw [aup_s, aup_aup, aup_s, aup_aup, aup_s, aup_aup]
        have i3 : ((W2.length + 1 : Nat) : Int) - 1 = (W2.length : Int) := by omega
        rw [g]
        simp (disch := omega) only [eX6_takeBehindFact, sX6_takeBehindFact_0, sX6_takeBehindFact_1, sX6_takeBehindFact_3, sX6_takeBehindFact_6, sX6_takeBehindFact_7, sX6_takeBehindFact_8, sX6_takeBehindFact_9, sX6_takeBehindFact_12, sX6_takeBehindFact_13, sX6_takeBehindFact_16, sX6_takeBehindFact_18, sX6_takeBehindFact_21, sX6_takeBehindFact_23, sX6_takeBehindFact_24, sX6_takeBehindFact_25, sX6_takeBehindFact_26, sX6_takeBehindFact_29, sX6_takeBehindFact_32, sX6_takeBehindFact_33, sX6_takeBehindFact_34, sX6_takeBehindFact_37, sX6_takeBehindFact_38, sX6_takeBehindFact_39, sX6_takeBehindFact_42, sX6_takeBehindFact_43, sX6_takeBehindFact_44, sX6_takeBehindFact_45, sX6_takeBehindFact_48, sX6_takeBehindFact_51, sX6_takeBehindFact_52, sX6_takeBehindFact_53, sX6_takeBehindFact_56, sX6_takeBehindFact_57, sX6_takeBehindFact_58, sX6_takeBehindFact_61, sX6_takeBehindFact_63, sX6_takeBehindFact_66, sX6_takeBehindFact_67, sX6_takeBehindFact_68, sX6_takeBehindFact_69, sX6_takeBehindFact_70, sX6_takeBehindFact_73, sX6_takeBehindFact_74, sX6_takeBehindFact_75, sX6_takeBehindFact_78, sX6_takeBehindFact_79, sX6_takeBehindFact_80, sX6_takeBehindFact_83, sX6_takeBehindFact_84, sX6_takeBehindFact_85, sX6_takeBehindFact_88, sX6_takeBehindFact_89, sX6_takeBehindFact_90, sX6_takeBehindFact_93, sX6_takeBehindFact_94, sX6_takeBehindFact_95, sX6_takeBehindFact_98, sX6_takeBehindFact_99, sX6_takeBehindFact_100, sX6_takeBehindFact_103, sX6_takeBehindFact_104, sX6_takeBehindFact_105, sX6_takeBehindFact_108, sX6_takeBehindFact_109, ↓hk2, ↓hk6, ↓hf6_8, ↓hf6_3, ↓hf6_7, ↓hp6_3, ↓hp6_7, ↓hp6_8, ↓hp6_4, e8, ↓bndi_at WI, ↓bndi_at KI, ↓if_pos y, ↓if_pos z, ↓if_pos k, ↓bndv_at u1, f3, f7, f8, i32_of, i3, aup_s, aup_aup, fup_s, fup_n]
      · rw [if_pos k]
        refine ⟨A, F, ?_, h, rfr_r⟩
        simp (disch := omega) only [eX6_takeBehindFact, sX6_takeBehindFact_0, sX6_takeBehindFact_1, sX6_takeBehindFact_3, sX6_takeBehindFact_6, sX6_takeBehindFact_7, sX6_takeBehindFact_8, sX6_takeBehindFact_9, sX6_takeBehindFact_12, sX6_takeBehindFact_13, sX6_takeBehindFact_16, sX6_takeBehindFact_18, sX6_takeBehindFact_21, sX6_takeBehindFact_23, sX6_takeBehindFact_24, sX6_takeBehindFact_25, sX6_takeBehindFact_26, sX6_takeBehindFact_29, sX6_takeBehindFact_32, sX6_takeBehindFact_33, sX6_takeBehindFact_34, sX6_takeBehindFact_37, sX6_takeBehindFact_38, sX6_takeBehindFact_39, sX6_takeBehindFact_42, sX6_takeBehindFact_43, sX6_takeBehindFact_44, sX6_takeBehindFact_45, sX6_takeBehindFact_48, sX6_takeBehindFact_51, sX6_takeBehindFact_52, sX6_takeBehindFact_53, sX6_takeBehindFact_56, sX6_takeBehindFact_57, sX6_takeBehindFact_58, sX6_takeBehindFact_61, sX6_takeBehindFact_63, sX6_takeBehindFact_66, sX6_takeBehindFact_67, sX6_takeBehindFact_68, sX6_takeBehindFact_69, sX6_takeBehindFact_70, sX6_takeBehindFact_73, sX6_takeBehindFact_74, sX6_takeBehindFact_75, sX6_takeBehindFact_78, sX6_takeBehindFact_79, sX6_takeBehindFact_80, sX6_takeBehindFact_83, sX6_takeBehindFact_84, sX6_takeBehindFact_85, sX6_takeBehindFact_88, sX6_takeBehindFact_89, sX6_takeBehindFact_90, sX6_takeBehindFact_93, sX6_takeBehindFact_94, sX6_takeBehindFact_95, sX6_takeBehindFact_98, sX6_takeBehindFact_99, sX6_takeBehindFact_100, sX6_takeBehindFact_103, sX6_takeBehindFact_104, sX6_takeBehindFact_105, sX6_takeBehindFact_108, sX6_takeBehindFact_109, ↓hk2, ↓hk6, ↓hf6_8, e8, ↓bndi_at WI, ↓bndi_at KI, ↓if_pos y, ↓if_pos z, ↓if_neg k]
  · rw [if_pos y]
    have jb := jop_b (b := b) (L := L) (s := X.2.1)
    have hj : jop b L X.2.1 = if tkJ b L X.2.1 = 0 then 20 else 21 := rfl
    generalize jop b L X.2.1 = op at *
    obtain ⟨A1, F1, u1, u2, u3⟩ := RH_settle (E := E) (rk := rkf op) h (CI_w c) (by omega) h7
    have sn := stl2_n (rk := rkf op) W O
    generalize stl2 (rkf op) W O = R at *
    obtain ⟨A2, F2, w1, w2, w3⟩ := RH_await (E := E) (x := op) u2 (by omega)
    have rk' := fun H => Q_rank (h := H) (o := op) (by omega) (by omega)
    refine ⟨A2, q6 F2 4 2, ?_, RH_q w2 (by omega), rfr_t u3 (rfr_t w3 rfr_q)⟩
    by_cases k : tkJ b L X.2.1 = 0
    · rw [if_pos k] at hj
      have kk : ¬ ¬ tkJ b L X.2.1 = 0 := fun q => q k
      subst hj
      simp (disch := omega) only [eX6_takeBehindFact, sX6_takeBehindFact_0, sX6_takeBehindFact_1, sX6_takeBehindFact_3, sX6_takeBehindFact_6, sX6_takeBehindFact_7, sX6_takeBehindFact_8, sX6_takeBehindFact_9, sX6_takeBehindFact_12, sX6_takeBehindFact_13, sX6_takeBehindFact_16, sX6_takeBehindFact_18, sX6_takeBehindFact_21, sX6_takeBehindFact_23, sX6_takeBehindFact_24, sX6_takeBehindFact_25, sX6_takeBehindFact_26, sX6_takeBehindFact_29, sX6_takeBehindFact_32, sX6_takeBehindFact_33, sX6_takeBehindFact_34, sX6_takeBehindFact_37, sX6_takeBehindFact_38, sX6_takeBehindFact_39, sX6_takeBehindFact_42, sX6_takeBehindFact_43, sX6_takeBehindFact_44, sX6_takeBehindFact_45, sX6_takeBehindFact_48, sX6_takeBehindFact_51, sX6_takeBehindFact_52, sX6_takeBehindFact_53, sX6_takeBehindFact_56, sX6_takeBehindFact_57, sX6_takeBehindFact_58, sX6_takeBehindFact_61, sX6_takeBehindFact_63, sX6_takeBehindFact_66, sX6_takeBehindFact_67, sX6_takeBehindFact_68, sX6_takeBehindFact_69, sX6_takeBehindFact_70, sX6_takeBehindFact_73, sX6_takeBehindFact_74, sX6_takeBehindFact_75, sX6_takeBehindFact_78, sX6_takeBehindFact_79, sX6_takeBehindFact_80, sX6_takeBehindFact_83, sX6_takeBehindFact_84, sX6_takeBehindFact_85, sX6_takeBehindFact_88, sX6_takeBehindFact_89, sX6_takeBehindFact_90, sX6_takeBehindFact_93, sX6_takeBehindFact_94, sX6_takeBehindFact_95, sX6_takeBehindFact_98, sX6_takeBehindFact_99, sX6_takeBehindFact_100, sX6_takeBehindFact_103, sX6_takeBehindFact_104, sX6_takeBehindFact_105, sX6_takeBehindFact_108, sX6_takeBehindFact_109, ↓hk2, ↓hk6, ↓bndi_at WI, ↓if_neg y, ↓if_neg kk, ↓bndi_at (rk' _), ↓bndv_at u1, ↓bndv_at w1, ↓hp6_4]
      rfl
    · rw [if_neg k] at hj
      subst hj
      simp (disch := omega) only [eX6_takeBehindFact, sX6_takeBehindFact_0, sX6_takeBehindFact_1, sX6_takeBehindFact_3, sX6_takeBehindFact_6, sX6_takeBehindFact_7, sX6_takeBehindFact_8, sX6_takeBehindFact_9, sX6_takeBehindFact_12, sX6_takeBehindFact_13, sX6_takeBehindFact_16, sX6_takeBehindFact_18, sX6_takeBehindFact_21, sX6_takeBehindFact_23, sX6_takeBehindFact_24, sX6_takeBehindFact_25, sX6_takeBehindFact_26, sX6_takeBehindFact_29, sX6_takeBehindFact_32, sX6_takeBehindFact_33, sX6_takeBehindFact_34, sX6_takeBehindFact_37, sX6_takeBehindFact_38, sX6_takeBehindFact_39, sX6_takeBehindFact_42, sX6_takeBehindFact_43, sX6_takeBehindFact_44, sX6_takeBehindFact_45, sX6_takeBehindFact_48, sX6_takeBehindFact_51, sX6_takeBehindFact_52, sX6_takeBehindFact_53, sX6_takeBehindFact_56, sX6_takeBehindFact_57, sX6_takeBehindFact_58, sX6_takeBehindFact_61, sX6_takeBehindFact_63, sX6_takeBehindFact_66, sX6_takeBehindFact_67, sX6_takeBehindFact_68, sX6_takeBehindFact_69, sX6_takeBehindFact_70, sX6_takeBehindFact_73, sX6_takeBehindFact_74, sX6_takeBehindFact_75, sX6_takeBehindFact_78, sX6_takeBehindFact_79, sX6_takeBehindFact_80, sX6_takeBehindFact_83, sX6_takeBehindFact_84, sX6_takeBehindFact_85, sX6_takeBehindFact_88, sX6_takeBehindFact_89, sX6_takeBehindFact_90, sX6_takeBehindFact_93, sX6_takeBehindFact_94, sX6_takeBehindFact_95, sX6_takeBehindFact_98, sX6_takeBehindFact_99, sX6_takeBehindFact_100, sX6_takeBehindFact_103, sX6_takeBehindFact_104, sX6_takeBehindFact_105, sX6_takeBehindFact_108, sX6_takeBehindFact_109, ↓hk2, ↓hk6, ↓bndi_at WI, ↓if_neg y, ↓if_pos k, ↓bndi_at (rk' _), ↓bndv_at u1, ↓bndv_at w1, ↓hp6_4]
      rfl
theorem opf_b {k : Int} : opf k = -1 ∨ (23 ≤ opf k ∧ opf k ≤ 32) := by
  unfold opf
  repeat (split; omega)
  exact Or.inl rfl
theorem q_bv (h : RH A F O W v) (tt : TT A F b L X) (tx : X = tnx b L x va0) (hx : 0 ≤ x ∧ x ≤ L) (hv : -1 ≤ va0 ∧ va0 ≤ 99999) (c : CI O W v x) (v4 : v 4 ≠ 0) : ∃ A' F', cl mX6_takeBehindValue [vr 6, vr 2] (HP A F E) = some (vi (tkBV X.2.2.1 b L X.2.1 O W v).1, HP A' F' E) ∧ RH A' F' (tkBV X.2.2.1 b L X.2.1 O W v).2.1 (tkBV X.2.2.1 b L X.2.1 O W v).2.2.1 (tkBV X.2.2.1 b L X.2.1 O W v).2.2.2 ∧ rfr A F A' F' := by
  have L4 := tt.2.2.2.1
  have KI := t_kind (E := E) tt
  have OP := Q_oper (h := HP A F E) (s := X.2.2.1)
  have ob := opf_b (k := X.2.2.1)
  have ln := c.2.2.2.2.2.1
  rw [if_neg v4] at ln
  have h7 : (W.length : Int) ≤ v 7 + 1000 ∧ v 7 ≤ 1000 := by rcases CI_h7 c with q | q; exact q; omega
  have e9 := h.2.2.2.2 9 (by omega) (by omega)
  have e10 := h.2.2.2.2 10 (by omega) (by omega)
  have p6 := c.2.2.2.2.1
  unfold tkBV
  generalize hop : opf X.2.2.1 = op at *
  by_cases y : 28 ≤ op
  · rw [if_pos y]
    have y' : ¬ op < 28 := by omega
    obtain ⟨A1, F1, u1, u2, u3⟩ := RH_settle (E := E) (rk := rkf op) h (CI_w c) (by omega) h7
    have sn := stl2_n (rk := rkf op) W O
    generalize stl2 (rkf op) W O = R at *
    obtain ⟨A2, F2, w1, w2, w3⟩ := RH_await (E := E) (x := op) u2 (by omega)
    have rk' := fun H => Q_rank (h := H) (o := op) (by omega) (by omega)
    refine ⟨A2, q6 F2 4 1, ?_, RH_q w2 (by omega), rfr_t u3 (rfr_t w3 rfr_q)⟩
    simp (disch := omega) only [eX6_takeBehindValue, sX6_takeBehindValue_0, sX6_takeBehindValue_1, sX6_takeBehindValue_4, sX6_takeBehindValue_7, sX6_takeBehindValue_8, sX6_takeBehindValue_9, sX6_takeBehindValue_11, sX6_takeBehindValue_14, sX6_takeBehindValue_15, sX6_takeBehindValue_16, sX6_takeBehindValue_19, sX6_takeBehindValue_22, sX6_takeBehindValue_23, sX6_takeBehindValue_24, sX6_takeBehindValue_27, sX6_takeBehindValue_28, sX6_takeBehindValue_29, sX6_takeBehindValue_32, sX6_takeBehindValue_33, sX6_takeBehindValue_34, sX6_takeBehindValue_35, sX6_takeBehindValue_38, sX6_takeBehindValue_41, sX6_takeBehindValue_42, sX6_takeBehindValue_43, sX6_takeBehindValue_46, sX6_takeBehindValue_47, sX6_takeBehindValue_48, sX6_takeBehindValue_51, sX6_takeBehindValue_54, sX6_takeBehindValue_55, sX6_takeBehindValue_56, sX6_takeBehindValue_59, sX6_takeBehindValue_60, sX6_takeBehindValue_61, sX6_takeBehindValue_62, sX6_takeBehindValue_65, sX6_takeBehindValue_66, sX6_takeBehindValue_67, sX6_takeBehindValue_68, sX6_takeBehindValue_69, sX6_takeBehindValue_72, sX6_takeBehindValue_75, sX6_takeBehindValue_76, sX6_takeBehindValue_77, sX6_takeBehindValue_80, sX6_takeBehindValue_81, sX6_takeBehindValue_82, sX6_takeBehindValue_85, sX6_takeBehindValue_86, sX6_takeBehindValue_87, sX6_takeBehindValue_90, sX6_takeBehindValue_91, sX6_takeBehindValue_94, ↓hk2, ↓hk6, ↓bndi_at KI, ↓bndi_at OP, ↓if_neg y', ↓bndi_at (rk' _), ↓bndv_at u1, ↓bndv_at w1, ↓hp6_4]
    rfl
  · rw [if_neg y]
    have y' : op < 28 := by omega
    by_cases z : v 9 = 0
    · rw [if_pos z]
      have zz : ¬ ¬ v 9 = 0 := fun q => q z
      obtain ⟨A', F', u1, u2, u3⟩ := q_bt (E := E) h tt tx hx hv c v4
      refine ⟨A', F', ?_, u2, u3⟩
      simp (disch := omega) only [eX6_takeBehindValue, sX6_takeBehindValue_0, sX6_takeBehindValue_1, sX6_takeBehindValue_4, sX6_takeBehindValue_7, sX6_takeBehindValue_8, sX6_takeBehindValue_9, sX6_takeBehindValue_11, sX6_takeBehindValue_14, sX6_takeBehindValue_15, sX6_takeBehindValue_16, sX6_takeBehindValue_19, sX6_takeBehindValue_22, sX6_takeBehindValue_23, sX6_takeBehindValue_24, sX6_takeBehindValue_27, sX6_takeBehindValue_28, sX6_takeBehindValue_29, sX6_takeBehindValue_32, sX6_takeBehindValue_33, sX6_takeBehindValue_34, sX6_takeBehindValue_35, sX6_takeBehindValue_38, sX6_takeBehindValue_41, sX6_takeBehindValue_42, sX6_takeBehindValue_43, sX6_takeBehindValue_46, sX6_takeBehindValue_47, sX6_takeBehindValue_48, sX6_takeBehindValue_51, sX6_takeBehindValue_54, sX6_takeBehindValue_55, sX6_takeBehindValue_56, sX6_takeBehindValue_59, sX6_takeBehindValue_60, sX6_takeBehindValue_61, sX6_takeBehindValue_62, sX6_takeBehindValue_65, sX6_takeBehindValue_66, sX6_takeBehindValue_67, sX6_takeBehindValue_68, sX6_takeBehindValue_69, sX6_takeBehindValue_72, sX6_takeBehindValue_75, sX6_takeBehindValue_76, sX6_takeBehindValue_77, sX6_takeBehindValue_80, sX6_takeBehindValue_81, sX6_takeBehindValue_82, sX6_takeBehindValue_85, sX6_takeBehindValue_86, sX6_takeBehindValue_87, sX6_takeBehindValue_90, sX6_takeBehindValue_91, sX6_takeBehindValue_94, ↓hk2, ↓hk6, ↓hf6_9, e9, ↓bndi_at KI, ↓bndi_at OP, ↓if_pos y', ↓if_neg zz, ↓bndi_at u1]
    · rw [if_neg z]
      by_cases k : v 10 = 0
      · have kk : ¬ ¬ v 10 = 0 := fun q => q k
        rw [if_neg kk]
        by_cases o1 : op = -1
        · have oo : ¬ ¬ op = -1 := fun q => q o1
          rw [if_pos o1]
          refine ⟨A, F, ?_, h, rfr_r⟩
          simp (disch := omega) only [eX6_takeBehindValue, sX6_takeBehindValue_0, sX6_takeBehindValue_1, sX6_takeBehindValue_4, sX6_takeBehindValue_7, sX6_takeBehindValue_8, sX6_takeBehindValue_9, sX6_takeBehindValue_11, sX6_takeBehindValue_14, sX6_takeBehindValue_15, sX6_takeBehindValue_16, sX6_takeBehindValue_19, sX6_takeBehindValue_22, sX6_takeBehindValue_23, sX6_takeBehindValue_24, sX6_takeBehindValue_27, sX6_takeBehindValue_28, sX6_takeBehindValue_29, sX6_takeBehindValue_32, sX6_takeBehindValue_33, sX6_takeBehindValue_34, sX6_takeBehindValue_35, sX6_takeBehindValue_38, sX6_takeBehindValue_41, sX6_takeBehindValue_42, sX6_takeBehindValue_43, sX6_takeBehindValue_46, sX6_takeBehindValue_47, sX6_takeBehindValue_48, sX6_takeBehindValue_51, sX6_takeBehindValue_54, sX6_takeBehindValue_55, sX6_takeBehindValue_56, sX6_takeBehindValue_59, sX6_takeBehindValue_60, sX6_takeBehindValue_61, sX6_takeBehindValue_62, sX6_takeBehindValue_65, sX6_takeBehindValue_66, sX6_takeBehindValue_67, sX6_takeBehindValue_68, sX6_takeBehindValue_69, sX6_takeBehindValue_72, sX6_takeBehindValue_75, sX6_takeBehindValue_76, sX6_takeBehindValue_77, sX6_takeBehindValue_80, sX6_takeBehindValue_81, sX6_takeBehindValue_82, sX6_takeBehindValue_85, sX6_takeBehindValue_86, sX6_takeBehindValue_87, sX6_takeBehindValue_90, sX6_takeBehindValue_91, sX6_takeBehindValue_94, ↓hk2, ↓hk6, ↓hf6_9, ↓hf6_10, e9, e10, ↓bndi_at KI, ↓bndi_at OP, ↓if_pos y', ↓if_pos z, ↓if_pos k, ↓if_neg oo]
        · rw [if_neg o1]
          obtain ⟨A1, F1, u1, u2, u3⟩ := RH_settle (E := E) (rk := rkf op) h (CI_w c) (by omega) h7
          have sn := stl2_n (rk := rkf op) W O
          generalize stl2 (rkf op) W O = R at *
          obtain ⟨A2, F2, w1, w2, w3⟩ := RH_await (E := E) (x := op) u2 (by omega)
          have rk' := fun H => Q_rank (h := H) (o := op) (by omega) (by omega)
          have w4 := RH_q (k := 4) (x := 1) (RH_q (k := 10) (x := 1) w2 (by omega)) (by omega)
          have pc := RH_part (E := E) w4 (by rw [fup_n (by omega), fup_n (by omega), fup_n (by omega)]; omega)
          rw [fup_n (show (6 : Nat) ≠ 4 by omega), fup_n (show (6 : Nat) ≠ 10 by omega), fup_n (show (6 : Nat) ≠ 7 by omega)] at pc
          refine ⟨A2, q6 (q6 (q6 F2 10 1) 4 1) 6 (v 6 + 1), ?_, RH_q w4 (by omega), rfr_t u3 (rfr_t w3 (rfr_t rfr_q (rfr_t rfr_q rfr_q)))⟩
          have g : aup F2 6 (fup (fup (F2 6) 10 1) 4 1) = q6 (q6 F2 10 1) 4 1 := by unfold q6; rw [aup_s, aup_aup]
          simp (disch := omega) only [eX6_takeBehindValue, sX6_takeBehindValue_0, sX6_takeBehindValue_1, sX6_takeBehindValue_4, sX6_takeBehindValue_7, sX6_takeBehindValue_8, sX6_takeBehindValue_9, sX6_takeBehindValue_11, sX6_takeBehindValue_14, sX6_takeBehindValue_15, sX6_takeBehindValue_16, sX6_takeBehindValue_19, sX6_takeBehindValue_22, sX6_takeBehindValue_23, sX6_takeBehindValue_24, sX6_takeBehindValue_27, sX6_takeBehindValue_28, sX6_takeBehindValue_29, sX6_takeBehindValue_32, sX6_takeBehindValue_33, sX6_takeBehindValue_34, sX6_takeBehindValue_35, sX6_takeBehindValue_38, sX6_takeBehindValue_41, sX6_takeBehindValue_42, sX6_takeBehindValue_43, sX6_takeBehindValue_46, sX6_takeBehindValue_47, sX6_takeBehindValue_48, sX6_takeBehindValue_51, sX6_takeBehindValue_54, sX6_takeBehindValue_55, sX6_takeBehindValue_56, sX6_takeBehindValue_59, sX6_takeBehindValue_60, sX6_takeBehindValue_61, sX6_takeBehindValue_62, sX6_takeBehindValue_65, sX6_takeBehindValue_66, sX6_takeBehindValue_67, sX6_takeBehindValue_68, sX6_takeBehindValue_69, sX6_takeBehindValue_72, sX6_takeBehindValue_75, sX6_takeBehindValue_76, sX6_takeBehindValue_77, sX6_takeBehindValue_80, sX6_takeBehindValue_81, sX6_takeBehindValue_82, sX6_takeBehindValue_85, sX6_takeBehindValue_86, sX6_takeBehindValue_87, sX6_takeBehindValue_90, sX6_takeBehindValue_91, sX6_takeBehindValue_94, ↓hk2, ↓hk6, ↓hf6_9, ↓hf6_10, e9, e10, ↓bndi_at KI, ↓bndi_at OP, ↓if_pos y', ↓if_pos z, ↓if_pos k, ↓if_pos o1, ↓bndi_at (rk' _), ↓bndv_at u1, ↓bndv_at w1, ↓hp6_10, ↓hp6_4, aup_s, aup_aup, or_true, ↓reduceIte, g, ↓bndi_at pc]
      · rw [if_pos k]
        obtain ⟨A', F', u1, u2, u3⟩ := q_bf (E := E) h tt tx hx hv c v4
        refine ⟨A', F', ?_, u2, u3⟩
        simp (disch := omega) only [eX6_takeBehindValue, sX6_takeBehindValue_0, sX6_takeBehindValue_1, sX6_takeBehindValue_4, sX6_takeBehindValue_7, sX6_takeBehindValue_8, sX6_takeBehindValue_9, sX6_takeBehindValue_11, sX6_takeBehindValue_14, sX6_takeBehindValue_15, sX6_takeBehindValue_16, sX6_takeBehindValue_19, sX6_takeBehindValue_22, sX6_takeBehindValue_23, sX6_takeBehindValue_24, sX6_takeBehindValue_27, sX6_takeBehindValue_28, sX6_takeBehindValue_29, sX6_takeBehindValue_32, sX6_takeBehindValue_33, sX6_takeBehindValue_34, sX6_takeBehindValue_35, sX6_takeBehindValue_38, sX6_takeBehindValue_41, sX6_takeBehindValue_42, sX6_takeBehindValue_43, sX6_takeBehindValue_46, sX6_takeBehindValue_47, sX6_takeBehindValue_48, sX6_takeBehindValue_51, sX6_takeBehindValue_54, sX6_takeBehindValue_55, sX6_takeBehindValue_56, sX6_takeBehindValue_59, sX6_takeBehindValue_60, sX6_takeBehindValue_61, sX6_takeBehindValue_62, sX6_takeBehindValue_65, sX6_takeBehindValue_66, sX6_takeBehindValue_67, sX6_takeBehindValue_68, sX6_takeBehindValue_69, sX6_takeBehindValue_72, sX6_takeBehindValue_75, sX6_takeBehindValue_76, sX6_takeBehindValue_77, sX6_takeBehindValue_80, sX6_takeBehindValue_81, sX6_takeBehindValue_82, sX6_takeBehindValue_85, sX6_takeBehindValue_86, sX6_takeBehindValue_87, sX6_takeBehindValue_90, sX6_takeBehindValue_91, sX6_takeBehindValue_94, ↓hk2, ↓hk6, ↓hf6_9, ↓hf6_10, e9, e10, ↓bndi_at KI, ↓bndi_at OP, ↓if_pos y', ↓if_pos z, ↓if_neg k, ↓bndi_at u1]
theorem q_fact (h : RH A F O W v) (tt : TT A F b L X) (tx : X = tnx b L x va0) (hx : 0 ≤ x ∧ x ≤ L) (hv : -1 ≤ va0 ∧ va0 ≤ 99999) (c : CI O W v x) (v4 : v 4 ≠ 0) (hl : O.length + W.length < 400) : ∃ A' F', cl mX6_takeFact [vr 6, vr 2] (HP A F E) = some (vi (tkFact X.2.2.1 X.2.2.2 b L X.2.1 O W v).1, HP A' F' E) ∧ RH A' F' (tkFact X.2.2.1 X.2.2.2 b L X.2.1 O W v).2.1 (tkFact X.2.2.1 X.2.2.2 b L X.2.1 O W v).2.2.1 (tkFact X.2.2.1 X.2.2.2 b L X.2.1 O W v).2.2.2 ∧ rfr A F A' F' := by
  have xb := X_b tx hx hv tt.2.2.2.1.2
  have xs := X_s tx hx tt.2.2.2.2
  have L4 := tt.2.2.2.1
  have KI := t_kind (E := E) tt
  have WI := t_word (E := E) tt S_wN xb.1
  have wv := wN_t (b := b) (L := L) (x := x) (va := va0) tt.2.2.2.2 hx
  rw [← tx] at wv
  rw [wv, ← xs] at WI
  have e7 := h.2.2.2.2 7 (by omega) (by omega)
  have e8 := h.2.2.2.2 8 (by omega) (by omega)
  have c7' := c7_b W
  have c8' := c50_b W
  have v7 := c.2.1
  have v8 := c.2.2.1
  have o1 : ¬ ((1 : Int) = 0) := by omega
  unfold tkFact
  -- a bracket or a NOT
  have fin : ∀ (dd op : Int), (dd = 1 ∧ op = 50 ∨ dd = 0 ∧ op = 22) → ∃ A' F', rn mX6_takeFact 40 [vr 6, vr 2, vi dd] [] (HP A F E) = some (vi (if v 7 < 10 then -1 else 2), HP A' F' E) ∧ RH A' F' O (op :: W) (fup (fup v 7 (v 7 + 1)) 8 (v 8 + dd)) ∧ rfr A F A' F' := by
    intro dd op hd
    have u2 : RH A (q6 (q6 F 7 (v 7 + 1)) 8 (v 8 + dd)) O W (fup (fup v 7 (v 7 + 1)) 8 (v 8 + dd)) := RH_q (RH_q h (by omega)) (by omega)
    obtain ⟨A2, F2, w1, w2, w3⟩ := RH_await (E := E) (x := op) u2 (by omega)
    have f7 := w2.2.2.2.2 7 (by omega) (by omega)
    rw [fup_n (by omega), fup_s] at f7
    refine ⟨A2, F2, ?_, w2, rfr_t (rfr_t rfr_q rfr_q) w3⟩
    have g : aup F 6 (fup (fup (F 6) 7 (v 7 + 1)) 8 (v 8 + dd)) = q6 (q6 F 7 (v 7 + 1)) 8 (v 8 + dd) := by unfold q6; rw [aup_s, aup_aup]
    rcases hd with ⟨rfl, rfl⟩ | ⟨rfl, rfl⟩
    · by_cases z : v 7 < 10
      · rw [if_pos z]
        simp (disch := omega) only [eX6_takeFact, sX6_takeFact_0, sX6_takeFact_1, sX6_takeFact_4, sX6_takeFact_6, sX6_takeFact_9, sX6_takeFact_10, sX6_takeFact_13, sX6_takeFact_14, sX6_takeFact_15, sX6_takeFact_16, sX6_takeFact_19, sX6_takeFact_20, sX6_takeFact_22, sX6_takeFact_25, sX6_takeFact_26, sX6_takeFact_29, sX6_takeFact_30, sX6_takeFact_31, sX6_takeFact_34, sX6_takeFact_35, sX6_takeFact_36, sX6_takeFact_39, sX6_takeFact_40, sX6_takeFact_41, sX6_takeFact_42, sX6_takeFact_45, sX6_takeFact_46, sX6_takeFact_47, sX6_takeFact_50, sX6_takeFact_51, sX6_takeFact_52, sX6_takeFact_55, sX6_takeFact_56, sX6_takeFact_59, sX6_takeFact_60, sX6_takeFact_63, sX6_takeFact_64, sX6_takeFact_65, sX6_takeFact_68, sX6_takeFact_69, sX6_takeFact_70, sX6_takeFact_73, sX6_takeFact_75, sX6_takeFact_78, sX6_takeFact_80, sX6_takeFact_83, sX6_takeFact_84, sX6_takeFact_87, sX6_takeFact_89, sX6_takeFact_92, sX6_takeFact_93, sX6_takeFact_96, sX6_takeFact_97, ↓hk6, ↓hf6_7, ↓hf6_8, ↓hp6_7, ↓hp6_8, e7, e8, i32_of, aup_s, aup_aup, fup_s, fup_n, g, ↓bndv_at w1, f7, ↓if_pos, ↓if_neg, ↓reduceIte]
      · rw [if_neg z]
        simp (disch := omega) only [eX6_takeFact, sX6_takeFact_0, sX6_takeFact_1, sX6_takeFact_4, sX6_takeFact_6, sX6_takeFact_9, sX6_takeFact_10, sX6_takeFact_13, sX6_takeFact_14, sX6_takeFact_15, sX6_takeFact_16, sX6_takeFact_19, sX6_takeFact_20, sX6_takeFact_22, sX6_takeFact_25, sX6_takeFact_26, sX6_takeFact_29, sX6_takeFact_30, sX6_takeFact_31, sX6_takeFact_34, sX6_takeFact_35, sX6_takeFact_36, sX6_takeFact_39, sX6_takeFact_40, sX6_takeFact_41, sX6_takeFact_42, sX6_takeFact_45, sX6_takeFact_46, sX6_takeFact_47, sX6_takeFact_50, sX6_takeFact_51, sX6_takeFact_52, sX6_takeFact_55, sX6_takeFact_56, sX6_takeFact_59, sX6_takeFact_60, sX6_takeFact_63, sX6_takeFact_64, sX6_takeFact_65, sX6_takeFact_68, sX6_takeFact_69, sX6_takeFact_70, sX6_takeFact_73, sX6_takeFact_75, sX6_takeFact_78, sX6_takeFact_80, sX6_takeFact_83, sX6_takeFact_84, sX6_takeFact_87, sX6_takeFact_89, sX6_takeFact_92, sX6_takeFact_93, sX6_takeFact_96, sX6_takeFact_97, ↓hk6, ↓hf6_7, ↓hf6_8, ↓hp6_7, ↓hp6_8, e7, e8, i32_of, aup_s, aup_aup, fup_s, fup_n, g, ↓bndv_at w1, f7, ↓if_pos, ↓if_neg, ↓reduceIte]
    · by_cases z : v 7 < 10
      · rw [if_pos z]
        simp (disch := omega) only [eX6_takeFact, sX6_takeFact_0, sX6_takeFact_1, sX6_takeFact_4, sX6_takeFact_6, sX6_takeFact_9, sX6_takeFact_10, sX6_takeFact_13, sX6_takeFact_14, sX6_takeFact_15, sX6_takeFact_16, sX6_takeFact_19, sX6_takeFact_20, sX6_takeFact_22, sX6_takeFact_25, sX6_takeFact_26, sX6_takeFact_29, sX6_takeFact_30, sX6_takeFact_31, sX6_takeFact_34, sX6_takeFact_35, sX6_takeFact_36, sX6_takeFact_39, sX6_takeFact_40, sX6_takeFact_41, sX6_takeFact_42, sX6_takeFact_45, sX6_takeFact_46, sX6_takeFact_47, sX6_takeFact_50, sX6_takeFact_51, sX6_takeFact_52, sX6_takeFact_55, sX6_takeFact_56, sX6_takeFact_59, sX6_takeFact_60, sX6_takeFact_63, sX6_takeFact_64, sX6_takeFact_65, sX6_takeFact_68, sX6_takeFact_69, sX6_takeFact_70, sX6_takeFact_73, sX6_takeFact_75, sX6_takeFact_78, sX6_takeFact_80, sX6_takeFact_83, sX6_takeFact_84, sX6_takeFact_87, sX6_takeFact_89, sX6_takeFact_92, sX6_takeFact_93, sX6_takeFact_96, sX6_takeFact_97, ↓hk6, ↓hf6_7, ↓hf6_8, ↓hp6_7, ↓hp6_8, e7, e8, i32_of, aup_s, aup_aup, fup_s, fup_n, g, ↓bndv_at w1, f7, ↓if_pos, ↓if_neg, ↓reduceIte]
      · rw [if_neg z]
        simp (disch := omega) only [eX6_takeFact, sX6_takeFact_0, sX6_takeFact_1, sX6_takeFact_4, sX6_takeFact_6, sX6_takeFact_9, sX6_takeFact_10, sX6_takeFact_13, sX6_takeFact_14, sX6_takeFact_15, sX6_takeFact_16, sX6_takeFact_19, sX6_takeFact_20, sX6_takeFact_22, sX6_takeFact_25, sX6_takeFact_26, sX6_takeFact_29, sX6_takeFact_30, sX6_takeFact_31, sX6_takeFact_34, sX6_takeFact_35, sX6_takeFact_36, sX6_takeFact_39, sX6_takeFact_40, sX6_takeFact_41, sX6_takeFact_42, sX6_takeFact_45, sX6_takeFact_46, sX6_takeFact_47, sX6_takeFact_50, sX6_takeFact_51, sX6_takeFact_52, sX6_takeFact_55, sX6_takeFact_56, sX6_takeFact_59, sX6_takeFact_60, sX6_takeFact_63, sX6_takeFact_64, sX6_takeFact_65, sX6_takeFact_68, sX6_takeFact_69, sX6_takeFact_70, sX6_takeFact_73, sX6_takeFact_75, sX6_takeFact_78, sX6_takeFact_80, sX6_takeFact_83, sX6_takeFact_84, sX6_takeFact_87, sX6_takeFact_89, sX6_takeFact_92, sX6_takeFact_93, sX6_takeFact_96, sX6_takeFact_97, ↓hk6, ↓hf6_7, ↓hf6_8, ↓hp6_7, ↓hp6_8, e7, e8, i32_of, aup_s, aup_aup, fup_s, fup_n, g, ↓bndv_at w1, f7, ↓if_pos, ↓if_neg, ↓reduceIte]
  by_cases k : X.2.2.1 = 91
  · rw [if_neg (fun q => q.1 k), if_pos k, if_pos k]
    have kk : ¬ ¬ X.2.2.1 = 91 := fun q => q k
    obtain ⟨A', F', f1, f2, f3⟩ := fin 1 50 (Or.inl ⟨rfl, rfl⟩)
    refine ⟨A', F', ?_, f2, f3⟩
    rw [← f1]
    simp (disch := omega) only [eX6_takeFact, sX6_takeFact_0, sX6_takeFact_1, sX6_takeFact_4, sX6_takeFact_6, sX6_takeFact_9, sX6_takeFact_10, sX6_takeFact_13, sX6_takeFact_14, sX6_takeFact_15, sX6_takeFact_16, sX6_takeFact_19, sX6_takeFact_20, sX6_takeFact_22, sX6_takeFact_25, sX6_takeFact_26, sX6_takeFact_29, sX6_takeFact_30, sX6_takeFact_31, sX6_takeFact_34, sX6_takeFact_35, sX6_takeFact_36, sX6_takeFact_39, sX6_takeFact_41, sX6_takeFact_42, sX6_takeFact_45, sX6_takeFact_46, sX6_takeFact_47, sX6_takeFact_50, sX6_takeFact_51, sX6_takeFact_52, sX6_takeFact_55, sX6_takeFact_56, sX6_takeFact_59, sX6_takeFact_60, sX6_takeFact_63, sX6_takeFact_64, sX6_takeFact_65, sX6_takeFact_68, sX6_takeFact_69, sX6_takeFact_70, sX6_takeFact_73, sX6_takeFact_75, sX6_takeFact_78, sX6_takeFact_80, sX6_takeFact_83, sX6_takeFact_84, sX6_takeFact_87, sX6_takeFact_89, sX6_takeFact_92, sX6_takeFact_93, sX6_takeFact_96, sX6_takeFact_97, ↓hk2, ↓bndi_at KI, ↓if_neg kk, ↓if_pos o1]
  · by_cases y : tkN b L X.2.1 = -1
    · rw [if_pos ⟨k, y⟩]
      have yy : ¬ ¬ tkN b L X.2.1 = -1 := fun q => q y
      obtain ⟨A', F', u1, u2, u3⟩ := q_value (E := E) (RH_q (k := 10) (x := 0) h (by omega)) (TT_f tt rfr_q) tx hx hv (by omega) (by rw [fup_n (by omega)]; exact c.2.2.2.2.1)
      refine ⟨A', F', ?_, u2, rfr_t rfr_q u3⟩
      have pt : ∀ pc L st, rn mX6_takeFact pc L st (HP A (aup F 6 (fup (F 6) 10 0)) E) = rn mX6_takeFact pc L st (HP A (q6 F 10 0) E) := fun _ _ _ => rfl
      simp (disch := omega) only [eX6_takeFact, sX6_takeFact_0, sX6_takeFact_1, sX6_takeFact_4, sX6_takeFact_6, sX6_takeFact_9, sX6_takeFact_10, sX6_takeFact_13, sX6_takeFact_14, sX6_takeFact_15, sX6_takeFact_16, sX6_takeFact_19, sX6_takeFact_20, sX6_takeFact_22, sX6_takeFact_25, sX6_takeFact_26, sX6_takeFact_29, sX6_takeFact_30, sX6_takeFact_31, sX6_takeFact_35, sX6_takeFact_36, sX6_takeFact_39, sX6_takeFact_41, sX6_takeFact_42, sX6_takeFact_45, sX6_takeFact_46, sX6_takeFact_47, sX6_takeFact_50, sX6_takeFact_51, sX6_takeFact_52, sX6_takeFact_55, sX6_takeFact_56, sX6_takeFact_59, sX6_takeFact_60, sX6_takeFact_63, sX6_takeFact_64, sX6_takeFact_65, sX6_takeFact_68, sX6_takeFact_69, sX6_takeFact_70, sX6_takeFact_73, sX6_takeFact_75, sX6_takeFact_78, sX6_takeFact_80, sX6_takeFact_83, sX6_takeFact_84, sX6_takeFact_87, sX6_takeFact_89, sX6_takeFact_92, sX6_takeFact_93, sX6_takeFact_96, sX6_takeFact_97, ↓hk2, ↓hk6, ↓bndi_at KI, ↓bndi_at WI, ↓if_pos k, ↓if_neg yy, ↓hp6_10, not_true_eq_false, true_or, ↓reduceIte]
      rw [pt]
      simp (disch := omega) only [eX6_takeFact, sX6_takeFact_0, sX6_takeFact_1, sX6_takeFact_4, sX6_takeFact_6, sX6_takeFact_9, sX6_takeFact_10, sX6_takeFact_13, sX6_takeFact_14, sX6_takeFact_15, sX6_takeFact_16, sX6_takeFact_19, sX6_takeFact_20, sX6_takeFact_22, sX6_takeFact_25, sX6_takeFact_26, sX6_takeFact_29, sX6_takeFact_30, sX6_takeFact_31, sX6_takeFact_34, sX6_takeFact_35, sX6_takeFact_36, sX6_takeFact_39, sX6_takeFact_41, sX6_takeFact_42, sX6_takeFact_45, sX6_takeFact_46, sX6_takeFact_47, sX6_takeFact_50, sX6_takeFact_51, sX6_takeFact_52, sX6_takeFact_55, sX6_takeFact_56, sX6_takeFact_59, sX6_takeFact_60, sX6_takeFact_63, sX6_takeFact_64, sX6_takeFact_65, sX6_takeFact_68, sX6_takeFact_69, sX6_takeFact_70, sX6_takeFact_73, sX6_takeFact_75, sX6_takeFact_78, sX6_takeFact_80, sX6_takeFact_83, sX6_takeFact_84, sX6_takeFact_87, sX6_takeFact_89, sX6_takeFact_92, sX6_takeFact_93, sX6_takeFact_96, sX6_takeFact_97, ↓hk6, ↓bndi_at u1]
    · rw [if_neg (fun q => y q.2), if_neg k, if_neg k]
      obtain ⟨A', F', f1, f2, f3⟩ := fin 0 22 (Or.inr ⟨rfl, rfl⟩)
      refine ⟨A', F', ?_, f2, f3⟩
      rw [← f1]
      simp (disch := omega) only [eX6_takeFact, sX6_takeFact_0, sX6_takeFact_1, sX6_takeFact_4, sX6_takeFact_6, sX6_takeFact_9, sX6_takeFact_10, sX6_takeFact_13, sX6_takeFact_14, sX6_takeFact_15, sX6_takeFact_16, sX6_takeFact_19, sX6_takeFact_20, sX6_takeFact_22, sX6_takeFact_25, sX6_takeFact_26, sX6_takeFact_29, sX6_takeFact_30, sX6_takeFact_31, sX6_takeFact_34, sX6_takeFact_35, sX6_takeFact_36, sX6_takeFact_39, sX6_takeFact_41, sX6_takeFact_42, sX6_takeFact_45, sX6_takeFact_46, sX6_takeFact_47, sX6_takeFact_50, sX6_takeFact_51, sX6_takeFact_52, sX6_takeFact_55, sX6_takeFact_56, sX6_takeFact_59, sX6_takeFact_60, sX6_takeFact_63, sX6_takeFact_64, sX6_takeFact_65, sX6_takeFact_68, sX6_takeFact_69, sX6_takeFact_70, sX6_takeFact_73, sX6_takeFact_75, sX6_takeFact_78, sX6_takeFact_80, sX6_takeFact_83, sX6_takeFact_84, sX6_takeFact_87, sX6_takeFact_89, sX6_takeFact_92, sX6_takeFact_93, sX6_takeFact_96, sX6_takeFact_97, ↓hk2, ↓bndi_at KI, ↓bndi_at WI, ↓if_pos k, ↓if_pos y, not_true_eq_false, ↓reduceIte]
theorem q_take (h : RH A F O W v) (tt : TT A F b L X) (tx : X = tnx b L x va0) (hx : 0 ≤ x ∧ x ≤ L) (hv : -1 ≤ va0 ∧ va0 ≤ 99999) (c : CI O W v x) : ∃ A' F', cl mX6_take [vr 6, vr 2] (HP A F E) = some (vi (tkS X.2.2.1 X.2.2.2 b L X.2.1 O W v).1, HP A' F' E) ∧ RH A' F' (tkS X.2.2.1 X.2.2.2 b L X.2.1 O W v).2.1 (tkS X.2.2.1 X.2.2.2 b L X.2.1 O W v).2.2.1 (tkS X.2.2.1 X.2.2.2 b L X.2.1 O W v).2.2.2 ∧ rfr A F A' F' := by
  have L4 := tt.2.2.2.1
  have e4 := h.2.2.2.2 4 (by omega) (by omega)
  have vb := c.2.2.2.2.2.2
  have ln := c.2.2.2.2.2.1
  unfold tkS
  by_cases z0 : v 4 = 0
  · rw [if_pos z0]
    rw [z0] at e4
    obtain ⟨A', F', u1, u2, u3⟩ := q_turn (E := E) h tt tx hx hv c.2.2.2.1
    refine ⟨A', F', ?_, u2, u3⟩
    simp (disch := omega) only [eX6_take, sX6_take_0, sX6_take_1, sX6_take_4, sX6_take_36, sX6_take_37, sX6_take_38, sX6_take_41, sX6_take_42, sX6_take_43, sX6_take_44, sX6_take_47, sX6_take_48, sX6_take_49, sX6_take_50, sX6_take_53, sX6_take_54, sX6_take_55, sX6_take_56, sX6_take_59, sX6_take_60, sX6_take_61, sX6_take_62, sX6_take_65, ↓hf6_4, ↓hk6, e4, swc, ↓bndi_at u1, ↓if_pos, ↓if_neg, ↓reduceIte, Int.reduceSub, Int.reduceToNat]
  · rw [if_neg z0] at ln ⊢
    by_cases z1 : v 4 = 1
    · rw [if_pos z1]
      rw [z1] at e4
      obtain ⟨A', F', u1, u2, u3⟩ := q_value (E := E) h tt tx hx hv (by omega) c.2.2.2.2.1
      refine ⟨A', F', ?_, u2, u3⟩
      simp (disch := omega) only [eX6_take, sX6_take_0, sX6_take_1, sX6_take_4, sX6_take_36, sX6_take_37, sX6_take_38, sX6_take_41, sX6_take_42, sX6_take_43, sX6_take_44, sX6_take_47, sX6_take_48, sX6_take_49, sX6_take_50, sX6_take_53, sX6_take_54, sX6_take_55, sX6_take_56, sX6_take_59, sX6_take_60, sX6_take_61, sX6_take_62, sX6_take_65, ↓hf6_4, ↓hk6, e4, swc, ↓bndi_at u1, ↓if_pos, ↓if_neg, ↓reduceIte, Int.reduceSub, Int.reduceToNat]
    · rw [if_neg z1]
      by_cases z2 : v 4 = 2
      · rw [if_pos z2]
        rw [z2] at e4
        obtain ⟨A', F', u1, u2, u3⟩ := q_fact (E := E) h tt tx hx hv c z0 (by omega)
        refine ⟨A', F', ?_, u2, u3⟩
        simp (disch := omega) only [eX6_take, sX6_take_0, sX6_take_1, sX6_take_4, sX6_take_36, sX6_take_37, sX6_take_38, sX6_take_41, sX6_take_42, sX6_take_43, sX6_take_44, sX6_take_47, sX6_take_48, sX6_take_49, sX6_take_50, sX6_take_53, sX6_take_54, sX6_take_55, sX6_take_56, sX6_take_59, sX6_take_60, sX6_take_61, sX6_take_62, sX6_take_65, ↓hf6_4, ↓hk6, e4, swc, ↓bndi_at u1, ↓if_pos, ↓if_neg, ↓reduceIte, Int.reduceSub, Int.reduceToNat]
      · rw [if_neg z2]
        by_cases z3 : v 4 = 3
        · rw [if_pos z3]
          rw [z3] at e4
          obtain ⟨A', F', u1, u2, u3⟩ := q_bv (E := E) h tt tx hx hv c z0
          refine ⟨A', F', ?_, u2, u3⟩
          simp (disch := omega) only [eX6_take, sX6_take_0, sX6_take_1, sX6_take_4, sX6_take_36, sX6_take_37, sX6_take_38, sX6_take_41, sX6_take_42, sX6_take_43, sX6_take_44, sX6_take_47, sX6_take_48, sX6_take_49, sX6_take_50, sX6_take_53, sX6_take_54, sX6_take_55, sX6_take_56, sX6_take_59, sX6_take_60, sX6_take_61, sX6_take_62, sX6_take_65, ↓hf6_4, ↓hk6, e4, swc, ↓bndi_at u1, ↓if_pos, ↓if_neg, ↓reduceIte, Int.reduceSub, Int.reduceToNat]
        · rw [if_neg z3]
          have z4 : v 4 = 4 := by omega
          rw [z4] at e4
          obtain ⟨A', F', u1, u2, u3⟩ := q_bf (E := E) h tt tx hx hv c z0
          refine ⟨A', F', ?_, u2, u3⟩
          simp (disch := omega) only [eX6_take, sX6_take_0, sX6_take_1, sX6_take_4, sX6_take_36, sX6_take_37, sX6_take_38, sX6_take_41, sX6_take_42, sX6_take_43, sX6_take_44, sX6_take_47, sX6_take_48, sX6_take_49, sX6_take_50, sX6_take_53, sX6_take_54, sX6_take_55, sX6_take_56, sX6_take_59, sX6_take_60, sX6_take_61, sX6_take_62, sX6_take_65, ↓hf6_4, ↓hk6, e4, swc, ↓bndi_at u1, ↓if_pos, ↓if_neg, ↓reduceIte, Int.reduceSub, Int.reduceToNat]
end TU
