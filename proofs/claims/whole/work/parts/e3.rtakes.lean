/-! RuleReader's takes over lists -/
/-- the text as it stands: bytes, length, the token read last -/
def TT (A F : Nat → Nat → Int) (b : Nat → Int) (L : Int) (X : Int × Int × Int × Int) : Prop := A 3 = b ∧ F 2 1 = L ∧ (F 2 2 = X.1 ∧ F 2 3 = X.2.1 ∧ F 2 4 = X.2.2.1 ∧ F 2 5 = X.2.2.2) ∧ (0 ≤ L ∧ L ≤ 400) ∧ (∀ j, 0 ≤ b j ∧ b j ≤ 255)
def tkVal (kd va : Int) (b : Nat → Int) (L s : Int) (O W : List Int) (v : Nat → Int) : Int × List Int × List Int × (Nat → Int) := if ¬ kd = -2 ∧ tkV b L s = -1 then (0, O, W, v) else if kd = -2 ∧ va = -1 then (1, O, W, v) else (if v 6 < 60 then -1 else 3, (if kd = -2 then 100 + va else tkV b L s) :: O, W, fup (fup v 4 3) 6 (v 6 + 1))
def tkTurn (b : Nat → Int) (L s : Int) (O W : List Int) (v : Nat → Int) : Int × List Int × List Int × (Nat → Int) := if tkT b L s = -1 then (0, O, W, v) else (if v 5 < 12 then -1 else 4, O, W, fup (fup (fup v 5 (v 5 + 1)) 9 0) 4 1)
def tkFact (kd va : Int) (b : Nat → Int) (L s : Int) (O W : List Int) (v : Nat → Int) : Int × List Int × List Int × (Nat → Int) := if ¬ kd = 91 ∧ tkN b L s = -1 then tkVal kd va b L s O W (fup v 10 0) else (if v 7 < 10 then -1 else 2, O, (if kd = 91 then 50 else 22) :: W, fup (fup v 7 (v 7 + 1)) 8 (v 8 + (if kd = 91 then 1 else 0)))
def tkEnd (kd : Int) (O W : List Int) (v : Nat → Int) : Int × List Int × List Int × (Nat → Int) := if ¬ kd = -1 ∧ ¬ kd = 59 then (0, O, W, v) else (-1, (if v 9 = 0 then 40 else 41) :: (stl2 0 W O).1, (stl2 0 W O).2.1, fup (fup v 7 (v 7 - (stl2 0 W O).2.2)) 4 0)
def tkBT (kd : Int) (b : Nat → Int) (L s : Int) (O W : List Int) (v : Nat → Int) : Int × List Int × List Int × (Nat → Int) := if tkI b L s = -1 then tkEnd kd O W v else (-1, (stl2 0 W O).1, (stl2 0 W O).2.1, fup (fup (fup v 7 (v 7 - (stl2 0 W O).2.2)) 9 1) 4 2)
/-- or, and: their orders -/
def jop (b : Nat → Int) (L s : Int) : Int := if tkJ b L s = 0 then 20 else 21
def tkBF (kd : Int) (b : Nat → Int) (L s : Int) (O W : List Int) (v : Nat → Int) : Int × List Int × List Int × (Nat → Int) := if ¬ tkJ b L s = -1 then (-1, (stl2 (rkf (jop b L s)) W O).1, jop b L s :: (stl2 (rkf (jop b L s)) W O).2.1, fup (fup v 7 (v 7 - (stl2 (rkf (jop b L s)) W O).2.2)) 4 2) else if v 8 = 0 then tkEnd kd O W v else if ¬ kd = 93 then (0, O, W, v) else (-1, (stl2 0 W O).1, (stl2 0 W O).2.1.tail, fup (fup (fup (fup v 7 (v 7 - (stl2 0 W O).2.2)) 7 (v 7 - (stl2 0 W O).2.2 - 1)) 8 (v 8 - 1)) 4 4)
def tkBV (kd : Int) (b : Nat → Int) (L s : Int) (O W : List Int) (v : Nat → Int) : Int × List Int × List Int × (Nat → Int) := if 28 ≤ opf kd then (-1, (stl2 (rkf (opf kd)) W O).1, opf kd :: (stl2 (rkf (opf kd)) W O).2.1, fup (fup v 7 (v 7 - (stl2 (rkf (opf kd)) W O).2.2)) 4 1) else if v 9 = 0 then tkBT kd b L s O W v else if ¬ v 10 = 0 then tkBF kd b L s O W v else if opf kd = -1 then (0, O, W, v) else (if v 6 < 60 then -1 else 3, (stl2 (rkf (opf kd)) W O).1, opf kd :: (stl2 (rkf (opf kd)) W O).2.1, fup (fup (fup (fup v 7 (v 7 - (stl2 (rkf (opf kd)) W O).2.2)) 10 1) 4 1) 6 (v 6 + 1))
def tkS (kd va : Int) (b : Nat → Int) (L s : Int) (O W : List Int) (v : Nat → Int) : Int × List Int × List Int × (Nat → Int) := if v 4 = 0 then tkTurn b L s O W v else if v 4 = 1 then tkVal kd va b L s O W v else if v 4 = 2 then tkFact kd va b L s O W v else if v 4 = 3 then tkBV kd b L s O W v else tkBF kd b L s O W v
/-- brackets and NOTs waiting; brackets alone -/
def c7 : List Int → Int
  | [] => 0
  | o :: W => c7 W + (if o = 22 ∨ o = 50 then 1 else 0)
def c50 : List Int → Int
  | [] => 0
  | o :: W => c50 W + (if o = 50 then 1 else 0)
def CI (O W : List Int) (v : Nat → Int) (x : Int) : Prop := (∀ o, o ∈ W → (20 ≤ o ∧ o ≤ 32) ∨ o = 50) ∧ v 7 = c7 W ∧ v 8 = c50 W ∧ (0 ≤ v 5 ∧ v 5 ≤ 12) ∧ (0 ≤ v 6 ∧ v 6 ≤ 60) ∧ (O.length : Int) + W.length + (if v 4 = 0 then 0 else 1) ≤ x ∧ (0 ≤ v 4 ∧ v 4 ≤ 4)
theorem c7_b : ∀ W : List Int, 0 ≤ c7 W ∧ c7 W ≤ (W.length : Int)
  | [] => by rw [c7, List.length_nil]; omega
  | o :: W => by have := c7_b W; rw [c7, List.length_cons]; split <;> omega
theorem c50_b : ∀ W : List Int, 0 ≤ c50 W ∧ c50 W ≤ (W.length : Int)
  | [] => by rw [c50, List.length_nil]; omega
  | o :: W => by have := c50_b W; rw [c50, List.length_cons]; split <;> omega
theorem rkf_50 : rkf 50 = -1 := rfl
theorem rkf_b {o : Int} (h : 20 ≤ o ∧ o ≤ 32) : 1 ≤ rkf o ∧ rkf o ≤ 6 := by unfold rkf; split <;> (try omega) <;> split <;> (try omega) <;> split <;> (try omega) <;> split <;> omega
/-- with a bracket waiting, what is settled stops at it -/
theorem stl2_50 {rk : Int} (h0 : 0 ≤ rk) : ∀ (W O : List Int), c50 W ≠ 0 → ∃ W', (stl2 rk W O).2.1 = W' ∧ W' ≠ []
  | [], O, h => absurd rfl h
  | o :: W, O, h => by
    rw [stl2]
    by_cases q : rkf o < rk
    · rw [if_pos q]; exact ⟨o :: W, rfl, List.cons_ne_nil _ _⟩
    · rw [if_neg q]
      dsimp only
      have no : o ≠ 50 := fun e => q (by rw [e, rkf_50]; omega)
      rw [c50, if_neg no, Int.add_zero] at h
      exact stl2_50 h0 W (o :: O) h
section TS
variable {A F : Nat → Nat → Int} {E : zE} {O W : List Int} {v b : Nat → Int} {L x va0 : Int} {X : Int × Int × Int × Int}
theorem TT_f {A' F' : Nat → Nat → Int} (h : TT A F b L X) (k : rfr A F A' F') : TT A' F' b L X := by
  unfold TT at *
  rw [k.1 3 (by omega) (by omega), k.2 2 (by omega)]
  exact h
theorem t_kind (h : TT A F b L X) : cl mX8_kind [vr 2] (HP A F E) = some (vi X.2.2.1, HP A F E) := by
  have e := h.2.2.1.2.2.1
  simp only [eX8_kind, sX8_kind_0, sX8_kind_1, sX8_kind_4, ↓hf2_4, e]
theorem t_value (h : TT A F b L X) : cl mX8_value [vr 2] (HP A F E) = some (vi X.2.2.2, HP A F E) := by
  have e := h.2.2.1.2.2.2
  simp only [eX8_value, sX8_value_0, sX8_value_1, sX8_value_4, ↓hf2_5, e]
theorem t_word {a N : Nat} {c : Nat → Int} (h : TT A F b L X) (hS : isS a N c) (hs : 0 ≤ X.2.1 ∧ X.2.1 ≤ X.1 ∧ X.1 ≤ 400) : cl mX8_wordIn [vr 2, vr a] (HP A F E) = some (vi (if X.2.2.1 = -3 then wrd c b N X.2.1 X.1 (N + 1) 0 0 0 else -1), HP A F E) := by
  obtain ⟨h1, h2, ⟨h3, h4, h5, h6⟩, h7, h8⟩ := h
  have r := T_wordIn (h := HP A F E) (t := 2) (y := 3) (L := F 2 1) (p := F 2 2) (s := F 2 3) (kd := F 2 4) (va := F 2 5) (f := A 3) rfl (by omega) hS (by rw [h4]; exact hs.1) (by rw [h3, h4]; exact hs.2.1) (by rw [h3]; exact hs.2.2)
  rw [← HP_txs, h1, h3, h4, h5] at r
  exact r
variable (tx : X = tnx b L x va0) (hx : 0 ≤ x ∧ x ≤ L) (hv : -1 ≤ va0 ∧ va0 ≤ 99999)
/-- the token's bounds -/
theorem X_b (tx : X = tnx b L x va0) (hx : 0 ≤ x ∧ x ≤ L) (hv : -1 ≤ va0 ∧ va0 ≤ 99999) (hL : L ≤ 400) : (0 ≤ X.2.1 ∧ X.2.1 ≤ X.1 ∧ X.1 ≤ 400) ∧ (-1 ≤ X.2.2.2 ∧ X.2.2.2 ≤ 99999) := by
  have := tnx_b (f := b) (L := L) hx.1 hx.2 hv
  rw [tx]; omega
theorem X_s (tx : X = tnx b L x va0) (hx : 0 ≤ x ∧ x ≤ L) (hb : ∀ j, 0 ≤ b j ∧ b j ≤ 255) : X.2.1 = sk b L x := by rw [tx]; exact (tnx_c (va := va0) hb hx.1 hx.2).1
theorem tkV_b {s : Int} : -1 ≤ tkV b L s ∧ tkV b L s ≤ 10 := by
  unfold tkV
  repeat (split; omega)
  omega
theorem q_value (h : RH A F O W v) (tt : TT A F b L X) (tx : X = tnx b L x va0) (hx : 0 ≤ x ∧ x ≤ L) (hv : -1 ≤ va0 ∧ va0 ≤ 99999) (hl : O.length < 400) (p0 : 0 ≤ v 6 ∧ v 6 ≤ 60) : ∃ A' F', cl mX6_takeValue [vr 6, vr 2] (HP A F E) = some (vi (tkVal X.2.2.1 X.2.2.2 b L X.2.1 O W v).1, HP A' F' E) ∧ RH A' F' (tkVal X.2.2.1 X.2.2.2 b L X.2.1 O W v).2.1 (tkVal X.2.2.1 X.2.2.2 b L X.2.1 O W v).2.2.1 (tkVal X.2.2.1 X.2.2.2 b L X.2.1 O W v).2.2.2 ∧ rfr A F A' F' := by
  have xb := X_b tx hx hv tt.2.2.2.1.2
  have xs := X_s tx hx tt.2.2.2.2
  have KI := t_kind (E := E) tt
  have VA := t_value (E := E) tt
  have WI := t_word (E := E) tt S_wV xb.1
  have wv := wV_t (b := b) (L := L) (x := x) (va := va0) tt.2.2.2.2 hx
  rw [← tx] at wv
  rw [wv, ← xs] at WI
  unfold tkVal
  have o1 : ¬ ((1 : Int) = 0) := by omega
  have fin : ∀ c x2 x3 : Int, ∃ A' F', rn mX6_takeValue 63 [vr 6, vr 2, vi x2, vi x3] [vi c, vr 6] (HP A F E) = some (vi (if v 6 < 60 then -1 else 3), HP A' F' E) ∧ RH A' F' (c :: O) W (fup (fup v 4 3) 6 (v 6 + 1)) ∧ rfr A F A' F' := by
    intro c x2 x3
    obtain ⟨A1, F1, u1, u2, u3⟩ := RH_order (E := E) (x := c) h hl
    have u4 : RH A1 (q6 F1 4 3) (c :: O) W (fup v 4 3) := RH_q u2 (by omega)
    have pc := RH_part (E := E) u4 (by rw [fup_n (by omega)]; omega)
    rw [fup_n (show (6 : Nat) ≠ 4 by omega)] at pc
    refine ⟨A1, q6 (q6 F1 4 3) 6 (v 6 + 1), ?_, RH_q u4 (by omega), rfr_t u3 (rfr_t rfr_q rfr_q)⟩
    have pt : ∀ pc L st, rn mX6_takeValue pc L st (HP A1 (aup F1 6 (fup (F1 6) 4 3)) E) = rn mX6_takeValue pc L st (HP A1 (q6 F1 4 3) E) := fun _ _ _ => rfl
    simp (disch := omega) only [eX6_takeValue, sX6_takeValue_0, sX6_takeValue_1, sX6_takeValue_3, sX6_takeValue_6, sX6_takeValue_7, sX6_takeValue_8, sX6_takeValue_11, sX6_takeValue_13, sX6_takeValue_16, sX6_takeValue_17, sX6_takeValue_20, sX6_takeValue_21, sX6_takeValue_22, sX6_takeValue_23, sX6_takeValue_26, sX6_takeValue_27, sX6_takeValue_28, sX6_takeValue_31, sX6_takeValue_32, sX6_takeValue_33, sX6_takeValue_34, sX6_takeValue_37, sX6_takeValue_38, sX6_takeValue_41, sX6_takeValue_42, sX6_takeValue_45, sX6_takeValue_46, sX6_takeValue_47, sX6_takeValue_48, sX6_takeValue_49, sX6_takeValue_52, sX6_takeValue_54, sX6_takeValue_55, sX6_takeValue_58, sX6_takeValue_59, sX6_takeValue_62, sX6_takeValue_63, sX6_takeValue_66, sX6_takeValue_67, sX6_takeValue_68, sX6_takeValue_72, sX6_takeValue_75, ↓hk6, ↓bndv_at u1, ↓hp6_4]
    rw [pt]
    simp (disch := omega) only [eX6_takeValue, sX6_takeValue_0, sX6_takeValue_1, sX6_takeValue_3, sX6_takeValue_6, sX6_takeValue_7, sX6_takeValue_8, sX6_takeValue_11, sX6_takeValue_13, sX6_takeValue_16, sX6_takeValue_17, sX6_takeValue_20, sX6_takeValue_21, sX6_takeValue_22, sX6_takeValue_23, sX6_takeValue_26, sX6_takeValue_27, sX6_takeValue_28, sX6_takeValue_31, sX6_takeValue_32, sX6_takeValue_33, sX6_takeValue_34, sX6_takeValue_37, sX6_takeValue_38, sX6_takeValue_41, sX6_takeValue_42, sX6_takeValue_45, sX6_takeValue_46, sX6_takeValue_47, sX6_takeValue_48, sX6_takeValue_49, sX6_takeValue_52, sX6_takeValue_54, sX6_takeValue_55, sX6_takeValue_58, sX6_takeValue_59, sX6_takeValue_62, sX6_takeValue_63, sX6_takeValue_66, sX6_takeValue_67, sX6_takeValue_68, sX6_takeValue_71, sX6_takeValue_72, sX6_takeValue_75, ↓hk6, ↓bndi_at pc]
  by_cases k : X.2.2.1 = -2
  · rw [if_neg (fun q => q.1 k)]
    have kk : ¬ ¬ X.2.2.1 = -2 := fun q => q k
    by_cases y : X.2.2.2 = -1
    · rw [if_pos ⟨k, y⟩]
      have yy : ¬ ¬ X.2.2.2 = -1 := fun q => q y
      refine ⟨A, F, ?_, h, rfr_r⟩
      simp (disch := omega) only [eX6_takeValue, sX6_takeValue_0, sX6_takeValue_1, sX6_takeValue_3, sX6_takeValue_6, sX6_takeValue_7, sX6_takeValue_8, sX6_takeValue_11, sX6_takeValue_13, sX6_takeValue_16, sX6_takeValue_17, sX6_takeValue_20, sX6_takeValue_21, sX6_takeValue_22, sX6_takeValue_23, sX6_takeValue_26, sX6_takeValue_27, sX6_takeValue_28, sX6_takeValue_31, sX6_takeValue_32, sX6_takeValue_33, sX6_takeValue_34, sX6_takeValue_37, sX6_takeValue_38, sX6_takeValue_41, sX6_takeValue_42, sX6_takeValue_45, sX6_takeValue_46, sX6_takeValue_47, sX6_takeValue_48, sX6_takeValue_49, sX6_takeValue_52, sX6_takeValue_54, sX6_takeValue_55, sX6_takeValue_58, sX6_takeValue_59, sX6_takeValue_62, sX6_takeValue_66, sX6_takeValue_67, sX6_takeValue_68, sX6_takeValue_71, sX6_takeValue_72, sX6_takeValue_75, ↓hk2, ↓bndi_at WI, ↓bndi_at KI, ↓bndi_at VA, ↓if_neg kk, ↓if_neg yy, ↓if_pos o1, ↓if_neg o1]
    · rw [if_neg (fun q => y q.2), if_pos k]
      obtain ⟨A', F', f1, f2, f3⟩ := fin (100 + X.2.2.2) (tkV b L X.2.1) 1
      refine ⟨A', F', ?_, f2, f3⟩
      rw [← f1]
      simp (disch := omega) only [eX6_takeValue, sX6_takeValue_0, sX6_takeValue_1, sX6_takeValue_3, sX6_takeValue_6, sX6_takeValue_7, sX6_takeValue_8, sX6_takeValue_11, sX6_takeValue_13, sX6_takeValue_16, sX6_takeValue_17, sX6_takeValue_20, sX6_takeValue_21, sX6_takeValue_22, sX6_takeValue_23, sX6_takeValue_26, sX6_takeValue_27, sX6_takeValue_28, sX6_takeValue_31, sX6_takeValue_32, sX6_takeValue_33, sX6_takeValue_34, sX6_takeValue_37, sX6_takeValue_38, sX6_takeValue_41, sX6_takeValue_42, sX6_takeValue_45, sX6_takeValue_46, sX6_takeValue_47, sX6_takeValue_48, sX6_takeValue_49, sX6_takeValue_52, sX6_takeValue_54, sX6_takeValue_55, sX6_takeValue_58, sX6_takeValue_59, sX6_takeValue_62, sX6_takeValue_66, sX6_takeValue_67, sX6_takeValue_68, sX6_takeValue_71, sX6_takeValue_72, sX6_takeValue_75, ↓hk2, ↓bndi_at WI, ↓bndi_at KI, ↓bndi_at VA, ↓if_neg kk, ↓if_pos y, ↓if_pos o1, ↓if_neg o1, i32_of]
  · by_cases y : tkV b L X.2.1 = -1
    · rw [if_pos ⟨k, y⟩]
      have yy : ¬ ¬ tkV b L X.2.1 = -1 := fun q => q y
      refine ⟨A, F, ?_, h, rfr_r⟩
      simp (disch := omega) only [eX6_takeValue, sX6_takeValue_0, sX6_takeValue_1, sX6_takeValue_3, sX6_takeValue_6, sX6_takeValue_7, sX6_takeValue_8, sX6_takeValue_11, sX6_takeValue_13, sX6_takeValue_16, sX6_takeValue_17, sX6_takeValue_20, sX6_takeValue_21, sX6_takeValue_22, sX6_takeValue_23, sX6_takeValue_26, sX6_takeValue_27, sX6_takeValue_28, sX6_takeValue_31, sX6_takeValue_32, sX6_takeValue_33, sX6_takeValue_34, sX6_takeValue_37, sX6_takeValue_38, sX6_takeValue_41, sX6_takeValue_42, sX6_takeValue_45, sX6_takeValue_46, sX6_takeValue_47, sX6_takeValue_48, sX6_takeValue_49, sX6_takeValue_52, sX6_takeValue_54, sX6_takeValue_55, sX6_takeValue_58, sX6_takeValue_59, sX6_takeValue_62, sX6_takeValue_66, sX6_takeValue_67, sX6_takeValue_68, sX6_takeValue_71, sX6_takeValue_72, sX6_takeValue_75, ↓hk2, ↓bndi_at WI, ↓bndi_at KI, ↓if_pos k, ↓if_neg yy, not_true_eq_false, ↓reduceIte]
    · rw [if_neg (fun q => y q.2), if_neg (fun q => k q.1), if_neg k]
      obtain ⟨A', F', f1, f2, f3⟩ := fin (tkV b L X.2.1) (tkV b L X.2.1) 0
      refine ⟨A', F', ?_, f2, f3⟩
      rw [← f1]
      simp (disch := omega) only [eX6_takeValue, sX6_takeValue_0, sX6_takeValue_1, sX6_takeValue_3, sX6_takeValue_6, sX6_takeValue_7, sX6_takeValue_8, sX6_takeValue_11, sX6_takeValue_13, sX6_takeValue_16, sX6_takeValue_17, sX6_takeValue_20, sX6_takeValue_21, sX6_takeValue_22, sX6_takeValue_23, sX6_takeValue_26, sX6_takeValue_27, sX6_takeValue_28, sX6_takeValue_31, sX6_takeValue_32, sX6_takeValue_33, sX6_takeValue_34, sX6_takeValue_37, sX6_takeValue_38, sX6_takeValue_41, sX6_takeValue_42, sX6_takeValue_45, sX6_takeValue_46, sX6_takeValue_47, sX6_takeValue_48, sX6_takeValue_49, sX6_takeValue_52, sX6_takeValue_54, sX6_takeValue_55, sX6_takeValue_58, sX6_takeValue_59, sX6_takeValue_62, sX6_takeValue_66, sX6_takeValue_67, sX6_takeValue_68, sX6_takeValue_71, sX6_takeValue_72, sX6_takeValue_75, ↓hk2, ↓bndi_at WI, ↓bndi_at KI, ↓if_pos k, ↓if_pos y, not_true_eq_false, ↓reduceIte]
theorem q_turn (h : RH A F O W v) (tt : TT A F b L X) (tx : X = tnx b L x va0) (hx : 0 ≤ x ∧ x ≤ L) (hv : -1 ≤ va0 ∧ va0 ≤ 99999) (p0 : 0 ≤ v 5 ∧ v 5 ≤ 12) : ∃ A' F', cl mX6_takeTurn [vr 6, vr 2] (HP A F E) = some (vi (tkTurn b L X.2.1 O W v).1, HP A' F' E) ∧ RH A' F' (tkTurn b L X.2.1 O W v).2.1 (tkTurn b L X.2.1 O W v).2.2.1 (tkTurn b L X.2.1 O W v).2.2.2 ∧ rfr A F A' F' := by
  have xb := X_b tx hx hv tt.2.2.2.1.2
  have xs := X_s tx hx tt.2.2.2.2
  have WI := t_word (E := E) tt S_wT xb.1
  have wv := wT_t (b := b) (L := L) (x := x) (va := va0) tt.2.2.2.2 hx
  rw [← tx] at wv
  rw [wv, ← xs] at WI
  have e5 := h.2.2.2.2 5 (by omega) (by omega)
  unfold tkTurn
  by_cases y : tkT b L X.2.1 = -1
  · have yy : ¬ ¬ tkT b L X.2.1 = -1 := fun q => q y
    rw [if_pos y]
    refine ⟨A, F, ?_, h, rfr_r⟩
    simp (disch := omega) only [eX6_takeTurn, sX6_takeTurn_0, sX6_takeTurn_1, sX6_takeTurn_3, sX6_takeTurn_6, sX6_takeTurn_7, sX6_takeTurn_10, sX6_takeTurn_11, sX6_takeTurn_12, sX6_takeTurn_13, sX6_takeTurn_14, sX6_takeTurn_17, sX6_takeTurn_18, sX6_takeTurn_19, sX6_takeTurn_22, sX6_takeTurn_23, sX6_takeTurn_24, sX6_takeTurn_27, sX6_takeTurn_28, sX6_takeTurn_29, sX6_takeTurn_32, sX6_takeTurn_33, sX6_takeTurn_36, sX6_takeTurn_38, sX6_takeTurn_41, sX6_takeTurn_42, sX6_takeTurn_45, sX6_takeTurn_46, ↓hk2, ↓bndi_at WI, ↓if_neg yy]
  · rw [if_neg y]
    refine ⟨A, q6 (q6 (q6 F 5 (v 5 + 1)) 9 0) 4 1, ?_, RH_q (RH_q (RH_q h (by omega)) (by omega)) (by omega), rfr_t rfr_q (rfr_t rfr_q rfr_q)⟩
    have g : q6 (q6 (q6 F 5 (v 5 + 1)) 9 0) 4 1 = aup F 6 (fup (fup (fup (F 6) 5 (v 5 + 1)) 9 0) 4 1) := by unfold q6; rw [aup_s, aup_aup, aup_s, aup_aup]
    rw [g]
    by_cases z : v 5 < 12
    · rw [if_pos z]
      simp (disch := omega) only [eX6_takeTurn, sX6_takeTurn_0, sX6_takeTurn_1, sX6_takeTurn_3, sX6_takeTurn_6, sX6_takeTurn_7, sX6_takeTurn_10, sX6_takeTurn_11, sX6_takeTurn_12, sX6_takeTurn_13, sX6_takeTurn_14, sX6_takeTurn_17, sX6_takeTurn_18, sX6_takeTurn_19, sX6_takeTurn_22, sX6_takeTurn_23, sX6_takeTurn_24, sX6_takeTurn_27, sX6_takeTurn_28, sX6_takeTurn_29, sX6_takeTurn_32, sX6_takeTurn_33, sX6_takeTurn_36, sX6_takeTurn_38, sX6_takeTurn_41, sX6_takeTurn_42, sX6_takeTurn_45, sX6_takeTurn_46, ↓hk2, ↓hf6_5, ↓hp6_5, ↓hp6_9, ↓hp6_4, e5, i32_of, aup_s, aup_aup, fup_s, fup_n, ↓bndi_at WI, ↓if_pos y, ↓if_pos, ↓if_neg, true_or, ↓reduceIte]
    · rw [if_neg z]
      simp (disch := omega) only [eX6_takeTurn, sX6_takeTurn_0, sX6_takeTurn_1, sX6_takeTurn_3, sX6_takeTurn_6, sX6_takeTurn_7, sX6_takeTurn_10, sX6_takeTurn_11, sX6_takeTurn_12, sX6_takeTurn_13, sX6_takeTurn_14, sX6_takeTurn_17, sX6_takeTurn_18, sX6_takeTurn_19, sX6_takeTurn_22, sX6_takeTurn_23, sX6_takeTurn_24, sX6_takeTurn_27, sX6_takeTurn_28, sX6_takeTurn_29, sX6_takeTurn_32, sX6_takeTurn_33, sX6_takeTurn_36, sX6_takeTurn_38, sX6_takeTurn_41, sX6_takeTurn_42, sX6_takeTurn_45, sX6_takeTurn_46, ↓hk2, ↓hf6_5, ↓hp6_5, ↓hp6_9, ↓hp6_4, e5, i32_of, aup_s, aup_aup, fup_s, fup_n, ↓bndi_at WI, ↓if_pos y, ↓if_pos, ↓if_neg, true_or, ↓reduceIte]
theorem CI_h7 (c : CI O W v x) : (W.length : Int) ≤ v 7 + 1000 ∧ v 7 ≤ 1000 ∨ 400 < x := by
  have := c7_b W
  have := c.2.1
  have := c.2.2.2.2.2.1
  by_cases q : 400 < x
  · exact Or.inr q
  · refine Or.inl ?_
    split at this <;> omega
theorem CI_w (c : CI O W v x) : ∀ o, o ∈ W → 0 ≤ o ∧ o ≤ 100 := fun o ho => by have := c.1 o ho; omega
theorem q_end (h : RH A F O W v) (tt : TT A F b L X) (c : CI O W v x) (hx : x ≤ 400) (v4 : v 4 ≠ 0) : ∃ A' F', cl mX6_takeEnd [vr 6, vr 2] (HP A F E) = some (vi (tkEnd X.2.2.1 O W v).1, HP A' F' E) ∧ RH A' F' (tkEnd X.2.2.1 O W v).2.1 (tkEnd X.2.2.1 O W v).2.2.1 (tkEnd X.2.2.1 O W v).2.2.2 ∧ rfr A F A' F' := by
  have KI := t_kind (E := E) tt
  have ln := c.2.2.2.2.2.1
  rw [if_neg v4] at ln
  have h7 : (W.length : Int) ≤ v 7 + 1000 ∧ v 7 ≤ 1000 := by rcases CI_h7 c with q | q; exact q; omega
  unfold tkEnd
  by_cases z : ¬ X.2.2.1 = -1 ∧ ¬ X.2.2.1 = 59
  · rw [if_pos z]
    refine ⟨A, F, ?_, h, rfr_r⟩
    simp (disch := omega) only [eX6_takeEnd, sX6_takeEnd_0, sX6_takeEnd_1, sX6_takeEnd_4, sX6_takeEnd_5, sX6_takeEnd_8, sX6_takeEnd_9, sX6_takeEnd_12, sX6_takeEnd_14, sX6_takeEnd_17, sX6_takeEnd_18, sX6_takeEnd_19, sX6_takeEnd_20, sX6_takeEnd_21, sX6_takeEnd_24, sX6_takeEnd_25, sX6_takeEnd_26, sX6_takeEnd_29, sX6_takeEnd_32, sX6_takeEnd_34, sX6_takeEnd_37, sX6_takeEnd_39, sX6_takeEnd_42, sX6_takeEnd_43, sX6_takeEnd_44, sX6_takeEnd_47, sX6_takeEnd_48, ↓hk2, ↓bndi_at KI, ↓if_neg z.1, ↓if_neg z.2, ↓if_pos z.1, ↓if_pos z.2]
  · rw [if_neg z]
    obtain ⟨A1, F1, u1, u2, u3⟩ := RH_settle (E := E) (rk := 0) h (CI_w c) (by omega) h7
    have sn := stl2_n (rk := 0) W O
    generalize stl2 0 W O = R at *
    have e9 := u2.2.2.2.2 9 (by omega) (by omega)
    rw [fup_n (by omega)] at e9
    obtain ⟨A2, F2, w1, w2, w3⟩ := RH_order (E := E) (x := if v 9 = 0 then 40 else 41) u2 (by omega)
    refine ⟨A2, q6 F2 4 0, ?_, RH_q w2 (by omega), rfr_t u3 (rfr_t w3 rfr_q)⟩
    have fin : rn mX6_takeEnd 19 [vr 6, vr 2] [] (HP A F E) = some (vi (-1), HP A2 (q6 F2 4 0) E) := by
      by_cases y : v 9 = 0
      · rw [if_pos y] at w1
        simp (disch := omega) only [eX6_takeEnd, sX6_takeEnd_0, sX6_takeEnd_1, sX6_takeEnd_4, sX6_takeEnd_5, sX6_takeEnd_8, sX6_takeEnd_9, sX6_takeEnd_12, sX6_takeEnd_14, sX6_takeEnd_17, sX6_takeEnd_18, sX6_takeEnd_19, sX6_takeEnd_20, sX6_takeEnd_21, sX6_takeEnd_24, sX6_takeEnd_25, sX6_takeEnd_26, sX6_takeEnd_29, sX6_takeEnd_32, sX6_takeEnd_34, sX6_takeEnd_37, sX6_takeEnd_39, sX6_takeEnd_42, sX6_takeEnd_43, sX6_takeEnd_44, sX6_takeEnd_47, sX6_takeEnd_48, ↓hk6, ↓bndv_at u1, ↓hf6_9, e9, ↓if_pos y, ↓bndv_at w1, ↓hp6_4]
        rfl
      · rw [if_neg y] at w1
        simp (disch := omega) only [eX6_takeEnd, sX6_takeEnd_0, sX6_takeEnd_1, sX6_takeEnd_4, sX6_takeEnd_5, sX6_takeEnd_8, sX6_takeEnd_9, sX6_takeEnd_12, sX6_takeEnd_14, sX6_takeEnd_17, sX6_takeEnd_18, sX6_takeEnd_19, sX6_takeEnd_20, sX6_takeEnd_21, sX6_takeEnd_24, sX6_takeEnd_25, sX6_takeEnd_26, sX6_takeEnd_29, sX6_takeEnd_32, sX6_takeEnd_34, sX6_takeEnd_37, sX6_takeEnd_39, sX6_takeEnd_42, sX6_takeEnd_43, sX6_takeEnd_44, sX6_takeEnd_47, sX6_takeEnd_48, ↓hk6, ↓bndv_at u1, ↓hf6_9, e9, ↓if_neg y, ↓bndv_at w1, ↓hp6_4]
        rfl
    rw [← fin]
    by_cases q : X.2.2.1 = -1
    · simp (disch := omega) only [eX6_takeEnd, sX6_takeEnd_0, sX6_takeEnd_1, sX6_takeEnd_4, sX6_takeEnd_5, sX6_takeEnd_8, sX6_takeEnd_9, sX6_takeEnd_12, sX6_takeEnd_14, sX6_takeEnd_17, sX6_takeEnd_18, sX6_takeEnd_20, sX6_takeEnd_21, sX6_takeEnd_24, sX6_takeEnd_25, sX6_takeEnd_26, sX6_takeEnd_29, sX6_takeEnd_32, sX6_takeEnd_34, sX6_takeEnd_37, sX6_takeEnd_39, sX6_takeEnd_42, sX6_takeEnd_43, sX6_takeEnd_44, sX6_takeEnd_47, sX6_takeEnd_48, ↓hk2, ↓bndi_at KI, ↓if_pos q]
    · have q3 : X.2.2.1 = 59 := by omega
      simp (disch := omega) only [eX6_takeEnd, sX6_takeEnd_0, sX6_takeEnd_1, sX6_takeEnd_4, sX6_takeEnd_5, sX6_takeEnd_8, sX6_takeEnd_9, sX6_takeEnd_12, sX6_takeEnd_14, sX6_takeEnd_17, sX6_takeEnd_18, sX6_takeEnd_20, sX6_takeEnd_21, sX6_takeEnd_24, sX6_takeEnd_25, sX6_takeEnd_26, sX6_takeEnd_29, sX6_takeEnd_32, sX6_takeEnd_34, sX6_takeEnd_37, sX6_takeEnd_39, sX6_takeEnd_42, sX6_takeEnd_43, sX6_takeEnd_44, sX6_takeEnd_47, sX6_takeEnd_48, ↓hk2, ↓bndi_at KI, ↓if_neg q, ↓if_pos q3]
end TS
