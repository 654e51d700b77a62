/-! Text.isWord, wordIn -/
/-- a text of the pool: length, bytes -/
def isS (a N : Nat) (c : Nat → Int) : Prop := zsl a = some (N : Int) ∧ (∀ i, i < N → zsc a (i : Int) = some (c i)) ∧ N ≤ 1000
theorem gsl_at {α : Type} {a : Nat} {n : Int} {K : Int → Option α} (e : zsl a = some n) : gsl a K = K n := by simp [gsl, odx, e]
theorem gsc_at {α : Type} {a : Nat} {z n : Int} {K : Int → Option α} (e : zsc a z = some n) : gsc a z K = K n := by simp [gsc, odx, e]
/-- the bytes i.. (n of them) of a word that begins at fr are the text's from s on -/
def isw (c f : Nat → Int) (s fr : Int) : Nat → Nat → Bool
  | 0, _ => true
  | n + 1, i => if c i = f (s + (i : Int) - fr).toNat then isw c f s fr n (i + 1) else false
/-- a word from fr to i is the text's from s to p -/
def wdq (c f : Nat → Int) (s p : Int) (fr i : Nat) : Bool := if (i : Int) - (fr : Int) = p - s then isw c f s fr (i - fr) fr else false
def wrd (c f : Nat → Int) (N : Nat) (s p : Int) : Nat → Nat → Int → Nat → Int
  | 0, _, _, _ => -1
  | n + 1, i, ix, fr => if i = N ∨ c i = 32 then (if wdq c f s p fr i then ix else wrd c f N s p n (i + 1) (ix + 1) (i + 1)) else wrd c f N s p n (i + 1) ix fr
section WD
variable {h : zH} {t y a N : Nat} {L p s kd va : Int} {f c : Nat → Int}
theorem T_isw_l {to fr : Nat} (hy : h.2 y = zar 1 400 f) (ne : y ≠ t) (hS : isS a N c) (hto : to ≤ N) (hs : 0 ≤ s) (hb : s + (to : Int) - (fr : Int) ≤ 400) : ∀ (n i : Nat) (x5 : zV), i + n = to → fr ≤ i → rn mX8_isWord 20 [vr t, vr a, vi (fr : Int), vi (to : Int), vi (i : Int), x5] [] (txs h t y L p s kd va) = some (vi (if isw c f s fr n i then 1 else 0), txs h t y L p s kd va) := by
  obtain ⟨S1, S2, S3⟩ := hS
  have y1 := t_y (L := L) (p := p) (s := s) (kd := kd) (va := va) hy ne
  intro n
  induction n with
  | zero =>
    intro i x5 hi hf
    have q : (to : Int) ≤ (i : Int) := by omega
    rw [sX8_isWord_20]
    simp only [eX8_isWord, sX8_isWord_0, sX8_isWord_1, sX8_isWord_2, sX8_isWord_3, sX8_isWord_4, sX8_isWord_7, sX8_isWord_8, sX8_isWord_11, sX8_isWord_12, sX8_isWord_15, sX8_isWord_16, sX8_isWord_17, sX8_isWord_18, sX8_isWord_22, sX8_isWord_23, sX8_isWord_26, sX8_isWord_28, sX8_isWord_29, sX8_isWord_32, sX8_isWord_35, sX8_isWord_36, sX8_isWord_39, sX8_isWord_41, sX8_isWord_42, sX8_isWord_43, sX8_isWord_44, sX8_isWord_46, sX8_isWord_48, sX8_isWord_51, sX8_isWord_53, sX8_isWord_54, sX8_isWord_57, sX8_isWord_58, sX8_isWord_61, sX8_isWord_62, sX8_isWord_64, sX8_isWord_67, sX8_isWord_68, sX8_isWord_71, sX8_isWord_73, sX8_isWord_74, sX8_isWord_77, sX8_isWord_78, sX8_isWord_79, sX8_isWord_82, sX8_isWord_85, sX8_isWord_86, gfi_0, gfi_s, gfr_0, gfr_s, gfl_0, gfl_s, cki_k, bndi_k, bndl_k, bndr_k, bndv_k, zup_2, zup_1, ↓reduceIte, if_true, if_false, true_or, or_true, not_true_eq_false, not_false_eq_true, ↓if_pos q, isw]
  | succ n ih =>
    intro i x5 hi hf
    have q : ¬ (to : Int) ≤ (i : Int) := by omega
    have q2 : ¬ (N : Int) ≤ (i : Int) := by omega
    have e1 : i32 (s + (i : Int)) = s + (i : Int) := i32_of (by omega) (by omega)
    have e2 : i32 (s + (i : Int) - (fr : Int)) = s + (i : Int) - (fr : Int) := i32_of (by omega) (by omega)
    have q3 : ¬ s + (i : Int) - (fr : Int) < 0 := by omega
    have q4 : ¬ ((400 : Nat) : Int) ≤ s + (i : Int) - (fr : Int) := by omega
    have C := S2 i (by omega)
    have is : i32 ((i : Int) + 1) = ((i + 1 : Nat) : Int) := i32_s i (by omega)
    have I := ih (i + 1) (vi (s + (i : Int) - (fr : Int))) (by omega) (by omega)
    rw [sX8_isWord_20, isw]
    by_cases g : c i = f (s + (i : Int) - (fr : Int)).toNat
    · rw [if_pos g]
      rw [g] at C
      simp (disch := omega) only [eX8_isWord, sX8_isWord_0, sX8_isWord_1, sX8_isWord_2, sX8_isWord_3, sX8_isWord_4, sX8_isWord_7, sX8_isWord_8, sX8_isWord_11, sX8_isWord_12, sX8_isWord_15, sX8_isWord_16, sX8_isWord_17, sX8_isWord_18, sX8_isWord_22, sX8_isWord_23, sX8_isWord_26, sX8_isWord_28, sX8_isWord_29, sX8_isWord_32, sX8_isWord_35, sX8_isWord_36, sX8_isWord_39, sX8_isWord_41, sX8_isWord_42, sX8_isWord_43, sX8_isWord_44, sX8_isWord_46, sX8_isWord_48, sX8_isWord_51, sX8_isWord_53, sX8_isWord_54, sX8_isWord_57, sX8_isWord_58, sX8_isWord_61, sX8_isWord_62, sX8_isWord_64, sX8_isWord_67, sX8_isWord_68, sX8_isWord_71, sX8_isWord_73, sX8_isWord_74, sX8_isWord_77, sX8_isWord_78, sX8_isWord_79, sX8_isWord_82, sX8_isWord_85, sX8_isWord_86, ↓if_neg q, ↓gsl_at S1, ↓if_neg q2, ↓t_3, e1, e2, ↓if_neg q3, ↓t_0, ↓gle_at y1, ↓if_neg q4, ↓gsc_at C, ↓gel_at y1, ↓reduceIte, is]
      exact I
    · rw [if_neg g]
      simp (disch := omega) only [eX8_isWord, sX8_isWord_0, sX8_isWord_1, sX8_isWord_2, sX8_isWord_3, sX8_isWord_4, sX8_isWord_7, sX8_isWord_8, sX8_isWord_11, sX8_isWord_12, sX8_isWord_15, sX8_isWord_16, sX8_isWord_17, sX8_isWord_18, sX8_isWord_22, sX8_isWord_23, sX8_isWord_26, sX8_isWord_28, sX8_isWord_29, sX8_isWord_32, sX8_isWord_35, sX8_isWord_36, sX8_isWord_39, sX8_isWord_41, sX8_isWord_42, sX8_isWord_43, sX8_isWord_44, sX8_isWord_46, sX8_isWord_48, sX8_isWord_51, sX8_isWord_53, sX8_isWord_54, sX8_isWord_57, sX8_isWord_58, sX8_isWord_61, sX8_isWord_62, sX8_isWord_64, sX8_isWord_67, sX8_isWord_68, sX8_isWord_71, sX8_isWord_73, sX8_isWord_74, sX8_isWord_77, sX8_isWord_78, sX8_isWord_79, sX8_isWord_82, sX8_isWord_85, sX8_isWord_86, gfi_0, gfi_s, gfr_0, gfr_s, gfl_0, gfl_s, cki_k, bndi_k, bndl_k, bndr_k, bndv_k, zup_2, zup_1, ↓reduceIte, if_true, if_false, true_or, or_true, not_true_eq_false, not_false_eq_true, ↓if_neg q, ↓gsl_at S1, ↓if_neg q2, ↓t_3, e1, e2, ↓if_neg q3, ↓t_0, ↓gle_at y1, ↓if_neg q4, ↓gsc_at C, ↓gel_at y1, ↓if_neg g, Bool.false_eq_true]
theorem T_isWord {to fr : Nat} (hy : h.2 y = zar 1 400 f) (ne : y ≠ t) (hS : isS a N c) (hto : to ≤ N) (hfr : fr ≤ to) (hs : 0 ≤ s) (hsp : s ≤ p) (hp : p ≤ 400) : cl mX8_isWord [vr t, vr a, vi (fr : Int), vi (to : Int)] (txs h t y L p s kd va) = some (vi (if wdq c f s p fr to then 1 else 0), txs h t y L p s kd va) := by
  have S3 := hS.2.2
  have e1 : i32 ((to : Int) - (fr : Int)) = (to : Int) - (fr : Int) := i32_of (by omega) (by omega)
  have e2 : i32 (p - s) = p - s := i32_of (by omega) (by omega)
  unfold wdq
  by_cases q : (to : Int) - (fr : Int) = p - s
  · have l := T_isw_l (L := L) (p := p) (kd := kd) (va := va) (to := to) (fr := fr) hy ne hS hto hs (by omega) (to - fr) fr vn (by omega) (by omega)
    rw [if_pos q]
    simp only [eX8_isWord, sX8_isWord_0, sX8_isWord_1, sX8_isWord_2, sX8_isWord_3, sX8_isWord_4, sX8_isWord_7, sX8_isWord_8, sX8_isWord_11, sX8_isWord_12, sX8_isWord_15, sX8_isWord_16, sX8_isWord_17, sX8_isWord_18, sX8_isWord_22, sX8_isWord_23, sX8_isWord_26, sX8_isWord_28, sX8_isWord_29, sX8_isWord_32, sX8_isWord_35, sX8_isWord_36, sX8_isWord_39, sX8_isWord_41, sX8_isWord_42, sX8_isWord_43, sX8_isWord_44, sX8_isWord_46, sX8_isWord_48, sX8_isWord_51, sX8_isWord_53, sX8_isWord_54, sX8_isWord_57, sX8_isWord_58, sX8_isWord_61, sX8_isWord_62, sX8_isWord_64, sX8_isWord_67, sX8_isWord_68, sX8_isWord_71, sX8_isWord_73, sX8_isWord_74, sX8_isWord_77, sX8_isWord_78, sX8_isWord_79, sX8_isWord_82, sX8_isWord_85, sX8_isWord_86, e1, ↓t_2, ↓t_3, e2, ↓if_pos q]
    exact l
  · rw [if_neg q]
    simp only [eX8_isWord, sX8_isWord_0, sX8_isWord_1, sX8_isWord_2, sX8_isWord_3, sX8_isWord_4, sX8_isWord_7, sX8_isWord_8, sX8_isWord_11, sX8_isWord_12, sX8_isWord_15, sX8_isWord_16, sX8_isWord_17, sX8_isWord_18, sX8_isWord_22, sX8_isWord_23, sX8_isWord_26, sX8_isWord_28, sX8_isWord_29, sX8_isWord_32, sX8_isWord_35, sX8_isWord_36, sX8_isWord_39, sX8_isWord_41, sX8_isWord_42, sX8_isWord_43, sX8_isWord_44, sX8_isWord_46, sX8_isWord_48, sX8_isWord_51, sX8_isWord_53, sX8_isWord_54, sX8_isWord_57, sX8_isWord_58, sX8_isWord_61, sX8_isWord_62, sX8_isWord_64, sX8_isWord_67, sX8_isWord_68, sX8_isWord_71, sX8_isWord_73, sX8_isWord_74, sX8_isWord_77, sX8_isWord_78, sX8_isWord_79, sX8_isWord_82, sX8_isWord_85, sX8_isWord_86, gfi_0, gfi_s, gfr_0, gfr_s, gfl_0, gfl_s, cki_k, bndi_k, bndl_k, bndr_k, bndv_k, zup_2, zup_1, ↓reduceIte, if_true, if_false, true_or, or_true, not_true_eq_false, not_false_eq_true, e1, ↓t_2, ↓t_3, e2, ↓if_neg q, Bool.false_eq_true]
theorem T_wrd_l (hy : h.2 y = zar 1 400 f) (ne : y ≠ t) (hS : isS a N c) (hs : 0 ≤ s) (hsp : s ≤ p) (hp : p ≤ 400) : ∀ (n i fr : Nat) (ix : Int), i + n = N + 1 → fr ≤ i → 0 ≤ ix → ix ≤ (i : Int) → rn mX8_wordIn 18 [vr t, vr a, vi ix, vi (fr : Int), vi (i : Int)] [] (txs h t y L p s kd va) = some (vi (wrd c f N s p n i ix fr), txs h t y L p s kd va) := by
  obtain ⟨S1, S2, S3⟩ := id hS
  intro n
  induction n with
  | zero =>
    intro i fr ix hi hf h0 h1
    have q : (N : Int) < (i : Int) := by omega
    rw [sX8_wordIn_18]
    simp only [eX8_wordIn, sX8_wordIn_0, sX8_wordIn_1, sX8_wordIn_4, sX8_wordIn_6, sX8_wordIn_9, sX8_wordIn_10, sX8_wordIn_11, sX8_wordIn_12, sX8_wordIn_13, sX8_wordIn_14, sX8_wordIn_15, sX8_wordIn_16, sX8_wordIn_20, sX8_wordIn_21, sX8_wordIn_24, sX8_wordIn_27, sX8_wordIn_29, sX8_wordIn_30, sX8_wordIn_33, sX8_wordIn_36, sX8_wordIn_37, sX8_wordIn_39, sX8_wordIn_42, sX8_wordIn_44, sX8_wordIn_47, sX8_wordIn_48, sX8_wordIn_49, sX8_wordIn_50, sX8_wordIn_52, sX8_wordIn_55, sX8_wordIn_58, sX8_wordIn_59, sX8_wordIn_60, sX8_wordIn_63, sX8_wordIn_65, sX8_wordIn_66, sX8_wordIn_67, sX8_wordIn_68, sX8_wordIn_71, sX8_wordIn_74, sX8_wordIn_75, ↓gsl_at S1, ↓if_pos q, wrd]
  | succ n ih =>
    intro i fr ix hi hf h0 h1
    have q : ¬ (N : Int) < (i : Int) := by omega
    have is : i32 ((i : Int) + 1) = ((i + 1 : Nat) : Int) := i32_s i (by omega)
    have ix1 : i32 (ix + 1) = ix + 1 := i32_of (by omega) (by omega)
    have W := T_isWord (L := L) (kd := kd) (va := va) (to := i) (fr := fr) hy ne hS (by omega) hf hs hsp hp
    have o1 : ¬ ((1 : Int) = 0) := by omega
    rw [sX8_wordIn_18, wrd]
    by_cases e : i = N
    · have e' : (i : Int) = (N : Int) := by omega
      rw [if_pos (Or.inl e)]
      by_cases g : wdq c f s p fr i = true
      · rw [if_pos g] at W ⊢
        simp only [eX8_wordIn, sX8_wordIn_0, sX8_wordIn_1, sX8_wordIn_4, sX8_wordIn_6, sX8_wordIn_9, sX8_wordIn_10, sX8_wordIn_11, sX8_wordIn_12, sX8_wordIn_13, sX8_wordIn_14, sX8_wordIn_15, sX8_wordIn_16, sX8_wordIn_20, sX8_wordIn_21, sX8_wordIn_24, sX8_wordIn_27, sX8_wordIn_29, sX8_wordIn_30, sX8_wordIn_33, sX8_wordIn_36, sX8_wordIn_37, sX8_wordIn_39, sX8_wordIn_42, sX8_wordIn_44, sX8_wordIn_47, sX8_wordIn_48, sX8_wordIn_49, sX8_wordIn_50, sX8_wordIn_52, sX8_wordIn_55, sX8_wordIn_58, sX8_wordIn_59, sX8_wordIn_60, sX8_wordIn_63, sX8_wordIn_65, sX8_wordIn_66, sX8_wordIn_67, sX8_wordIn_68, sX8_wordIn_71, sX8_wordIn_74, sX8_wordIn_75, ↓gsl_at S1, ↓if_neg q, ↓if_pos e', ↓t_c, ↓bndi_at W, ↓if_neg o1]
      · rw [if_neg g] at W ⊢
        have I := ih (i + 1) (i + 1) (ix + 1) (by omega) (by omega) (by omega) (by omega)
        simp only [eX8_wordIn, sX8_wordIn_0, sX8_wordIn_1, sX8_wordIn_4, sX8_wordIn_6, sX8_wordIn_9, sX8_wordIn_10, sX8_wordIn_11, sX8_wordIn_12, sX8_wordIn_13, sX8_wordIn_14, sX8_wordIn_15, sX8_wordIn_16, sX8_wordIn_20, sX8_wordIn_21, sX8_wordIn_24, sX8_wordIn_27, sX8_wordIn_29, sX8_wordIn_30, sX8_wordIn_33, sX8_wordIn_36, sX8_wordIn_37, sX8_wordIn_39, sX8_wordIn_42, sX8_wordIn_44, sX8_wordIn_47, sX8_wordIn_48, sX8_wordIn_49, sX8_wordIn_50, sX8_wordIn_52, sX8_wordIn_55, sX8_wordIn_58, sX8_wordIn_59, sX8_wordIn_60, sX8_wordIn_63, sX8_wordIn_65, sX8_wordIn_66, sX8_wordIn_67, sX8_wordIn_68, sX8_wordIn_71, sX8_wordIn_74, sX8_wordIn_75, ↓gsl_at S1, ↓if_neg q, ↓if_pos e', ↓t_c, ↓bndi_at W, ↓reduceIte, ix1, is]
        exact I
    · have e' : ¬ (i : Int) = (N : Int) := by omega
      have C := S2 i (by omega)
      by_cases b : c i = 32
      · rw [if_pos (Or.inr b)]
        rw [b] at C
        by_cases g : wdq c f s p fr i = true
        · rw [if_pos g] at W ⊢
          simp only [eX8_wordIn, sX8_wordIn_0, sX8_wordIn_1, sX8_wordIn_4, sX8_wordIn_6, sX8_wordIn_9, sX8_wordIn_10, sX8_wordIn_11, sX8_wordIn_12, sX8_wordIn_13, sX8_wordIn_14, sX8_wordIn_15, sX8_wordIn_16, sX8_wordIn_20, sX8_wordIn_21, sX8_wordIn_24, sX8_wordIn_27, sX8_wordIn_29, sX8_wordIn_30, sX8_wordIn_33, sX8_wordIn_36, sX8_wordIn_37, sX8_wordIn_39, sX8_wordIn_42, sX8_wordIn_44, sX8_wordIn_47, sX8_wordIn_48, sX8_wordIn_49, sX8_wordIn_50, sX8_wordIn_52, sX8_wordIn_55, sX8_wordIn_58, sX8_wordIn_59, sX8_wordIn_60, sX8_wordIn_63, sX8_wordIn_65, sX8_wordIn_66, sX8_wordIn_67, sX8_wordIn_68, sX8_wordIn_71, sX8_wordIn_74, sX8_wordIn_75, ↓gsl_at S1, ↓if_neg q, ↓if_neg e', ↓gsc_at C, not_true_eq_false, ↓reduceIte, ↓t_c, ↓bndi_at W, ↓if_neg o1]
        · rw [if_neg g] at W ⊢
          have I := ih (i + 1) (i + 1) (ix + 1) (by omega) (by omega) (by omega) (by omega)
          simp only [eX8_wordIn, sX8_wordIn_0, sX8_wordIn_1, sX8_wordIn_4, sX8_wordIn_6, sX8_wordIn_9, sX8_wordIn_10, sX8_wordIn_11, sX8_wordIn_12, sX8_wordIn_13, sX8_wordIn_14, sX8_wordIn_15, sX8_wordIn_16, sX8_wordIn_20, sX8_wordIn_21, sX8_wordIn_24, sX8_wordIn_27, sX8_wordIn_29, sX8_wordIn_30, sX8_wordIn_33, sX8_wordIn_36, sX8_wordIn_37, sX8_wordIn_39, sX8_wordIn_42, sX8_wordIn_44, sX8_wordIn_47, sX8_wordIn_48, sX8_wordIn_49, sX8_wordIn_50, sX8_wordIn_52, sX8_wordIn_55, sX8_wordIn_58, sX8_wordIn_59, sX8_wordIn_60, sX8_wordIn_63, sX8_wordIn_65, sX8_wordIn_66, sX8_wordIn_67, sX8_wordIn_68, sX8_wordIn_71, sX8_wordIn_74, sX8_wordIn_75, ↓gsl_at S1, ↓if_neg q, ↓if_neg e', ↓gsc_at C, not_true_eq_false, ↓t_c, ↓bndi_at W, ↓reduceIte, ix1, is]
          exact I
      · rw [if_neg (by omega)]
        have I := ih (i + 1) fr ix (by omega) (by omega) (by omega) (by omega)
        simp only [eX8_wordIn, sX8_wordIn_0, sX8_wordIn_1, sX8_wordIn_4, sX8_wordIn_6, sX8_wordIn_9, sX8_wordIn_10, sX8_wordIn_11, sX8_wordIn_12, sX8_wordIn_13, sX8_wordIn_14, sX8_wordIn_15, sX8_wordIn_16, sX8_wordIn_20, sX8_wordIn_21, sX8_wordIn_24, sX8_wordIn_27, sX8_wordIn_29, sX8_wordIn_30, sX8_wordIn_33, sX8_wordIn_36, sX8_wordIn_37, sX8_wordIn_39, sX8_wordIn_42, sX8_wordIn_44, sX8_wordIn_47, sX8_wordIn_48, sX8_wordIn_49, sX8_wordIn_50, sX8_wordIn_52, sX8_wordIn_55, sX8_wordIn_58, sX8_wordIn_59, sX8_wordIn_60, sX8_wordIn_63, sX8_wordIn_65, sX8_wordIn_66, sX8_wordIn_67, sX8_wordIn_68, sX8_wordIn_71, sX8_wordIn_74, sX8_wordIn_75, ↓gsl_at S1, ↓if_neg q, ↓if_neg e', ↓gsc_at C, ↓if_pos b, is]
        exact I
theorem T_wordIn (hy : h.2 y = zar 1 400 f) (ne : y ≠ t) (hS : isS a N c) (hs : 0 ≤ s) (hsp : s ≤ p) (hp : p ≤ 400) : cl mX8_wordIn [vr t, vr a] (txs h t y L p s kd va) = some (vi (if kd = -3 then wrd c f N s p (N + 1) 0 0 0 else -1), txs h t y L p s kd va) := by
  by_cases q : kd = -3
  · rw [if_pos q]
    have l := T_wrd_l (L := L) (kd := kd) (va := va) hy ne hS hs hsp hp (N + 1) 0 0 0 (by omega) (by omega) (by omega) (by omega)
    simp only [eX8_wordIn, sX8_wordIn_0, sX8_wordIn_1, sX8_wordIn_4, sX8_wordIn_6, sX8_wordIn_9, sX8_wordIn_10, sX8_wordIn_11, sX8_wordIn_12, sX8_wordIn_13, sX8_wordIn_14, sX8_wordIn_15, sX8_wordIn_16, sX8_wordIn_20, sX8_wordIn_21, sX8_wordIn_24, sX8_wordIn_27, sX8_wordIn_29, sX8_wordIn_30, sX8_wordIn_33, sX8_wordIn_36, sX8_wordIn_37, sX8_wordIn_39, sX8_wordIn_42, sX8_wordIn_44, sX8_wordIn_47, sX8_wordIn_48, sX8_wordIn_49, sX8_wordIn_50, sX8_wordIn_52, sX8_wordIn_55, sX8_wordIn_58, sX8_wordIn_59, sX8_wordIn_60, sX8_wordIn_63, sX8_wordIn_65, sX8_wordIn_66, sX8_wordIn_67, sX8_wordIn_68, sX8_wordIn_71, sX8_wordIn_74, sX8_wordIn_75, ↓t_4, ↓if_pos q]
    exact l
  · rw [if_neg q]
    simp only [eX8_wordIn, sX8_wordIn_0, sX8_wordIn_1, sX8_wordIn_4, sX8_wordIn_6, sX8_wordIn_9, sX8_wordIn_10, sX8_wordIn_11, sX8_wordIn_12, sX8_wordIn_13, sX8_wordIn_14, sX8_wordIn_15, sX8_wordIn_16, sX8_wordIn_20, sX8_wordIn_21, sX8_wordIn_24, sX8_wordIn_27, sX8_wordIn_29, sX8_wordIn_30, sX8_wordIn_33, sX8_wordIn_36, sX8_wordIn_37, sX8_wordIn_39, sX8_wordIn_42, sX8_wordIn_44, sX8_wordIn_47, sX8_wordIn_48, sX8_wordIn_49, sX8_wordIn_50, sX8_wordIn_52, sX8_wordIn_55, sX8_wordIn_58, sX8_wordIn_59, sX8_wordIn_60, sX8_wordIn_63, sX8_wordIn_65, sX8_wordIn_66, sX8_wordIn_67, sX8_wordIn_68, sX8_wordIn_71, sX8_wordIn_74, sX8_wordIn_75, ↓t_4, ↓if_neg q]
end WD
