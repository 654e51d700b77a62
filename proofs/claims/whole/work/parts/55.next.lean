/-! Text.next -/
/-- is it a digit, a letter -/
def dgt (x : Int) : Bool := decide (48 ≤ x ∧ x ≤ 57)
def ltr (x : Int) : Bool := decide (97 ≤ x ∧ x ≤ 122)
/-- digits from p on (n bytes left): where they end, and the number, s its start -/
def rdn (f : Nat → Int) (s : Int) : Nat → Int → Int → Int × Int
  | 0, p, v => (p, v)
  | n + 1, p, v => if dgt (f p.toNat) then rdn f s n (p + 1) (if p - s < 5 then v * 10 + f p.toNat - 48 else v) else (p, v)
def rdw (f : Nat → Int) : Nat → Int → Int
  | 0, p => p
  | n + 1, p => if ltr (f p.toNat) then rdw f n (p + 1) else p
def skp (f : Nat → Int) : Nat → Int → Int
  | 0, p => p
  | n + 1, p => if f p.toNat = 32 then skp f n (p + 1) else p
def nin (p s v : Int) : Prop := 0 ≤ v ∧ v ≤ 99999 ∧ (p - s = 0 → v ≤ 0) ∧ (p - s = 1 → v ≤ 9) ∧ (p - s = 2 → v ≤ 99) ∧ (p - s = 3 → v ≤ 999) ∧ (p - s = 4 → v ≤ 9999)
theorem nin_s {p s v b : Int} (h0 : s ≤ p) (h : nin p s v) (hb : 48 ≤ b ∧ b ≤ 57) : nin (p + 1) s (if p - s < 5 then v * 10 + b - 48 else v) := by
  obtain ⟨h1, h2, a0, a1, a2, a3, a4⟩ := h
  unfold nin
  split <;> refine ⟨?_, ?_, ?_, ?_, ?_, ?_, ?_⟩ <;> omega
theorem rdn_b {f : Nat → Int} {s : Int} : ∀ (n : Nat) (p v : Int), s ≤ p → nin p s v → p ≤ (rdn f s n p v).1 ∧ (rdn f s n p v).1 ≤ p + n ∧ 0 ≤ (rdn f s n p v).2 ∧ (rdn f s n p v).2 ≤ 99999
  | 0, p, v, _, hv => ⟨by rw [rdn]; omega, by rw [rdn]; omega, hv.1, hv.2.1⟩
  | n + 1, p, v, hs, hv => by
    rw [rdn]
    by_cases q : dgt (f p.toNat) = true
    · rw [if_pos q]
      have := rdn_b (f := f) n (p + 1) (if p - s < 5 then v * 10 + f p.toNat - 48 else v) (by omega) (nin_s hs hv (of_decide_eq_true q))
      omega
    · rw [if_neg q]
      have := hv.1
      have := hv.2.1
      exact ⟨by simp only []; omega, by simp only []; omega, hv.1, hv.2.1⟩
theorem rdw_b {f : Nat → Int} : ∀ (n : Nat) (p : Int), p ≤ rdw f n p ∧ rdw f n p ≤ p + n
  | 0, p => by rw [rdw]; omega
  | n + 1, p => by
    rw [rdw]
    have := rdw_b (f := f) n (p + 1)
    split <;> omega
theorem skp_b {f : Nat → Int} : ∀ (n : Nat) (p : Int), p ≤ skp f n p ∧ skp f n p ≤ p + n
  | 0, p => by rw [skp]; omega
  | n + 1, p => by
    rw [skp]
    have := skp_b (f := f) n (p + 1)
    split <;> omega
section NX
variable {h : zH} {t y : Nat} {L s kd : Int} {f : Nat → Int}
theorem byt_in {p : Int} (h0 : 0 ≤ p) (h1 : p < L) : byt f L p = f p.toNat := if_pos ⟨h0, h1⟩
theorem byt_out {p : Int} (h1 : L ≤ p) : byt f L p = -1 := if_neg (by omega)
theorem T_rdn_l (hy : h.2 y = zar 1 400 f) (ne : y ≠ t) (hL : L ≤ 400) (hs : 0 ≤ s) : ∀ (n : Nat) (p v : Int), p + n = L → s ≤ p → nin p s v → rn mX8_readNumber 11 [vr t] [] (txs h t y L p s kd v) = rn mX8_readNumber 85 [vr t] [] (txs h t y L (rdn f s n p v).1 s kd (rdn f s n p v).2) := by
  intro n
  induction n with
  | zero =>
    intro p v hp hsp hv
    have q : L ≤ p := by omega
    rw [sX8_readNumber_11]
    simp only [sX8_readNumber_12, sX8_readNumber_15, sX8_readNumber_16, sX8_readNumber_19, ↓t_1, ↓t_2, ↓if_pos q, rdn]
  | succ n ih =>
    intro p v hp hsp hv
    have q : ¬ L ≤ p := by omega
    have B := T_byte (t := t) (L := L) (p := p) (s := s) (kd := kd) (va := v) (i := p) hy ne hL
    rw [byt_in (by omega) (by omega)] at B
    have D := T_digit (h := txs h t y L p s kd v) (x := f p.toNat)
    rw [sX8_readNumber_11, rdn]
    by_cases g : dgt (f p.toNat) = true
    · have g' := of_decide_eq_true g
      rw [if_pos g'] at D
      rw [if_pos g]
      have I := ih (p + 1) (if p - s < 5 then v * 10 + f p.toNat - 48 else v) (by omega) (by omega) (nin_s hsp hv g')
      have e1 : i32 (p - s) = p - s := i32_of (by omega) (by omega)
      have e2 : i32 (p + 1) = p + 1 := i32_of (by omega) (by omega)
      have o1 : ¬ ((1 : Int) = 0) := by omega
      obtain ⟨v1, v2, -⟩ := id hv
      by_cases c : p - s < 5
      · have c' : ¬ 5 ≤ p - s := by omega
        rw [if_pos c] at I ⊢
        have e3 : i32 (v * 10) = v * 10 := i32_of (by omega) (by omega)
        have e4 : i32 (v * 10 + f p.toNat) = v * 10 + f p.toNat := i32_of (by omega) (by omega)
        have e5 : i32 (v * 10 + f p.toNat - 48) = v * 10 + f p.toNat - 48 := i32_of (by omega) (by omega)
        simp only [eX8_readNumber, sX8_readNumber_0, sX8_readNumber_1, sX8_readNumber_3, sX8_readNumber_6, sX8_readNumber_7, sX8_readNumber_8, sX8_readNumber_12, sX8_readNumber_15, sX8_readNumber_16, sX8_readNumber_19, sX8_readNumber_22, sX8_readNumber_23, sX8_readNumber_24, sX8_readNumber_27, sX8_readNumber_30, sX8_readNumber_33, sX8_readNumber_36, sX8_readNumber_37, sX8_readNumber_40, sX8_readNumber_41, sX8_readNumber_44, sX8_readNumber_45, sX8_readNumber_46, sX8_readNumber_49, sX8_readNumber_50, sX8_readNumber_51, sX8_readNumber_54, sX8_readNumber_56, sX8_readNumber_57, sX8_readNumber_58, sX8_readNumber_59, sX8_readNumber_62, sX8_readNumber_65, sX8_readNumber_66, sX8_readNumber_68, sX8_readNumber_69, sX8_readNumber_72, sX8_readNumber_73, sX8_readNumber_74, sX8_readNumber_77, sX8_readNumber_78, sX8_readNumber_79, sX8_readNumber_82, sX8_readNumber_86, sX8_readNumber_89, sX8_readNumber_90, sX8_readNumber_93, sX8_readNumber_94, sX8_readNumber_95, sX8_readNumber_98, sX8_readNumber_99, sX8_readNumber_100, sX8_readNumber_103, ↓t_1, ↓t_2, ↓t_3, ↓t_5, ↓t_c, ↓if_neg q, ↓bndi_at B, ↓bndi_at D, ↓if_neg o1, e1, ↓if_neg c', e3, e4, e5, ↓t_w5, t_u, e2, ↓t_w2]
        exact I
      · have c' : 5 ≤ p - s := by omega
        rw [if_neg c] at I ⊢
        simp only [eX8_readNumber, sX8_readNumber_0, sX8_readNumber_1, sX8_readNumber_3, sX8_readNumber_6, sX8_readNumber_7, sX8_readNumber_8, sX8_readNumber_12, sX8_readNumber_15, sX8_readNumber_16, sX8_readNumber_19, sX8_readNumber_22, sX8_readNumber_23, sX8_readNumber_24, sX8_readNumber_27, sX8_readNumber_30, sX8_readNumber_33, sX8_readNumber_36, sX8_readNumber_37, sX8_readNumber_40, sX8_readNumber_41, sX8_readNumber_44, sX8_readNumber_45, sX8_readNumber_46, sX8_readNumber_49, sX8_readNumber_50, sX8_readNumber_51, sX8_readNumber_54, sX8_readNumber_56, sX8_readNumber_57, sX8_readNumber_58, sX8_readNumber_59, sX8_readNumber_62, sX8_readNumber_65, sX8_readNumber_66, sX8_readNumber_68, sX8_readNumber_69, sX8_readNumber_72, sX8_readNumber_73, sX8_readNumber_74, sX8_readNumber_77, sX8_readNumber_78, sX8_readNumber_79, sX8_readNumber_82, sX8_readNumber_86, sX8_readNumber_89, sX8_readNumber_90, sX8_readNumber_93, sX8_readNumber_94, sX8_readNumber_95, sX8_readNumber_98, sX8_readNumber_99, sX8_readNumber_100, sX8_readNumber_103, ↓t_1, ↓t_2, ↓t_3, ↓t_5, ↓t_c, ↓if_neg q, ↓bndi_at B, ↓bndi_at D, ↓if_neg o1, e1, ↓if_pos c', ↓t_w5, t_u, e2, ↓t_w2]
        exact I
    · rw [if_neg (fun w => g (decide_eq_true w))] at D
      rw [if_neg g]
      simp only [eX8_readNumber, sX8_readNumber_0, sX8_readNumber_1, sX8_readNumber_3, sX8_readNumber_6, sX8_readNumber_7, sX8_readNumber_8, sX8_readNumber_12, sX8_readNumber_15, sX8_readNumber_16, sX8_readNumber_19, sX8_readNumber_22, sX8_readNumber_23, sX8_readNumber_24, sX8_readNumber_27, sX8_readNumber_30, sX8_readNumber_33, sX8_readNumber_36, sX8_readNumber_37, sX8_readNumber_40, sX8_readNumber_41, sX8_readNumber_44, sX8_readNumber_45, sX8_readNumber_46, sX8_readNumber_49, sX8_readNumber_50, sX8_readNumber_51, sX8_readNumber_54, sX8_readNumber_56, sX8_readNumber_57, sX8_readNumber_58, sX8_readNumber_59, sX8_readNumber_62, sX8_readNumber_65, sX8_readNumber_66, sX8_readNumber_68, sX8_readNumber_69, sX8_readNumber_72, sX8_readNumber_73, sX8_readNumber_74, sX8_readNumber_77, sX8_readNumber_78, sX8_readNumber_79, sX8_readNumber_82, sX8_readNumber_86, sX8_readNumber_89, sX8_readNumber_90, sX8_readNumber_93, sX8_readNumber_94, sX8_readNumber_95, sX8_readNumber_98, sX8_readNumber_99, sX8_readNumber_100, sX8_readNumber_103, ↓t_1, ↓t_2, ↓t_3, ↓t_c, ↓if_neg q, ↓bndi_at B, ↓bndi_at D, ↓reduceIte]
theorem T_readNumber {va p : Int} (hy : h.2 y = zar 1 400 f) (ne : y ≠ t) (hL : L ≤ 400) (hp : 0 ≤ p) (hp2 : p ≤ L) : cl mX8_readNumber [vr t] (txs h t y L p p kd va) = some (vn, txs h t y L (rdn f p (L - p).toNat p 0).1 p (-2) (if (rdn f p (L - p).toNat p 0).1 - p ≤ 5 then (rdn f p (L - p).toNat p 0).2 else -1)) := by
  have n0 : nin p p 0 := by unfold nin; omega
  have l := T_rdn_l (t := t) (kd := -2) hy ne hL hp (L - p).toNat p 0 (by omega) (by omega) n0
  have b := rdn_b (f := f) (L - p).toNat p 0 (by omega) n0
  generalize rdn f p (L - p).toNat p 0 = R at *
  have e1 : i32 (R.1 - p) = R.1 - p := i32_of (by omega) (by omega)
  simp only [eX8_readNumber, sX8_readNumber_0, sX8_readNumber_1, sX8_readNumber_3, sX8_readNumber_6, sX8_readNumber_7, sX8_readNumber_8, ↓t_w4, ↓t_w5, t_u]
  rw [l]
  by_cases c : R.1 - p ≤ 5
  · rw [if_pos c]
    simp only [sX8_readNumber_85, sX8_readNumber_86, sX8_readNumber_89, sX8_readNumber_90, sX8_readNumber_93, sX8_readNumber_94, sX8_readNumber_95, sX8_readNumber_103, ↓t_2, ↓t_3, e1, ↓if_pos c]
  · rw [if_neg c]
    simp only [sX8_readNumber_85, sX8_readNumber_86, sX8_readNumber_89, sX8_readNumber_90, sX8_readNumber_93, sX8_readNumber_94, sX8_readNumber_95, sX8_readNumber_98, sX8_readNumber_99, sX8_readNumber_100, sX8_readNumber_103, ↓t_2, ↓t_3, e1, ↓if_neg c, ↓t_w5, t_u]
theorem T_rdw_l {va : Int} (hy : h.2 y = zar 1 400 f) (ne : y ≠ t) (hL : L ≤ 400) : ∀ (n : Nat) (p : Int), p + n = L → 0 ≤ p → rn mX8_readWord 6 [vr t] [] (txs h t y L p s kd va) = some (vn, txs h t y L (rdw f n p) s kd va) := by
  intro n
  induction n with
  | zero =>
    intro p hp hsp
    have q : L ≤ p := by omega
    rw [sX8_readWord_6]
    simp only [eX8_readWord, sX8_readWord_0, sX8_readWord_1, sX8_readWord_3, sX8_readWord_7, sX8_readWord_10, sX8_readWord_11, sX8_readWord_14, sX8_readWord_17, sX8_readWord_18, sX8_readWord_19, sX8_readWord_22, sX8_readWord_25, sX8_readWord_28, sX8_readWord_31, sX8_readWord_32, sX8_readWord_33, sX8_readWord_36, sX8_readWord_37, sX8_readWord_38, sX8_readWord_41, sX8_readWord_44, ↓t_1, ↓t_2, ↓if_pos q, rdw]
  | succ n ih =>
    intro p hp hsp
    have q : ¬ L ≤ p := by omega
    have B := T_byte (t := t) (L := L) (p := p) (s := s) (kd := kd) (va := va) (i := p) hy ne hL
    rw [byt_in (by omega) (by omega)] at B
    have D := T_letter (h := txs h t y L p s kd va) (x := f p.toNat)
    have I := ih (p + 1) (by omega) (by omega)
    have e2 : i32 (p + 1) = p + 1 := i32_of (by omega) (by omega)
    have o1 : ¬ ((1 : Int) = 0) := by omega
    rw [sX8_readWord_6, rdw]
    by_cases g : ltr (f p.toNat) = true
    · rw [if_pos (of_decide_eq_true g)] at D
      rw [if_pos g]
      simp only [eX8_readWord, sX8_readWord_0, sX8_readWord_1, sX8_readWord_3, sX8_readWord_7, sX8_readWord_10, sX8_readWord_11, sX8_readWord_14, sX8_readWord_17, sX8_readWord_18, sX8_readWord_19, sX8_readWord_22, sX8_readWord_25, sX8_readWord_28, sX8_readWord_31, sX8_readWord_32, sX8_readWord_33, sX8_readWord_36, sX8_readWord_37, sX8_readWord_38, sX8_readWord_41, sX8_readWord_44, ↓t_1, ↓t_2, ↓t_c, ↓if_neg q, ↓bndi_at B, ↓bndi_at D, ↓if_neg o1, e2, ↓t_w2, t_u]
      exact I
    · rw [if_neg (fun w => g (decide_eq_true w))] at D
      rw [if_neg g]
      simp only [eX8_readWord, sX8_readWord_0, sX8_readWord_1, sX8_readWord_3, sX8_readWord_7, sX8_readWord_10, sX8_readWord_11, sX8_readWord_14, sX8_readWord_17, sX8_readWord_18, sX8_readWord_19, sX8_readWord_22, sX8_readWord_25, sX8_readWord_28, sX8_readWord_31, sX8_readWord_32, sX8_readWord_33, sX8_readWord_36, sX8_readWord_37, sX8_readWord_38, sX8_readWord_41, sX8_readWord_44, ↓t_1, ↓t_2, ↓t_c, ↓if_neg q, ↓bndi_at B, ↓bndi_at D, ↓reduceIte]
theorem T_readWord {va p : Int} (hy : h.2 y = zar 1 400 f) (ne : y ≠ t) (hL : L ≤ 400) (hp : 0 ≤ p) (hp2 : p ≤ L) : cl mX8_readWord [vr t] (txs h t y L p s kd va) = some (vn, txs h t y L (rdw f (L - p).toNat p) s (-3) va) := by
  have l := T_rdw_l (t := t) (s := s) (kd := -3) (va := va) hy ne hL (L - p).toNat p (by omega) hp
  simp only [eX8_readWord, sX8_readWord_0, sX8_readWord_1, sX8_readWord_3, ↓t_w4, t_u]
  exact l
/-- a sign: where it ends, what it is -/
def rsg (f : Nat → Int) (L p x : Int) : Int × Int := if (x = 60 ∨ x = 62) ∧ byt f L (p + 1) = 61 then (p + 2, if x = 60 then 256 else 257) else (p + 1, x)
theorem T_readSign {va p x : Int} (hy : h.2 y = zar 1 400 f) (ne : y ≠ t) (hL : L ≤ 400) (hp : 0 ≤ p) (hp2 : p < L) : cl mX8_readSign [vr t, vi x] (txs h t y L p s kd va) = some (vn, txs h t y L (rsg f L p x).1 s (rsg f L p x).2 va) := by
  have B := T_byte (t := t) (L := L) (p := p + 1) (s := s) (kd := x) (va := va) (i := p + 1) hy ne hL
  have e1 : i32 (p + 1) = p + 1 := i32_of (by omega) (by omega)
  have e2 : i32 (p + 1 + 1) = p + 2 := by rw [i32_of (by omega) (by omega)]; omega
  unfold rsg
  by_cases q1 : x = 60
  · subst q1
    by_cases q3 : byt f L (p + 1) = 61
    · rw [if_pos ⟨Or.inl rfl, q3⟩]
      simp only [eX8_readSign, sX8_readSign_0, sX8_readSign_1, sX8_readSign_2, sX8_readSign_5, sX8_readSign_6, sX8_readSign_7, sX8_readSign_10, sX8_readSign_11, sX8_readSign_12, sX8_readSign_15, sX8_readSign_16, sX8_readSign_18, sX8_readSign_21, sX8_readSign_22, sX8_readSign_24, sX8_readSign_27, sX8_readSign_28, sX8_readSign_29, sX8_readSign_32, sX8_readSign_35, sX8_readSign_37, sX8_readSign_40, sX8_readSign_41, sX8_readSign_42, sX8_readSign_44, sX8_readSign_47, sX8_readSign_50, sX8_readSign_53, sX8_readSign_56, sX8_readSign_59, sX8_readSign_60, sX8_readSign_61, sX8_readSign_64, sX8_readSign_65, sX8_readSign_66, sX8_readSign_69, ↓t_w4, t_u, ↓t_2, e1, ↓t_w2, ↓reduceIte, ↓t_c, ↓bndi_at B, q3, not_true_eq_false, e2]
    · rw [if_neg (fun w => q3 w.2)]
      simp only [eX8_readSign, sX8_readSign_0, sX8_readSign_1, sX8_readSign_2, sX8_readSign_5, sX8_readSign_6, sX8_readSign_7, sX8_readSign_10, sX8_readSign_11, sX8_readSign_12, sX8_readSign_15, sX8_readSign_16, sX8_readSign_18, sX8_readSign_21, sX8_readSign_22, sX8_readSign_24, sX8_readSign_27, sX8_readSign_28, sX8_readSign_29, sX8_readSign_32, sX8_readSign_35, sX8_readSign_37, sX8_readSign_40, sX8_readSign_41, sX8_readSign_42, sX8_readSign_44, sX8_readSign_47, sX8_readSign_50, sX8_readSign_53, sX8_readSign_56, sX8_readSign_59, sX8_readSign_60, sX8_readSign_61, sX8_readSign_64, sX8_readSign_65, sX8_readSign_66, sX8_readSign_69, ↓t_w4, t_u, ↓t_2, e1, ↓t_w2, ↓reduceIte, ↓t_c, ↓bndi_at B, ↓if_pos q3]
  · by_cases q2 : x = 62
    · subst q2
      have q1' : ¬ ((62 : Int) = 60) := by omega
      by_cases q3 : byt f L (p + 1) = 61
      · rw [if_pos ⟨Or.inr rfl, q3⟩]
        simp only [eX8_readSign, sX8_readSign_0, sX8_readSign_1, sX8_readSign_2, sX8_readSign_5, sX8_readSign_6, sX8_readSign_7, sX8_readSign_10, sX8_readSign_11, sX8_readSign_12, sX8_readSign_15, sX8_readSign_16, sX8_readSign_18, sX8_readSign_21, sX8_readSign_22, sX8_readSign_24, sX8_readSign_27, sX8_readSign_28, sX8_readSign_29, sX8_readSign_32, sX8_readSign_35, sX8_readSign_37, sX8_readSign_40, sX8_readSign_41, sX8_readSign_42, sX8_readSign_44, sX8_readSign_47, sX8_readSign_50, sX8_readSign_53, sX8_readSign_56, sX8_readSign_59, sX8_readSign_60, sX8_readSign_61, sX8_readSign_64, sX8_readSign_65, sX8_readSign_66, sX8_readSign_69, ↓t_w4, t_u, ↓t_2, e1, ↓t_w2, ↓if_neg q1', ↓if_pos q1', not_true_eq_false, ↓reduceIte, ↓t_c, ↓bndi_at B, q3, e2]
      · rw [if_neg (fun w => q3 w.2)]
        simp only [eX8_readSign, sX8_readSign_0, sX8_readSign_1, sX8_readSign_2, sX8_readSign_5, sX8_readSign_6, sX8_readSign_7, sX8_readSign_10, sX8_readSign_11, sX8_readSign_12, sX8_readSign_15, sX8_readSign_16, sX8_readSign_18, sX8_readSign_21, sX8_readSign_22, sX8_readSign_24, sX8_readSign_27, sX8_readSign_28, sX8_readSign_29, sX8_readSign_32, sX8_readSign_35, sX8_readSign_37, sX8_readSign_40, sX8_readSign_41, sX8_readSign_42, sX8_readSign_44, sX8_readSign_47, sX8_readSign_50, sX8_readSign_53, sX8_readSign_56, sX8_readSign_59, sX8_readSign_60, sX8_readSign_61, sX8_readSign_64, sX8_readSign_65, sX8_readSign_66, sX8_readSign_69, ↓t_w4, t_u, ↓t_2, e1, ↓t_w2, ↓if_neg q1', not_true_eq_false, ↓reduceIte, ↓t_c, ↓bndi_at B, ↓if_pos q3]
    · rw [if_neg (by omega)]
      simp only [eX8_readSign, sX8_readSign_0, sX8_readSign_1, sX8_readSign_2, sX8_readSign_5, sX8_readSign_6, sX8_readSign_7, sX8_readSign_10, sX8_readSign_11, sX8_readSign_12, sX8_readSign_15, sX8_readSign_16, sX8_readSign_18, sX8_readSign_21, sX8_readSign_22, sX8_readSign_24, sX8_readSign_27, sX8_readSign_28, sX8_readSign_29, sX8_readSign_32, sX8_readSign_35, sX8_readSign_37, sX8_readSign_40, sX8_readSign_41, sX8_readSign_42, sX8_readSign_44, sX8_readSign_47, sX8_readSign_50, sX8_readSign_53, sX8_readSign_56, sX8_readSign_59, sX8_readSign_60, sX8_readSign_61, sX8_readSign_64, sX8_readSign_65, sX8_readSign_66, sX8_readSign_69, ↓t_w4, t_u, ↓t_2, e1, ↓t_w2, ↓if_neg q1, ↓if_pos q2]
theorem T_skp_l {va : Int} {x1 : zV} (hy : h.2 y = zar 1 400 f) (ne : y ≠ t) (hL : L ≤ 400) : ∀ (n : Nat) (p : Int), p + n = L → 0 ≤ p → rn mX8_next 0 [vr t, x1] [] (txs h t y L p s kd va) = rn mX8_next 37 [vr t, x1] [] (txs h t y L (skp f n p) s kd va) := by
  intro n
  induction n with
  | zero =>
    intro p hp hsp
    have q : L ≤ p := by omega
    rw [sX8_next_0]
    simp only [sX8_next_1, sX8_next_4, sX8_next_5, sX8_next_8, ↓t_1, ↓t_2, ↓if_pos q, skp]
  | succ n ih =>
    intro p hp hsp
    have q : ¬ L ≤ p := by omega
    have B := T_byte (t := t) (L := L) (p := p) (s := s) (kd := kd) (va := va) (i := p) hy ne hL
    rw [byt_in (by omega) (by omega)] at B
    have I := ih (p + 1) (by omega) (by omega)
    have e2 : i32 (p + 1) = p + 1 := i32_of (by omega) (by omega)
    rw [sX8_next_0, skp]
    by_cases g : f p.toNat = 32
    · rw [if_pos g]
      rw [g] at B
      simp only [eX8_next, sX8_next_1, sX8_next_4, sX8_next_5, sX8_next_8, sX8_next_11, sX8_next_12, sX8_next_13, sX8_next_16, sX8_next_19, sX8_next_21, sX8_next_24, sX8_next_25, sX8_next_26, sX8_next_29, sX8_next_30, sX8_next_31, sX8_next_34, sX8_next_38, sX8_next_39, sX8_next_42, sX8_next_45, sX8_next_46, sX8_next_47, sX8_next_50, sX8_next_53, sX8_next_54, sX8_next_55, sX8_next_56, sX8_next_59, sX8_next_60, sX8_next_61, sX8_next_64, sX8_next_67, sX8_next_68, sX8_next_71, sX8_next_74, sX8_next_75, sX8_next_78, sX8_next_81, sX8_next_82, sX8_next_85, sX8_next_88, sX8_next_89, sX8_next_92, sX8_next_95, sX8_next_96, sX8_next_97, sX8_next_100, ↓t_1, ↓t_2, ↓t_c, ↓if_neg q, ↓bndi_at B, not_true_eq_false, ↓reduceIte, e2, ↓t_w2, t_u]
      exact I
    · rw [if_neg g]
      simp only [eX8_next, sX8_next_1, sX8_next_4, sX8_next_5, sX8_next_8, sX8_next_11, sX8_next_12, sX8_next_13, sX8_next_16, sX8_next_19, sX8_next_21, sX8_next_24, sX8_next_25, sX8_next_26, sX8_next_29, sX8_next_30, sX8_next_31, sX8_next_34, sX8_next_38, sX8_next_39, sX8_next_42, sX8_next_45, sX8_next_46, sX8_next_47, sX8_next_50, sX8_next_53, sX8_next_54, sX8_next_55, sX8_next_56, sX8_next_59, sX8_next_60, sX8_next_61, sX8_next_64, sX8_next_67, sX8_next_68, sX8_next_71, sX8_next_74, sX8_next_75, sX8_next_78, sX8_next_81, sX8_next_82, sX8_next_85, sX8_next_88, sX8_next_89, sX8_next_92, sX8_next_95, sX8_next_96, sX8_next_97, sX8_next_100, ↓t_1, ↓t_2, ↓t_c, ↓if_neg q, ↓bndi_at B, ↓if_pos g]
/-- the next thing: place, start, kind, value -/
def tnx (f : Nat → Int) (L p va : Int) : Int × Int × Int × Int :=
  if L ≤ skp f (L - p).toNat p then (skp f (L - p).toNat p, skp f (L - p).toNat p, -1, va)
  else if dgt (f (skp f (L - p).toNat p).toNat) then ((rdn f (skp f (L - p).toNat p) (L - skp f (L - p).toNat p).toNat (skp f (L - p).toNat p) 0).1, skp f (L - p).toNat p, -2, if (rdn f (skp f (L - p).toNat p) (L - skp f (L - p).toNat p).toNat (skp f (L - p).toNat p) 0).1 - skp f (L - p).toNat p ≤ 5 then (rdn f (skp f (L - p).toNat p) (L - skp f (L - p).toNat p).toNat (skp f (L - p).toNat p) 0).2 else -1)
  else if ltr (f (skp f (L - p).toNat p).toNat) then (rdw f (L - skp f (L - p).toNat p).toNat (skp f (L - p).toNat p), skp f (L - p).toNat p, -3, va)
  else ((rsg f L (skp f (L - p).toNat p) (f (skp f (L - p).toNat p).toNat)).1, skp f (L - p).toNat p, (rsg f L (skp f (L - p).toNat p) (f (skp f (L - p).toNat p).toNat)).2, va)
theorem T_next {va p : Int} (hy : h.2 y = zar 1 400 f) (ne : y ≠ t) (hL : L ≤ 400) (hp : 0 ≤ p) (hp2 : p ≤ L) (hf : ∀ j, 0 ≤ f j ∧ f j ≤ 255) : cl mX8_next [vr t] (txs h t y L p s kd va) = some (vn, txs h t y L (tnx f L p va).1 (tnx f L p va).2.1 (tnx f L p va).2.2.1 (tnx f L p va).2.2.2) := by
  have l := T_skp_l (t := t) (s := s) (kd := kd) (va := va) (x1 := vn) hy ne hL (L - p).toNat p (by omega) hp
  have b := skp_b (f := f) (L - p).toNat p
  unfold tnx
  generalize skp f (L - p).toNat p = q at *
  rw [eX8_next, l]
  have B := T_byte (t := t) (L := L) (p := q) (s := q) (kd := kd) (va := va) (i := q) hy ne hL
  by_cases c : L ≤ q
  · rw [if_pos c]
    rw [byt_out c] at B
    simp only [eX8_next, sX8_next_1, sX8_next_4, sX8_next_5, sX8_next_8, sX8_next_11, sX8_next_12, sX8_next_13, sX8_next_16, sX8_next_19, sX8_next_21, sX8_next_24, sX8_next_25, sX8_next_26, sX8_next_29, sX8_next_30, sX8_next_31, sX8_next_34, sX8_next_37, sX8_next_38, sX8_next_39, sX8_next_42, sX8_next_45, sX8_next_46, sX8_next_47, sX8_next_50, sX8_next_53, sX8_next_54, sX8_next_55, sX8_next_56, sX8_next_59, sX8_next_60, sX8_next_61, sX8_next_64, sX8_next_67, sX8_next_68, sX8_next_71, sX8_next_74, sX8_next_75, sX8_next_78, sX8_next_81, sX8_next_82, sX8_next_85, sX8_next_88, sX8_next_89, sX8_next_92, sX8_next_95, sX8_next_96, sX8_next_97, sX8_next_100, ↓t_2, ↓t_w3, t_u, ↓t_c, ↓bndi_at B, not_true_eq_false, ↓reduceIte, ↓t_w4]
  · rw [if_neg c]
    rw [byt_in (by omega) (by omega)] at B
    have fb := hf q.toNat
    have n1 : ¬ f q.toNat = -1 := by omega
    have D := T_digit (h := txs h t y L q q kd va) (x := f q.toNat)
    have E := T_letter (h := txs h t y L q q kd va) (x := f q.toNat)
    have o1 : ¬ ((1 : Int) = 0) := by omega
    by_cases g : dgt (f q.toNat) = true
    · rw [if_pos (of_decide_eq_true g)] at D
      rw [if_pos g]
      have R := T_readNumber (t := t) (kd := kd) (va := va) (p := q) hy ne hL (by omega) (by omega)
      simp only [eX8_next, sX8_next_1, sX8_next_4, sX8_next_5, sX8_next_8, sX8_next_11, sX8_next_12, sX8_next_13, sX8_next_16, sX8_next_19, sX8_next_21, sX8_next_24, sX8_next_25, sX8_next_26, sX8_next_29, sX8_next_30, sX8_next_31, sX8_next_34, sX8_next_37, sX8_next_38, sX8_next_39, sX8_next_42, sX8_next_45, sX8_next_46, sX8_next_47, sX8_next_50, sX8_next_53, sX8_next_54, sX8_next_55, sX8_next_56, sX8_next_59, sX8_next_60, sX8_next_61, sX8_next_64, sX8_next_67, sX8_next_68, sX8_next_71, sX8_next_74, sX8_next_75, sX8_next_78, sX8_next_81, sX8_next_82, sX8_next_85, sX8_next_88, sX8_next_89, sX8_next_92, sX8_next_95, sX8_next_96, sX8_next_97, sX8_next_100, ↓t_2, ↓t_w3, t_u, ↓t_c, ↓bndi_at B, ↓if_pos n1, ↓bndi_at D, ↓if_neg o1, ↓bndv_at R]
    · rw [if_neg (fun w => g (decide_eq_true w))] at D
      rw [if_neg g]
      by_cases g2 : ltr (f q.toNat) = true
      · rw [if_pos (of_decide_eq_true g2)] at E
        rw [if_pos g2]
        have R := T_readWord (t := t) (s := q) (kd := kd) (va := va) (p := q) hy ne hL (by omega) (by omega)
        simp only [eX8_next, sX8_next_1, sX8_next_4, sX8_next_5, sX8_next_8, sX8_next_11, sX8_next_12, sX8_next_13, sX8_next_16, sX8_next_19, sX8_next_21, sX8_next_24, sX8_next_25, sX8_next_26, sX8_next_29, sX8_next_30, sX8_next_31, sX8_next_34, sX8_next_37, sX8_next_38, sX8_next_39, sX8_next_42, sX8_next_45, sX8_next_46, sX8_next_47, sX8_next_50, sX8_next_53, sX8_next_54, sX8_next_55, sX8_next_56, sX8_next_59, sX8_next_60, sX8_next_61, sX8_next_64, sX8_next_67, sX8_next_68, sX8_next_71, sX8_next_74, sX8_next_75, sX8_next_78, sX8_next_81, sX8_next_82, sX8_next_85, sX8_next_88, sX8_next_89, sX8_next_92, sX8_next_95, sX8_next_96, sX8_next_97, sX8_next_100, ↓t_2, ↓t_w3, t_u, ↓t_c, ↓bndi_at B, ↓if_pos n1, ↓bndi_at D, ↓reduceIte, ↓bndi_at E, ↓if_neg o1, ↓bndv_at R]
      · rw [if_neg (fun w => g2 (decide_eq_true w))] at E
        rw [if_neg g2]
        have R := T_readSign (t := t) (s := q) (kd := kd) (va := va) (p := q) (x := f q.toNat) hy ne hL (by omega) (by omega)
        simp only [eX8_next, sX8_next_1, sX8_next_4, sX8_next_5, sX8_next_8, sX8_next_11, sX8_next_12, sX8_next_13, sX8_next_16, sX8_next_19, sX8_next_21, sX8_next_24, sX8_next_25, sX8_next_26, sX8_next_29, sX8_next_30, sX8_next_31, sX8_next_34, sX8_next_37, sX8_next_38, sX8_next_39, sX8_next_42, sX8_next_45, sX8_next_46, sX8_next_47, sX8_next_50, sX8_next_53, sX8_next_54, sX8_next_55, sX8_next_56, sX8_next_59, sX8_next_60, sX8_next_61, sX8_next_64, sX8_next_67, sX8_next_68, sX8_next_71, sX8_next_74, sX8_next_75, sX8_next_78, sX8_next_81, sX8_next_82, sX8_next_85, sX8_next_88, sX8_next_89, sX8_next_92, sX8_next_95, sX8_next_96, sX8_next_97, sX8_next_100, ↓t_2, ↓t_w3, t_u, ↓t_c, ↓bndi_at B, ↓if_pos n1, ↓bndi_at D, ↓reduceIte, ↓bndi_at E, ↓bndv_at R]
theorem T_hasRoom {p va m : Int} (hy : h.2 y = zar 1 400 f) (ne : y ≠ t) (h0 : 0 ≤ L) (h1 : L ≤ 400) (m0 : 0 ≤ m) (m1 : m ≤ 1000000) : cl mX8_hasRoom [vr t, vi m] (txs h t y L p s kd va) = some (vi (if 400 < L + m then 0 else 1), txs h t y L p s kd va) := by
  have y1 := t_y (L := L) (p := p) (s := s) (kd := kd) (va := va) hy ne
  have e : i32 (L + m) = L + m := i32_of (by omega) (by omega)
  have e4 : ((400 : Nat) : Int) = 400 := rfl
  by_cases q : 400 < L + m
  · rw [if_pos q]
    simp (disch := omega) only [eX8_hasRoom, sX8_hasRoom_0, sX8_hasRoom_1, sX8_hasRoom_4, sX8_hasRoom_5, sX8_hasRoom_6, sX8_hasRoom_7, sX8_hasRoom_10, sX8_hasRoom_11, sX8_hasRoom_14, sX8_hasRoom_15, sX8_hasRoom_18, sX8_hasRoom_19, gfi_0, gfi_s, gfr_0, gfr_s, gfl_0, gfl_s, cki_k, bndi_k, bndl_k, bndr_k, bndv_k, zup_2, zup_1, ↓reduceIte, if_true, if_false, true_or, or_true, not_true_eq_false, not_false_eq_true, ↓t_1, e, ↓t_0, ↓gle_at y1, e4, ↓if_pos q]
  · rw [if_neg q]
    simp (disch := omega) only [eX8_hasRoom, sX8_hasRoom_0, sX8_hasRoom_1, sX8_hasRoom_4, sX8_hasRoom_5, sX8_hasRoom_6, sX8_hasRoom_7, sX8_hasRoom_10, sX8_hasRoom_11, sX8_hasRoom_14, sX8_hasRoom_15, sX8_hasRoom_18, sX8_hasRoom_19, gfi_0, gfi_s, gfr_0, gfr_s, gfl_0, gfl_s, cki_k, bndi_k, bndl_k, bndr_k, bndv_k, zup_2, zup_1, ↓reduceIte, if_true, if_false, true_or, or_true, not_true_eq_false, not_false_eq_true, ↓t_1, e, ↓t_0, ↓gle_at y1, e4, ↓if_neg q]
end NX
