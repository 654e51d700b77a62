/-! the model reads its tape -/
def TM (A F : Nat → Nat → Int) (b : Nat → Int) (L : Int) : Prop := F 103 1 = L ∧ (0 ≤ L ∧ L ≤ 400) ∧ (∀ j, 0 ≤ b j ∧ b j ≤ 255) ∧ ∀ j : Nat, (j : Int) < L → A 104 j = sby (b j)
/-- a field of the model written -/
def fF (F : Nat → Nat → Int) (k : Nat) (v : Int) : Nat → Nat → Int := aup F 103 (fup (F 103) k v)
theorem fF_s {F : Nat → Nat → Int} {k : Nat} {v : Int} : fF F k v 103 k = v := by unfold fF; rw [aup_s, fup_s]
theorem fF_n {F : Nat → Nat → Int} {k j : Nat} {v : Int} (h : j ≠ k) : fF F k v 103 j = F 103 j := by unfold fF; rw [aup_s, fup_n h]
theorem fF_o {F : Nat → Nat → Int} {k j : Nat} {v : Int} (h : j ≠ 103) : fF F k v j = F j := by unfold fF; rw [aup_n h]
theorem fF_fF {F : Nat → Nat → Int} {k : Nat} {v u : Int} : fF (fF F k v) k u = fF F k u := by unfold fF; rw [aup_s, aup_aup, fup_fup]
theorem fF_id {F : Nat → Nat → Int} {k : Nat} {v : Int} (h : F 103 k = v) : fF F k v = F := by unfold fF; rw [← h, fup_id, aup_id]
theorem fup_comm {f : Nat → Int} {k j : Nat} {v u : Int} (h : j ≠ k) : fup (fup f k v) j u = fup (fup f j u) k v := by
  funext i
  by_cases q : i = j
  · subst q; rw [fup_s, fup_n h, fup_s]
  · by_cases r : i = k
    · subst r; rw [fup_n q, fup_s, fup_s]
    · rw [fup_n q, fup_n r, fup_n r, fup_n q]
theorem fF_c {F : Nat → Nat → Int} {k j : Nat} {v u : Int} (h : j ≠ k) : fF (fF F k v) j u = fF (fF F j u) k v := by
  unfold fF; rw [aup_s, aup_s, aup_aup, aup_aup, fup_comm h]
/-- behind blanks; behind letters -/
def sk (b : Nat → Int) (L p : Int) : Int := skp b (L - p).toNat p
def wde (b : Nat → Int) (L s : Int) : Int := rdw b (L - s).toNat s
theorem skp_in {b : Nat → Int} : ∀ (n : Nat) (p : Int), 0 ≤ p → skp b n p < p + n → b (skp b n p).toNat ≠ 32
  | 0, p, _, h => by rw [skp] at h; omega
  | n + 1, p, h0, h => by
    rw [skp] at h ⊢
    by_cases q : b p.toNat = 32
    · rw [if_pos q] at h ⊢
      exact skp_in n (p + 1) (by omega) (by omega)
    · rw [if_neg q]; exact q
theorem sk_b {b : Nat → Int} {L p : Int} (h1 : p ≤ L) : p ≤ sk b L p ∧ sk b L p ≤ L := by
  have := skp_b (f := b) (L - p).toNat p
  unfold sk; omega
theorem sk_in {b : Nat → Int} {L p : Int} (h0 : 0 ≤ p) (h1 : p ≤ L) (h : sk b L p < L) : b (sk b L p).toNat ≠ 32 := skp_in (L - p).toNat p h0 (by unfold sk at h; omega)
theorem sk_id {b : Nat → Int} {L p : Int} (h0 : 0 ≤ p) (h1 : p ≤ L) : sk b L (sk b L p) = sk b L p := by
  have k := sk_b (b := b) h1
  by_cases q : sk b L p < L
  · have i := sk_in h0 h1 q
    obtain ⟨n, hn⟩ : ∃ n, (L - sk b L p).toNat = n + 1 := ⟨(L - sk b L p).toNat - 1, by omega⟩
    conv => lhs; unfold sk
    rw [show skp b (L - p).toNat p = sk b L p from rfl, hn, skp, if_neg i]
  · conv => lhs; unfold sk
    rw [show skp b (L - p).toNat p = sk b L p from rfl, show (L - sk b L p).toNat = 0 by omega, skp]
theorem wde_b {b : Nat → Int} {L p : Int} (h1 : p ≤ L) : p ≤ wde b L p ∧ wde b L p ≤ L := by
  have := rdw_b (f := b) (L - p).toNat p
  unfold wde; omega
theorem sby_32 {x : Int} (h : 0 ≤ x ∧ x ≤ 255) (k : Int) (hk : 0 ≤ k ∧ k ≤ 127) : (sby x = k) = (x = k) := by unfold sby; rw [eq_iff_iff]; split <;> omega
section MT
variable {A F : Nat → Nat → Int} {E : zE} {b : Nat → Int} {L p : Int}
theorem TM_f {k : Nat} {v : Int} (h : TM A F b L) (hk : k ≠ 1) : TM A (fF F k v) b L := ⟨by rw [fF_n (Ne.symm hk)]; exact h.1, h.2⟩
theorem m_see_l (tm : TM A F b L) : ∀ (n : Nat) (F : Nat → Nat → Int) (p : Int), F 103 1 = L → F 103 8 = p → p + n = L → 0 ≤ p → rn mX11_see 0 [vr 103] [] (HP A F E) = rn mX11_see 38 [vr 103] [] (HP A (fF F 8 (skp b n p)) E) := by
  obtain ⟨_, t2, t3, t4⟩ := tm
  intro n
  induction n with
  | zero =>
    intro F p h1 h8 hp h0
    rw [skp, fF_id h8, sX11_see_0]
    simp (disch := omega) only [eX11_see, sX11_see_1, sX11_see_4, sX11_see_5, sX11_see_8, sX11_see_11, sX11_see_12, sX11_see_15, sX11_see_16, sX11_see_19, sX11_see_20, sX11_see_22, sX11_see_25, sX11_see_26, sX11_see_27, sX11_see_30, sX11_see_31, sX11_see_32, sX11_see_35, sX11_see_39, sX11_see_42, sX11_see_43, sX11_see_46, sX11_see_49, sX11_see_50, sX11_see_53, sX11_see_54, sX11_see_57, sX11_see_58, sX11_see_61, sX11_see_62, sX11_see_65, sX11_see_66, ↓hf103_8, ↓hf103_1, h1, h8, ↓if_pos]
  | succ n ih =>
    intro F p h1 h8 hp h0
    have bb := t3 p.toNat
    have bv := t4 p.toNat (by omega)
    rw [skp, sX11_see_0]
    by_cases q : b p.toNat = 32
    · rw [if_pos q]
      have i := ih (fF F 8 (p + 1)) (p + 1) (by rw [fF_n (by omega)]; exact h1) fF_s (by omega) (by omega)
      rw [fF_fF] at i
      rw [← i]
      have bv' : A 104 p.toNat = 32 := by rw [bv, q]; decide
      simp (disch := omega) only [eX11_see, sX11_see_1, sX11_see_4, sX11_see_5, sX11_see_8, sX11_see_11, sX11_see_12, sX11_see_15, sX11_see_16, sX11_see_19, sX11_see_20, sX11_see_22, sX11_see_25, sX11_see_26, sX11_see_27, sX11_see_30, sX11_see_31, sX11_see_32, sX11_see_35, sX11_see_39, sX11_see_42, sX11_see_43, sX11_see_46, sX11_see_49, sX11_see_50, sX11_see_53, sX11_see_54, sX11_see_57, sX11_see_58, sX11_see_61, sX11_see_62, sX11_see_65, sX11_see_66, ↓hf103_8, ↓hf103_1, ↓hf103_0, ↓hg104, ↓hp103_8, h1, h8, bv', i32_of, ↓if_pos, ↓if_neg, not_true_eq_false, if_false]
      rfl
    · rw [if_neg q, fF_id h8]
      have bv' : ¬ A 104 p.toNat = 32 := by rw [bv, sby_32 bb 32 (by omega)]; exact q
      simp (disch := omega) only [eX11_see, sX11_see_1, sX11_see_4, sX11_see_5, sX11_see_8, sX11_see_11, sX11_see_12, sX11_see_15, sX11_see_16, sX11_see_19, sX11_see_20, sX11_see_22, sX11_see_25, sX11_see_26, sX11_see_27, sX11_see_30, sX11_see_31, sX11_see_32, sX11_see_35, sX11_see_39, sX11_see_42, sX11_see_43, sX11_see_46, sX11_see_49, sX11_see_50, sX11_see_53, sX11_see_54, sX11_see_57, sX11_see_58, sX11_see_61, sX11_see_62, sX11_see_65, sX11_see_66, ↓hf103_8, ↓hf103_1, ↓hf103_0, ↓hg104, h1, h8, ↓if_pos bv', ↓if_pos, ↓if_neg]
theorem m_see (tm : TM A F b L) (h8 : F 103 8 = p) (h0 : 0 ≤ p) (h1 : p ≤ L) : cl mX11_see [vr 103] (HP A F E) = some (vi (byt b L (sk b L p)), HP A (fF F 8 (sk b L p)) E) := by
  have l := m_see_l (E := E) tm (L - p).toNat F p tm.1 h8 (by omega) h0
  have kb := sk_b (b := b) h1
  obtain ⟨t1, t2, t3, t4⟩ := tm
  have e1 : fF F 8 (sk b L p) 103 1 = L := by rw [fF_n (by omega)]; exact t1
  have e8 : fF F 8 (sk b L p) 103 8 = sk b L p := fF_s
  simp (disch := omega) only [eX11_see, sX11_see_1, sX11_see_4, sX11_see_5, sX11_see_8, sX11_see_11, sX11_see_12, sX11_see_15, sX11_see_16, sX11_see_19, sX11_see_20, sX11_see_22, sX11_see_25, sX11_see_26, sX11_see_27, sX11_see_30, sX11_see_31, sX11_see_32, sX11_see_35, sX11_see_38, sX11_see_39, sX11_see_42, sX11_see_43, sX11_see_46, sX11_see_49, sX11_see_50, sX11_see_53, sX11_see_54, sX11_see_57, sX11_see_58, sX11_see_61, sX11_see_62, sX11_see_65, sX11_see_66]
  rw [l, show skp b (L - p).toNat p = sk b L p from rfl]
  by_cases q : sk b L p < L
  · have bb := t3 (sk b L p).toNat
    have bv := t4 (sk b L p).toNat (by omega)
    have sb : -128 ≤ sby (b (sk b L p).toNat) ∧ sby (b (sk b L p).toNat) ≤ 127 := by unfold sby; split <;> omega
    have a : q2 (· &&& ·) (sby (b (sk b L p).toNat)) 255 = b (sk b L p).toNat := by
      rw [q_and255 (i32_of (by omega) (by omega))]
      unfold sby; split <;> omega
    rw [byt_in (by omega) q]
    simp (disch := omega) only [eX11_see, sX11_see_1, sX11_see_4, sX11_see_5, sX11_see_8, sX11_see_11, sX11_see_12, sX11_see_15, sX11_see_16, sX11_see_19, sX11_see_20, sX11_see_22, sX11_see_25, sX11_see_26, sX11_see_27, sX11_see_30, sX11_see_31, sX11_see_32, sX11_see_35, sX11_see_38, sX11_see_39, sX11_see_42, sX11_see_43, sX11_see_46, sX11_see_49, sX11_see_50, sX11_see_53, sX11_see_54, sX11_see_57, sX11_see_58, sX11_see_61, sX11_see_62, sX11_see_65, sX11_see_66, ↓hf103_8, ↓hf103_1, ↓hf103_0, ↓hg104, e1, e8, bv, a, ↓if_pos, ↓if_neg]
  · rw [byt_out (by omega)]
    simp (disch := omega) only [eX11_see, sX11_see_1, sX11_see_4, sX11_see_5, sX11_see_8, sX11_see_11, sX11_see_12, sX11_see_15, sX11_see_16, sX11_see_19, sX11_see_20, sX11_see_22, sX11_see_25, sX11_see_26, sX11_see_27, sX11_see_30, sX11_see_31, sX11_see_32, sX11_see_35, sX11_see_38, sX11_see_39, sX11_see_42, sX11_see_43, sX11_see_46, sX11_see_49, sX11_see_50, sX11_see_53, sX11_see_54, sX11_see_57, sX11_see_58, sX11_see_61, sX11_see_62, sX11_see_65, sX11_see_66, ↓hf103_8, ↓hf103_1, e1, e8, ↓if_pos, ↓if_neg]
theorem m_isDigit {k : Int} (tm : TM A F b L) (h0 : 0 ≤ k) : cl mX11_isDigit [vr 103, vi k] (HP A F E) = some (vi (if dgt (byt b L k) then 1 else 0), HP A F E) := by
  obtain ⟨t1, t2, t3, t4⟩ := tm
  by_cases q : k < L
  · have bb := t3 k.toNat
    have bv := t4 k.toNat (by omega)
    rw [byt_in h0 q]
    unfold dgt sby at *
    by_cases y : 48 ≤ b k.toNat
    · by_cases y2 : b k.toNat ≤ 57
      · rw [if_pos (show b k.toNat < 128 by omega)] at bv
        rw [if_pos (decide_eq_true ⟨y, y2⟩)]
        simp (disch := omega) only [eX11_isDigit, sX11_isDigit_0, sX11_isDigit_1, sX11_isDigit_2, sX11_isDigit_5, sX11_isDigit_8, sX11_isDigit_9, sX11_isDigit_12, sX11_isDigit_13, sX11_isDigit_14, sX11_isDigit_16, sX11_isDigit_19, sX11_isDigit_20, sX11_isDigit_23, sX11_isDigit_24, sX11_isDigit_25, sX11_isDigit_27, sX11_isDigit_30, sX11_isDigit_31, sX11_isDigit_34, sX11_isDigit_35, ↓hf103_1, ↓hf103_0, ↓hg104, t1, bv, ↓if_pos, ↓if_neg, ↓reduceIte, or_true]
      · rw [if_neg (show ¬ decide (48 ≤ b k.toNat ∧ b k.toNat ≤ 57) = true from fun w => y2 (of_decide_eq_true w).2)]
        by_cases y3 : b k.toNat < 128
        · rw [if_pos y3] at bv
          simp (disch := omega) only [eX11_isDigit, sX11_isDigit_0, sX11_isDigit_1, sX11_isDigit_2, sX11_isDigit_5, sX11_isDigit_8, sX11_isDigit_9, sX11_isDigit_12, sX11_isDigit_13, sX11_isDigit_14, sX11_isDigit_16, sX11_isDigit_19, sX11_isDigit_20, sX11_isDigit_23, sX11_isDigit_24, sX11_isDigit_25, sX11_isDigit_27, sX11_isDigit_30, sX11_isDigit_31, sX11_isDigit_34, sX11_isDigit_35, ↓hf103_1, ↓hf103_0, ↓hg104, t1, bv, ↓if_pos, ↓if_neg, ↓reduceIte, true_or]
        · rw [if_neg y3] at bv
          simp (disch := omega) only [eX11_isDigit, sX11_isDigit_0, sX11_isDigit_1, sX11_isDigit_2, sX11_isDigit_5, sX11_isDigit_8, sX11_isDigit_9, sX11_isDigit_12, sX11_isDigit_13, sX11_isDigit_14, sX11_isDigit_16, sX11_isDigit_19, sX11_isDigit_20, sX11_isDigit_23, sX11_isDigit_24, sX11_isDigit_25, sX11_isDigit_27, sX11_isDigit_30, sX11_isDigit_31, sX11_isDigit_34, sX11_isDigit_35, ↓hf103_1, ↓hf103_0, ↓hg104, t1, bv, ↓if_pos, ↓if_neg, ↓reduceIte, true_or]
    · rw [if_pos (show b k.toNat < 128 by omega)] at bv
      rw [if_neg (show ¬ decide (48 ≤ b k.toNat ∧ b k.toNat ≤ 57) = true from fun w => y (of_decide_eq_true w).1)]
      simp (disch := omega) only [eX11_isDigit, sX11_isDigit_0, sX11_isDigit_1, sX11_isDigit_2, sX11_isDigit_5, sX11_isDigit_8, sX11_isDigit_9, sX11_isDigit_12, sX11_isDigit_13, sX11_isDigit_14, sX11_isDigit_16, sX11_isDigit_19, sX11_isDigit_20, sX11_isDigit_23, sX11_isDigit_24, sX11_isDigit_25, sX11_isDigit_27, sX11_isDigit_30, sX11_isDigit_31, sX11_isDigit_34, sX11_isDigit_35, ↓hf103_1, ↓hf103_0, ↓hg104, t1, bv, ↓if_pos, ↓if_neg, ↓reduceIte, true_or]
  · rw [byt_out (by omega), if_neg (by decide)]
    simp (disch := omega) only [eX11_isDigit, sX11_isDigit_0, sX11_isDigit_1, sX11_isDigit_2, sX11_isDigit_5, sX11_isDigit_8, sX11_isDigit_9, sX11_isDigit_12, sX11_isDigit_13, sX11_isDigit_14, sX11_isDigit_16, sX11_isDigit_19, sX11_isDigit_20, sX11_isDigit_23, sX11_isDigit_24, sX11_isDigit_25, sX11_isDigit_27, sX11_isDigit_30, sX11_isDigit_31, sX11_isDigit_34, sX11_isDigit_35, ↓hf103_1, t1, ↓if_pos, ↓if_neg, ↓reduceIte, true_or]
theorem m_isLetter {k : Int} (tm : TM A F b L) (h0 : 0 ≤ k) : cl mX11_isLetter [vr 103, vi k] (HP A F E) = some (vi (if ltr (byt b L k) then 1 else 0), HP A F E) := by
  obtain ⟨t1, t2, t3, t4⟩ := tm
  by_cases q : k < L
  · have bb := t3 k.toNat
    have bv := t4 k.toNat (by omega)
    rw [byt_in h0 q]
    unfold ltr sby at *
    by_cases y : 97 ≤ b k.toNat
    · by_cases y2 : b k.toNat ≤ 122
      · rw [if_pos (show b k.toNat < 128 by omega)] at bv
        rw [if_pos (decide_eq_true ⟨y, y2⟩)]
        simp (disch := omega) only [eX11_isLetter, sX11_isLetter_0, sX11_isLetter_1, sX11_isLetter_2, sX11_isLetter_5, sX11_isLetter_8, sX11_isLetter_9, sX11_isLetter_12, sX11_isLetter_13, sX11_isLetter_14, sX11_isLetter_16, sX11_isLetter_19, sX11_isLetter_20, sX11_isLetter_23, sX11_isLetter_24, sX11_isLetter_25, sX11_isLetter_27, sX11_isLetter_30, sX11_isLetter_31, sX11_isLetter_34, sX11_isLetter_35, ↓hf103_1, ↓hf103_0, ↓hg104, t1, bv, ↓if_pos, ↓if_neg, ↓reduceIte, or_true]
      · rw [if_neg (show ¬ decide (97 ≤ b k.toNat ∧ b k.toNat ≤ 122) = true from fun w => y2 (of_decide_eq_true w).2)]
        by_cases y3 : b k.toNat < 128
        · rw [if_pos y3] at bv
          simp (disch := omega) only [eX11_isLetter, sX11_isLetter_0, sX11_isLetter_1, sX11_isLetter_2, sX11_isLetter_5, sX11_isLetter_8, sX11_isLetter_9, sX11_isLetter_12, sX11_isLetter_13, sX11_isLetter_14, sX11_isLetter_16, sX11_isLetter_19, sX11_isLetter_20, sX11_isLetter_23, sX11_isLetter_24, sX11_isLetter_25, sX11_isLetter_27, sX11_isLetter_30, sX11_isLetter_31, sX11_isLetter_34, sX11_isLetter_35, ↓hf103_1, ↓hf103_0, ↓hg104, t1, bv, ↓if_pos, ↓if_neg, ↓reduceIte, true_or]
        · rw [if_neg y3] at bv
          simp (disch := omega) only [eX11_isLetter, sX11_isLetter_0, sX11_isLetter_1, sX11_isLetter_2, sX11_isLetter_5, sX11_isLetter_8, sX11_isLetter_9, sX11_isLetter_12, sX11_isLetter_13, sX11_isLetter_14, sX11_isLetter_16, sX11_isLetter_19, sX11_isLetter_20, sX11_isLetter_23, sX11_isLetter_24, sX11_isLetter_25, sX11_isLetter_27, sX11_isLetter_30, sX11_isLetter_31, sX11_isLetter_34, sX11_isLetter_35, ↓hf103_1, ↓hf103_0, ↓hg104, t1, bv, ↓if_pos, ↓if_neg, ↓reduceIte, true_or]
    · rw [if_pos (show b k.toNat < 128 by omega)] at bv
      rw [if_neg (show ¬ decide (97 ≤ b k.toNat ∧ b k.toNat ≤ 122) = true from fun w => y (of_decide_eq_true w).1)]
      simp (disch := omega) only [eX11_isLetter, sX11_isLetter_0, sX11_isLetter_1, sX11_isLetter_2, sX11_isLetter_5, sX11_isLetter_8, sX11_isLetter_9, sX11_isLetter_12, sX11_isLetter_13, sX11_isLetter_14, sX11_isLetter_16, sX11_isLetter_19, sX11_isLetter_20, sX11_isLetter_23, sX11_isLetter_24, sX11_isLetter_25, sX11_isLetter_27, sX11_isLetter_30, sX11_isLetter_31, sX11_isLetter_34, sX11_isLetter_35, ↓hf103_1, ↓hf103_0, ↓hg104, t1, bv, ↓if_pos, ↓if_neg, ↓reduceIte, true_or]
  · rw [byt_out (by omega), if_neg (by decide)]
    simp (disch := omega) only [eX11_isLetter, sX11_isLetter_0, sX11_isLetter_1, sX11_isLetter_2, sX11_isLetter_5, sX11_isLetter_8, sX11_isLetter_9, sX11_isLetter_12, sX11_isLetter_13, sX11_isLetter_14, sX11_isLetter_16, sX11_isLetter_19, sX11_isLetter_20, sX11_isLetter_23, sX11_isLetter_24, sX11_isLetter_25, sX11_isLetter_27, sX11_isLetter_30, sX11_isLetter_31, sX11_isLetter_34, sX11_isLetter_35, ↓hf103_1, t1, ↓if_pos, ↓if_neg, ↓reduceIte, true_or]
theorem m_pw_l (tm : TM A F b L) : ∀ (n : Nat) (F : Nat → Nat → Int) (s : Int), F 103 1 = L → F 103 8 = s → s + n = L → 0 ≤ s → rn mX11_passWord 0 [vr 103] [] (HP A F E) = some (vn, HP A (fF F 8 (rdw b n s)) E) := by
  intro n
  induction n with
  | zero =>
    intro F s h1 h8 hp h0
    have il := m_isLetter (A := A) (F := F) (E := E) (b := b) (L := L) (k := s) ⟨h1, tm.2⟩ h0
    rw [byt_out (by omega), if_neg (by decide)] at il
    rw [rdw, fF_id h8, sX11_passWord_0]
    simp (disch := omega) only [eX11_passWord, sX11_passWord_1, sX11_passWord_2, sX11_passWord_5, sX11_passWord_8, sX11_passWord_11, sX11_passWord_12, sX11_passWord_13, sX11_passWord_16, sX11_passWord_17, sX11_passWord_18, sX11_passWord_21, sX11_passWord_24, ↓hk103, ↓hf103_8, h8, ↓bndi_at il, ↓if_pos]
  | succ n ih =>
    intro F s h1 h8 hp h0
    have il := m_isLetter (A := A) (F := F) (E := E) (b := b) (L := L) (k := s) ⟨h1, tm.2⟩ h0
    have bl := tm.2.1
    rw [byt_in h0 (by omega)] at il
    rw [rdw, sX11_passWord_0]
    by_cases q : ltr (b s.toNat) = true
    · rw [if_pos q] at il ⊢
      have i := ih (fF F 8 (s + 1)) (s + 1) (by rw [fF_n (by omega)]; exact h1) fF_s (by omega) (by omega)
      rw [fF_fF] at i
      rw [← i]
      simp (disch := omega) only [eX11_passWord, sX11_passWord_1, sX11_passWord_2, sX11_passWord_5, sX11_passWord_8, sX11_passWord_11, sX11_passWord_12, sX11_passWord_13, sX11_passWord_16, sX11_passWord_17, sX11_passWord_18, sX11_passWord_21, sX11_passWord_24, ↓hk103, ↓hf103_8, ↓hp103_8, h8, i32_of, ↓bndi_at il, ↓if_neg]
      rfl
    · rw [if_neg q] at il ⊢
      rw [fF_id h8]
      simp (disch := omega) only [eX11_passWord, sX11_passWord_1, sX11_passWord_2, sX11_passWord_5, sX11_passWord_8, sX11_passWord_11, sX11_passWord_12, sX11_passWord_13, sX11_passWord_16, sX11_passWord_17, sX11_passWord_18, sX11_passWord_21, sX11_passWord_24, ↓hk103, ↓hf103_8, h8, ↓bndi_at il, ↓if_pos]
theorem m_passWord {s : Int} (tm : TM A F b L) (h8 : F 103 8 = s) (h0 : 0 ≤ s) (h1 : s ≤ L) : cl mX11_passWord [vr 103] (HP A F E) = some (vn, HP A (fF F 8 (wde b L s)) E) := by
  have l := m_pw_l (E := E) tm (L - s).toNat F s tm.1 h8 (by omega) h0
  simp only [eX11_passWord, sX11_passWord_1, sX11_passWord_2, sX11_passWord_5, sX11_passWord_8, sX11_passWord_11, sX11_passWord_12, sX11_passWord_13, sX11_passWord_16, sX11_passWord_17, sX11_passWord_18, sX11_passWord_21, sX11_passWord_24]
  exact l
theorem m_fails {k at' : Int} (h9 : F 103 9 = 0) (k0 : 0 ≤ k ∧ k ≤ 7) (a0 : 0 ≤ at' ∧ at' ≤ 400) : cl mX11_fails [vr 103, vi k, vi at'] (HP A F E) = some (vi 0, HP A (fF F 9 (1 + 8 * at' + k)) E) := by
  simp (disch := omega) only [eX11_fails, sX11_fails_0, sX11_fails_1, sX11_fails_4, sX11_fails_7, sX11_fails_8, sX11_fails_9, sX11_fails_11, sX11_fails_12, sX11_fails_13, sX11_fails_14, sX11_fails_15, sX11_fails_16, sX11_fails_19, sX11_fails_20, ↓hf103_9, ↓hp103_9, h9, i32_of, ↓if_pos, ↓if_neg, ↓reduceIte, true_or]
  rfl
/-- the number here: its end, its value -/
def nde (b : Nat → Int) (L s : Int) : Int × Int := rdn b s (L - s).toNat s 0
theorem m_nh_l {lo hi s : Int} (tm : TM A F b L) (s0 : 0 ≤ s) : ∀ (n : Nat) (F : Nat → Nat → Int) (p v : Int), F 103 1 = L → F 103 8 = p → p + n = L → s ≤ p → nin p s v → rn mX11_numberHere 34 [vr 103, vi lo, vi hi, vi s, vi v] [] (HP A F E) = rn mX11_numberHere 88 [vr 103, vi lo, vi hi, vi s, vi (rdn b s n p v).2] [] (HP A (fF F 8 (rdn b s n p v).1) E) := by
  obtain ⟨_, t2, t3, t4⟩ := tm
  intro n
  induction n with
  | zero =>
    intro F p v h1 h8 hp h0 hv
    have il := m_isDigit (A := A) (F := F) (E := E) (b := b) (L := L) (k := p) ⟨h1, t2, t3, t4⟩ (by omega)
    rw [byt_out (by omega), if_neg (by decide)] at il
    rw [rdn, fF_id h8, sX11_numberHere_34]
    simp (disch := omega) only [eX11_numberHere, sX11_numberHere_0, sX11_numberHere_1, sX11_numberHere_4, sX11_numberHere_5, sX11_numberHere_6, sX11_numberHere_7, sX11_numberHere_10, sX11_numberHere_13, sX11_numberHere_16, sX11_numberHere_17, sX11_numberHere_18, sX11_numberHere_19, sX11_numberHere_22, sX11_numberHere_25, sX11_numberHere_26, sX11_numberHere_27, sX11_numberHere_30, sX11_numberHere_31, sX11_numberHere_32, sX11_numberHere_35, sX11_numberHere_36, sX11_numberHere_39, sX11_numberHere_42, sX11_numberHere_45, sX11_numberHere_46, sX11_numberHere_49, sX11_numberHere_50, sX11_numberHere_51, sX11_numberHere_52, sX11_numberHere_55, sX11_numberHere_57, sX11_numberHere_59, sX11_numberHere_60, sX11_numberHere_61, sX11_numberHere_64, sX11_numberHere_65, sX11_numberHere_68, sX11_numberHere_69, sX11_numberHere_70, sX11_numberHere_72, sX11_numberHere_73, sX11_numberHere_75, sX11_numberHere_76, sX11_numberHere_77, sX11_numberHere_80, sX11_numberHere_81, sX11_numberHere_82, sX11_numberHere_85, sX11_numberHere_89, sX11_numberHere_91, sX11_numberHere_94, sX11_numberHere_95, sX11_numberHere_98, sX11_numberHere_99, sX11_numberHere_100, sX11_numberHere_101, sX11_numberHere_104, sX11_numberHere_106, sX11_numberHere_107, sX11_numberHere_108, sX11_numberHere_109, sX11_numberHere_110, sX11_numberHere_111, sX11_numberHere_114, sX11_numberHere_117, sX11_numberHere_118, sX11_numberHere_119, sX11_numberHere_120, sX11_numberHere_123, sX11_numberHere_126, sX11_numberHere_127, sX11_numberHere_130, sX11_numberHere_131, ↓hk103, ↓hf103_8, h8, ↓bndi_at il, ↓if_pos]
  | succ n ih =>
    intro F p v h1 h8 hp h0 hv
    have il := m_isDigit (A := A) (F := F) (E := E) (b := b) (L := L) (k := p) ⟨h1, t2, t3, t4⟩ (by omega)
    rw [byt_in (by omega) (by omega)] at il
    rw [rdn, sX11_numberHere_34]
    by_cases q : dgt (b p.toNat) = true
    · have dq : 48 ≤ b p.toNat ∧ b p.toNat ≤ 57 := of_decide_eq_true q
      have bv : A 104 p.toNat = b p.toNat := by rw [t4 p.toNat (by omega)]; unfold sby; rw [if_pos (by omega)]
      have hv' := nin_s h0 hv dq
      have c10 : 10 * v = v * 10 := Int.mul_comm _ _
      rw [if_pos q] at il ⊢
      have i := ih (fF F 8 (p + 1)) (p + 1) (if p - s < 5 then v * 10 + b p.toNat - 48 else v) (by rw [fF_n (by omega)]; exact h1) fF_s (by omega) (by omega) hv'
      rw [fF_fF] at i
      rw [← i]
      have v1 := hv.1
      have v2 := hv.2.1
      by_cases y : p - s < 5
      · rw [if_pos y]
        simp (disch := omega) only [eX11_numberHere, sX11_numberHere_0, sX11_numberHere_1, sX11_numberHere_4, sX11_numberHere_5, sX11_numberHere_6, sX11_numberHere_7, sX11_numberHere_10, sX11_numberHere_13, sX11_numberHere_16, sX11_numberHere_17, sX11_numberHere_18, sX11_numberHere_19, sX11_numberHere_22, sX11_numberHere_25, sX11_numberHere_26, sX11_numberHere_27, sX11_numberHere_30, sX11_numberHere_31, sX11_numberHere_32, sX11_numberHere_35, sX11_numberHere_36, sX11_numberHere_39, sX11_numberHere_42, sX11_numberHere_45, sX11_numberHere_46, sX11_numberHere_49, sX11_numberHere_50, sX11_numberHere_51, sX11_numberHere_52, sX11_numberHere_55, sX11_numberHere_57, sX11_numberHere_59, sX11_numberHere_60, sX11_numberHere_61, sX11_numberHere_64, sX11_numberHere_65, sX11_numberHere_68, sX11_numberHere_69, sX11_numberHere_70, sX11_numberHere_72, sX11_numberHere_73, sX11_numberHere_75, sX11_numberHere_76, sX11_numberHere_77, sX11_numberHere_80, sX11_numberHere_81, sX11_numberHere_82, sX11_numberHere_85, sX11_numberHere_89, sX11_numberHere_91, sX11_numberHere_94, sX11_numberHere_95, sX11_numberHere_98, sX11_numberHere_99, sX11_numberHere_100, sX11_numberHere_101, sX11_numberHere_104, sX11_numberHere_106, sX11_numberHere_107, sX11_numberHere_108, sX11_numberHere_109, sX11_numberHere_110, sX11_numberHere_111, sX11_numberHere_114, sX11_numberHere_117, sX11_numberHere_118, sX11_numberHere_119, sX11_numberHere_120, sX11_numberHere_123, sX11_numberHere_126, sX11_numberHere_127, sX11_numberHere_130, sX11_numberHere_131, ↓hk103, ↓hf103_8, ↓hf103_0, ↓hg104, ↓hp103_8, h8, bv, i32_of, c10, ↓bndi_at il, ↓if_pos, ↓if_neg]
        rfl
      · rw [if_neg y]
        simp (disch := omega) only [eX11_numberHere, sX11_numberHere_0, sX11_numberHere_1, sX11_numberHere_4, sX11_numberHere_5, sX11_numberHere_6, sX11_numberHere_7, sX11_numberHere_10, sX11_numberHere_13, sX11_numberHere_16, sX11_numberHere_17, sX11_numberHere_18, sX11_numberHere_19, sX11_numberHere_22, sX11_numberHere_25, sX11_numberHere_26, sX11_numberHere_27, sX11_numberHere_30, sX11_numberHere_31, sX11_numberHere_32, sX11_numberHere_35, sX11_numberHere_36, sX11_numberHere_39, sX11_numberHere_42, sX11_numberHere_45, sX11_numberHere_46, sX11_numberHere_49, sX11_numberHere_50, sX11_numberHere_51, sX11_numberHere_52, sX11_numberHere_55, sX11_numberHere_57, sX11_numberHere_59, sX11_numberHere_60, sX11_numberHere_61, sX11_numberHere_64, sX11_numberHere_65, sX11_numberHere_68, sX11_numberHere_69, sX11_numberHere_70, sX11_numberHere_72, sX11_numberHere_73, sX11_numberHere_75, sX11_numberHere_76, sX11_numberHere_77, sX11_numberHere_80, sX11_numberHere_81, sX11_numberHere_82, sX11_numberHere_85, sX11_numberHere_89, sX11_numberHere_91, sX11_numberHere_94, sX11_numberHere_95, sX11_numberHere_98, sX11_numberHere_99, sX11_numberHere_100, sX11_numberHere_101, sX11_numberHere_104, sX11_numberHere_106, sX11_numberHere_107, sX11_numberHere_108, sX11_numberHere_109, sX11_numberHere_110, sX11_numberHere_111, sX11_numberHere_114, sX11_numberHere_117, sX11_numberHere_118, sX11_numberHere_119, sX11_numberHere_120, sX11_numberHere_123, sX11_numberHere_126, sX11_numberHere_127, sX11_numberHere_130, sX11_numberHere_131, ↓hk103, ↓hf103_8, ↓hp103_8, h8, i32_of, ↓bndi_at il, ↓if_pos, ↓if_neg]
        rfl
    · rw [if_neg q] at il ⊢
      rw [fF_id h8]
      simp (disch := omega) only [eX11_numberHere, sX11_numberHere_0, sX11_numberHere_1, sX11_numberHere_4, sX11_numberHere_5, sX11_numberHere_6, sX11_numberHere_7, sX11_numberHere_10, sX11_numberHere_13, sX11_numberHere_16, sX11_numberHere_17, sX11_numberHere_18, sX11_numberHere_19, sX11_numberHere_22, sX11_numberHere_25, sX11_numberHere_26, sX11_numberHere_27, sX11_numberHere_30, sX11_numberHere_31, sX11_numberHere_32, sX11_numberHere_35, sX11_numberHere_36, sX11_numberHere_39, sX11_numberHere_42, sX11_numberHere_45, sX11_numberHere_46, sX11_numberHere_49, sX11_numberHere_50, sX11_numberHere_51, sX11_numberHere_52, sX11_numberHere_55, sX11_numberHere_57, sX11_numberHere_59, sX11_numberHere_60, sX11_numberHere_61, sX11_numberHere_64, sX11_numberHere_65, sX11_numberHere_68, sX11_numberHere_69, sX11_numberHere_70, sX11_numberHere_72, sX11_numberHere_73, sX11_numberHere_75, sX11_numberHere_76, sX11_numberHere_77, sX11_numberHere_80, sX11_numberHere_81, sX11_numberHere_82, sX11_numberHere_85, sX11_numberHere_89, sX11_numberHere_91, sX11_numberHere_94, sX11_numberHere_95, sX11_numberHere_98, sX11_numberHere_99, sX11_numberHere_100, sX11_numberHere_101, sX11_numberHere_104, sX11_numberHere_106, sX11_numberHere_107, sX11_numberHere_108, sX11_numberHere_109, sX11_numberHere_110, sX11_numberHere_111, sX11_numberHere_114, sX11_numberHere_117, sX11_numberHere_118, sX11_numberHere_119, sX11_numberHere_120, sX11_numberHere_123, sX11_numberHere_126, sX11_numberHere_127, sX11_numberHere_130, sX11_numberHere_131, ↓hk103, ↓hf103_8, h8, ↓bndi_at il, ↓if_pos]
theorem m_number {lo hi : Int} (tm : TM A F b L) (h8 : F 103 8 = p) (h9 : F 103 9 = 0) (h0 : 0 ≤ p) (h1 : p ≤ L) : cl mX11_numberHere [vr 103, vi lo, vi hi] (HP A F E) = if dgt (byt b L (sk b L p)) then (if (nde b L (sk b L p)).1 - sk b L p ≤ 5 ∧ lo ≤ (nde b L (sk b L p)).2 ∧ (nde b L (sk b L p)).2 ≤ hi then some (vi 1, HP A (fF (fF F 8 (nde b L (sk b L p)).1) 10 (nde b L (sk b L p)).2) E) else some (vi 0, HP A (fF (fF (fF F 8 (nde b L (sk b L p)).1) 10 (nde b L (sk b L p)).2) 9 (1 + 8 * sk b L p + 1)) E)) else some (vi 0, HP A (fF (fF F 8 (sk b L p)) 9 (1 + 8 * sk b L p + 0)) E) := by
  have kb := sk_b (b := b) h1
  have L4 := tm.2.1
  have se := m_see (E := E) tm h8 h0 h1
  generalize hs : sk b L p = s at *
  have tm1 : TM A (fF F 8 s) b L := TM_f tm (by omega)
  have dg := m_isDigit (E := E) (k := s) tm1 (by omega)
  have e8 : fF F 8 s 103 8 = s := fF_s
  have e9 : fF F 8 s 103 9 = 0 := by rw [fF_n (by omega)]; exact h9
  by_cases q : dgt (byt b L s) = true
  · rw [if_pos q] at dg ⊢
    have l := m_nh_l (E := E) (lo := lo) (hi := hi) (s := s) tm1 (by omega) (L - s).toNat (fF F 8 s) s 0 tm1.1 e8 (by omega) (Int.le_refl _) ⟨by omega, by omega, fun _ => by omega, fun _ => by omega, fun _ => by omega, fun _ => by omega, fun _ => by omega⟩
    have nb := rdn_b (f := b) (s := s) (L - s).toNat s 0 (Int.le_refl _) ⟨by omega, by omega, fun _ => by omega, fun _ => by omega, fun _ => by omega, fun _ => by omega, fun _ => by omega⟩
    rw [fF_fF, show rdn b s (L - s).toNat s 0 = nde b L s from rfl] at l
    rw [show rdn b s (L - s).toNat s 0 = nde b L s from rfl] at nb
    generalize nde b L s = N at *
    have n8 : fF (fF F 8 N.1) 10 N.2 103 8 = N.1 := by rw [fF_n (by omega)]; exact fF_s
    have n9 : fF (fF F 8 N.1) 10 N.2 103 9 = 0 := by rw [fF_n (by omega), fF_n (by omega)]; exact h9
    have mi := m_in (v := N.2) (lo := lo) (hi := hi) (h := HP A (fF (fF F 8 N.1) 10 N.2) E)
    have fl := m_fails (A := A) (E := E) (k := 1) (at' := s) n9 (by omega) (by omega)
    have pt : ∀ L st, rn mX11_numberHere 94 L st (HP A (aup (fF F 8 N.1) 103 (fup (fF F 8 N.1 103) 10 N.2)) E) = rn mX11_numberHere 94 L st (HP A (fF (fF F 8 N.1) 10 N.2) E) := fun _ _ => rfl
    by_cases y : N.1 - s ≤ 5
    · by_cases y2 : lo ≤ N.2 ∧ N.2 ≤ hi
      · rw [if_pos ⟨y, y2⟩]
        rw [if_pos y2] at mi
        simp (disch := omega) only [eX11_numberHere, sX11_numberHere_0, sX11_numberHere_1, sX11_numberHere_4, sX11_numberHere_5, sX11_numberHere_6, sX11_numberHere_7, sX11_numberHere_10, sX11_numberHere_13, sX11_numberHere_16, sX11_numberHere_17, sX11_numberHere_18, sX11_numberHere_19, sX11_numberHere_22, sX11_numberHere_25, sX11_numberHere_26, sX11_numberHere_27, sX11_numberHere_30, sX11_numberHere_31, sX11_numberHere_32, sX11_numberHere_35, sX11_numberHere_36, sX11_numberHere_39, sX11_numberHere_42, sX11_numberHere_45, sX11_numberHere_46, sX11_numberHere_49, sX11_numberHere_50, sX11_numberHere_51, sX11_numberHere_52, sX11_numberHere_55, sX11_numberHere_57, sX11_numberHere_59, sX11_numberHere_60, sX11_numberHere_61, sX11_numberHere_64, sX11_numberHere_65, sX11_numberHere_68, sX11_numberHere_69, sX11_numberHere_70, sX11_numberHere_72, sX11_numberHere_73, sX11_numberHere_75, sX11_numberHere_76, sX11_numberHere_77, sX11_numberHere_80, sX11_numberHere_81, sX11_numberHere_82, sX11_numberHere_85, sX11_numberHere_89, sX11_numberHere_91, sX11_numberHere_94, sX11_numberHere_95, sX11_numberHere_98, sX11_numberHere_99, sX11_numberHere_100, sX11_numberHere_101, sX11_numberHere_104, sX11_numberHere_106, sX11_numberHere_107, sX11_numberHere_108, sX11_numberHere_109, sX11_numberHere_110, sX11_numberHere_111, sX11_numberHere_114, sX11_numberHere_117, sX11_numberHere_118, sX11_numberHere_119, sX11_numberHere_120, sX11_numberHere_123, sX11_numberHere_126, sX11_numberHere_127, sX11_numberHere_130, sX11_numberHere_131, ↓hk103, ↓hf103_8, ↓bndi_at se, ↓bndi_at dg, e8, ↓if_pos, ↓if_neg]
        rw [l]
        simp (disch := omega) only [eX11_numberHere, sX11_numberHere_0, sX11_numberHere_1, sX11_numberHere_4, sX11_numberHere_5, sX11_numberHere_6, sX11_numberHere_7, sX11_numberHere_10, sX11_numberHere_13, sX11_numberHere_16, sX11_numberHere_17, sX11_numberHere_18, sX11_numberHere_19, sX11_numberHere_22, sX11_numberHere_25, sX11_numberHere_26, sX11_numberHere_27, sX11_numberHere_30, sX11_numberHere_31, sX11_numberHere_32, sX11_numberHere_35, sX11_numberHere_36, sX11_numberHere_39, sX11_numberHere_42, sX11_numberHere_45, sX11_numberHere_46, sX11_numberHere_49, sX11_numberHere_50, sX11_numberHere_51, sX11_numberHere_52, sX11_numberHere_55, sX11_numberHere_57, sX11_numberHere_59, sX11_numberHere_60, sX11_numberHere_61, sX11_numberHere_64, sX11_numberHere_65, sX11_numberHere_68, sX11_numberHere_69, sX11_numberHere_70, sX11_numberHere_72, sX11_numberHere_73, sX11_numberHere_75, sX11_numberHere_76, sX11_numberHere_77, sX11_numberHere_80, sX11_numberHere_81, sX11_numberHere_82, sX11_numberHere_85, sX11_numberHere_88, sX11_numberHere_89, sX11_numberHere_91, sX11_numberHere_95, sX11_numberHere_98, sX11_numberHere_99, sX11_numberHere_100, sX11_numberHere_101, sX11_numberHere_104, sX11_numberHere_106, sX11_numberHere_107, sX11_numberHere_108, sX11_numberHere_109, sX11_numberHere_110, sX11_numberHere_111, sX11_numberHere_114, sX11_numberHere_117, sX11_numberHere_118, sX11_numberHere_119, sX11_numberHere_120, sX11_numberHere_123, sX11_numberHere_126, sX11_numberHere_127, sX11_numberHere_130, sX11_numberHere_131, ↓hp103_10]
        rw [pt]
        simp (disch := omega) only [eX11_numberHere, sX11_numberHere_0, sX11_numberHere_1, sX11_numberHere_4, sX11_numberHere_5, sX11_numberHere_6, sX11_numberHere_7, sX11_numberHere_10, sX11_numberHere_13, sX11_numberHere_16, sX11_numberHere_17, sX11_numberHere_18, sX11_numberHere_19, sX11_numberHere_22, sX11_numberHere_25, sX11_numberHere_26, sX11_numberHere_27, sX11_numberHere_30, sX11_numberHere_31, sX11_numberHere_32, sX11_numberHere_35, sX11_numberHere_36, sX11_numberHere_39, sX11_numberHere_42, sX11_numberHere_45, sX11_numberHere_46, sX11_numberHere_49, sX11_numberHere_50, sX11_numberHere_51, sX11_numberHere_52, sX11_numberHere_55, sX11_numberHere_57, sX11_numberHere_59, sX11_numberHere_60, sX11_numberHere_61, sX11_numberHere_64, sX11_numberHere_65, sX11_numberHere_68, sX11_numberHere_69, sX11_numberHere_70, sX11_numberHere_72, sX11_numberHere_73, sX11_numberHere_75, sX11_numberHere_76, sX11_numberHere_77, sX11_numberHere_80, sX11_numberHere_81, sX11_numberHere_82, sX11_numberHere_85, sX11_numberHere_88, sX11_numberHere_89, sX11_numberHere_91, sX11_numberHere_94, sX11_numberHere_95, sX11_numberHere_98, sX11_numberHere_99, sX11_numberHere_100, sX11_numberHere_101, sX11_numberHere_104, sX11_numberHere_106, sX11_numberHere_107, sX11_numberHere_108, sX11_numberHere_109, sX11_numberHere_110, sX11_numberHere_111, sX11_numberHere_114, sX11_numberHere_117, sX11_numberHere_118, sX11_numberHere_119, sX11_numberHere_120, sX11_numberHere_123, sX11_numberHere_126, sX11_numberHere_127, sX11_numberHere_130, sX11_numberHere_131, ↓hf103_8, n8, i32_of, ↓bndi_at mi, ↓if_pos, ↓if_neg, ↓reduceIte, or_true]
      · rw [if_neg (fun w => y2 w.2)]
        rw [if_neg y2] at mi
        simp (disch := omega) only [eX11_numberHere, sX11_numberHere_0, sX11_numberHere_1, sX11_numberHere_4, sX11_numberHere_5, sX11_numberHere_6, sX11_numberHere_7, sX11_numberHere_10, sX11_numberHere_13, sX11_numberHere_16, sX11_numberHere_17, sX11_numberHere_18, sX11_numberHere_19, sX11_numberHere_22, sX11_numberHere_25, sX11_numberHere_26, sX11_numberHere_27, sX11_numberHere_30, sX11_numberHere_31, sX11_numberHere_32, sX11_numberHere_35, sX11_numberHere_36, sX11_numberHere_39, sX11_numberHere_42, sX11_numberHere_45, sX11_numberHere_46, sX11_numberHere_49, sX11_numberHere_50, sX11_numberHere_51, sX11_numberHere_52, sX11_numberHere_55, sX11_numberHere_57, sX11_numberHere_59, sX11_numberHere_60, sX11_numberHere_61, sX11_numberHere_64, sX11_numberHere_65, sX11_numberHere_68, sX11_numberHere_69, sX11_numberHere_70, sX11_numberHere_72, sX11_numberHere_73, sX11_numberHere_75, sX11_numberHere_76, sX11_numberHere_77, sX11_numberHere_80, sX11_numberHere_81, sX11_numberHere_82, sX11_numberHere_85, sX11_numberHere_89, sX11_numberHere_91, sX11_numberHere_94, sX11_numberHere_95, sX11_numberHere_98, sX11_numberHere_99, sX11_numberHere_100, sX11_numberHere_101, sX11_numberHere_104, sX11_numberHere_106, sX11_numberHere_107, sX11_numberHere_108, sX11_numberHere_109, sX11_numberHere_110, sX11_numberHere_111, sX11_numberHere_114, sX11_numberHere_117, sX11_numberHere_118, sX11_numberHere_119, sX11_numberHere_120, sX11_numberHere_123, sX11_numberHere_126, sX11_numberHere_127, sX11_numberHere_130, sX11_numberHere_131, ↓hk103, ↓hf103_8, ↓bndi_at se, ↓bndi_at dg, e8, ↓if_pos, ↓if_neg]
        rw [l]
        simp (disch := omega) only [eX11_numberHere, sX11_numberHere_0, sX11_numberHere_1, sX11_numberHere_4, sX11_numberHere_5, sX11_numberHere_6, sX11_numberHere_7, sX11_numberHere_10, sX11_numberHere_13, sX11_numberHere_16, sX11_numberHere_17, sX11_numberHere_18, sX11_numberHere_19, sX11_numberHere_22, sX11_numberHere_25, sX11_numberHere_26, sX11_numberHere_27, sX11_numberHere_30, sX11_numberHere_31, sX11_numberHere_32, sX11_numberHere_35, sX11_numberHere_36, sX11_numberHere_39, sX11_numberHere_42, sX11_numberHere_45, sX11_numberHere_46, sX11_numberHere_49, sX11_numberHere_50, sX11_numberHere_51, sX11_numberHere_52, sX11_numberHere_55, sX11_numberHere_57, sX11_numberHere_59, sX11_numberHere_60, sX11_numberHere_61, sX11_numberHere_64, sX11_numberHere_65, sX11_numberHere_68, sX11_numberHere_69, sX11_numberHere_70, sX11_numberHere_72, sX11_numberHere_73, sX11_numberHere_75, sX11_numberHere_76, sX11_numberHere_77, sX11_numberHere_80, sX11_numberHere_81, sX11_numberHere_82, sX11_numberHere_85, sX11_numberHere_88, sX11_numberHere_89, sX11_numberHere_91, sX11_numberHere_95, sX11_numberHere_98, sX11_numberHere_99, sX11_numberHere_100, sX11_numberHere_101, sX11_numberHere_104, sX11_numberHere_106, sX11_numberHere_107, sX11_numberHere_108, sX11_numberHere_109, sX11_numberHere_110, sX11_numberHere_111, sX11_numberHere_114, sX11_numberHere_117, sX11_numberHere_118, sX11_numberHere_119, sX11_numberHere_120, sX11_numberHere_123, sX11_numberHere_126, sX11_numberHere_127, sX11_numberHere_130, sX11_numberHere_131, ↓hp103_10]
        rw [pt]
        simp (disch := omega) only [eX11_numberHere, sX11_numberHere_0, sX11_numberHere_1, sX11_numberHere_4, sX11_numberHere_5, sX11_numberHere_6, sX11_numberHere_7, sX11_numberHere_10, sX11_numberHere_13, sX11_numberHere_16, sX11_numberHere_17, sX11_numberHere_18, sX11_numberHere_19, sX11_numberHere_22, sX11_numberHere_25, sX11_numberHere_26, sX11_numberHere_27, sX11_numberHere_30, sX11_numberHere_31, sX11_numberHere_32, sX11_numberHere_35, sX11_numberHere_36, sX11_numberHere_39, sX11_numberHere_42, sX11_numberHere_45, sX11_numberHere_46, sX11_numberHere_49, sX11_numberHere_50, sX11_numberHere_51, sX11_numberHere_52, sX11_numberHere_55, sX11_numberHere_57, sX11_numberHere_59, sX11_numberHere_60, sX11_numberHere_61, sX11_numberHere_64, sX11_numberHere_65, sX11_numberHere_68, sX11_numberHere_69, sX11_numberHere_70, sX11_numberHere_72, sX11_numberHere_73, sX11_numberHere_75, sX11_numberHere_76, sX11_numberHere_77, sX11_numberHere_80, sX11_numberHere_81, sX11_numberHere_82, sX11_numberHere_85, sX11_numberHere_88, sX11_numberHere_89, sX11_numberHere_91, sX11_numberHere_94, sX11_numberHere_95, sX11_numberHere_98, sX11_numberHere_99, sX11_numberHere_100, sX11_numberHere_101, sX11_numberHere_104, sX11_numberHere_106, sX11_numberHere_107, sX11_numberHere_108, sX11_numberHere_109, sX11_numberHere_110, sX11_numberHere_111, sX11_numberHere_114, sX11_numberHere_117, sX11_numberHere_118, sX11_numberHere_119, sX11_numberHere_120, sX11_numberHere_123, sX11_numberHere_126, sX11_numberHere_127, sX11_numberHere_130, sX11_numberHere_131, ↓hk103, ↓hf103_8, n8, i32_of, ↓bndi_at mi, ↓bndi_at fl, ↓if_pos, ↓if_neg, ↓reduceIte, true_or]
    · rw [if_neg (fun w => y w.1)]
      simp (disch := omega) only [eX11_numberHere, sX11_numberHere_0, sX11_numberHere_1, sX11_numberHere_4, sX11_numberHere_5, sX11_numberHere_6, sX11_numberHere_7, sX11_numberHere_10, sX11_numberHere_13, sX11_numberHere_16, sX11_numberHere_17, sX11_numberHere_18, sX11_numberHere_19, sX11_numberHere_22, sX11_numberHere_25, sX11_numberHere_26, sX11_numberHere_27, sX11_numberHere_30, sX11_numberHere_31, sX11_numberHere_32, sX11_numberHere_35, sX11_numberHere_36, sX11_numberHere_39, sX11_numberHere_42, sX11_numberHere_45, sX11_numberHere_46, sX11_numberHere_49, sX11_numberHere_50, sX11_numberHere_51, sX11_numberHere_52, sX11_numberHere_55, sX11_numberHere_57, sX11_numberHere_59, sX11_numberHere_60, sX11_numberHere_61, sX11_numberHere_64, sX11_numberHere_65, sX11_numberHere_68, sX11_numberHere_69, sX11_numberHere_70, sX11_numberHere_72, sX11_numberHere_73, sX11_numberHere_75, sX11_numberHere_76, sX11_numberHere_77, sX11_numberHere_80, sX11_numberHere_81, sX11_numberHere_82, sX11_numberHere_85, sX11_numberHere_89, sX11_numberHere_91, sX11_numberHere_94, sX11_numberHere_95, sX11_numberHere_98, sX11_numberHere_99, sX11_numberHere_100, sX11_numberHere_101, sX11_numberHere_104, sX11_numberHere_106, sX11_numberHere_107, sX11_numberHere_108, sX11_numberHere_109, sX11_numberHere_110, sX11_numberHere_111, sX11_numberHere_114, sX11_numberHere_117, sX11_numberHere_118, sX11_numberHere_119, sX11_numberHere_120, sX11_numberHere_123, sX11_numberHere_126, sX11_numberHere_127, sX11_numberHere_130, sX11_numberHere_131, ↓hk103, ↓hf103_8, ↓bndi_at se, ↓bndi_at dg, e8, ↓if_pos, ↓if_neg]
      rw [l]
      simp (disch := omega) only [eX11_numberHere, sX11_numberHere_0, sX11_numberHere_1, sX11_numberHere_4, sX11_numberHere_5, sX11_numberHere_6, sX11_numberHere_7, sX11_numberHere_10, sX11_numberHere_13, sX11_numberHere_16, sX11_numberHere_17, sX11_numberHere_18, sX11_numberHere_19, sX11_numberHere_22, sX11_numberHere_25, sX11_numberHere_26, sX11_numberHere_27, sX11_numberHere_30, sX11_numberHere_31, sX11_numberHere_32, sX11_numberHere_35, sX11_numberHere_36, sX11_numberHere_39, sX11_numberHere_42, sX11_numberHere_45, sX11_numberHere_46, sX11_numberHere_49, sX11_numberHere_50, sX11_numberHere_51, sX11_numberHere_52, sX11_numberHere_55, sX11_numberHere_57, sX11_numberHere_59, sX11_numberHere_60, sX11_numberHere_61, sX11_numberHere_64, sX11_numberHere_65, sX11_numberHere_68, sX11_numberHere_69, sX11_numberHere_70, sX11_numberHere_72, sX11_numberHere_73, sX11_numberHere_75, sX11_numberHere_76, sX11_numberHere_77, sX11_numberHere_80, sX11_numberHere_81, sX11_numberHere_82, sX11_numberHere_85, sX11_numberHere_88, sX11_numberHere_89, sX11_numberHere_91, sX11_numberHere_95, sX11_numberHere_98, sX11_numberHere_99, sX11_numberHere_100, sX11_numberHere_101, sX11_numberHere_104, sX11_numberHere_106, sX11_numberHere_107, sX11_numberHere_108, sX11_numberHere_109, sX11_numberHere_110, sX11_numberHere_111, sX11_numberHere_114, sX11_numberHere_117, sX11_numberHere_118, sX11_numberHere_119, sX11_numberHere_120, sX11_numberHere_123, sX11_numberHere_126, sX11_numberHere_127, sX11_numberHere_130, sX11_numberHere_131, ↓hp103_10]
      rw [pt]
      simp (disch := omega) only [eX11_numberHere, sX11_numberHere_0, sX11_numberHere_1, sX11_numberHere_4, sX11_numberHere_5, sX11_numberHere_6, sX11_numberHere_7, sX11_numberHere_10, sX11_numberHere_13, sX11_numberHere_16, sX11_numberHere_17, sX11_numberHere_18, sX11_numberHere_19, sX11_numberHere_22, sX11_numberHere_25, sX11_numberHere_26, sX11_numberHere_27, sX11_numberHere_30, sX11_numberHere_31, sX11_numberHere_32, sX11_numberHere_35, sX11_numberHere_36, sX11_numberHere_39, sX11_numberHere_42, sX11_numberHere_45, sX11_numberHere_46, sX11_numberHere_49, sX11_numberHere_50, sX11_numberHere_51, sX11_numberHere_52, sX11_numberHere_55, sX11_numberHere_57, sX11_numberHere_59, sX11_numberHere_60, sX11_numberHere_61, sX11_numberHere_64, sX11_numberHere_65, sX11_numberHere_68, sX11_numberHere_69, sX11_numberHere_70, sX11_numberHere_72, sX11_numberHere_73, sX11_numberHere_75, sX11_numberHere_76, sX11_numberHere_77, sX11_numberHere_80, sX11_numberHere_81, sX11_numberHere_82, sX11_numberHere_85, sX11_numberHere_88, sX11_numberHere_89, sX11_numberHere_91, sX11_numberHere_94, sX11_numberHere_95, sX11_numberHere_98, sX11_numberHere_99, sX11_numberHere_100, sX11_numberHere_101, sX11_numberHere_104, sX11_numberHere_106, sX11_numberHere_107, sX11_numberHere_108, sX11_numberHere_109, sX11_numberHere_110, sX11_numberHere_111, sX11_numberHere_114, sX11_numberHere_117, sX11_numberHere_118, sX11_numberHere_119, sX11_numberHere_120, sX11_numberHere_123, sX11_numberHere_126, sX11_numberHere_127, sX11_numberHere_130, sX11_numberHere_131, ↓hk103, ↓hf103_8, n8, i32_of, ↓bndi_at fl, ↓if_pos, ↓if_neg, ↓reduceIte, true_or]
  · rw [if_neg q] at dg ⊢
    have fl := m_fails (A := A) (E := E) (k := 0) (at' := s) e9 (by omega) (by omega)
    simp (disch := omega) only [eX11_numberHere, sX11_numberHere_0, sX11_numberHere_1, sX11_numberHere_4, sX11_numberHere_5, sX11_numberHere_6, sX11_numberHere_7, sX11_numberHere_10, sX11_numberHere_13, sX11_numberHere_16, sX11_numberHere_17, sX11_numberHere_18, sX11_numberHere_19, sX11_numberHere_22, sX11_numberHere_25, sX11_numberHere_26, sX11_numberHere_27, sX11_numberHere_30, sX11_numberHere_31, sX11_numberHere_32, sX11_numberHere_35, sX11_numberHere_36, sX11_numberHere_39, sX11_numberHere_42, sX11_numberHere_45, sX11_numberHere_46, sX11_numberHere_49, sX11_numberHere_50, sX11_numberHere_51, sX11_numberHere_52, sX11_numberHere_55, sX11_numberHere_57, sX11_numberHere_59, sX11_numberHere_60, sX11_numberHere_61, sX11_numberHere_64, sX11_numberHere_65, sX11_numberHere_68, sX11_numberHere_69, sX11_numberHere_70, sX11_numberHere_72, sX11_numberHere_73, sX11_numberHere_75, sX11_numberHere_76, sX11_numberHere_77, sX11_numberHere_80, sX11_numberHere_81, sX11_numberHere_82, sX11_numberHere_85, sX11_numberHere_89, sX11_numberHere_91, sX11_numberHere_94, sX11_numberHere_95, sX11_numberHere_98, sX11_numberHere_99, sX11_numberHere_100, sX11_numberHere_101, sX11_numberHere_104, sX11_numberHere_106, sX11_numberHere_107, sX11_numberHere_108, sX11_numberHere_109, sX11_numberHere_110, sX11_numberHere_111, sX11_numberHere_114, sX11_numberHere_117, sX11_numberHere_118, sX11_numberHere_119, sX11_numberHere_120, sX11_numberHere_123, sX11_numberHere_126, sX11_numberHere_127, sX11_numberHere_130, sX11_numberHere_131, ↓hk103, ↓hf103_8, ↓bndi_at se, ↓bndi_at dg, e8, ↓bndi_at fl, ↓if_pos, ↓if_neg, ↓reduceIte, true_or]
end MT
