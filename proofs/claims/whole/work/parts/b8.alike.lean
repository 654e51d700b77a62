/-! look: how many are alike, in both -/
def mxN (h : Nat → Int) : Nat → Int
  | 0 => 0
  | n + 1 => if mxN h n < h n then h n else mxN h n
theorem mxN_b {h : Nat → Int} {b : Int} (b0 : 0 ≤ b) : ∀ n : Nat, (∀ k, k < n → h k ≤ b) → 0 ≤ mxN h n ∧ mxN h n ≤ b
  | 0, _ => by rw [mxN]; omega
  | n + 1, k => by
    have i := mxN_b b0 n (fun j hj => k j (by omega))
    have := k n (by omega)
    rw [mxN]
    split <;> omega
/-- of the rows i < m how many have at g what c is -/
def alC (T : Nat → Int) (g : Nat) (c : Int) (i : Nat) : Int := if T (5 * i + g) = c then 1 else 0
def alF (P : Nat → Bool) (V : Nat → Int) (g : Nat) (c : Int) (i : Nat) : Int := if P i = true ∧ V (5 * i + g) = c then 1 else 0
section AL
variable {A F : Nat → Nat → Int} {E : zE} {g : Nat}
theorem alC_b {T : Nat → Int} {c : Int} (i : Nat) : 0 ≤ alC T g c i ∧ alC T g c i ≤ 1 := by unfold alC; split <;> omega
theorem alF_b {P : Nat → Bool} {V : Nat → Int} {c : Int} (i : Nat) : 0 ≤ alF P V g c i ∧ alF P V g c i ≤ 1 := by unfold alF; split <;> omega
theorem c_al_in {m k : Nat} {x3 : Int} (hg : g ≤ 4) (hm : m ≤ 7) (hk : k < m) : ∀ (n i : Nat), i + n = m → rn mX10_mostAlike 17 [vr 1, vi (g : Int), vi (m : Int), vi x3, vi (k : Int), vi (sumN (alC (A 64) g (A 64 (5 * k + g))) i), vi (i : Int)] [] (HP A F E) = rn mX10_mostAlike 64 [vr 1, vi (g : Int), vi (m : Int), vi x3, vi (k : Int), vi (sumN (alC (A 64) g (A 64 (5 * k + g))) m), vi (m : Int)] [] (HP A F E) := by
  intro n
  induction n with
  | zero =>
    intro i hi
    have : i = m := by omega
    subst this
    rw [sX10_mostAlike_17]
    simp (disch := omega) only [eX10_mostAlike, sX10_mostAlike_0, sX10_mostAlike_1, sX10_mostAlike_2, sX10_mostAlike_3, sX10_mostAlike_7, sX10_mostAlike_8, sX10_mostAlike_11, sX10_mostAlike_12, sX10_mostAlike_14, sX10_mostAlike_15, sX10_mostAlike_19, sX10_mostAlike_20, sX10_mostAlike_23, sX10_mostAlike_25, sX10_mostAlike_26, sX10_mostAlike_29, sX10_mostAlike_31, sX10_mostAlike_32, sX10_mostAlike_33, sX10_mostAlike_34, sX10_mostAlike_35, sX10_mostAlike_36, sX10_mostAlike_37, sX10_mostAlike_40, sX10_mostAlike_42, sX10_mostAlike_43, sX10_mostAlike_44, sX10_mostAlike_45, sX10_mostAlike_46, sX10_mostAlike_47, sX10_mostAlike_50, sX10_mostAlike_51, sX10_mostAlike_54, sX10_mostAlike_55, sX10_mostAlike_56, sX10_mostAlike_58, sX10_mostAlike_61, sX10_mostAlike_65, sX10_mostAlike_67, sX10_mostAlike_70, sX10_mostAlike_71, sX10_mostAlike_74, sX10_mostAlike_77, sX10_mostAlike_78, ↓if_pos]
  | succ n ih =>
    intro i hi
    have e1 : ((i : Int) * 5 + (g : Int)).toNat = 5 * i + g := by omega
    have e2 : ((k : Int) * 5 + (g : Int)).toNat = 5 * k + g := by omega
    have sb := sumN_bd (g := alC (A 64) g (A 64 (5 * k + g))) (b := 1) i (fun j _ => alC_b j)
    have j := ih (i + 1) (by omega)
    rw [sumN] at j
    rw [← j, sX10_mostAlike_17]
    generalize sumN (alC (A 64) g (A 64 (5 * k + g))) i = S at *
    unfold alC
    by_cases z : A 64 (5 * i + g) = A 64 (5 * k + g)
    · rw [if_pos z]
      simp (disch := omega) only [eX10_mostAlike, sX10_mostAlike_0, sX10_mostAlike_1, sX10_mostAlike_2, sX10_mostAlike_3, sX10_mostAlike_7, sX10_mostAlike_8, sX10_mostAlike_11, sX10_mostAlike_12, sX10_mostAlike_14, sX10_mostAlike_15, sX10_mostAlike_19, sX10_mostAlike_20, sX10_mostAlike_23, sX10_mostAlike_25, sX10_mostAlike_26, sX10_mostAlike_29, sX10_mostAlike_31, sX10_mostAlike_32, sX10_mostAlike_33, sX10_mostAlike_34, sX10_mostAlike_35, sX10_mostAlike_36, sX10_mostAlike_37, sX10_mostAlike_40, sX10_mostAlike_42, sX10_mostAlike_43, sX10_mostAlike_44, sX10_mostAlike_45, sX10_mostAlike_46, sX10_mostAlike_47, sX10_mostAlike_50, sX10_mostAlike_51, sX10_mostAlike_54, sX10_mostAlike_55, sX10_mostAlike_56, sX10_mostAlike_58, sX10_mostAlike_61, sX10_mostAlike_65, sX10_mostAlike_67, sX10_mostAlike_70, sX10_mostAlike_71, sX10_mostAlike_74, sX10_mostAlike_77, sX10_mostAlike_78, ↓hf1_14, ↓hg64, i32_of, e1, e2, ↓if_pos, ↓if_neg]
      rfl
    · rw [if_neg z]
      simp (disch := omega) only [eX10_mostAlike, sX10_mostAlike_0, sX10_mostAlike_1, sX10_mostAlike_2, sX10_mostAlike_3, sX10_mostAlike_7, sX10_mostAlike_8, sX10_mostAlike_11, sX10_mostAlike_12, sX10_mostAlike_14, sX10_mostAlike_15, sX10_mostAlike_19, sX10_mostAlike_20, sX10_mostAlike_23, sX10_mostAlike_25, sX10_mostAlike_26, sX10_mostAlike_29, sX10_mostAlike_31, sX10_mostAlike_32, sX10_mostAlike_33, sX10_mostAlike_34, sX10_mostAlike_35, sX10_mostAlike_36, sX10_mostAlike_37, sX10_mostAlike_40, sX10_mostAlike_42, sX10_mostAlike_43, sX10_mostAlike_44, sX10_mostAlike_45, sX10_mostAlike_46, sX10_mostAlike_47, sX10_mostAlike_50, sX10_mostAlike_51, sX10_mostAlike_54, sX10_mostAlike_55, sX10_mostAlike_56, sX10_mostAlike_58, sX10_mostAlike_61, sX10_mostAlike_65, sX10_mostAlike_67, sX10_mostAlike_70, sX10_mostAlike_71, sX10_mostAlike_74, sX10_mostAlike_77, sX10_mostAlike_78, ↓hf1_14, ↓hg64, i32_of, e1, e2, ↓if_pos, ↓if_neg]
      rfl
theorem c_al_l {m : Nat} (hg : g ≤ 4) (hm : m ≤ 7) : ∀ (n k : Nat) (x5 x6 : zV), k + n = m → rn mX10_mostAlike 5 [vr 1, vi (g : Int), vi (m : Int), vi (mxN (fun k => sumN (alC (A 64) g (A 64 (5 * k + g))) m) k), vi (k : Int), x5, x6] [] (HP A F E) = some (vi (mxN (fun k => sumN (alC (A 64) g (A 64 (5 * k + g))) m) m), HP A F E) := by
  intro n
  induction n with
  | zero =>
    intro k x5 x6 hk
    have : k = m := by omega
    subst this
    rw [sX10_mostAlike_5]
    simp (disch := omega) only [eX10_mostAlike, sX10_mostAlike_0, sX10_mostAlike_1, sX10_mostAlike_2, sX10_mostAlike_3, sX10_mostAlike_7, sX10_mostAlike_8, sX10_mostAlike_11, sX10_mostAlike_12, sX10_mostAlike_14, sX10_mostAlike_15, sX10_mostAlike_19, sX10_mostAlike_20, sX10_mostAlike_23, sX10_mostAlike_25, sX10_mostAlike_26, sX10_mostAlike_29, sX10_mostAlike_31, sX10_mostAlike_32, sX10_mostAlike_33, sX10_mostAlike_34, sX10_mostAlike_35, sX10_mostAlike_36, sX10_mostAlike_37, sX10_mostAlike_40, sX10_mostAlike_42, sX10_mostAlike_43, sX10_mostAlike_44, sX10_mostAlike_45, sX10_mostAlike_46, sX10_mostAlike_47, sX10_mostAlike_50, sX10_mostAlike_51, sX10_mostAlike_54, sX10_mostAlike_55, sX10_mostAlike_56, sX10_mostAlike_58, sX10_mostAlike_61, sX10_mostAlike_64, sX10_mostAlike_65, sX10_mostAlike_67, sX10_mostAlike_70, sX10_mostAlike_71, sX10_mostAlike_74, sX10_mostAlike_77, sX10_mostAlike_78, ↓if_pos]
  | succ n ih =>
    intro k x5 x6 hk
    have i := c_al_in (A := A) (F := F) (E := E) (g := g) (m := m) (k := k) (x3 := mxN (fun k => sumN (alC (A 64) g (A 64 (5 * k + g))) m) k) hg hm (by omega) m 0 (by omega)
    have i' : rn mX10_mostAlike 17 [vr 1, vi (g : Int), vi (m : Int), vi (mxN (fun k => sumN (alC (A 64) g (A 64 (5 * k + g))) m) k), vi (k : Int), vi 0, vi 0] [] (HP A F E) = _ := i
    have j := ih (k + 1) (vi (sumN (alC (A 64) g (A 64 (5 * k + g))) m)) (vi (m : Int)) (by omega)
    rw [mxN] at j
    rw [← j, sX10_mostAlike_5]
    simp (disch := omega) only [eX10_mostAlike, sX10_mostAlike_0, sX10_mostAlike_1, sX10_mostAlike_2, sX10_mostAlike_3, sX10_mostAlike_7, sX10_mostAlike_8, sX10_mostAlike_11, sX10_mostAlike_12, sX10_mostAlike_14, sX10_mostAlike_15, sX10_mostAlike_19, sX10_mostAlike_20, sX10_mostAlike_23, sX10_mostAlike_25, sX10_mostAlike_26, sX10_mostAlike_29, sX10_mostAlike_31, sX10_mostAlike_32, sX10_mostAlike_33, sX10_mostAlike_34, sX10_mostAlike_35, sX10_mostAlike_36, sX10_mostAlike_37, sX10_mostAlike_40, sX10_mostAlike_42, sX10_mostAlike_43, sX10_mostAlike_44, sX10_mostAlike_45, sX10_mostAlike_46, sX10_mostAlike_47, sX10_mostAlike_50, sX10_mostAlike_51, sX10_mostAlike_54, sX10_mostAlike_55, sX10_mostAlike_56, sX10_mostAlike_58, sX10_mostAlike_61, sX10_mostAlike_65, sX10_mostAlike_67, sX10_mostAlike_70, sX10_mostAlike_71, sX10_mostAlike_74, sX10_mostAlike_77, sX10_mostAlike_78, ↓if_neg]
    rw [i']
    simp (disch := omega) only [eX10_mostAlike, sX10_mostAlike_0, sX10_mostAlike_1, sX10_mostAlike_2, sX10_mostAlike_3, sX10_mostAlike_7, sX10_mostAlike_8, sX10_mostAlike_11, sX10_mostAlike_12, sX10_mostAlike_14, sX10_mostAlike_15, sX10_mostAlike_19, sX10_mostAlike_20, sX10_mostAlike_23, sX10_mostAlike_25, sX10_mostAlike_26, sX10_mostAlike_29, sX10_mostAlike_31, sX10_mostAlike_32, sX10_mostAlike_33, sX10_mostAlike_34, sX10_mostAlike_35, sX10_mostAlike_36, sX10_mostAlike_37, sX10_mostAlike_40, sX10_mostAlike_42, sX10_mostAlike_43, sX10_mostAlike_44, sX10_mostAlike_45, sX10_mostAlike_46, sX10_mostAlike_47, sX10_mostAlike_50, sX10_mostAlike_51, sX10_mostAlike_54, sX10_mostAlike_55, sX10_mostAlike_56, sX10_mostAlike_58, sX10_mostAlike_61, sX10_mostAlike_64, sX10_mostAlike_65, sX10_mostAlike_67, sX10_mostAlike_70, sX10_mostAlike_71, sX10_mostAlike_74, sX10_mostAlike_77, sX10_mostAlike_78, i32_s]
theorem E_mostAlike {m : Nat} (hg : g ≤ 4) (hm : m ≤ 7) : cl mX10_mostAlike [vr 1, vi (g : Int), vi (m : Int)] (HP A F E) = some (vi (mxN (fun k => sumN (alC (A 64) g (A 64 (5 * k + g))) m) m), HP A F E) := by
  rw [← c_al_l hg hm m 0 vn vn (by omega)]
  simp only [eX10_mostAlike, sX10_mostAlike_0, sX10_mostAlike_1, sX10_mostAlike_2, sX10_mostAlike_3, sX10_mostAlike_7, sX10_mostAlike_8, sX10_mostAlike_11, sX10_mostAlike_12, sX10_mostAlike_14, sX10_mostAlike_15, sX10_mostAlike_19, sX10_mostAlike_20, sX10_mostAlike_23, sX10_mostAlike_25, sX10_mostAlike_26, sX10_mostAlike_29, sX10_mostAlike_31, sX10_mostAlike_32, sX10_mostAlike_33, sX10_mostAlike_34, sX10_mostAlike_35, sX10_mostAlike_36, sX10_mostAlike_37, sX10_mostAlike_40, sX10_mostAlike_42, sX10_mostAlike_43, sX10_mostAlike_44, sX10_mostAlike_45, sX10_mostAlike_46, sX10_mostAlike_47, sX10_mostAlike_50, sX10_mostAlike_51, sX10_mostAlike_54, sX10_mostAlike_55, sX10_mostAlike_56, sX10_mostAlike_58, sX10_mostAlike_61, sX10_mostAlike_64, sX10_mostAlike_65, sX10_mostAlike_67, sX10_mostAlike_70, sX10_mostAlike_71, sX10_mostAlike_74, sX10_mostAlike_77, sX10_mostAlike_78]
  rfl
theorem m_al_in {P : Nat → Bool} {R a : Nat} {x2 : Int} (hg : g ≤ 4) (hR : R ≤ 6) (h2 : F 103 2 = (R : Int)) (ha : a ≤ R) (hP : ∀ k, k ≤ R → A 121 k = if P k then 1 else 0) (pa : P a = true) : ∀ (n i : Nat), i + n = R + 1 → rn mX11_alikeAt 18 [vr 103, vi (g : Int), vi x2, vi (a : Int), vi (sumN (alF P (A 122) g (A 122 (5 * a + g))) i), vi (i : Int)] [] (HP A F E) = rn mX11_alikeAt 86 [vr 103, vi (g : Int), vi x2, vi (a : Int), vi (sumN (alF P (A 122) g (A 122 (5 * a + g))) (R + 1)), vi ((R : Int) + 1)] [] (HP A F E) := by
  intro n
  induction n with
  | zero =>
    intro i hi
    have : i = R + 1 := by omega
    subst this
    rw [sX11_alikeAt_18]
    simp (disch := omega) only [eX11_alikeAt, sX11_alikeAt_0, sX11_alikeAt_1, sX11_alikeAt_2, sX11_alikeAt_3, sX11_alikeAt_5, sX11_alikeAt_6, sX11_alikeAt_9, sX11_alikeAt_12, sX11_alikeAt_13, sX11_alikeAt_15, sX11_alikeAt_16, sX11_alikeAt_20, sX11_alikeAt_21, sX11_alikeAt_24, sX11_alikeAt_27, sX11_alikeAt_28, sX11_alikeAt_31, sX11_alikeAt_32, sX11_alikeAt_33, sX11_alikeAt_36, sX11_alikeAt_38, sX11_alikeAt_39, sX11_alikeAt_42, sX11_alikeAt_44, sX11_alikeAt_45, sX11_alikeAt_48, sX11_alikeAt_49, sX11_alikeAt_52, sX11_alikeAt_53, sX11_alikeAt_54, sX11_alikeAt_55, sX11_alikeAt_56, sX11_alikeAt_57, sX11_alikeAt_58, sX11_alikeAt_59, sX11_alikeAt_62, sX11_alikeAt_63, sX11_alikeAt_65, sX11_alikeAt_66, sX11_alikeAt_67, sX11_alikeAt_68, sX11_alikeAt_69, sX11_alikeAt_72, sX11_alikeAt_73, sX11_alikeAt_76, sX11_alikeAt_77, sX11_alikeAt_78, sX11_alikeAt_80, sX11_alikeAt_83, sX11_alikeAt_88, sX11_alikeAt_89, sX11_alikeAt_92, sX11_alikeAt_94, sX11_alikeAt_97, sX11_alikeAt_98, sX11_alikeAt_99, sX11_alikeAt_102, sX11_alikeAt_105, sX11_alikeAt_106, ↓hf103_2, h2, ↓if_pos]
    rfl
  | succ n ih =>
    intro i hi
    have e1 : (5 * (i : Int) + (g : Int)).toNat = 5 * i + g := by omega
    have e2 : (5 * (a : Int) + (g : Int)).toNat = 5 * a + g := by omega
    have sb := sumN_bd (g := alF P (A 122) g (A 122 (5 * a + g))) (b := 1) i (fun j _ => alF_b j)
    have j := ih (i + 1) (by omega)
    have f1 := hP a ha
    rw [if_pos pa] at f1
    have f2 := hP i (by omega)
    rw [sumN] at j
    rw [← j, sX11_alikeAt_18]
    generalize sumN (alF P (A 122) g (A 122 (5 * a + g))) i = S at *
    unfold alF
    by_cases z : P i = true
    · rw [if_pos z] at f2
      by_cases y : A 122 (5 * i + g) = A 122 (5 * a + g)
      · rw [if_pos ⟨z, y⟩]
        simp (disch := omega) only [eX11_alikeAt, sX11_alikeAt_0, sX11_alikeAt_1, sX11_alikeAt_2, sX11_alikeAt_3, sX11_alikeAt_5, sX11_alikeAt_6, sX11_alikeAt_9, sX11_alikeAt_12, sX11_alikeAt_13, sX11_alikeAt_15, sX11_alikeAt_16, sX11_alikeAt_20, sX11_alikeAt_21, sX11_alikeAt_24, sX11_alikeAt_27, sX11_alikeAt_28, sX11_alikeAt_31, sX11_alikeAt_32, sX11_alikeAt_33, sX11_alikeAt_36, sX11_alikeAt_38, sX11_alikeAt_39, sX11_alikeAt_42, sX11_alikeAt_44, sX11_alikeAt_45, sX11_alikeAt_48, sX11_alikeAt_49, sX11_alikeAt_52, sX11_alikeAt_53, sX11_alikeAt_54, sX11_alikeAt_55, sX11_alikeAt_56, sX11_alikeAt_57, sX11_alikeAt_58, sX11_alikeAt_59, sX11_alikeAt_62, sX11_alikeAt_63, sX11_alikeAt_65, sX11_alikeAt_66, sX11_alikeAt_67, sX11_alikeAt_68, sX11_alikeAt_69, sX11_alikeAt_72, sX11_alikeAt_73, sX11_alikeAt_76, sX11_alikeAt_77, sX11_alikeAt_78, sX11_alikeAt_80, sX11_alikeAt_83, sX11_alikeAt_88, sX11_alikeAt_89, sX11_alikeAt_92, sX11_alikeAt_94, sX11_alikeAt_97, sX11_alikeAt_98, sX11_alikeAt_99, sX11_alikeAt_102, sX11_alikeAt_105, sX11_alikeAt_106, ↓hf103_2, ↓hf103_34, ↓hf103_35, ↓hg121, ↓hg122, h2, Int.toNat_natCast, f1, f2, i32_of, e1, e2, ↓if_pos, ↓if_neg]
        rfl
      · rw [if_neg (fun q => y q.2)]
        simp (disch := omega) only [eX11_alikeAt, sX11_alikeAt_0, sX11_alikeAt_1, sX11_alikeAt_2, sX11_alikeAt_3, sX11_alikeAt_5, sX11_alikeAt_6, sX11_alikeAt_9, sX11_alikeAt_12, sX11_alikeAt_13, sX11_alikeAt_15, sX11_alikeAt_16, sX11_alikeAt_20, sX11_alikeAt_21, sX11_alikeAt_24, sX11_alikeAt_27, sX11_alikeAt_28, sX11_alikeAt_31, sX11_alikeAt_32, sX11_alikeAt_33, sX11_alikeAt_36, sX11_alikeAt_38, sX11_alikeAt_39, sX11_alikeAt_42, sX11_alikeAt_44, sX11_alikeAt_45, sX11_alikeAt_48, sX11_alikeAt_49, sX11_alikeAt_52, sX11_alikeAt_53, sX11_alikeAt_54, sX11_alikeAt_55, sX11_alikeAt_56, sX11_alikeAt_57, sX11_alikeAt_58, sX11_alikeAt_59, sX11_alikeAt_62, sX11_alikeAt_63, sX11_alikeAt_65, sX11_alikeAt_66, sX11_alikeAt_67, sX11_alikeAt_68, sX11_alikeAt_69, sX11_alikeAt_72, sX11_alikeAt_73, sX11_alikeAt_76, sX11_alikeAt_77, sX11_alikeAt_78, sX11_alikeAt_80, sX11_alikeAt_83, sX11_alikeAt_88, sX11_alikeAt_89, sX11_alikeAt_92, sX11_alikeAt_94, sX11_alikeAt_97, sX11_alikeAt_98, sX11_alikeAt_99, sX11_alikeAt_102, sX11_alikeAt_105, sX11_alikeAt_106, ↓hf103_2, ↓hf103_34, ↓hf103_35, ↓hg121, ↓hg122, h2, Int.toNat_natCast, f1, f2, i32_of, e1, e2, ↓if_pos, ↓if_neg]
        rfl
    · rw [if_neg z] at f2
      rw [if_neg (fun q => z q.1)]
      simp (disch := omega) only [eX11_alikeAt, sX11_alikeAt_0, sX11_alikeAt_1, sX11_alikeAt_2, sX11_alikeAt_3, sX11_alikeAt_5, sX11_alikeAt_6, sX11_alikeAt_9, sX11_alikeAt_12, sX11_alikeAt_13, sX11_alikeAt_15, sX11_alikeAt_16, sX11_alikeAt_20, sX11_alikeAt_21, sX11_alikeAt_24, sX11_alikeAt_27, sX11_alikeAt_28, sX11_alikeAt_31, sX11_alikeAt_32, sX11_alikeAt_33, sX11_alikeAt_36, sX11_alikeAt_38, sX11_alikeAt_39, sX11_alikeAt_42, sX11_alikeAt_44, sX11_alikeAt_45, sX11_alikeAt_48, sX11_alikeAt_49, sX11_alikeAt_52, sX11_alikeAt_53, sX11_alikeAt_54, sX11_alikeAt_55, sX11_alikeAt_56, sX11_alikeAt_57, sX11_alikeAt_58, sX11_alikeAt_59, sX11_alikeAt_62, sX11_alikeAt_63, sX11_alikeAt_65, sX11_alikeAt_66, sX11_alikeAt_67, sX11_alikeAt_68, sX11_alikeAt_69, sX11_alikeAt_72, sX11_alikeAt_73, sX11_alikeAt_76, sX11_alikeAt_77, sX11_alikeAt_78, sX11_alikeAt_80, sX11_alikeAt_83, sX11_alikeAt_88, sX11_alikeAt_89, sX11_alikeAt_92, sX11_alikeAt_94, sX11_alikeAt_97, sX11_alikeAt_98, sX11_alikeAt_99, sX11_alikeAt_102, sX11_alikeAt_105, sX11_alikeAt_106, ↓hf103_2, ↓hf103_34, ↓hg121, h2, Int.toNat_natCast, f1, f2, i32_of, ↓if_pos, ↓if_neg]
      rfl
/-- the model's greatest number of such as are alike -/
def alM (P : Nat → Bool) (V : Nat → Int) (g R : Nat) (a : Nat) : Int := if P a then sumN (alF P V g (V (5 * a + g))) (R + 1) else 0
theorem m_al_l {P : Nat → Bool} {R : Nat} (hg : g ≤ 4) (hR : R ≤ 6) (h2 : F 103 2 = (R : Int)) (hP : ∀ k, k ≤ R → A 121 k = if P k then 1 else 0) : ∀ (n a : Nat) (x4 x5 : zV), a + n = R + 1 → rn mX11_alikeAt 4 [vr 103, vi (g : Int), vi (mxN (alM P (A 122) g R) a), vi (a : Int), x4, x5] [] (HP A F E) = some (vi (mxN (alM P (A 122) g R) (R + 1)), HP A F E) := by
  intro n
  induction n with
  | zero =>
    intro a x4 x5 ha
    have : a = R + 1 := by omega
    subst this
    rw [sX11_alikeAt_4]
    simp (disch := omega) only [eX11_alikeAt, sX11_alikeAt_0, sX11_alikeAt_1, sX11_alikeAt_2, sX11_alikeAt_3, sX11_alikeAt_5, sX11_alikeAt_6, sX11_alikeAt_9, sX11_alikeAt_12, sX11_alikeAt_13, sX11_alikeAt_15, sX11_alikeAt_16, sX11_alikeAt_20, sX11_alikeAt_21, sX11_alikeAt_24, sX11_alikeAt_27, sX11_alikeAt_28, sX11_alikeAt_31, sX11_alikeAt_32, sX11_alikeAt_33, sX11_alikeAt_36, sX11_alikeAt_38, sX11_alikeAt_39, sX11_alikeAt_42, sX11_alikeAt_44, sX11_alikeAt_45, sX11_alikeAt_48, sX11_alikeAt_49, sX11_alikeAt_52, sX11_alikeAt_53, sX11_alikeAt_54, sX11_alikeAt_55, sX11_alikeAt_56, sX11_alikeAt_57, sX11_alikeAt_58, sX11_alikeAt_59, sX11_alikeAt_62, sX11_alikeAt_63, sX11_alikeAt_65, sX11_alikeAt_66, sX11_alikeAt_67, sX11_alikeAt_68, sX11_alikeAt_69, sX11_alikeAt_72, sX11_alikeAt_73, sX11_alikeAt_76, sX11_alikeAt_77, sX11_alikeAt_78, sX11_alikeAt_80, sX11_alikeAt_83, sX11_alikeAt_86, sX11_alikeAt_88, sX11_alikeAt_89, sX11_alikeAt_92, sX11_alikeAt_94, sX11_alikeAt_97, sX11_alikeAt_98, sX11_alikeAt_99, sX11_alikeAt_102, sX11_alikeAt_105, sX11_alikeAt_106, ↓hf103_2, h2, ↓if_pos]
  | succ n ih =>
    intro a x4 x5 ha
    have f1 := hP a (by omega)
    have fin : ∀ N i : Int, N = alM P (A 122) g R a → rn mX11_alikeAt 86 [vr 103, vi (g : Int), vi (mxN (alM P (A 122) g R) a), vi (a : Int), vi N, vi i] [] (HP A F E) = some (vi (mxN (alM P (A 122) g R) (R + 1)), HP A F E) := by
      rintro N i rfl
      have j := ih (a + 1) (vi (alM P (A 122) g R a)) (vi i) (by omega)
      rw [mxN] at j
      by_cases z : mxN (alM P (A 122) g R) a < alM P (A 122) g R a
      · rw [if_pos z] at j
        rw [← j]
        simp (disch := omega) only [eX11_alikeAt, sX11_alikeAt_0, sX11_alikeAt_1, sX11_alikeAt_2, sX11_alikeAt_3, sX11_alikeAt_5, sX11_alikeAt_6, sX11_alikeAt_9, sX11_alikeAt_12, sX11_alikeAt_13, sX11_alikeAt_15, sX11_alikeAt_16, sX11_alikeAt_20, sX11_alikeAt_21, sX11_alikeAt_24, sX11_alikeAt_27, sX11_alikeAt_28, sX11_alikeAt_31, sX11_alikeAt_32, sX11_alikeAt_33, sX11_alikeAt_36, sX11_alikeAt_38, sX11_alikeAt_39, sX11_alikeAt_42, sX11_alikeAt_44, sX11_alikeAt_45, sX11_alikeAt_48, sX11_alikeAt_49, sX11_alikeAt_52, sX11_alikeAt_53, sX11_alikeAt_54, sX11_alikeAt_55, sX11_alikeAt_56, sX11_alikeAt_57, sX11_alikeAt_58, sX11_alikeAt_59, sX11_alikeAt_62, sX11_alikeAt_63, sX11_alikeAt_65, sX11_alikeAt_66, sX11_alikeAt_67, sX11_alikeAt_68, sX11_alikeAt_69, sX11_alikeAt_72, sX11_alikeAt_73, sX11_alikeAt_76, sX11_alikeAt_77, sX11_alikeAt_78, sX11_alikeAt_80, sX11_alikeAt_83, sX11_alikeAt_86, sX11_alikeAt_88, sX11_alikeAt_89, sX11_alikeAt_92, sX11_alikeAt_94, sX11_alikeAt_97, sX11_alikeAt_98, sX11_alikeAt_99, sX11_alikeAt_102, sX11_alikeAt_105, sX11_alikeAt_106, ↓if_pos, ↓if_neg, i32_s]
      · rw [if_neg z] at j
        rw [← j]
        simp (disch := omega) only [eX11_alikeAt, sX11_alikeAt_0, sX11_alikeAt_1, sX11_alikeAt_2, sX11_alikeAt_3, sX11_alikeAt_5, sX11_alikeAt_6, sX11_alikeAt_9, sX11_alikeAt_12, sX11_alikeAt_13, sX11_alikeAt_15, sX11_alikeAt_16, sX11_alikeAt_20, sX11_alikeAt_21, sX11_alikeAt_24, sX11_alikeAt_27, sX11_alikeAt_28, sX11_alikeAt_31, sX11_alikeAt_32, sX11_alikeAt_33, sX11_alikeAt_36, sX11_alikeAt_38, sX11_alikeAt_39, sX11_alikeAt_42, sX11_alikeAt_44, sX11_alikeAt_45, sX11_alikeAt_48, sX11_alikeAt_49, sX11_alikeAt_52, sX11_alikeAt_53, sX11_alikeAt_54, sX11_alikeAt_55, sX11_alikeAt_56, sX11_alikeAt_57, sX11_alikeAt_58, sX11_alikeAt_59, sX11_alikeAt_62, sX11_alikeAt_63, sX11_alikeAt_65, sX11_alikeAt_66, sX11_alikeAt_67, sX11_alikeAt_68, sX11_alikeAt_69, sX11_alikeAt_72, sX11_alikeAt_73, sX11_alikeAt_76, sX11_alikeAt_77, sX11_alikeAt_78, sX11_alikeAt_80, sX11_alikeAt_83, sX11_alikeAt_86, sX11_alikeAt_88, sX11_alikeAt_89, sX11_alikeAt_92, sX11_alikeAt_94, sX11_alikeAt_97, sX11_alikeAt_98, sX11_alikeAt_99, sX11_alikeAt_102, sX11_alikeAt_105, sX11_alikeAt_106, ↓if_pos, ↓if_neg, i32_s]
    rw [sX11_alikeAt_4]
    by_cases pa : P a = true
    · have i := m_al_in (A := A) (F := F) (E := E) (P := P) (R := R) (a := a) (x2 := mxN (alM P (A 122) g R) a) hg hR h2 (by omega) hP pa (R + 1) 0 (by omega)
      have i' : rn mX11_alikeAt 18 [vr 103, vi (g : Int), vi (mxN (alM P (A 122) g R) a), vi (a : Int), vi 0, vi 0] [] (HP A F E) = _ := i
      simp (disch := omega) only [eX11_alikeAt, sX11_alikeAt_0, sX11_alikeAt_1, sX11_alikeAt_2, sX11_alikeAt_3, sX11_alikeAt_5, sX11_alikeAt_6, sX11_alikeAt_9, sX11_alikeAt_12, sX11_alikeAt_13, sX11_alikeAt_15, sX11_alikeAt_16, sX11_alikeAt_20, sX11_alikeAt_21, sX11_alikeAt_24, sX11_alikeAt_27, sX11_alikeAt_28, sX11_alikeAt_31, sX11_alikeAt_32, sX11_alikeAt_33, sX11_alikeAt_36, sX11_alikeAt_38, sX11_alikeAt_39, sX11_alikeAt_42, sX11_alikeAt_44, sX11_alikeAt_45, sX11_alikeAt_48, sX11_alikeAt_49, sX11_alikeAt_52, sX11_alikeAt_53, sX11_alikeAt_54, sX11_alikeAt_55, sX11_alikeAt_56, sX11_alikeAt_57, sX11_alikeAt_58, sX11_alikeAt_59, sX11_alikeAt_62, sX11_alikeAt_63, sX11_alikeAt_65, sX11_alikeAt_66, sX11_alikeAt_67, sX11_alikeAt_68, sX11_alikeAt_69, sX11_alikeAt_72, sX11_alikeAt_73, sX11_alikeAt_76, sX11_alikeAt_77, sX11_alikeAt_78, sX11_alikeAt_80, sX11_alikeAt_83, sX11_alikeAt_88, sX11_alikeAt_89, sX11_alikeAt_92, sX11_alikeAt_94, sX11_alikeAt_97, sX11_alikeAt_98, sX11_alikeAt_99, sX11_alikeAt_102, sX11_alikeAt_105, sX11_alikeAt_106, ↓hf103_2, h2, ↓if_neg]
      rw [i']
      exact fin _ _ (by unfold alM; rw [if_pos pa])
    · rw [if_neg pa] at f1
      rw [← fin 0 0 (by unfold alM; rw [if_neg pa])]
      simp (disch := omega) only [eX11_alikeAt, sX11_alikeAt_0, sX11_alikeAt_1, sX11_alikeAt_2, sX11_alikeAt_3, sX11_alikeAt_5, sX11_alikeAt_6, sX11_alikeAt_9, sX11_alikeAt_12, sX11_alikeAt_13, sX11_alikeAt_15, sX11_alikeAt_16, sX11_alikeAt_20, sX11_alikeAt_21, sX11_alikeAt_24, sX11_alikeAt_27, sX11_alikeAt_28, sX11_alikeAt_31, sX11_alikeAt_32, sX11_alikeAt_33, sX11_alikeAt_36, sX11_alikeAt_38, sX11_alikeAt_39, sX11_alikeAt_42, sX11_alikeAt_44, sX11_alikeAt_45, sX11_alikeAt_48, sX11_alikeAt_49, sX11_alikeAt_52, sX11_alikeAt_53, sX11_alikeAt_54, sX11_alikeAt_55, sX11_alikeAt_56, sX11_alikeAt_57, sX11_alikeAt_58, sX11_alikeAt_59, sX11_alikeAt_62, sX11_alikeAt_63, sX11_alikeAt_65, sX11_alikeAt_66, sX11_alikeAt_67, sX11_alikeAt_68, sX11_alikeAt_69, sX11_alikeAt_72, sX11_alikeAt_73, sX11_alikeAt_76, sX11_alikeAt_77, sX11_alikeAt_78, sX11_alikeAt_80, sX11_alikeAt_83, sX11_alikeAt_88, sX11_alikeAt_89, sX11_alikeAt_92, sX11_alikeAt_94, sX11_alikeAt_97, sX11_alikeAt_98, sX11_alikeAt_99, sX11_alikeAt_102, sX11_alikeAt_105, sX11_alikeAt_106, ↓hf103_2, h2, ↓if_neg]
      rw [sX11_alikeAt_18]
      simp (disch := omega) only [eX11_alikeAt, sX11_alikeAt_0, sX11_alikeAt_1, sX11_alikeAt_2, sX11_alikeAt_3, sX11_alikeAt_5, sX11_alikeAt_6, sX11_alikeAt_9, sX11_alikeAt_12, sX11_alikeAt_13, sX11_alikeAt_15, sX11_alikeAt_16, sX11_alikeAt_20, sX11_alikeAt_21, sX11_alikeAt_24, sX11_alikeAt_27, sX11_alikeAt_28, sX11_alikeAt_31, sX11_alikeAt_32, sX11_alikeAt_33, sX11_alikeAt_36, sX11_alikeAt_38, sX11_alikeAt_39, sX11_alikeAt_42, sX11_alikeAt_44, sX11_alikeAt_45, sX11_alikeAt_48, sX11_alikeAt_49, sX11_alikeAt_52, sX11_alikeAt_53, sX11_alikeAt_54, sX11_alikeAt_55, sX11_alikeAt_56, sX11_alikeAt_57, sX11_alikeAt_58, sX11_alikeAt_59, sX11_alikeAt_62, sX11_alikeAt_63, sX11_alikeAt_65, sX11_alikeAt_66, sX11_alikeAt_67, sX11_alikeAt_68, sX11_alikeAt_69, sX11_alikeAt_72, sX11_alikeAt_73, sX11_alikeAt_76, sX11_alikeAt_77, sX11_alikeAt_78, sX11_alikeAt_80, sX11_alikeAt_83, sX11_alikeAt_88, sX11_alikeAt_89, sX11_alikeAt_92, sX11_alikeAt_94, sX11_alikeAt_97, sX11_alikeAt_98, sX11_alikeAt_99, sX11_alikeAt_102, sX11_alikeAt_105, sX11_alikeAt_106, ↓hf103_2, ↓hf103_34, ↓hg121, Int.toNat_natCast, h2, f1, ↓if_pos, ↓if_neg]
theorem m_alikeAt {P : Nat → Bool} {R : Nat} (hg : g ≤ 4) (hR : R ≤ 6) (h2 : F 103 2 = (R : Int)) (hP : ∀ k, k ≤ R → A 121 k = if P k then 1 else 0) : cl mX11_alikeAt [vr 103, vi (g : Int)] (HP A F E) = some (vi (mxN (alM P (A 122) g R) (R + 1)), HP A F E) := by
  rw [← m_al_l (E := E) hg hR h2 hP (R + 1) 0 vn vn (by omega)]
  simp only [eX11_alikeAt, sX11_alikeAt_0, sX11_alikeAt_1, sX11_alikeAt_2, sX11_alikeAt_3, sX11_alikeAt_5, sX11_alikeAt_6, sX11_alikeAt_9, sX11_alikeAt_12, sX11_alikeAt_13, sX11_alikeAt_15, sX11_alikeAt_16, sX11_alikeAt_20, sX11_alikeAt_21, sX11_alikeAt_24, sX11_alikeAt_27, sX11_alikeAt_28, sX11_alikeAt_31, sX11_alikeAt_32, sX11_alikeAt_33, sX11_alikeAt_36, sX11_alikeAt_38, sX11_alikeAt_39, sX11_alikeAt_42, sX11_alikeAt_44, sX11_alikeAt_45, sX11_alikeAt_48, sX11_alikeAt_49, sX11_alikeAt_52, sX11_alikeAt_53, sX11_alikeAt_54, sX11_alikeAt_55, sX11_alikeAt_56, sX11_alikeAt_57, sX11_alikeAt_58, sX11_alikeAt_59, sX11_alikeAt_62, sX11_alikeAt_63, sX11_alikeAt_65, sX11_alikeAt_66, sX11_alikeAt_67, sX11_alikeAt_68, sX11_alikeAt_69, sX11_alikeAt_72, sX11_alikeAt_73, sX11_alikeAt_76, sX11_alikeAt_77, sX11_alikeAt_78, sX11_alikeAt_80, sX11_alikeAt_83, sX11_alikeAt_86, sX11_alikeAt_88, sX11_alikeAt_89, sX11_alikeAt_92, sX11_alikeAt_94, sX11_alikeAt_97, sX11_alikeAt_98, sX11_alikeAt_99, sX11_alikeAt_102, sX11_alikeAt_105, sX11_alikeAt_106]
  rfl
end AL
