/-! look, the call -/
def mnN (T : Nat → Int) : Nat → Nat → Nat × Int → Nat × Int
  | 0, _, x => x
  | n + 1, g, x => mnN T n (g + 1) (if T g < x.2 then (g, T g) else x)
theorem mxN_ge {h : Nat → Int} {k : Nat} : ∀ n, k < n → h k ≤ mxN h n
  | 0, hk => by omega
  | n + 1, hk => by
    rw [mxN]
    by_cases q : k = n
    · subst q; split <;> omega
    · have := mxN_ge (h := h) (k := k) n (by omega)
      split <;> omega
theorem sumN_ge {g : Nat → Int} {k : Nat} : ∀ n, k < n → (∀ j, 0 ≤ g j) → g k ≤ sumN g n
  | 0, hk, _ => by omega
  | n + 1, hk, h => by
    rw [sumN]
    by_cases q : k = n
    · subst q
      have : 0 ≤ sumN g k := by
        clear hk
        induction k with
        | zero => rw [sumN]; omega
        | succ k ih => rw [sumN]; have := h k; omega
      omega
    · have := sumN_ge (g := g) (k := k) n (by omega) h
      have := h n
      omega
theorem fitN_0 {P : Nat → Bool} : ∀ k, fitN P k = 0 → ∀ a, a < k → ¬ P a = true
  | 0, _, a, ha => by omega
  | k + 1, h, a, ha => by
    rw [fitN] at h
    by_cases z : P k = true
    · rw [if_pos z] at h; omega
    · by_cases q : a = k
      · rw [q]; exact z
      · exact fitN_0 k (by omega) a (by omega)
theorem fitN_p {P : Nat → Bool} : ∀ k, 0 < fitN P k → ∃ a, a < k ∧ P a = true
  | 0, h => by rw [fitN] at h; omega
  | k + 1, h => by
    by_cases z : P k = true
    · exact ⟨k, by omega, z⟩
    · rw [fitN, if_neg z] at h
      obtain ⟨a, h1, h2⟩ := fitN_p (P := P) k (by omega)
      exact ⟨a, by omega, h2⟩
theorem mxN_z {h : Nat → Int} : ∀ n, (∀ k, k < n → h k = 0) → mxN h n = 0
  | 0, _ => rfl
  | n + 1, k => by rw [mxN, mxN_z n (fun j hj => k j (by omega)), k n (by omega)]; rfl
section LK
variable {A F : Nat → Nat → Int} {E : zE} {G Z : Nat}
theorem c_lk_f {m w : Int} {ft : Nat} {T : Nat → Int} (hn : A 13 1 = (G : Int)) (hG5 : G ≤ 5) (hw : w = 0 ∨ w = 1) (hT : ∀ g, g < G → cl mX10_mostAlike [vr 1, vi (g : Int), vi (ft : Int)] (HP A F E) = some (vi (T g), HP A F E)) : ∀ (n g : Nat) (x : Nat × Int) (x7 : zV), g + n = G → rn mX10_look 62 [vr 1, vi m, vi w, vi (ft : Int), vi (x.1 : Int), vi x.2, vi (g : Int), x7] [] (HP A F E) = some (vi (if w = 0 then ((mnN T n g x).1 : Int) else (mnN T n g x).2), HP A F E) := by
  have go := E_goers (A := A) (F := F) (E := E)
  rw [hn] at go
  intro n
  induction n with
  | zero =>
    intro g x x7 hg
    have : g = G := by omega
    subst this
    rw [sX10_look_62, mnN]
    rcases hw with rfl | rfl
    · simp (disch := omega) only [eX10_look, sX10_look_0, sX10_look_1, sX10_look_4, sX10_look_7, sX10_look_8, sX10_look_9, sX10_look_11, sX10_look_14, sX10_look_17, sX10_look_18, sX10_look_19, sX10_look_20, sX10_look_23, sX10_look_26, sX10_look_27, sX10_look_28, sX10_look_29, sX10_look_30, sX10_look_33, sX10_look_34, sX10_look_35, sX10_look_38, sX10_look_39, sX10_look_42, sX10_look_45, sX10_look_47, sX10_look_48, sX10_look_49, sX10_look_51, sX10_look_52, sX10_look_53, sX10_look_54, sX10_look_57, sX10_look_59, sX10_look_60, sX10_look_64, sX10_look_65, sX10_look_68, sX10_look_71, sX10_look_72, sX10_look_74, sX10_look_75, sX10_look_78, sX10_look_80, sX10_look_82, sX10_look_84, sX10_look_87, sX10_look_89, sX10_look_91, sX10_look_93, sX10_look_95, sX10_look_98, sX10_look_101, sX10_look_102, sX10_look_105, sX10_look_107, sX10_look_110, sX10_look_112, ↓hk1, ↓bndi_at go, ↓if_pos, ↓if_neg, ↓reduceIte]
    · simp (disch := omega) only [eX10_look, sX10_look_0, sX10_look_1, sX10_look_4, sX10_look_7, sX10_look_8, sX10_look_9, sX10_look_11, sX10_look_14, sX10_look_17, sX10_look_18, sX10_look_19, sX10_look_20, sX10_look_23, sX10_look_26, sX10_look_27, sX10_look_28, sX10_look_29, sX10_look_30, sX10_look_33, sX10_look_34, sX10_look_35, sX10_look_38, sX10_look_39, sX10_look_42, sX10_look_45, sX10_look_47, sX10_look_48, sX10_look_49, sX10_look_51, sX10_look_52, sX10_look_53, sX10_look_54, sX10_look_57, sX10_look_59, sX10_look_60, sX10_look_64, sX10_look_65, sX10_look_68, sX10_look_71, sX10_look_72, sX10_look_74, sX10_look_75, sX10_look_78, sX10_look_80, sX10_look_82, sX10_look_84, sX10_look_87, sX10_look_89, sX10_look_91, sX10_look_93, sX10_look_95, sX10_look_98, sX10_look_101, sX10_look_102, sX10_look_105, sX10_look_107, sX10_look_110, sX10_look_112, ↓hk1, ↓bndi_at go, ↓if_pos, ↓if_neg, ↓reduceIte]
  | succ n ih =>
    intro g x x7 hg
    have t := hT g (by omega)
    rw [sX10_look_62, mnN]
    by_cases z : T g < x.2
    · rw [if_pos z, ← ih (g + 1) (g, T g) (vi (T g)) (by omega)]
      simp (disch := omega) only [eX10_look, sX10_look_0, sX10_look_1, sX10_look_4, sX10_look_7, sX10_look_8, sX10_look_9, sX10_look_11, sX10_look_14, sX10_look_17, sX10_look_18, sX10_look_19, sX10_look_20, sX10_look_23, sX10_look_26, sX10_look_27, sX10_look_28, sX10_look_29, sX10_look_30, sX10_look_33, sX10_look_34, sX10_look_35, sX10_look_38, sX10_look_39, sX10_look_42, sX10_look_45, sX10_look_47, sX10_look_48, sX10_look_49, sX10_look_51, sX10_look_52, sX10_look_53, sX10_look_54, sX10_look_57, sX10_look_59, sX10_look_60, sX10_look_64, sX10_look_65, sX10_look_68, sX10_look_71, sX10_look_72, sX10_look_74, sX10_look_75, sX10_look_78, sX10_look_80, sX10_look_82, sX10_look_84, sX10_look_87, sX10_look_89, sX10_look_91, sX10_look_93, sX10_look_95, sX10_look_98, sX10_look_101, sX10_look_102, sX10_look_105, sX10_look_107, sX10_look_110, sX10_look_112, ↓hk1, ↓bndi_at go, ↓bndi_at t, ↓if_pos, ↓if_neg, i32_s]
    · rw [if_neg z, ← ih (g + 1) x (vi (T g)) (by omega)]
      simp (disch := omega) only [eX10_look, sX10_look_0, sX10_look_1, sX10_look_4, sX10_look_7, sX10_look_8, sX10_look_9, sX10_look_11, sX10_look_14, sX10_look_17, sX10_look_18, sX10_look_19, sX10_look_20, sX10_look_23, sX10_look_26, sX10_look_27, sX10_look_28, sX10_look_29, sX10_look_30, sX10_look_33, sX10_look_34, sX10_look_35, sX10_look_38, sX10_look_39, sX10_look_42, sX10_look_45, sX10_look_47, sX10_look_48, sX10_look_49, sX10_look_51, sX10_look_52, sX10_look_53, sX10_look_54, sX10_look_57, sX10_look_59, sX10_look_60, sX10_look_64, sX10_look_65, sX10_look_68, sX10_look_71, sX10_look_72, sX10_look_74, sX10_look_75, sX10_look_78, sX10_look_80, sX10_look_82, sX10_look_84, sX10_look_87, sX10_look_89, sX10_look_91, sX10_look_93, sX10_look_95, sX10_look_98, sX10_look_101, sX10_look_102, sX10_look_105, sX10_look_107, sX10_look_110, sX10_look_112, ↓hk1, ↓bndi_at go, ↓bndi_at t, ↓if_pos, ↓if_neg, i32_s]
theorem m_lk_f {m w : Int} {T : Nat → Int} (hn : A 113 2 = (G : Int)) (hG5 : G ≤ 5) (hw : w = 0 ∨ w = 1) (hT : ∀ g, g < G → cl mX11_alikeAt [vr 103, vi (g : Int)] (HP A F E) = some (vi (T g), HP A F E)) (hp : ∀ g, g < G → 0 < T g) : ∀ (n g : Nat) (x : Nat × Int) (x6 : zV), g + n = G → rn mX11_look 46 [vr 103, vi m, vi w, vi (x.1 : Int), vi x.2, vi (g : Int), x6] [] (HP A F E) = some (vi (if w = 0 then ((mnN T n g x).1 : Int) else (mnN T n g x).2), HP A F E) := by
  intro n
  induction n with
  | zero =>
    intro g x x6 hg
    have : g = G := by omega
    subst this
    rw [sX11_look_46, mnN]
    rcases hw with rfl | rfl
    · simp (disch := omega) only [eX11_look, sX11_look_0, sX11_look_1, sX11_look_4, sX11_look_7, sX11_look_8, sX11_look_9, sX11_look_10, sX11_look_13, sX11_look_16, sX11_look_19, sX11_look_20, sX11_look_21, sX11_look_22, sX11_look_23, sX11_look_26, sX11_look_29, sX11_look_30, sX11_look_31, sX11_look_32, sX11_look_33, sX11_look_36, sX11_look_38, sX11_look_39, sX11_look_41, sX11_look_43, sX11_look_44, sX11_look_48, sX11_look_49, sX11_look_52, sX11_look_53, sX11_look_54, sX11_look_57, sX11_look_58, sX11_look_60, sX11_look_63, sX11_look_65, sX11_look_67, sX11_look_70, sX11_look_71, sX11_look_74, sX11_look_76, sX11_look_78, sX11_look_81, sX11_look_84, sX11_look_86, sX11_look_87, sX11_look_89, sX11_look_91, sX11_look_94, sX11_look_97, sX11_look_98, sX11_look_101, sX11_look_102, sX11_look_105, sX11_look_107, ↓hf103_20, ↓hg113, Int.reduceToNat, hn, ↓if_pos, ↓if_neg, ↓reduceIte]
    · simp (disch := omega) only [eX11_look, sX11_look_0, sX11_look_1, sX11_look_4, sX11_look_7, sX11_look_8, sX11_look_9, sX11_look_10, sX11_look_13, sX11_look_16, sX11_look_19, sX11_look_20, sX11_look_21, sX11_look_22, sX11_look_23, sX11_look_26, sX11_look_29, sX11_look_30, sX11_look_31, sX11_look_32, sX11_look_33, sX11_look_36, sX11_look_38, sX11_look_39, sX11_look_41, sX11_look_43, sX11_look_44, sX11_look_48, sX11_look_49, sX11_look_52, sX11_look_53, sX11_look_54, sX11_look_57, sX11_look_58, sX11_look_60, sX11_look_63, sX11_look_65, sX11_look_67, sX11_look_70, sX11_look_71, sX11_look_74, sX11_look_76, sX11_look_78, sX11_look_81, sX11_look_84, sX11_look_86, sX11_look_87, sX11_look_89, sX11_look_91, sX11_look_94, sX11_look_97, sX11_look_98, sX11_look_101, sX11_look_102, sX11_look_105, sX11_look_107, ↓hf103_20, ↓hg113, Int.reduceToNat, hn, ↓if_pos, ↓if_neg, ↓reduceIte]
  | succ n ih =>
    intro g x x6 hg
    have t := hT g (by omega)
    have t0 := hp g (by omega)
    rw [sX11_look_46, mnN]
    by_cases z : T g < x.2
    · rw [if_pos z, ← ih (g + 1) (g, T g) (vi (T g)) (by omega)]
      simp (disch := omega) only [eX11_look, sX11_look_0, sX11_look_1, sX11_look_4, sX11_look_7, sX11_look_8, sX11_look_9, sX11_look_10, sX11_look_13, sX11_look_16, sX11_look_19, sX11_look_20, sX11_look_21, sX11_look_22, sX11_look_23, sX11_look_26, sX11_look_29, sX11_look_30, sX11_look_31, sX11_look_32, sX11_look_33, sX11_look_36, sX11_look_38, sX11_look_39, sX11_look_41, sX11_look_43, sX11_look_44, sX11_look_48, sX11_look_49, sX11_look_52, sX11_look_53, sX11_look_54, sX11_look_57, sX11_look_58, sX11_look_60, sX11_look_63, sX11_look_65, sX11_look_67, sX11_look_70, sX11_look_71, sX11_look_74, sX11_look_76, sX11_look_78, sX11_look_81, sX11_look_84, sX11_look_86, sX11_look_87, sX11_look_89, sX11_look_91, sX11_look_94, sX11_look_97, sX11_look_98, sX11_look_101, sX11_look_102, sX11_look_105, sX11_look_107, ↓hk103, ↓hf103_20, ↓hg113, Int.reduceToNat, hn, ↓bndi_at t, ↓if_pos, ↓if_neg, i32_s]
    · rw [if_neg z, ← ih (g + 1) x (vi (T g)) (by omega)]
      simp (disch := omega) only [eX11_look, sX11_look_0, sX11_look_1, sX11_look_4, sX11_look_7, sX11_look_8, sX11_look_9, sX11_look_10, sX11_look_13, sX11_look_16, sX11_look_19, sX11_look_20, sX11_look_21, sX11_look_22, sX11_look_23, sX11_look_26, sX11_look_29, sX11_look_30, sX11_look_31, sX11_look_32, sX11_look_33, sX11_look_36, sX11_look_38, sX11_look_39, sX11_look_41, sX11_look_43, sX11_look_44, sX11_look_48, sX11_look_49, sX11_look_52, sX11_look_53, sX11_look_54, sX11_look_57, sX11_look_58, sX11_look_60, sX11_look_63, sX11_look_65, sX11_look_67, sX11_look_70, sX11_look_71, sX11_look_74, sX11_look_76, sX11_look_78, sX11_look_81, sX11_look_84, sX11_look_86, sX11_look_87, sX11_look_89, sX11_look_91, sX11_look_94, sX11_look_97, sX11_look_98, sX11_look_101, sX11_look_102, sX11_look_105, sX11_look_107, ↓hk103, ↓hf103_20, ↓hg113, Int.reduceToNat, hn, ↓bndi_at t, ↓if_pos, ↓if_neg, i32_s]
/-- nobody fits: nothing is found -/
theorem m_lk_0 {m w : Int} (hn : A 113 2 = (G : Int)) (hG5 : G ≤ 5) (hw : w = 0 ∨ w = 1) (hT : ∀ g, g < G → cl mX11_alikeAt [vr 103, vi (g : Int)] (HP A F E) = some (vi 0, HP A F E)) : ∀ (n g : Nat) (x6 : zV), g + n = G → rn mX11_look 46 [vr 103, vi m, vi w, vi (-2), vi (-2), vi (g : Int), x6] [] (HP A F E) = some (vi (-2), HP A F E) := by
  intro n
  induction n with
  | zero =>
    intro g x6 hg
    have : g = G := by omega
    subst this
    rw [sX11_look_46]
    rcases hw with rfl | rfl
    · simp (disch := omega) only [eX11_look, sX11_look_0, sX11_look_1, sX11_look_4, sX11_look_7, sX11_look_8, sX11_look_9, sX11_look_10, sX11_look_13, sX11_look_16, sX11_look_19, sX11_look_20, sX11_look_21, sX11_look_22, sX11_look_23, sX11_look_26, sX11_look_29, sX11_look_30, sX11_look_31, sX11_look_32, sX11_look_33, sX11_look_36, sX11_look_38, sX11_look_39, sX11_look_41, sX11_look_43, sX11_look_44, sX11_look_48, sX11_look_49, sX11_look_52, sX11_look_53, sX11_look_54, sX11_look_57, sX11_look_58, sX11_look_60, sX11_look_63, sX11_look_65, sX11_look_67, sX11_look_70, sX11_look_71, sX11_look_74, sX11_look_76, sX11_look_78, sX11_look_81, sX11_look_84, sX11_look_86, sX11_look_87, sX11_look_89, sX11_look_91, sX11_look_94, sX11_look_97, sX11_look_98, sX11_look_101, sX11_look_102, sX11_look_105, sX11_look_107, ↓hf103_20, ↓hg113, Int.reduceToNat, hn, ↓if_pos, ↓if_neg]
    · simp (disch := omega) only [eX11_look, sX11_look_0, sX11_look_1, sX11_look_4, sX11_look_7, sX11_look_8, sX11_look_9, sX11_look_10, sX11_look_13, sX11_look_16, sX11_look_19, sX11_look_20, sX11_look_21, sX11_look_22, sX11_look_23, sX11_look_26, sX11_look_29, sX11_look_30, sX11_look_31, sX11_look_32, sX11_look_33, sX11_look_36, sX11_look_38, sX11_look_39, sX11_look_41, sX11_look_43, sX11_look_44, sX11_look_48, sX11_look_49, sX11_look_52, sX11_look_53, sX11_look_54, sX11_look_57, sX11_look_58, sX11_look_60, sX11_look_63, sX11_look_65, sX11_look_67, sX11_look_70, sX11_look_71, sX11_look_74, sX11_look_76, sX11_look_78, sX11_look_81, sX11_look_84, sX11_look_86, sX11_look_87, sX11_look_89, sX11_look_91, sX11_look_94, sX11_look_97, sX11_look_98, sX11_look_101, sX11_look_102, sX11_look_105, sX11_look_107, ↓hf103_20, ↓hg113, Int.reduceToNat, hn, ↓if_pos, ↓if_neg]
  | succ n ih =>
    intro g x6 hg
    have t := hT g (by omega)
    rw [sX11_look_46, ← ih (g + 1) (vi 0) (by omega)]
    simp (disch := omega) only [eX11_look, sX11_look_0, sX11_look_1, sX11_look_4, sX11_look_7, sX11_look_8, sX11_look_9, sX11_look_10, sX11_look_13, sX11_look_16, sX11_look_19, sX11_look_20, sX11_look_21, sX11_look_22, sX11_look_23, sX11_look_26, sX11_look_29, sX11_look_30, sX11_look_31, sX11_look_32, sX11_look_33, sX11_look_36, sX11_look_38, sX11_look_39, sX11_look_41, sX11_look_43, sX11_look_44, sX11_look_48, sX11_look_49, sX11_look_52, sX11_look_53, sX11_look_54, sX11_look_57, sX11_look_58, sX11_look_60, sX11_look_63, sX11_look_65, sX11_look_67, sX11_look_70, sX11_look_71, sX11_look_74, sX11_look_76, sX11_look_78, sX11_look_81, sX11_look_84, sX11_look_86, sX11_look_87, sX11_look_89, sX11_look_91, sX11_look_94, sX11_look_97, sX11_look_98, sX11_look_101, sX11_look_102, sX11_look_105, sX11_look_107, ↓hk103, ↓hf103_20, ↓hg113, Int.reduceToNat, hn, ↓bndi_at t, ↓if_pos, ↓if_neg, i32_s]
end LK
