/-! the model's notes against a walk -/
def con (f : Nat → Int) (g : Nat) : Int := if f (50 + 7 * g) = 0 then f (47 + 7 * g) else -1
/-- what is said holds the notes -/
def ntS (s0 fs fg fc : Nat → Int) (G Z : Nat) : Prop := s0 175 = (Z : Int) ∧ Z ≤ 10 ∧ ∀ k, k < Z → NR fs fg fc s0 G k
section AS
variable {A F : Nat → Nat → Int} {E : zE} {G Z : Nat} {Q : (Int → Int) → Int} {f s0 fs fg fc : Nat → Int}
theorem con_w {g : Nat} (h : wok f G) (hg : g < G) : con f g = f (47 + 7 * g) := by
  have gk := h.2.2.2.2.2.2 g hg
  unfold gok at gk
  unfold con
  split
  · rfl
  · rename_i q; rw [gk.2.2.2.2.2.2.1 q]
theorem mw_con {g : Nat} (h : mw A F G Q f s0) (hg : g < 5) : cl mX11_cellOn [vr 103, vi (g : Int)] (HP A F E) = some (vi (con f g), HP A F E) := by
  have on := mw_isOn (p := g) (E := E) h hg
  unfold con
  by_cases z : f (50 + 7 * g) = 0
  · rw [if_pos z] at on ⊢
    have ce := mw_cell (p := g) (E := E) h hg z
    simp (disch := omega) only [eX11_cellOn, sX11_cellOn_0, sX11_cellOn_1, sX11_cellOn_2, sX11_cellOn_5, sX11_cellOn_8, sX11_cellOn_9, sX11_cellOn_10, sX11_cellOn_13, sX11_cellOn_16, sX11_cellOn_17, ↓hk103, ↓bndi_at on, ↓bndi_at ce, ↓if_pos, ↓if_neg]
  · rw [if_neg z] at on ⊢
    simp (disch := omega) only [eX11_cellOn, sX11_cellOn_0, sX11_cellOn_1, sX11_cellOn_2, sX11_cellOn_5, sX11_cellOn_8, sX11_cellOn_9, sX11_cellOn_10, sX11_cellOn_13, sX11_cellOn_16, sX11_cellOn_17, ↓hk103, ↓bndi_at on, ↓if_pos, ↓if_neg]
theorem m_notes_l {st : Int} (h : mw A F G Q f s0) (hn : ntS s0 fs fg fc G Z) : ∀ (n k : Nat), k + n = Z → rn mX11_areNotesSo 2 [vr 103, vi st, vi (3 * (k : Int))] [] (HP A F E) = some (vi (if hat st fs fg fc f n k then 1 else 0), HP A F E) := by
  have hG5 := h.1.2.1
  obtain ⟨n1, n2, n3⟩ := hn
  have o : ∀ j, 86 ≤ j → A 113 j = s0 j := fun j hj => h.2.2.2.2 j (by omega)
  have z175 : A 113 175 = (Z : Int) := by rw [o 175 (by omega)]; exact n1
  intro n
  induction n with
  | zero =>
    intro k hk
    have : k = Z := by omega
    subst this
    rw [sX11_areNotesSo_2, hat, if_pos rfl]
    simp (disch := omega) only [eX11_areNotesSo, sX11_areNotesSo_0, sX11_areNotesSo_1, sX11_areNotesSo_3, sX11_areNotesSo_4, sX11_areNotesSo_5, sX11_areNotesSo_8, sX11_areNotesSo_11, sX11_areNotesSo_12, sX11_areNotesSo_13, sX11_areNotesSo_16, sX11_areNotesSo_17, sX11_areNotesSo_20, sX11_areNotesSo_23, sX11_areNotesSo_24, sX11_areNotesSo_25, sX11_areNotesSo_26, sX11_areNotesSo_27, sX11_areNotesSo_30, sX11_areNotesSo_31, sX11_areNotesSo_32, sX11_areNotesSo_35, sX11_areNotesSo_38, sX11_areNotesSo_39, sX11_areNotesSo_40, sX11_areNotesSo_41, sX11_areNotesSo_42, sX11_areNotesSo_43, sX11_areNotesSo_46, sX11_areNotesSo_47, sX11_areNotesSo_50, sX11_areNotesSo_53, sX11_areNotesSo_54, sX11_areNotesSo_55, sX11_areNotesSo_56, sX11_areNotesSo_57, sX11_areNotesSo_58, sX11_areNotesSo_61, sX11_areNotesSo_62, sX11_areNotesSo_63, sX11_areNotesSo_66, sX11_areNotesSo_69, sX11_areNotesSo_70, ↓hf103_20, ↓hg113, Int.reduceToNat, z175, i32_of, ↓if_pos, or_true, ↓reduceIte]
  | succ n ih =>
    intro k hk
    have i := ih (k + 1) (by omega)
    obtain ⟨m1, m2, m3, m4, m5, m6⟩ := n3 k (by omega)
    have e0 : (145 + 3 * (k : Int)).toNat = 145 + 3 * k := by omega
    have e1 : (145 + 3 * (k : Int) + 1).toNat = 146 + 3 * k := by omega
    have e2 : (145 + 3 * (k : Int) + 2).toNat = 147 + 3 * k := by omega
    have a0 : A 113 (145 + 3 * k) = fs k := by rw [o _ (by omega)]; exact m4
    have a1 : A 113 (146 + 3 * k) = fg k := by rw [o _ (by omega)]; exact m5
    have a2 : A 113 (147 + 3 * k) = fc k := by rw [o _ (by omega)]; exact m6
    have e3 : 3 * (k : Int) + 3 = 3 * ((k + 1 : Nat) : Int) := by omega
    rw [sX11_areNotesSo_2, hat]
    by_cases z : fs k = st
    · obtain ⟨g, hg⟩ : ∃ g : Nat, fg k = (g : Int) := ⟨(fg k).toNat, by omega⟩
      have co := mw_con (g := g) (E := E) h (by omega)
      rw [con_w h.1 (by omega)] at co
      have eg : (fg k).toNat = g := by omega
      by_cases y : f (47 + 7 * g) = fc k
      · rw [if_neg (show ¬ (fs k = st ∧ f (47 + 7 * (fg k).toNat) ≠ fc k) from fun q => q.2 (by rw [eg]; exact y)), ← i]
        simp (disch := omega) only [eX11_areNotesSo, sX11_areNotesSo_0, sX11_areNotesSo_1, sX11_areNotesSo_3, sX11_areNotesSo_4, sX11_areNotesSo_5, sX11_areNotesSo_8, sX11_areNotesSo_11, sX11_areNotesSo_12, sX11_areNotesSo_13, sX11_areNotesSo_16, sX11_areNotesSo_17, sX11_areNotesSo_20, sX11_areNotesSo_23, sX11_areNotesSo_24, sX11_areNotesSo_25, sX11_areNotesSo_26, sX11_areNotesSo_27, sX11_areNotesSo_30, sX11_areNotesSo_31, sX11_areNotesSo_32, sX11_areNotesSo_35, sX11_areNotesSo_38, sX11_areNotesSo_39, sX11_areNotesSo_40, sX11_areNotesSo_41, sX11_areNotesSo_42, sX11_areNotesSo_43, sX11_areNotesSo_46, sX11_areNotesSo_47, sX11_areNotesSo_50, sX11_areNotesSo_53, sX11_areNotesSo_54, sX11_areNotesSo_55, sX11_areNotesSo_56, sX11_areNotesSo_57, sX11_areNotesSo_58, sX11_areNotesSo_61, sX11_areNotesSo_62, sX11_areNotesSo_63, sX11_areNotesSo_66, sX11_areNotesSo_69, sX11_areNotesSo_70, ↓hk103, ↓hf103_20, ↓hg113, Int.reduceToNat, z175, i32_of, e0, e1, e2, a0, a1, a2, hg, ↓bndi_at co, ↓if_pos, ↓if_neg, e3]
      · rw [if_pos (show fs k = st ∧ f (47 + 7 * (fg k).toNat) ≠ fc k from ⟨z, by rw [eg]; exact y⟩)]
        simp (disch := omega) only [eX11_areNotesSo, sX11_areNotesSo_0, sX11_areNotesSo_1, sX11_areNotesSo_3, sX11_areNotesSo_4, sX11_areNotesSo_5, sX11_areNotesSo_8, sX11_areNotesSo_11, sX11_areNotesSo_12, sX11_areNotesSo_13, sX11_areNotesSo_16, sX11_areNotesSo_17, sX11_areNotesSo_20, sX11_areNotesSo_23, sX11_areNotesSo_24, sX11_areNotesSo_25, sX11_areNotesSo_26, sX11_areNotesSo_27, sX11_areNotesSo_30, sX11_areNotesSo_31, sX11_areNotesSo_32, sX11_areNotesSo_35, sX11_areNotesSo_38, sX11_areNotesSo_39, sX11_areNotesSo_40, sX11_areNotesSo_41, sX11_areNotesSo_42, sX11_areNotesSo_43, sX11_areNotesSo_46, sX11_areNotesSo_47, sX11_areNotesSo_50, sX11_areNotesSo_53, sX11_areNotesSo_54, sX11_areNotesSo_55, sX11_areNotesSo_56, sX11_areNotesSo_57, sX11_areNotesSo_58, sX11_areNotesSo_61, sX11_areNotesSo_62, sX11_areNotesSo_63, sX11_areNotesSo_66, sX11_areNotesSo_69, sX11_areNotesSo_70, ↓hk103, ↓hf103_20, ↓hg113, Int.reduceToNat, z175, i32_of, e0, e1, e2, a0, a1, a2, hg, ↓bndi_at co, ↓if_pos, ↓if_neg, true_or, ↓reduceIte, Bool.false_eq_true]
    · rw [if_neg (show ¬ (fs k = st ∧ f (47 + 7 * (fg k).toNat) ≠ fc k) from fun q => z q.1), ← i]
      simp (disch := omega) only [eX11_areNotesSo, sX11_areNotesSo_0, sX11_areNotesSo_1, sX11_areNotesSo_3, sX11_areNotesSo_4, sX11_areNotesSo_5, sX11_areNotesSo_8, sX11_areNotesSo_11, sX11_areNotesSo_12, sX11_areNotesSo_13, sX11_areNotesSo_16, sX11_areNotesSo_17, sX11_areNotesSo_20, sX11_areNotesSo_23, sX11_areNotesSo_24, sX11_areNotesSo_25, sX11_areNotesSo_26, sX11_areNotesSo_27, sX11_areNotesSo_30, sX11_areNotesSo_31, sX11_areNotesSo_32, sX11_areNotesSo_35, sX11_areNotesSo_38, sX11_areNotesSo_39, sX11_areNotesSo_40, sX11_areNotesSo_41, sX11_areNotesSo_42, sX11_areNotesSo_43, sX11_areNotesSo_46, sX11_areNotesSo_47, sX11_areNotesSo_50, sX11_areNotesSo_53, sX11_areNotesSo_54, sX11_areNotesSo_55, sX11_areNotesSo_56, sX11_areNotesSo_57, sX11_areNotesSo_58, sX11_areNotesSo_61, sX11_areNotesSo_62, sX11_areNotesSo_63, sX11_areNotesSo_66, sX11_areNotesSo_69, sX11_areNotesSo_70, ↓hf103_20, ↓hg113, Int.reduceToNat, z175, i32_of, e0, a0, ↓if_pos, ↓if_neg, e3]
theorem m_notes {st : Int} (h : mw A F G Q f s0) (hn : ntS s0 fs fg fc G Z) : cl mX11_areNotesSo [vr 103, vi st] (HP A F E) = some (vi (if hat st fs fg fc f Z 0 then 1 else 0), HP A F E) := by
  have l := m_notes_l (st := st) (E := E) h hn Z 0 (by omega)
  have l' : rn mX11_areNotesSo 2 [vr 103, vi st, vi 0] [] (HP A F E) = _ := l
  rw [← l']
  simp only [eX11_areNotesSo, sX11_areNotesSo_0, sX11_areNotesSo_1, sX11_areNotesSo_3, sX11_areNotesSo_4, sX11_areNotesSo_5, sX11_areNotesSo_8, sX11_areNotesSo_11, sX11_areNotesSo_12, sX11_areNotesSo_13, sX11_areNotesSo_16, sX11_areNotesSo_17, sX11_areNotesSo_20, sX11_areNotesSo_23, sX11_areNotesSo_24, sX11_areNotesSo_25, sX11_areNotesSo_26, sX11_areNotesSo_27, sX11_areNotesSo_30, sX11_areNotesSo_31, sX11_areNotesSo_32, sX11_areNotesSo_35, sX11_areNotesSo_38, sX11_areNotesSo_39, sX11_areNotesSo_40, sX11_areNotesSo_41, sX11_areNotesSo_42, sX11_areNotesSo_43, sX11_areNotesSo_46, sX11_areNotesSo_47, sX11_areNotesSo_50, sX11_areNotesSo_53, sX11_areNotesSo_54, sX11_areNotesSo_55, sX11_areNotesSo_56, sX11_areNotesSo_57, sX11_areNotesSo_58, sX11_areNotesSo_61, sX11_areNotesSo_62, sX11_areNotesSo_63, sX11_areNotesSo_66, sX11_areNotesSo_69, sX11_areNotesSo_70]
theorem m_as_in {r nn : Nat} {b : Int} (hr : r ≤ 6) : ∀ (n g : Nat) (A F : Nat → Nat → Int), g + n = 5 → mw A F G Q f s0 → ∃ W, rn mX11_areAllSo 34 [vr 103, vi (r : Int), vi (nn : Int), vi b, vi (nn : Int), vi (g : Int)] [] (HP A F E) = rn mX11_areAllSo 69 [vr 103, vi (r : Int), vi (nn : Int), vi b, vi (nn : Int), vi 5] [] (HP (aup A 122 W) F E) ∧ ∀ j, W j = if 5 * r + g ≤ j ∧ j < 5 * r + 5 then con f (j - 5 * r) else A 122 j := by
  intro n
  induction n with
  | zero =>
    intro g A F hg h
    have : g = 5 := by omega
    subst this
    refine ⟨A 122, ?_, fun j => by rw [if_neg (by omega)]⟩
    rw [sX11_areAllSo_34, aup_id]
    simp (disch := omega) only [eX11_areAllSo, sX11_areAllSo_0, sX11_areAllSo_1, sX11_areAllSo_2, sX11_areAllSo_3, sX11_areAllSo_7, sX11_areAllSo_9, sX11_areAllSo_12, sX11_areAllSo_13, sX11_areAllSo_16, sX11_areAllSo_17, sX11_areAllSo_19, sX11_areAllSo_22, sX11_areAllSo_25, sX11_areAllSo_26, sX11_areAllSo_29, sX11_areAllSo_30, sX11_areAllSo_31, sX11_areAllSo_32, sX11_areAllSo_36, sX11_areAllSo_37, sX11_areAllSo_40, sX11_areAllSo_42, sX11_areAllSo_43, sX11_areAllSo_46, sX11_areAllSo_47, sX11_areAllSo_50, sX11_areAllSo_51, sX11_areAllSo_52, sX11_areAllSo_53, sX11_areAllSo_55, sX11_areAllSo_56, sX11_areAllSo_57, sX11_areAllSo_59, sX11_areAllSo_62, sX11_areAllSo_63, sX11_areAllSo_66, sX11_areAllSo_70, sX11_areAllSo_73, sX11_areAllSo_76, sX11_areAllSo_79, sX11_areAllSo_80, ↓if_pos]
    rfl
  | succ n ih =>
    intro g A F hg h
    have co := mw_con (g := g) (E := E) h (by omega)
    obtain ⟨W, r1, r2⟩ := ih (g + 1) (aup A 122 (fup (A 122) (5 * r + g) (con f g))) F (by omega) (mw_own h (by omega))
    rw [aup_aup] at r1
    have e : (5 * (r : Int) + (g : Int)).toNat = 5 * r + g := by omega
    refine ⟨W, ?_, fun j => ?_⟩
    · rw [← r1, sX11_areAllSo_34]
      simp (disch := omega) only [eX11_areAllSo, sX11_areAllSo_0, sX11_areAllSo_1, sX11_areAllSo_2, sX11_areAllSo_3, sX11_areAllSo_7, sX11_areAllSo_9, sX11_areAllSo_12, sX11_areAllSo_13, sX11_areAllSo_16, sX11_areAllSo_17, sX11_areAllSo_19, sX11_areAllSo_22, sX11_areAllSo_25, sX11_areAllSo_26, sX11_areAllSo_29, sX11_areAllSo_30, sX11_areAllSo_31, sX11_areAllSo_32, sX11_areAllSo_36, sX11_areAllSo_37, sX11_areAllSo_40, sX11_areAllSo_42, sX11_areAllSo_43, sX11_areAllSo_46, sX11_areAllSo_47, sX11_areAllSo_50, sX11_areAllSo_51, sX11_areAllSo_52, sX11_areAllSo_53, sX11_areAllSo_55, sX11_areAllSo_56, sX11_areAllSo_57, sX11_areAllSo_59, sX11_areAllSo_62, sX11_areAllSo_63, sX11_areAllSo_66, sX11_areAllSo_70, sX11_areAllSo_73, sX11_areAllSo_76, sX11_areAllSo_79, sX11_areAllSo_80, ↓hk103, ↓hf103_35, ↓hs122, ↓bndi_at co, i32_of, e, ↓if_neg]
      rfl
    · rw [r2, aup_s]
      by_cases q : j = 5 * r + g
      · subst q; rw [if_neg (by omega), if_pos (by omega), fup_s, show 5 * r + g - 5 * r = g by omega]
      · by_cases q2 : 5 * r + g ≤ j ∧ j < 5 * r + 5
        · rw [if_pos (by omega), if_pos q2]
        · rw [if_neg (by omega), if_neg q2, fup_n q]
/-- where all are at a step that is asked for, in row r -/
def cdn (Q : (Int → Int) → Int) (G r : Nat) (th : Int) (f : Nat → Int) (nn : Nat) (old : Nat → Int) (j : Nat) : Int := if (nn : Int) ≤ th ∧ th ≤ 60 ∧ 5 * r ≤ j ∧ j < 5 * r + 5 then con (psN Q G (th.toNat - nn) f) (j - 5 * r) else old j
theorem m_as_l {r : Nat} {th : Int} (hr : r ≤ 6) (hn : ntS s0 fs fg fc G Z) : ∀ (n k : Nat) (A F : Nat → Nat → Int) (f : Nat → Int) (b : Bool) (x5 : zV), k + n = 61 → mw A F G Q f s0 → ∃ A' F', rn mX11_areAllSo 5 [vr 103, vi (r : Int), vi th, vi (if b then 1 else 0), vi (k : Int), x5] [] (HP A F E) = some (vi (if b && alS Q G Z fs fg fc n (k : Int) f then 1 else 0), HP A' F' E) ∧ mwx A F A' F' ∧ (∃ f', mw A' F' G Q f' s0) ∧ (∀ j, A' 122 j = cdn Q G r th f k (A 122) j) ∧ A' 121 = A 121 := by
  intro n
  induction n with
  | zero =>
    intro k A F f b x5 hk h
    have : k = 61 := by omega
    subst this
    refine ⟨A, F, ?_, mwx_r, ⟨f, h⟩, fun j => by unfold cdn; rw [if_neg (by omega)], rfl⟩
    rw [sX11_areAllSo_5, alS, Bool.and_true]
    cases b
    · simp (disch := omega) only [eX11_areAllSo, sX11_areAllSo_0, sX11_areAllSo_1, sX11_areAllSo_2, sX11_areAllSo_3, sX11_areAllSo_7, sX11_areAllSo_9, sX11_areAllSo_12, sX11_areAllSo_13, sX11_areAllSo_16, sX11_areAllSo_17, sX11_areAllSo_19, sX11_areAllSo_22, sX11_areAllSo_25, sX11_areAllSo_26, sX11_areAllSo_29, sX11_areAllSo_30, sX11_areAllSo_31, sX11_areAllSo_32, sX11_areAllSo_36, sX11_areAllSo_37, sX11_areAllSo_40, sX11_areAllSo_42, sX11_areAllSo_43, sX11_areAllSo_46, sX11_areAllSo_47, sX11_areAllSo_50, sX11_areAllSo_51, sX11_areAllSo_52, sX11_areAllSo_53, sX11_areAllSo_55, sX11_areAllSo_56, sX11_areAllSo_57, sX11_areAllSo_59, sX11_areAllSo_62, sX11_areAllSo_63, sX11_areAllSo_66, sX11_areAllSo_69, sX11_areAllSo_70, sX11_areAllSo_73, sX11_areAllSo_76, sX11_areAllSo_79, sX11_areAllSo_80, ↓if_pos, ↓reduceIte, true_or, Bool.false_eq_true]
    · simp (disch := omega) only [eX11_areAllSo, sX11_areAllSo_0, sX11_areAllSo_1, sX11_areAllSo_2, sX11_areAllSo_3, sX11_areAllSo_7, sX11_areAllSo_9, sX11_areAllSo_12, sX11_areAllSo_13, sX11_areAllSo_16, sX11_areAllSo_17, sX11_areAllSo_19, sX11_areAllSo_22, sX11_areAllSo_25, sX11_areAllSo_26, sX11_areAllSo_29, sX11_areAllSo_30, sX11_areAllSo_31, sX11_areAllSo_32, sX11_areAllSo_36, sX11_areAllSo_37, sX11_areAllSo_40, sX11_areAllSo_42, sX11_areAllSo_43, sX11_areAllSo_46, sX11_areAllSo_47, sX11_areAllSo_50, sX11_areAllSo_51, sX11_areAllSo_52, sX11_areAllSo_53, sX11_areAllSo_55, sX11_areAllSo_56, sX11_areAllSo_57, sX11_areAllSo_59, sX11_areAllSo_62, sX11_areAllSo_63, sX11_areAllSo_66, sX11_areAllSo_69, sX11_areAllSo_70, sX11_areAllSo_73, sX11_areAllSo_76, sX11_areAllSo_79, sX11_areAllSo_80, ↓if_pos, ↓reduceIte, or_true]
  | succ n ih =>
    intro k A F f b x5 hk h
    have nt := m_notes (st := (k : Int)) (E := E) h hn
    -- the flag
    have fl : rn mX11_areAllSo 5 [vr 103, vi (r : Int), vi th, vi (if b then 1 else 0), vi (k : Int), x5] [] (HP A F E) = rn mX11_areAllSo 34 [vr 103, vi (r : Int), vi th, vi (if b && hat (k : Int) fs fg fc f Z 0 then 1 else 0), vi (k : Int), vi 0] [] (HP A F E) := by
      rw [sX11_areAllSo_5]
      cases b
      · simp (disch := omega) only [eX11_areAllSo, sX11_areAllSo_0, sX11_areAllSo_1, sX11_areAllSo_2, sX11_areAllSo_3, sX11_areAllSo_7, sX11_areAllSo_9, sX11_areAllSo_12, sX11_areAllSo_13, sX11_areAllSo_16, sX11_areAllSo_17, sX11_areAllSo_19, sX11_areAllSo_22, sX11_areAllSo_25, sX11_areAllSo_26, sX11_areAllSo_29, sX11_areAllSo_30, sX11_areAllSo_31, sX11_areAllSo_32, sX11_areAllSo_36, sX11_areAllSo_37, sX11_areAllSo_40, sX11_areAllSo_42, sX11_areAllSo_43, sX11_areAllSo_46, sX11_areAllSo_47, sX11_areAllSo_50, sX11_areAllSo_51, sX11_areAllSo_52, sX11_areAllSo_53, sX11_areAllSo_55, sX11_areAllSo_56, sX11_areAllSo_57, sX11_areAllSo_59, sX11_areAllSo_62, sX11_areAllSo_63, sX11_areAllSo_66, sX11_areAllSo_69, sX11_areAllSo_70, sX11_areAllSo_73, sX11_areAllSo_76, sX11_areAllSo_79, sX11_areAllSo_80, ↓if_pos, ↓if_neg, ↓reduceIte, Bool.false_eq_true, Bool.false_and]
      · by_cases y : hat (k : Int) fs fg fc f Z 0 = true
        · rw [if_pos y] at nt
          rw [y]
          simp (disch := omega) only [eX11_areAllSo, sX11_areAllSo_0, sX11_areAllSo_1, sX11_areAllSo_2, sX11_areAllSo_3, sX11_areAllSo_7, sX11_areAllSo_9, sX11_areAllSo_12, sX11_areAllSo_13, sX11_areAllSo_16, sX11_areAllSo_17, sX11_areAllSo_19, sX11_areAllSo_22, sX11_areAllSo_25, sX11_areAllSo_26, sX11_areAllSo_29, sX11_areAllSo_30, sX11_areAllSo_31, sX11_areAllSo_32, sX11_areAllSo_36, sX11_areAllSo_37, sX11_areAllSo_40, sX11_areAllSo_42, sX11_areAllSo_43, sX11_areAllSo_46, sX11_areAllSo_47, sX11_areAllSo_50, sX11_areAllSo_51, sX11_areAllSo_52, sX11_areAllSo_53, sX11_areAllSo_55, sX11_areAllSo_56, sX11_areAllSo_57, sX11_areAllSo_59, sX11_areAllSo_62, sX11_areAllSo_63, sX11_areAllSo_66, sX11_areAllSo_69, sX11_areAllSo_70, sX11_areAllSo_73, sX11_areAllSo_76, sX11_areAllSo_79, sX11_areAllSo_80, ↓hk103, ↓bndi_at nt, ↓if_pos, ↓if_neg, ↓reduceIte, Bool.and_self]
        · rw [if_neg y] at nt
          have y' : hat (k : Int) fs fg fc f Z 0 = false := by cases q : hat (k : Int) fs fg fc f Z 0 <;> simp_all
          rw [y']
          simp (disch := omega) only [eX11_areAllSo, sX11_areAllSo_0, sX11_areAllSo_1, sX11_areAllSo_2, sX11_areAllSo_3, sX11_areAllSo_7, sX11_areAllSo_9, sX11_areAllSo_12, sX11_areAllSo_13, sX11_areAllSo_16, sX11_areAllSo_17, sX11_areAllSo_19, sX11_areAllSo_22, sX11_areAllSo_25, sX11_areAllSo_26, sX11_areAllSo_29, sX11_areAllSo_30, sX11_areAllSo_31, sX11_areAllSo_32, sX11_areAllSo_36, sX11_areAllSo_37, sX11_areAllSo_40, sX11_areAllSo_42, sX11_areAllSo_43, sX11_areAllSo_46, sX11_areAllSo_47, sX11_areAllSo_50, sX11_areAllSo_51, sX11_areAllSo_52, sX11_areAllSo_53, sX11_areAllSo_55, sX11_areAllSo_56, sX11_areAllSo_57, sX11_areAllSo_59, sX11_areAllSo_62, sX11_areAllSo_63, sX11_areAllSo_66, sX11_areAllSo_69, sX11_areAllSo_70, sX11_areAllSo_73, sX11_areAllSo_76, sX11_areAllSo_79, sX11_areAllSo_80, ↓hk103, ↓bndi_at nt, ↓if_pos, ↓if_neg, ↓reduceIte, Bool.and_false, Bool.false_eq_true]
    generalize hb' : (b && hat (k : Int) fs fg fc f Z 0) = b' at *
    have hb2 : ∀ x, (b && (hat (k : Int) fs fg fc f Z 0 && x)) = (b' && x) := fun x => by rw [← hb', Bool.and_assoc]
    by_cases y : (k : Int) = th
    · obtain ⟨W, w1, w2⟩ := m_as_in (r := r) (nn := k) (b := if b' then 1 else 0) (E := E) hr 5 0 A F (by omega) h
      have w1' : rn mX11_areAllSo 34 [vr 103, vi (r : Int), vi (k : Int), vi (if b' then 1 else 0), vi (k : Int), vi 0] [] (HP A F E) = _ := w1
      obtain ⟨A1, F1, p1, p2, p3⟩ := mw_pass (E := E) (mw_own (j := 122) (g := W) h (by omega))
      obtain ⟨A2, F2, t1, t2, t3, t4, t5⟩ := ih (k + 1) A1 F1 _ b' (vi 5) (by omega) p3
      refine ⟨A2, F2, ?_, mwx_t (mwx_t ⟨fun j _ _ _ d => aup_n (by omega), fun _ _ => rfl, fun _ _ _ _ _ _ => rfl⟩ (mwx_of (mwg_of p2))) t2, t3, fun j => ?_, by rw [t5, p2.1 121 (by omega) (by omega) (by omega), aup_n (by omega)]⟩
      · rw [fl, alS, hb2, show (k : Int) + 1 = ((k + 1 : Nat) : Int) by omega, ← t1, ← y, w1']
        simp (disch := omega) only [eX11_areAllSo, sX11_areAllSo_0, sX11_areAllSo_1, sX11_areAllSo_2, sX11_areAllSo_3, sX11_areAllSo_7, sX11_areAllSo_9, sX11_areAllSo_12, sX11_areAllSo_13, sX11_areAllSo_16, sX11_areAllSo_17, sX11_areAllSo_19, sX11_areAllSo_22, sX11_areAllSo_25, sX11_areAllSo_26, sX11_areAllSo_29, sX11_areAllSo_30, sX11_areAllSo_31, sX11_areAllSo_32, sX11_areAllSo_36, sX11_areAllSo_37, sX11_areAllSo_40, sX11_areAllSo_42, sX11_areAllSo_43, sX11_areAllSo_46, sX11_areAllSo_47, sX11_areAllSo_50, sX11_areAllSo_51, sX11_areAllSo_52, sX11_areAllSo_53, sX11_areAllSo_55, sX11_areAllSo_56, sX11_areAllSo_57, sX11_areAllSo_59, sX11_areAllSo_62, sX11_areAllSo_63, sX11_areAllSo_66, sX11_areAllSo_69, sX11_areAllSo_70, sX11_areAllSo_73, sX11_areAllSo_76, sX11_areAllSo_79, sX11_areAllSo_80, ↓hk103, ↓bndv_at p1, i32_s]
      · rw [t4, p2.1 122 (by omega) (by omega) (by omega), aup_s]
        unfold cdn
        rw [if_neg (by omega), w2]
        by_cases q : 5 * r ≤ j ∧ j < 5 * r + 5
        · rw [if_pos (by omega), if_pos (by omega), show th.toNat - k = 0 by omega]; rfl
        · rw [if_neg (by omega), if_neg (by omega)]
    · obtain ⟨A1, F1, p1, p2, p3⟩ := mw_pass (E := E) h
      obtain ⟨A2, F2, t1, t2, t3, t4, t5⟩ := ih (k + 1) A1 F1 _ b' (vi 0) (by omega) p3
      refine ⟨A2, F2, ?_, mwx_t (mwx_of (mwg_of p2)) t2, t3, fun j => ?_, by rw [t5, p2.1 121 (by omega) (by omega) (by omega)]⟩
      · rw [fl, alS, hb2, show (k : Int) + 1 = ((k + 1 : Nat) : Int) by omega, ← t1, sX11_areAllSo_34]
        simp (disch := omega) only [eX11_areAllSo, sX11_areAllSo_0, sX11_areAllSo_1, sX11_areAllSo_2, sX11_areAllSo_3, sX11_areAllSo_7, sX11_areAllSo_9, sX11_areAllSo_12, sX11_areAllSo_13, sX11_areAllSo_16, sX11_areAllSo_17, sX11_areAllSo_19, sX11_areAllSo_22, sX11_areAllSo_25, sX11_areAllSo_26, sX11_areAllSo_29, sX11_areAllSo_30, sX11_areAllSo_31, sX11_areAllSo_32, sX11_areAllSo_36, sX11_areAllSo_37, sX11_areAllSo_40, sX11_areAllSo_42, sX11_areAllSo_43, sX11_areAllSo_46, sX11_areAllSo_47, sX11_areAllSo_50, sX11_areAllSo_51, sX11_areAllSo_52, sX11_areAllSo_53, sX11_areAllSo_55, sX11_areAllSo_56, sX11_areAllSo_57, sX11_areAllSo_59, sX11_areAllSo_62, sX11_areAllSo_63, sX11_areAllSo_66, sX11_areAllSo_69, sX11_areAllSo_70, sX11_areAllSo_73, sX11_areAllSo_76, sX11_areAllSo_79, sX11_areAllSo_80, ↓hk103, ↓bndv_at p1, ↓if_neg, ↓if_pos, i32_s]
      · rw [t4, p2.1 122 (by omega) (by omega) (by omega)]
        unfold cdn
        by_cases q : (k : Int) ≤ th ∧ th ≤ 60 ∧ 5 * r ≤ j ∧ j < 5 * r + 5
        · rw [if_pos q, if_pos (by omega), show th.toNat - k = (th.toNat - (k + 1)) + 1 by omega, psN]
        · rw [if_neg q, if_neg (by omega)]
theorem m_allSo {r : Nat} {th : Int} (hr : r ≤ 6) (hn : ntS s0 fs fg fc G Z) (h : mw A F G Q f s0) : ∃ A' F', cl mX11_areAllSo [vr 103, vi (r : Int), vi th] (HP A F E) = some (vi (if alS Q G Z fs fg fc 61 0 f then 1 else 0), HP A' F' E) ∧ mwx A F A' F' ∧ (∃ f', mw A' F' G Q f' s0) ∧ (∀ j, A' 122 j = cdn Q G r th f 0 (A 122) j) ∧ A' 121 = A 121 := by
  obtain ⟨A2, F2, t1, t2, t3, t4⟩ := m_as_l (r := r) (th := th) (E := E) hr hn 61 0 A F f true vn (by omega) h
  have t1' : rn mX11_areAllSo 5 [vr 103, vi (r : Int), vi th, vi 1, vi 0, vn] [] (HP A F E) = _ := t1
  refine ⟨A2, F2, ?_, t2, t3, t4⟩
  rw [Bool.true_and] at t1'
  have e : ((0 : Nat) : Int) = 0 := rfl
  rw [e] at t1'
  rw [← t1']
  simp only [eX11_areAllSo, sX11_areAllSo_0, sX11_areAllSo_1, sX11_areAllSo_2, sX11_areAllSo_3, sX11_areAllSo_7, sX11_areAllSo_9, sX11_areAllSo_12, sX11_areAllSo_13, sX11_areAllSo_16, sX11_areAllSo_17, sX11_areAllSo_19, sX11_areAllSo_22, sX11_areAllSo_25, sX11_areAllSo_26, sX11_areAllSo_29, sX11_areAllSo_30, sX11_areAllSo_31, sX11_areAllSo_32, sX11_areAllSo_36, sX11_areAllSo_37, sX11_areAllSo_40, sX11_areAllSo_42, sX11_areAllSo_43, sX11_areAllSo_46, sX11_areAllSo_47, sX11_areAllSo_50, sX11_areAllSo_51, sX11_areAllSo_52, sX11_areAllSo_53, sX11_areAllSo_55, sX11_areAllSo_56, sX11_areAllSo_57, sX11_areAllSo_59, sX11_areAllSo_62, sX11_areAllSo_63, sX11_areAllSo_66, sX11_areAllSo_69, sX11_areAllSo_70, sX11_areAllSo_73, sX11_areAllSo_76, sX11_areAllSo_79, sX11_areAllSo_80]
end AS
