/-! what stands open in the model: brackets, NOT, AND, OR; laid down -/
def dec' (o : Int) : Int := if o = 50 then 91 else 33 - o
def wel (w : List Int) : Prop := ∀ o, o ∈ w → o = 20 ∨ o = 21 ∨ o = 22 ∨ o = 50
/-- the model's open ones are the class's waiting ones -/
def OS (A F : Nat → Nat → Int) (w : List Int) : Prop := F 103 16 = (w.length : Int) ∧ (∀ k, k < w.length → A 110 k = dec' (wat w k)) ∧ F 103 13 = c7 w ∧ wel w
/-- what the model's reading of tests leaves -/
def pf1 (A F A' F' : Nat → Nat → Int) (t g : Nat) : Prop := (∀ j, j ≠ 105 → j ≠ 106 → j ≠ 110 → A' j = A j) ∧ (∀ j, j ≠ 103 → F' j = F j) ∧ (∀ k, k ≠ 8 → k ≠ 9 → k ≠ 10 → k ≠ 12 → k ≠ 13 → k ≠ 16 → F' 103 k = F 103 k) ∧ (∀ j, (j < 400 * t + g ∨ 400 * t + 400 ≤ j) → A' 105 j = A 105 j) ∧ ∀ j, j ≠ t → A' 106 j = A 106 j
section OP
variable {A F A1 F1 A2 F2 : Nat → Nat → Int} {E : zE} {t g : Nat} {b v : Nat → Int} {L x : Int} {M w T : List Int}
theorem pf1_r : pf1 A F A F t g := ⟨fun _ _ _ _ => rfl, fun _ _ => rfl, fun _ _ _ _ _ _ _ => rfl, fun _ _ => rfl, fun _ _ => rfl⟩
theorem pf1_t (h : pf1 A F A1 F1 t g) (k : pf1 A1 F1 A2 F2 t g) : pf1 A F A2 F2 t g := ⟨fun j a c d => (k.1 j a c d).trans (h.1 j a c d), fun j a => (k.2.1 j a).trans (h.2.1 j a), fun j a c d e f i => (k.2.2.1 j a c d e f i).trans (h.2.2.1 j a c d e f i), fun j a => (k.2.2.2.1 j a).trans (h.2.2.2.1 j a), fun j a => (k.2.2.2.2 j a).trans (h.2.2.2.2 j a)⟩
theorem pf1_f {k : Nat} {v : Int} (hk : k = 8 ∨ k = 9 ∨ k = 10 ∨ k = 12 ∨ k = 13 ∨ k = 16) : pf1 A F A (fF F k v) t g := ⟨fun _ _ _ _ => rfl, fun j a => fF_o a, fun j a c d e f i => fF_n (by omega), fun _ _ => rfl, fun _ _ => rfl⟩
theorem pf1_0 (h : pf0 A F A1 F1 t g) : pf1 A F A1 F1 t g := ⟨fun j a c _ => h.1 j a c, h.2.1, fun k a c d e _ _ => h.2.2.1 k a c d e, h.2.2.2.1, h.2.2.2.2⟩
theorem OS_0 (h : OS A F w) (k : pf0 A F A1 F1 t g) : OS A1 F1 w := ⟨by rw [k.2.2.1 16 (by omega) (by omega) (by omega) (by omega)]; exact h.1, fun i hi => by rw [k.1 110 (by omega) (by omega)]; exact h.2.1 i hi, by rw [k.2.2.1 13 (by omega) (by omega) (by omega) (by omega)]; exact h.2.2.1, h.2.2.2⟩
theorem OS_8 {k : Nat} {y : Int} (h : OS A F w) (hk : k ≠ 13 ∧ k ≠ 16) : OS A (fF F k y) w := ⟨by rw [fF_n (by omega)]; exact h.1, h.2.1, by rw [fF_n (by omega)]; exact h.2.2.1, h.2.2.2⟩
theorem MS_o {A' F' : Nat → Nat → Int} (h : MS A F b L t g x M v) (a1 : A' 104 = A 104) (a2 : A' 105 = A 105) (a3 : A' 106 = A 106) (a4 : ∀ k, k ≠ 13 → k ≠ 16 → F' 103 k = F 103 k) : MS A' F' b L t g x M v := by
  obtain ⟨m1, m2, m3, m4, m5, m6, m7⟩ := h
  refine ⟨⟨by rw [a4 1 (by omega) (by omega)]; exact m1.1, m1.2.1, m1.2.2.1, fun j hj => by rw [a1]; exact m1.2.2.2 j hj⟩, ⟨by rw [a4 8 (by omega) (by omega)]; exact m2.1, by rw [a4 8 (by omega) (by omega)]; exact m2.2⟩, by rw [a4 9 (by omega) (by omega)]; exact m3, by rw [a4 11 (by omega) (by omega)]; exact m4, by rw [a4 12 (by omega) (by omega)]; exact m5, by rw [a3]; exact m6, fun i hi => by rw [a2]; exact m7 i hi⟩
theorem wel_c {o : Int} (h : wel (o :: w)) : (o = 20 ∨ o = 21 ∨ o = 22 ∨ o = 50) ∧ wel w := ⟨h o (List.mem_cons_self ..), fun p hp => h p (List.mem_cons_of_mem _ hp)⟩
/-- one more is open -/
theorem m_opens {o cd : Int} (os : OS A F w) (h9 : F 103 9 = 0) (s0 : 0 ≤ F 103 8 ∧ F 103 8 ≤ 400) (hl : w.length < 400) (ho : (o = 22 ∧ cd = 11) ∨ (o = 50 ∧ cd = 91)) : (c7 w = 10 ∧ cl mX11_opens [vr 103, vi cd] (HP A F E) = some (vi 0, HP A (fF F 9 (1 + 8 * F 103 8 + 2)) E)) ∨ (c7 w ≠ 10 ∧ ∃ A' F', cl mX11_opens [vr 103, vi cd] (HP A F E) = some (vi 1, HP A' F' E) ∧ OS A' F' (o :: w) ∧ pf1 A F A' F' t g ∧ A' 105 = A 105 ∧ A' 106 = A 106 ∧ ∀ k, k ≠ 13 → k ≠ 16 → F' 103 k = F 103 k) := by
  obtain ⟨o1, o2, o3, o4⟩ := os
  have cb := c7_b w
  by_cases q : c7 w = 10
  · have fl := m_fails (A := A) (E := E) (k := 2) (at' := F 103 8) h9 (by omega) s0
    have qq : ¬ ¬ c7 w = 10 := fun y => y q
    refine Or.inl ⟨q, ?_⟩
    simp (disch := omega) only [eX11_opens, sX11_opens_0, sX11_opens_1, sX11_opens_4, sX11_opens_6, sX11_opens_9, sX11_opens_10, sX11_opens_11, sX11_opens_12, sX11_opens_15, sX11_opens_18, sX11_opens_19, sX11_opens_20, sX11_opens_21, sX11_opens_24, sX11_opens_25, sX11_opens_26, sX11_opens_29, sX11_opens_30, sX11_opens_33, sX11_opens_34, sX11_opens_37, sX11_opens_38, sX11_opens_39, sX11_opens_40, sX11_opens_41, sX11_opens_44, sX11_opens_45, sX11_opens_46, sX11_opens_49, sX11_opens_50, ↓hk103, ↓hf103_13, ↓hf103_8, o3, ↓if_neg qq, ↓bndi_at fl, ↓if_pos, ↓if_neg, ↓reduceIte, true_or]
  · refine Or.inr ⟨q, aup A 110 (fup (A 110) w.length cd), fF (fF F 13 (c7 w + 1)) 16 ((w.length : Int) + 1), ?_, ⟨by rw [fF_s, List.length_cons]; omega, fun k hk => ?_, ?_, fun p hp => ?_⟩, ⟨fun j _ _ d => aup_n d, fun j a => by rw [fF_o a, fF_o a], fun k a c d e f i => by rw [fF_n i, fF_n f], fun j _ => by rw [aup_n (by omega)], fun j _ => by rw [aup_n (by omega)]⟩, aup_n (by omega), aup_n (by omega), fun k a c => by rw [fF_n c, fF_n a]⟩
    · have g16 : fF F 13 (c7 w + 1) 103 16 = (w.length : Int) := by rw [fF_n (by omega)]; exact o1
      have pt : aup F 103 (fup (F 103) 13 (c7 w + 1)) = fF F 13 (c7 w + 1) := rfl
      simp (disch := omega) only [eX11_opens, sX11_opens_0, sX11_opens_1, sX11_opens_4, sX11_opens_6, sX11_opens_9, sX11_opens_10, sX11_opens_11, sX11_opens_12, sX11_opens_15, sX11_opens_18, sX11_opens_19, sX11_opens_20, sX11_opens_21, sX11_opens_24, sX11_opens_25, sX11_opens_26, sX11_opens_29, sX11_opens_30, sX11_opens_33, sX11_opens_34, sX11_opens_37, sX11_opens_38, sX11_opens_39, sX11_opens_40, sX11_opens_41, sX11_opens_44, sX11_opens_45, sX11_opens_46, sX11_opens_49, sX11_opens_50, ↓hk103, ↓hf103_13, ↓hf103_15, ↓hf103_16, ↓hp103_13, ↓hp103_16, ↓hs110, o3, ↓if_pos q, i32_of, pt, g16, Int.toNat_natCast, ↓if_pos, ↓if_neg, ↓reduceIte, or_true]
      rfl
    · rw [aup_s, wat]
      rw [List.length_cons] at hk
      by_cases y : k = w.length
      · rw [if_pos y, y, fup_s]
        unfold dec'
        rcases ho with ⟨a, c⟩ | ⟨a, c⟩
        · rw [a, c, if_neg (by omega)]; rfl
        · rw [a, c, if_pos rfl]
      · rw [if_neg y, fup_n y]; exact o2 k (by omega)
    · rw [fF_n (by omega), fF_s, c7, if_pos (by omega)]
    · rcases List.mem_cons.mp hp with y | y
      · rw [y]; omega
      · exact o4 p y
theorem m_strength {o : Int} {h : zH} (ho : o = 20 ∨ o = 21 ∨ o = 22 ∨ o = 50) : cl mX11_strength [vi (dec' o)] h = some (vi (if o = 50 then 0 else rkf o), h) := by
  rcases ho with rfl | rfl | rfl | rfl
  · simp (disch := omega) only [show dec' 20 = 13 from rfl, show rkf 20 = 1 from rfl, eX11_strength, sX11_strength_0, sX11_strength_1, sX11_strength_3, sX11_strength_6, sX11_strength_7, sX11_strength_10, sX11_strength_11, sX11_strength_13, sX11_strength_16, sX11_strength_17, sX11_strength_20, sX11_strength_21, sX11_strength_23, sX11_strength_26, sX11_strength_27, sX11_strength_30, sX11_strength_31, ↓if_pos, ↓if_neg, not_true_eq_false, ↓reduceIte, Int.reduceEq, if_false]
  · simp (disch := omega) only [show dec' 21 = 12 from rfl, show rkf 21 = 2 from rfl, eX11_strength, sX11_strength_0, sX11_strength_1, sX11_strength_3, sX11_strength_6, sX11_strength_7, sX11_strength_10, sX11_strength_11, sX11_strength_13, sX11_strength_16, sX11_strength_17, sX11_strength_20, sX11_strength_21, sX11_strength_23, sX11_strength_26, sX11_strength_27, sX11_strength_30, sX11_strength_31, ↓if_pos, ↓if_neg, not_true_eq_false, ↓reduceIte, Int.reduceEq, if_false]
  · simp (disch := omega) only [show dec' 22 = 11 from rfl, show rkf 22 = 3 from rfl, eX11_strength, sX11_strength_0, sX11_strength_1, sX11_strength_3, sX11_strength_6, sX11_strength_7, sX11_strength_10, sX11_strength_11, sX11_strength_13, sX11_strength_16, sX11_strength_17, sX11_strength_20, sX11_strength_21, sX11_strength_23, sX11_strength_26, sX11_strength_27, sX11_strength_30, sX11_strength_31, ↓if_pos, ↓if_neg, not_true_eq_false, ↓reduceIte, Int.reduceEq, if_false]
  · simp (disch := omega) only [show dec' 50 = 91 from rfl, eX11_strength, sX11_strength_0, sX11_strength_1, sX11_strength_3, sX11_strength_6, sX11_strength_7, sX11_strength_10, sX11_strength_11, sX11_strength_13, sX11_strength_16, sX11_strength_17, sX11_strength_20, sX11_strength_21, sX11_strength_23, sX11_strength_26, sX11_strength_27, sX11_strength_30, sX11_strength_31, ↓if_pos, ↓if_neg, not_true_eq_false, ↓reduceIte]
/-- laid down: p goes, w2 stays -/
theorem m_lay_l (ht : t < 6) {le : Int} (hle : 1 ≤ le ∧ le ≤ 3) : ∀ (w : List Int) (A F : Nat → Nat → Int) (M : List Int), OS A F w → MS A F b L t g x M v → g + M.length + w.length < 400 → ∃ A' F' p w2, w = p ++ w2 ∧ (∀ o, o ∈ p → le ≤ rkf o ∧ 20 ≤ o ∧ o ≤ 22) ∧ (∀ o r, w2 = o :: r → rkf o < le) ∧ rn mX11_layDown 0 [vr 103, vi le] [] (HP A F E) = some (vn, HP A' F' E) ∧ OS A' F' w2 ∧ MS A' F' b L t g x (p.reverse ++ M) v ∧ pf1 A F A' F' t g ∧ ∀ k, k ≠ 13 → k ≠ 16 → F' 103 k = F 103 k
  | [], A, F, M, os, ms, hl => by
    refine ⟨A, F, [], [], rfl, (fun o q => by cases q), (fun o r q => by cases q), ?_, os, ms, pf1_r, fun _ _ _ => rfl⟩
    have o1 := os.1
    rw [List.length_nil] at o1
    rw [sX11_layDown_0]
    simp (disch := omega) only [eX11_layDown, sX11_layDown_1, sX11_layDown_4, sX11_layDown_7, sX11_layDown_8, sX11_layDown_11, sX11_layDown_12, sX11_layDown_15, sX11_layDown_16, sX11_layDown_17, sX11_layDown_18, sX11_layDown_21, sX11_layDown_22, sX11_layDown_25, sX11_layDown_26, sX11_layDown_27, sX11_layDown_30, sX11_layDown_31, sX11_layDown_32, sX11_layDown_35, sX11_layDown_36, sX11_layDown_37, sX11_layDown_40, sX11_layDown_41, sX11_layDown_44, sX11_layDown_45, sX11_layDown_46, sX11_layDown_49, sX11_layDown_50, sX11_layDown_53, sX11_layDown_54, sX11_layDown_57, sX11_layDown_58, sX11_layDown_60, sX11_layDown_63, sX11_layDown_64, sX11_layDown_65, sX11_layDown_68, sX11_layDown_69, sX11_layDown_70, sX11_layDown_73, sX11_layDown_76, ↓hf103_16, o1, ↓if_pos]
  | o :: w, A, F, M, os, ms, hl => by
    obtain ⟨o1, o2, o3, o4⟩ := id os
    rw [List.length_cons] at o1 hl
    have ow := wel_c o4
    have ea : A 110 w.length = dec' o := by rw [o2 w.length (by rw [List.length_cons]; omega), wat, if_pos rfl]
    have stg := m_strength (o := o) (h := HP A F E) ow.1
    have i1 : ((w.length + 1 : Nat) : Int) - 1 = (w.length : Int) := by omega
    by_cases q : (if o = 50 then 0 else rkf o) < le
    · refine ⟨A, F, [], o :: w, rfl, (fun p y => by cases y), (fun p r y => ?_), ?_, os, ms, pf1_r, fun _ _ _ => rfl⟩
      · cases y
        rcases ow.1 with y | y | y | y
        · rw [if_neg (by omega)] at q; exact q
        · rw [if_neg (by omega)] at q; exact q
        · rw [if_neg (by omega)] at q; exact q
        · rw [y, rkf_50]; omega
      · rw [sX11_layDown_0]
        simp (disch := omega) only [eX11_layDown, sX11_layDown_1, sX11_layDown_4, sX11_layDown_7, sX11_layDown_8, sX11_layDown_11, sX11_layDown_12, sX11_layDown_15, sX11_layDown_16, sX11_layDown_17, sX11_layDown_18, sX11_layDown_21, sX11_layDown_22, sX11_layDown_25, sX11_layDown_26, sX11_layDown_27, sX11_layDown_30, sX11_layDown_31, sX11_layDown_32, sX11_layDown_35, sX11_layDown_36, sX11_layDown_37, sX11_layDown_40, sX11_layDown_41, sX11_layDown_44, sX11_layDown_45, sX11_layDown_46, sX11_layDown_49, sX11_layDown_50, sX11_layDown_53, sX11_layDown_54, sX11_layDown_57, sX11_layDown_58, sX11_layDown_60, sX11_layDown_63, sX11_layDown_64, sX11_layDown_65, sX11_layDown_68, sX11_layDown_69, sX11_layDown_70, sX11_layDown_73, sX11_layDown_76, ↓hf103_16, ↓hf103_15, ↓hg110, o1, i1, i32_of, Int.toNat_natCast, ea, ↓bndi_at stg, ↓if_pos q, ↓if_pos, ↓if_neg]
    · have n50 : o ≠ 50 := fun y => q (by rw [if_pos y]; omega)
      rw [if_neg n50] at q stg
      have ob : 20 ≤ o ∧ o ≤ 22 := by omega
      obtain ⟨m1, m2, m3, m4, m5, m6, m7⟩ := id ms
      -- taken off, put
      have m4' : fF F 16 (w.length : Int) 103 11 = (t : Int) := by rw [fF_n (by omega)]; exact m4
      obtain ⟨A1, p1, p2, p3, p4⟩ := m_puts (F := fF F 16 (w.length : Int)) (E := E) (s := dec' o) (w := 0) (o := o) m4' ht m6 (by omega) m7 (by unfold dec'; rw [if_neg n50]; omega) (by omega) (by unfold enc dec'; rw [if_neg (by omega), if_neg (by omega), if_neg (by omega), if_neg (by omega), if_neg (by omega), if_neg n50]; omega)
      have cb := c7_b w
      have c7e : c7 (o :: w) = c7 w + (if o = 22 then 1 else 0) := by rw [c7]; congr 1; by_cases y : o = 22; rw [if_pos (Or.inl y), if_pos y]; rw [if_neg (by omega), if_neg y]
      have a110 : A1 110 = A 110 := p2.1 110 (by omega) (by omega)
      have ea1 : A1 110 w.length = dec' o := by rw [a110]; exact ea
      have g16 : fF F 16 (w.length : Int) 103 16 = (w.length : Int) := fF_s
      have g13 : fF F 16 (w.length : Int) 103 13 = c7 w + (if o = 22 then 1 else 0) := by rw [fF_n (by omega), o3, c7e]
      have pt : aup F 103 (fup (F 103) 16 (w.length : Int)) = fF F 16 (w.length : Int) := rfl
      -- where it goes on
      have key : ∃ F1, rn mX11_layDown 0 [vr 103, vi le] [] (HP A F E) = rn mX11_layDown 0 [vr 103, vi le] [] (HP A1 F1 E) ∧ OS A1 F1 w ∧ (∀ k, k ≠ 13 → k ≠ 16 → F1 103 k = F 103 k) ∧ pf1 A F A1 F1 t g := by
        by_cases y : o = 22
        · refine ⟨fF (fF F 16 (w.length : Int)) 13 (c7 w), ?_, ⟨by rw [fF_n (by omega), fF_s], fun k hk => ?_, fF_s, ow.2⟩, fun k a c => by rw [fF_n a, fF_n c], pf1_t (pf1_t (pf1_f (Or.inr (Or.inr (Or.inr (Or.inr (Or.inr rfl)))))) (pf1_0 p2)) (pf1_f (Or.inr (Or.inr (Or.inr (Or.inr (Or.inl rfl))))))⟩
          · rw [if_pos y] at g13
            have d11 : dec' o = 11 := by rw [y]; rfl
            have pt2 : aup (fF F 16 (w.length : Int)) 103 (fup (fF F 16 (w.length : Int) 103) 13 (c7 w)) = fF (fF F 16 (w.length : Int)) 13 (c7 w) := rfl
            rw [d11] at ea ea1 stg p1
            have i2 : c7 w + 1 - 1 = c7 w := by omega
            conv => lhs; rw [sX11_layDown_0]
            simp (disch := omega) only [eX11_layDown, sX11_layDown_1, sX11_layDown_4, sX11_layDown_7, sX11_layDown_8, sX11_layDown_11, sX11_layDown_12, sX11_layDown_15, sX11_layDown_16, sX11_layDown_17, sX11_layDown_18, sX11_layDown_21, sX11_layDown_22, sX11_layDown_25, sX11_layDown_26, sX11_layDown_27, sX11_layDown_30, sX11_layDown_31, sX11_layDown_32, sX11_layDown_35, sX11_layDown_36, sX11_layDown_37, sX11_layDown_40, sX11_layDown_41, sX11_layDown_44, sX11_layDown_45, sX11_layDown_46, sX11_layDown_49, sX11_layDown_50, sX11_layDown_53, sX11_layDown_54, sX11_layDown_57, sX11_layDown_58, sX11_layDown_60, sX11_layDown_63, sX11_layDown_64, sX11_layDown_65, sX11_layDown_68, sX11_layDown_69, sX11_layDown_70, sX11_layDown_73, sX11_layDown_76, ↓hk103, ↓hf103_16, ↓hf103_15, ↓hf103_13, ↓hg110, ↓hp103_16, ↓hp103_13, o1, i1, i2, i32_of, Int.toNat_natCast, ea, ↓bndi_at stg, ↓if_neg q, pt, g16, g13, ↓bndv_at p1, ea1, pt2, ↓if_pos, ↓if_neg, not_true_eq_false, ↓reduceIte]
          · rw [a110, o2 k (by rw [List.length_cons]; omega), wat, if_neg (by omega)]
        · refine ⟨fF F 16 (w.length : Int), ?_, ⟨fF_s, fun k hk => ?_, by rw [g13, if_neg y]; omega, ow.2⟩, fun k _ c => fF_n c, pf1_t (pf1_f (Or.inr (Or.inr (Or.inr (Or.inr (Or.inr rfl)))))) (pf1_0 p2)⟩
          · have d11 : ¬ dec' o = 11 := by unfold dec'; rw [if_neg n50]; omega
            conv => lhs; rw [sX11_layDown_0]
            simp (disch := omega) only [eX11_layDown, sX11_layDown_1, sX11_layDown_4, sX11_layDown_7, sX11_layDown_8, sX11_layDown_11, sX11_layDown_12, sX11_layDown_15, sX11_layDown_16, sX11_layDown_17, sX11_layDown_18, sX11_layDown_21, sX11_layDown_22, sX11_layDown_25, sX11_layDown_26, sX11_layDown_27, sX11_layDown_30, sX11_layDown_31, sX11_layDown_32, sX11_layDown_35, sX11_layDown_36, sX11_layDown_37, sX11_layDown_40, sX11_layDown_41, sX11_layDown_44, sX11_layDown_45, sX11_layDown_46, sX11_layDown_49, sX11_layDown_50, sX11_layDown_53, sX11_layDown_54, sX11_layDown_57, sX11_layDown_58, sX11_layDown_60, sX11_layDown_63, sX11_layDown_64, sX11_layDown_65, sX11_layDown_68, sX11_layDown_69, sX11_layDown_70, sX11_layDown_73, sX11_layDown_76, ↓hk103, ↓hf103_16, ↓hf103_15, ↓hg110, ↓hp103_16, o1, i1, i32_of, Int.toNat_natCast, ea, ↓bndi_at stg, ↓if_neg q, pt, g16, ↓bndv_at p1, ea1, ↓if_pos d11, ↓if_pos, ↓if_neg, not_true_eq_false, ↓reduceIte]
          · rw [a110, o2 k (by rw [List.length_cons]; omega), wat, if_neg (by omega)]
      obtain ⟨F1, k1, k2, k3, k4⟩ := key
      have ms1 : MS A1 F1 b L t g x (o :: M) v := ⟨⟨by rw [k3 1 (by omega) (by omega)]; exact m1.1, m1.2.1, m1.2.2.1, fun j hj => by rw [p2.1 104 (by omega) (by omega)]; exact m1.2.2.2 j hj⟩, ⟨by rw [k3 8 (by omega) (by omega)]; exact m2.1, by rw [k3 8 (by omega) (by omega)]; exact m2.2⟩, by rw [k3 9 (by omega) (by omega)]; exact m3, by rw [k3 11 (by omega) (by omega)]; exact m4, by rw [k3 12 (by omega) (by omega)]; exact m5, p3, p4⟩
      obtain ⟨A2, F2, p, w2, j1, j2, j3, j4, j5, j6, j7, j8⟩ := m_lay_l ht hle w A1 F1 (o :: M) k2 ms1 (by rw [List.length_cons]; omega)
      refine ⟨A2, F2, o :: p, w2, by rw [j1]; rfl, fun p' y => ?_, j3, by rw [k1]; exact j4, j5, ?_, pf1_t k4 j7, fun k a c => (j8 k a c).trans (k3 k a c)⟩
      · rcases List.mem_cons.mp y with y | y
        · rw [y]; exact ⟨by omega, ob⟩
        · exact j2 p' y
      · rw [List.reverse_cons, List.append_assoc]; exact j6
theorem m_layDown (ht : t < 6) {le : Int} (hle : 1 ≤ le ∧ le ≤ 3) (os : OS A F w) (ms : MS A F b L t g x M v) (hl : g + M.length + w.length < 400) : ∃ A' F' p w2, w = p ++ w2 ∧ (∀ o, o ∈ p → le ≤ rkf o ∧ 20 ≤ o ∧ o ≤ 22) ∧ (∀ o r, w2 = o :: r → rkf o < le) ∧ cl mX11_layDown [vr 103, vi le] (HP A F E) = some (vn, HP A' F' E) ∧ OS A' F' w2 ∧ MS A' F' b L t g x (p.reverse ++ M) v ∧ pf1 A F A' F' t g ∧ ∀ k, k ≠ 13 → k ≠ 16 → F' 103 k = F 103 k := by
  obtain ⟨A', F', p, w2, j1, j2, j3, j4, j5⟩ := m_lay_l (E := E) ht hle w A F M os ms hl
  exact ⟨A', F', p, w2, j1, j2, j3, by rw [eX11_layDown]; exact j4, j5⟩
/-- is a bracket open? -/
theorem c50_w : ∀ w : List Int, (c50 w = 0 ↔ ∀ k, k < w.length → wat w k ≠ 50)
  | [] => ⟨fun _ k hk => by simp at hk, fun _ => rfl⟩
  | o :: w => by
    have i := c50_w w
    have cb := c50_b w
    rw [c50]
    constructor
    · intro h k hk
      rw [List.length_cons] at hk
      rw [wat]
      by_cases y : o = 50
      · rw [if_pos y] at h; omega
      · by_cases z : k = w.length
        · rw [if_pos z]; exact y
        · rw [if_neg z]; exact i.mp (by rw [if_neg y] at h; omega) k (by omega)
    · intro h
      have h0 := h w.length (by rw [List.length_cons]; omega)
      rw [wat, if_pos rfl] at h0
      rw [if_neg h0, i.mpr (fun k hk => ?_)]
      · rfl
      · have := h k (by rw [List.length_cons]; omega)
        rw [wat, if_neg (by omega)] at this
        exact this
theorem m_inside_l (os : OS A F w) (hl : w.length ≤ 400) : ∀ (n k : Nat), k + n = w.length → (∀ j, j < k → wat w j ≠ 50) → rn mX11_isInside 2 [vr 103, vi (k : Int)] [] (HP A F E) = some (vi (if c50 w = 0 then 0 else 1), HP A F E) := by
  obtain ⟨o1, o2, o3, o4⟩ := os
  intro n
  induction n with
  | zero =>
    intro k hk hj
    rw [if_pos ((c50_w w).mpr (fun j hj' => hj j (by omega))), sX11_isInside_2]
    simp (disch := omega) only [eX11_isInside, sX11_isInside_0, sX11_isInside_1, sX11_isInside_3, sX11_isInside_4, sX11_isInside_7, sX11_isInside_10, sX11_isInside_11, sX11_isInside_14, sX11_isInside_15, sX11_isInside_16, sX11_isInside_18, sX11_isInside_21, sX11_isInside_22, sX11_isInside_23, sX11_isInside_26, sX11_isInside_29, sX11_isInside_30, ↓hf103_16, o1, ↓if_pos, ↓reduceIte, true_or]
  | succ n ih =>
    intro k hk hj
    have ek := o2 k (by omega)
    rw [sX11_isInside_2]
    by_cases y : wat w k = 50
    · have d : A 110 k = 91 := by rw [ek, y]; rfl
      rw [if_neg (fun q => (c50_w w).mp q k (by omega) y)]
      simp (disch := omega) only [eX11_isInside, sX11_isInside_0, sX11_isInside_1, sX11_isInside_3, sX11_isInside_4, sX11_isInside_7, sX11_isInside_10, sX11_isInside_11, sX11_isInside_14, sX11_isInside_15, sX11_isInside_16, sX11_isInside_18, sX11_isInside_21, sX11_isInside_22, sX11_isInside_23, sX11_isInside_26, sX11_isInside_29, sX11_isInside_30, ↓hf103_16, ↓hf103_15, ↓hg110, Int.toNat_natCast, o1, d, ↓if_pos, ↓if_neg, ↓reduceIte, or_true, not_true_eq_false]
    · have d : ¬ A 110 k = 91 := by
        rw [ek]
        have wm : ∀ (w : List Int) (k : Nat), k < w.length → wat w k ∈ w := by
          intro w
          induction w with
          | nil => intro k hk; simp at hk
          | cons o r ih2 =>
            intro k hk
            rw [wat]
            by_cases z : k = r.length
            · rw [if_pos z]; exact List.mem_cons_self ..
            · rw [if_neg z]; exact List.mem_cons_of_mem _ (ih2 k (by rw [List.length_cons] at hk; omega))
        have := o4 _ (wm w k (by omega))
        unfold dec'; rw [if_neg y]; omega
      rw [← ih (k + 1) (by omega) (fun j hj' => by by_cases z : j = k; rw [z]; exact y; exact hj j (by omega))]
      simp (disch := omega) only [eX11_isInside, sX11_isInside_0, sX11_isInside_1, sX11_isInside_3, sX11_isInside_4, sX11_isInside_7, sX11_isInside_10, sX11_isInside_11, sX11_isInside_14, sX11_isInside_15, sX11_isInside_16, sX11_isInside_18, sX11_isInside_21, sX11_isInside_22, sX11_isInside_23, sX11_isInside_26, sX11_isInside_29, sX11_isInside_30, ↓hf103_16, ↓hf103_15, ↓hg110, Int.toNat_natCast, o1, ↓if_pos d, ↓if_pos, ↓if_neg, i32_s]
theorem m_isInside (os : OS A F w) (hl : w.length ≤ 400) : cl mX11_isInside [vr 103] (HP A F E) = some (vi (if c50 w = 0 then 0 else 1), HP A F E) := by
  have l := m_inside_l (E := E) os hl w.length 0 (by omega) (fun j hj => by omega)
  have l' : rn mX11_isInside 2 [vr 103, vi 0] [] (HP A F E) = _ := l
  rw [← l']
  simp only [eX11_isInside, sX11_isInside_0, sX11_isInside_1, sX11_isInside_3, sX11_isInside_4, sX11_isInside_7, sX11_isInside_10, sX11_isInside_11, sX11_isInside_14, sX11_isInside_15, sX11_isInside_16, sX11_isInside_18, sX11_isInside_21, sX11_isInside_22, sX11_isInside_23, sX11_isInside_26, sX11_isInside_29, sX11_isInside_30]
/-- how many AND and OR are open -/
def nbw : List Int → Nat
  | [] => 0
  | o :: w => nbw w + (if o = 20 ∨ o = 21 then 1 else 0)
theorem nbw_a : ∀ p w : List Int, nbw (p ++ w) = nbw p + nbw w
  | [], w => by rw [List.nil_append, nbw, Nat.zero_add]
  | o :: p, w => by rw [List.cons_append, nbw, nbw, nbw_a p w]; omega
theorem fseg_p {w2 : List Int} : ∀ (p T : List Int), (∀ o, o ∈ p → 20 ≤ o ∧ o ≤ 22) → fseg (nbw (p ++ w2) + 1) T → fseg (nbw w2 + 1) (p.reverse ++ T)
  | [], T, _, h => h
  | o :: p, T, hp, h => by
    have ob := hp o (List.mem_cons_self ..)
    rw [List.reverse_cons, List.append_assoc]
    refine fseg_p p (o :: T) (fun q hq => hp q (List.mem_cons_of_mem _ hq)) ?_
    rw [List.cons_append, nbw] at h
    by_cases y : o = 22
    · rw [if_neg (by omega), Nat.add_zero] at h
      rw [y]; exact fseg_n h
    · rw [if_pos (by omega)] at h
      exact fseg_b h (by omega)
end OP
