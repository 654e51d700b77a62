/-! SheetReader.take, readNumbers -/
def stk (f : Nat → Int) (c : Int) (nf : Nat → Int) : Nat → Int :=
  if c = 0 then fup f 0 (nf 0)
  else if c = 1 then fup (fup (fup (fup f (47 + 7 * (f 1).toNat) (nf 0)) (48 + 7 * (f 1).toNat) (nf 1)) (49 + 7 * (f 1).toNat) (nf 2)) 1 (f 1 + 1)
  else if c = 2 then fup (fup f (3 + nf 0).toNat (nf 1)) (7 + nf 0).toNat (nf 2)
  else fup f (11 + nf 0).toNat 1
section TK
variable {h : zH} {a q n : Nat} {nf : Nat → Int} {c : Int}
theorem S_take (hw : isW h a) (hq : h.2 q = zob 6 [vr n]) (hn : h.2 n = zar 1 3 nf) (d1 : q ≠ wr h a) (d2 : n ≠ wr h a) (c0 : 0 ≤ c) (c1 : c ≤ 3) (n0 : 0 ≤ nf 0) (n35 : nf 0 ≤ 35) (n3 : c = 2 → nf 0 ≤ 3) (g0 : 0 ≤ wf h a 1) (g4 : c = 1 → wf h a 1 ≤ 4) : cl mX7_take [vr q, vi c, vr a] h = some (vn, wst h a (stk (wf h a) c nf)) := by
  have e0 : Int.toNat 0 = 0 := rfl
  have e1 : Int.toNat 1 = 1 := rfl
  have e2 : Int.toNat 2 = 2 := rfl
  have cc : c = 0 ∨ c = 1 ∨ c = 2 ∨ c = 3 := by omega
  unfold stk
  rcases cc with e | e | e | e
  · subst e
    have S := w_set (i := 0) (v := nf 0) hw (by omega) (by omega)
    rw [e0] at S
    simp (disch := omega) only [eX7_take, sX7_take_0, sX7_take_1, sX7_take_4, sX7_take_5, sX7_take_6, sX7_take_7, sX7_take_10, sX7_take_11, sX7_take_12, sX7_take_15, sX7_take_18, sX7_take_19, sX7_take_20, sX7_take_23, sX7_take_24, sX7_take_25, sX7_take_28, sX7_take_29, sX7_take_30, sX7_take_31, sX7_take_34, sX7_take_35, sX7_take_36, sX7_take_37, sX7_take_40, sX7_take_41, sX7_take_42, sX7_take_45, sX7_take_48, sX7_take_49, sX7_take_50, sX7_take_53, sX7_take_54, sX7_take_55, sX7_take_56, sX7_take_59, sX7_take_60, sX7_take_61, sX7_take_62, sX7_take_63, sX7_take_66, sX7_take_67, sX7_take_68, sX7_take_71, sX7_take_72, sX7_take_74, sX7_take_75, sX7_take_78, sX7_take_79, sX7_take_80, sX7_take_81, sX7_take_82, sX7_take_85, sX7_take_86, sX7_take_87, sX7_take_90, sX7_take_93, sX7_take_94, sX7_take_96, sX7_take_97, sX7_take_100, sX7_take_101, sX7_take_102, sX7_take_103, sX7_take_104, sX7_take_107, not_true_eq_false, ↓reduceIte, ↓gfr_at (k := 0) hq rfl, ↓gel_at hn, e0, ↓isW_cell hw, ↓bndv_at S]
  · subst e
    have gg : wf h a 1 = (((wf h a 1).toNat : Nat) : Int) := by omega
    have S := w_addGoer (g := (wf h a 1).toNat) (c := nf 0) (fa := nf 1) (fo := nf 2) hw (by have := g4 rfl; omega) gg
    rw [← gg] at S
    have z1 : ¬ ((1 : Int) = 0) := by omega
    simp (disch := omega) only [eX7_take, sX7_take_0, sX7_take_1, sX7_take_4, sX7_take_5, sX7_take_6, sX7_take_7, sX7_take_10, sX7_take_11, sX7_take_12, sX7_take_15, sX7_take_18, sX7_take_19, sX7_take_20, sX7_take_23, sX7_take_24, sX7_take_25, sX7_take_28, sX7_take_29, sX7_take_30, sX7_take_31, sX7_take_34, sX7_take_35, sX7_take_36, sX7_take_37, sX7_take_40, sX7_take_41, sX7_take_42, sX7_take_45, sX7_take_48, sX7_take_49, sX7_take_50, sX7_take_53, sX7_take_54, sX7_take_55, sX7_take_56, sX7_take_59, sX7_take_60, sX7_take_61, sX7_take_62, sX7_take_63, sX7_take_66, sX7_take_67, sX7_take_68, sX7_take_71, sX7_take_72, sX7_take_74, sX7_take_75, sX7_take_78, sX7_take_79, sX7_take_80, sX7_take_81, sX7_take_82, sX7_take_85, sX7_take_86, sX7_take_87, sX7_take_90, sX7_take_93, sX7_take_94, sX7_take_96, sX7_take_97, sX7_take_100, sX7_take_101, sX7_take_102, sX7_take_103, sX7_take_104, sX7_take_107, ↓if_pos z1, ↓if_neg z1, not_true_eq_false, ↓reduceIte, ↓gfr_at (k := 0) hq rfl, ↓gel_at hn, e0, e1, e2, ↓isW_cell hw, ↓bndv_at S]
  · subst e
    have n3' := n3 rfl
    have S := w_set (i := 3 + nf 0) (v := nf 1) hw (by omega) (by omega)
    have w1 := isW_st (f := fup (wf h a) (3 + nf 0).toNat (nf 1)) hw
    have S2 := w_set (i := 7 + nf 0) (v := nf 2) w1 (by omega) (by omega)
    rw [wf_st hw, wst_st hw] at S2
    have q1 : (wst h a (fup (wf h a) (3 + nf 0).toNat (nf 1))).2 q = zob 6 [vr n] := by rw [wst, zup_n d1]; exact hq
    have m1 : (wst h a (fup (wf h a) (3 + nf 0).toNat (nf 1))).2 n = zar 1 3 nf := by rw [wst, zup_n d2]; exact hn
    have z1 : ¬ ((2 : Int) = 0) := by omega
    have z2 : ¬ ((2 : Int) = 1) := by omega
    have j1 : i32 (3 + nf 0) = 3 + nf 0 := i32_of (by omega) (by omega)
    have j2 : i32 (7 + nf 0) = 7 + nf 0 := i32_of (by omega) (by omega)
    rw [if_neg z1, if_neg z2, if_pos rfl]
    generalize wst h a (fup (wf h a) (3 + nf 0).toNat (nf 1)) = K at *
    simp (disch := omega) only [eX7_take, sX7_take_0, sX7_take_1, sX7_take_4, sX7_take_5, sX7_take_6, sX7_take_7, sX7_take_10, sX7_take_11, sX7_take_12, sX7_take_15, sX7_take_18, sX7_take_19, sX7_take_20, sX7_take_23, sX7_take_24, sX7_take_25, sX7_take_28, sX7_take_29, sX7_take_30, sX7_take_31, sX7_take_34, sX7_take_35, sX7_take_36, sX7_take_37, sX7_take_40, sX7_take_41, sX7_take_42, sX7_take_45, sX7_take_48, sX7_take_49, sX7_take_50, sX7_take_53, sX7_take_54, sX7_take_55, sX7_take_56, sX7_take_59, sX7_take_60, sX7_take_61, sX7_take_62, sX7_take_63, sX7_take_66, sX7_take_67, sX7_take_68, sX7_take_71, sX7_take_72, sX7_take_74, sX7_take_75, sX7_take_78, sX7_take_79, sX7_take_80, sX7_take_81, sX7_take_82, sX7_take_85, sX7_take_86, sX7_take_87, sX7_take_90, sX7_take_93, sX7_take_94, sX7_take_96, sX7_take_97, sX7_take_100, sX7_take_101, sX7_take_102, sX7_take_103, sX7_take_104, sX7_take_107, ↓if_pos z1, ↓if_pos z2, not_true_eq_false, ↓reduceIte, ↓gfr_at (k := 0) hq rfl, ↓gel_at hn, e0, e1, e2, j1, ↓isW_cell hw, ↓bndv_at S, ↓gfr_at (k := 0) q1 rfl, ↓gel_at m1, j2, ↓isW_cell w1, ↓bndv_at S2]
  · subst e
    have S := w_set (i := 11 + nf 0) (v := 1) hw (by omega) (by omega)
    have z1 : ¬ ((3 : Int) = 0) := by omega
    have z2 : ¬ ((3 : Int) = 1) := by omega
    have z3 : ¬ ((3 : Int) = 2) := by omega
    have j1 : i32 (11 + nf 0) = 11 + nf 0 := i32_of (by omega) (by omega)
    rw [if_neg z1, if_neg z2, if_neg z3]
    simp (disch := omega) only [eX7_take, sX7_take_0, sX7_take_1, sX7_take_4, sX7_take_5, sX7_take_6, sX7_take_7, sX7_take_10, sX7_take_11, sX7_take_12, sX7_take_15, sX7_take_18, sX7_take_19, sX7_take_20, sX7_take_23, sX7_take_24, sX7_take_25, sX7_take_28, sX7_take_29, sX7_take_30, sX7_take_31, sX7_take_34, sX7_take_35, sX7_take_36, sX7_take_37, sX7_take_40, sX7_take_41, sX7_take_42, sX7_take_45, sX7_take_48, sX7_take_49, sX7_take_50, sX7_take_53, sX7_take_54, sX7_take_55, sX7_take_56, sX7_take_59, sX7_take_60, sX7_take_61, sX7_take_62, sX7_take_63, sX7_take_66, sX7_take_67, sX7_take_68, sX7_take_71, sX7_take_72, sX7_take_74, sX7_take_75, sX7_take_78, sX7_take_79, sX7_take_80, sX7_take_81, sX7_take_82, sX7_take_85, sX7_take_86, sX7_take_87, sX7_take_90, sX7_take_93, sX7_take_94, sX7_take_96, sX7_take_97, sX7_take_100, sX7_take_101, sX7_take_102, sX7_take_103, sX7_take_104, sX7_take_107, ↓if_pos z1, ↓if_pos z2, ↓if_pos z3, ↓gfr_at (k := 0) hq rfl, ↓gel_at hn, e0, j1, ↓isW_cell hw, ↓bndv_at S]
end TK
/-! the text's state as one thing: place, start, kind, value -/
def tx4 (h : zH) (t y : Nat) (L : Int) (X : Int × Int × Int × Int) : zH := txs h t y L X.1 X.2.1 X.2.2.1 X.2.2.2
section T4
variable {h : zH} {t y : Nat} {L : Int} {f : Nat → Int} {X : Int × Int × Int × Int}
theorem tnx_b {p va : Int} (h0 : 0 ≤ p) (h1 : p ≤ L) (hv : -1 ≤ va ∧ va ≤ 99999) : (0 ≤ (tnx f L p va).2.1 ∧ (tnx f L p va).2.1 ≤ (tnx f L p va).1) ∧ (tnx f L p va).1 ≤ L ∧ -1 ≤ (tnx f L p va).2.2.2 ∧ (tnx f L p va).2.2.2 ≤ 99999 := by
  have b := skp_b (f := f) (L - p).toNat p
  unfold tnx
  generalize skp f (L - p).toNat p = q at *
  split
  · exact ⟨⟨by simp only []; omega, by simp only []; omega⟩, by simp only []; omega, hv⟩
  · split
    · have r := rdn_b (f := f) (L - q).toNat q 0 (Int.le_refl q) (by unfold nin; omega)
      generalize rdn f q (L - q).toNat q 0 = R at *
      refine ⟨⟨by simp only []; omega, by simp only []; omega⟩, by simp only []; omega, ?_, ?_⟩ <;> (simp only []; split <;> omega)
    · split
      · have r := rdw_b (f := f) (L - q).toNat q
        exact ⟨⟨by simp only []; omega, by simp only []; omega⟩, by simp only []; omega, hv⟩
      · have r : q ≤ (rsg f L q (f q.toNat)).1 ∧ (rsg f L q (f q.toNat)).1 ≤ L := by
          unfold rsg
          split
          · rename_i w
            have : q + 1 < L := by
              by_cases z : q + 1 < L
              · exact z
              · have := w.2
                rw [byt_out (by omega)] at this
                omega
            simp only []
            omega
          · simp only []
            omega
        exact ⟨⟨by simp only []; omega, by simp only []; omega⟩, by simp only []; omega, hv⟩
/-- a text's state is right -/
def t4k (L : Int) (X : Int × Int × Int × Int) : Prop := (0 ≤ X.2.1 ∧ 0 ≤ X.1) ∧ X.1 ≤ L ∧ -1 ≤ X.2.2.2 ∧ X.2.2.2 ≤ 99999
theorem t4_next (hy : h.2 y = zar 1 400 f) (ne : y ≠ t) (hL : L ≤ 400) (hX : t4k L X) (hf : ∀ j, 0 ≤ f j ∧ f j ≤ 255) : cl mX8_next [vr t] (tx4 h t y L X) = some (vn, tx4 h t y L (tnx f L X.1 X.2.2.2)) ∧ t4k L (tnx f L X.1 X.2.2.2) ∧ (tnx f L X.1 X.2.2.2).2.1 ≤ (tnx f L X.1 X.2.2.2).1 := by
  obtain ⟨⟨x1, x2⟩, x3, x4, x5⟩ := hX
  have b := tnx_b (f := f) (L := L) (p := X.1) (va := X.2.2.2) x2 x3 ⟨x4, x5⟩
  exact ⟨T_next hy ne hL x2 x3 hf, ⟨⟨b.1.1, by omega⟩, b.2.1, b.2.2.1, b.2.2.2⟩, b.1.2⟩
end T4
