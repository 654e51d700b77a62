/-! SheetReader.readNumbers, whole; what it leaves -/
def smn (c : Int) : Nat := if c = 1 ∨ c = 2 then 3 else 1
section RO
variable {f W : Nat → Int} {L c : Int}
theorem rnu_t (hf : ∀ j, 0 ≤ f j ∧ f j ≤ 255) : ∀ (m k : Nat) (X : Int × Int × Int × Int) (nf : Nat → Int), t4k L X → t4k L (rnu f W L c m k X nf).2.1 := by
  intro m
  induction m with
  | zero => intro k X nf h; exact h
  | succ m ih =>
    intro k X nf h
    obtain ⟨⟨x1, x2⟩, x3, x4, x5⟩ := h
    have b := tnx_b (f := f) (L := L) (p := X.1) (va := X.2.2.2) x2 x3 ⟨x4, x5⟩
    have b' : t4k L (tnx f L X.1 X.2.2.2) := ⟨⟨b.1.1, by omega⟩, b.2.1, b.2.2.1, b.2.2.2⟩
    rw [rnu]
    generalize (if c = 0 then (2 : Int) else 0) = le at *
    split
    · split
      · exact ih _ _ _ b'
      · exact b'
    · exact b'
theorem rnu_n : ∀ (m k : Nat) (X : Int × Int × Int × Int) (nf : Nat → Int), (∀ j, j < k → (rnu f W L c m k X nf).2.2 j = nf j) ∧ ((rnu f W L c m k X nf).1 = -1 → ∀ j, k ≤ j → j < k + m → (if c = 0 then 2 else 0) ≤ (rnu f W L c m k X nf).2.2 j ∧ (rnu f W L c m k X nf).2.2 j ≤ smo W c (j : Int)) := by
  intro m
  induction m with
  | zero => intro k X nf; exact ⟨fun j _ => rfl, fun _ j h1 h2 => by omega⟩
  | succ m ih =>
    intro k X nf
    rw [rnu]
    generalize (if c = 0 then (2 : Int) else 0) = le at *
    split
    · split
      · rename_i w
        obtain ⟨i1, i2⟩ := ih (k + 1) (tnx f L X.1 X.2.2.2) (fup nf k (tnx f L X.1 X.2.2.2).2.2.2)
        refine ⟨fun j hj => by rw [i1 j (by omega), fup_n (by omega)], fun hr j h1 h2 => ?_⟩
        by_cases e : j = k
        · subst e
          rw [i1 j (by omega), fup_s]
          exact w
        · exact i2 hr j (by omega) (by omega)
      · exact ⟨fun j _ => rfl, fun hr => absurd (show (1 : Int) = -1 from hr) (by decide)⟩
    · exact ⟨fun j _ => rfl, fun hr => absurd (show (0 : Int) = -1 from hr) (by decide)⟩
theorem rnu_w : ∀ (m k : Nat) (X : Int × Int × Int × Int) (nf : Nat → Int), (rnu f W L c m k X nf).1 = -1 ∨ (rnu f W L c m k X nf).1 = 0 ∨ (rnu f W L c m k X nf).1 = 1 := by
  intro m
  induction m with
  | zero => intro k X nf; exact Or.inl rfl
  | succ m ih =>
    intro k X nf
    rw [rnu]
    generalize (if c = 0 then (2 : Int) else 0) = le at *
    split
    · split
      · exact ih _ _ _
      · exact Or.inr (Or.inr rfl)
    · exact Or.inr (Or.inl rfl)
end RO
section RW
variable {h : zH} {t y a q n : Nat} {L c : Int} {f nf : Nat → Int} {X : Int × Int × Int × Int}
theorem S_readNumbers (hy : h.2 y = zar 1 400 f) (hf : ∀ j, 0 ≤ f j ∧ f j ≤ 255) (hL : L ≤ 400) (hw : isW h a) (w0 : 0 ≤ wf h a 0) (w6 : wf h a 0 ≤ 6) (hq : h.2 q = zob 6 [vr n]) (c0 : 0 ≤ c) (c3 : c ≤ 3) (d1 : y ≠ t) (d2 : y ≠ n) (d3 : a ≠ t) (d4 : a ≠ n) (d5 : wr h a ≠ t) (d6 : wr h a ≠ n) (d7 : q ≠ t) (d8 : q ≠ n) (d9 : n ≠ t) (hX : t4k L X) : cl mX7_readNumbers [vr q, vi c, vr t, vr a] (tx4 (zup h n (zar 1 3 nf)) t y L X) = some (vi (rnu f (wf h a) L c (smn c) 0 X nf).1, tx4 (zup h n (zar 1 3 (rnu f (wf h a) L c (smn c) 0 X nf).2.2)) t y L (rnu f (wf h a) L c (smn c) 0 X nf).2.1) := by
  unfold smn
  by_cases c1 : c = 1
  · have l := S_rnu_l (c := c) (many := 3) hy hf hL hw w0 w6 hq c0 c3 (by omega) d1 d2 d3 d4 d5 d6 d7 d8 d9 3 0 X nf vn (by omega) hX
    rw [if_pos (Or.inl c1)]
    subst c1
    simp only [eX7_readNumbers, sX7_readNumbers_0, sX7_readNumbers_1, sX7_readNumbers_2, sX7_readNumbers_5, sX7_readNumbers_6, sX7_readNumbers_7, sX7_readNumbers_10, sX7_readNumbers_11, sX7_readNumbers_14, sX7_readNumbers_15, sX7_readNumbers_17, sX7_readNumbers_18, sX7_readNumbers_22, sX7_readNumbers_24, sX7_readNumbers_27, sX7_readNumbers_28, sX7_readNumbers_31, sX7_readNumbers_32, sX7_readNumbers_35, sX7_readNumbers_37, sX7_readNumbers_40, sX7_readNumbers_41, sX7_readNumbers_42, sX7_readNumbers_43, sX7_readNumbers_46, sX7_readNumbers_47, sX7_readNumbers_50, sX7_readNumbers_51, sX7_readNumbers_53, sX7_readNumbers_54, sX7_readNumbers_57, sX7_readNumbers_59, sX7_readNumbers_60, sX7_readNumbers_62, sX7_readNumbers_63, sX7_readNumbers_66, sX7_readNumbers_69, sX7_readNumbers_72, sX7_readNumbers_73, sX7_readNumbers_74, sX7_readNumbers_75, sX7_readNumbers_78, sX7_readNumbers_80, sX7_readNumbers_81, sX7_readNumbers_84, sX7_readNumbers_85, sX7_readNumbers_88, sX7_readNumbers_91, sX7_readNumbers_92, ↓reduceIte]
    exact l
  · by_cases c2 : c = 2
    · have l := S_rnu_l (c := c) (many := 3) hy hf hL hw w0 w6 hq c0 c3 (by omega) d1 d2 d3 d4 d5 d6 d7 d8 d9 3 0 X nf vn (by omega) hX
      rw [if_pos (Or.inr c2)]
      subst c2
      simp only [eX7_readNumbers, sX7_readNumbers_0, sX7_readNumbers_1, sX7_readNumbers_2, sX7_readNumbers_5, sX7_readNumbers_6, sX7_readNumbers_7, sX7_readNumbers_10, sX7_readNumbers_11, sX7_readNumbers_14, sX7_readNumbers_15, sX7_readNumbers_17, sX7_readNumbers_18, sX7_readNumbers_22, sX7_readNumbers_24, sX7_readNumbers_27, sX7_readNumbers_28, sX7_readNumbers_31, sX7_readNumbers_32, sX7_readNumbers_35, sX7_readNumbers_37, sX7_readNumbers_40, sX7_readNumbers_41, sX7_readNumbers_42, sX7_readNumbers_43, sX7_readNumbers_46, sX7_readNumbers_47, sX7_readNumbers_50, sX7_readNumbers_51, sX7_readNumbers_53, sX7_readNumbers_54, sX7_readNumbers_57, sX7_readNumbers_59, sX7_readNumbers_60, sX7_readNumbers_62, sX7_readNumbers_63, sX7_readNumbers_66, sX7_readNumbers_69, sX7_readNumbers_72, sX7_readNumbers_73, sX7_readNumbers_74, sX7_readNumbers_75, sX7_readNumbers_78, sX7_readNumbers_80, sX7_readNumbers_81, sX7_readNumbers_84, sX7_readNumbers_85, sX7_readNumbers_88, sX7_readNumbers_91, sX7_readNumbers_92, ↓if_neg c1, not_true_eq_false, ↓reduceIte]
      exact l
    · have l := S_rnu_l (c := c) (many := 1) hy hf hL hw w0 w6 hq c0 c3 (by omega) d1 d2 d3 d4 d5 d6 d7 d8 d9 1 0 X nf vn (by omega) hX
      rw [if_neg (by omega)]
      simp only [eX7_readNumbers, sX7_readNumbers_0, sX7_readNumbers_1, sX7_readNumbers_2, sX7_readNumbers_5, sX7_readNumbers_6, sX7_readNumbers_7, sX7_readNumbers_10, sX7_readNumbers_11, sX7_readNumbers_14, sX7_readNumbers_15, sX7_readNumbers_17, sX7_readNumbers_18, sX7_readNumbers_22, sX7_readNumbers_24, sX7_readNumbers_27, sX7_readNumbers_28, sX7_readNumbers_31, sX7_readNumbers_32, sX7_readNumbers_35, sX7_readNumbers_37, sX7_readNumbers_40, sX7_readNumbers_41, sX7_readNumbers_42, sX7_readNumbers_43, sX7_readNumbers_46, sX7_readNumbers_47, sX7_readNumbers_50, sX7_readNumbers_51, sX7_readNumbers_53, sX7_readNumbers_54, sX7_readNumbers_57, sX7_readNumbers_59, sX7_readNumbers_60, sX7_readNumbers_62, sX7_readNumbers_63, sX7_readNumbers_66, sX7_readNumbers_69, sX7_readNumbers_72, sX7_readNumbers_73, sX7_readNumbers_74, sX7_readNumbers_75, sX7_readNumbers_78, sX7_readNumbers_80, sX7_readNumbers_81, sX7_readNumbers_84, sX7_readNumbers_85, sX7_readNumbers_88, sX7_readNumbers_91, sX7_readNumbers_92, ↓if_neg c1, ↓if_pos c2]
      exact l
end RW
