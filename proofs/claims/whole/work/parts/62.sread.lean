/-! SheetReader.read -/
def srd (f cw : Nat → Int) (N : Nat) (L : Int) : Nat → Int → (Nat → Int) → Int × Int × Int × Int → (Nat → Int) → Int × (Nat → Int) × (Int × Int × Int × Int) × (Nat → Int)
  | 0, _, W, X, nf => (1 + 8 * X.2.1 + 4, W, X, nf)
  | m + 1, b, W, X, nf =>
    let X1 := tnx f L X.1 X.2.2.2
    let c := if X1.2.2.1 = -3 then wrd cw f N X1.2.1 X1.1 (N + 1) 0 0 0 else -1
    if sfc (W 1) c b = -1 then
      let R := rnu f W L c (smn c) 0 X1 nf
      if R.1 = -1 then
        let X2 := tnx f L R.2.1.1 R.2.1.2.2.2
        if X2.2.2.1 = -1 then (0, stk W c R.2.2, X2, R.2.2)
        else if X2.2.2.1 = 59 then srd f cw N L m (b + 1) (stk W c R.2.2) X2 R.2.2
        else (1 + 8 * X2.2.1 + 0, stk W c R.2.2, X2, R.2.2)
      else (1 + 8 * R.2.1.2.1 + R.1, W, R.2.1, R.2.2)
    else (1 + 8 * X1.2.1 + sfc (W 1) c b, W, X1, nf)
theorem rnu_s {f W : Nat → Int} {L c : Int} (hL : L ≤ 400) : ∀ (m k : Nat) (X : Int × Int × Int × Int) (nf : Nat → Int), t4k L X → X.2.1 ≤ 400 → (rnu f W L c m k X nf).2.1.2.1 ≤ 400 := by
  intro m
  induction m with
  | zero => intro k X nf _ h; exact h
  | succ m ih =>
    intro k X nf h _
    obtain ⟨⟨x1, x2⟩, x3, x4, x5⟩ := h
    have b := tnx_b (f := f) (L := L) (p := X.1) (va := X.2.2.2) x2 x3 ⟨x4, x5⟩
    have b' : t4k L (tnx f L X.1 X.2.2.2) := ⟨⟨b.1.1, by omega⟩, b.2.1, b.2.2.1, b.2.2.2⟩
    have b2 : (tnx f L X.1 X.2.2.2).2.1 ≤ 400 := by omega
    rw [rnu]
    generalize (if c = 0 then (2 : Int) else 0) = le at *
    split
    · split
      · exact ih _ _ _ b' b2
      · exact b2
    · exact b2
/-- what a sheet's world keeps while it is read -/
def swk (W : Nat → Int) : Prop := (0 ≤ W 0 ∧ W 0 ≤ 6) ∧ 0 ≤ W 1 ∧ W 1 ≤ 5
theorem sfc_in {G c b : Int} (h : sfc G c b = -1) : ¬ c = -1 ∧ (c = 1 → G < 5) := by
  unfold sfc at h
  split at h
  · omega
  · rename_i q
    split at h
    · omega
    · rename_i w
      exact ⟨q, fun e => by omega⟩
theorem sfc_b {G c b : Int} : -1 ≤ sfc G c b ∧ sfc G c b ≤ 4 := by
  unfold sfc
  split
  · omega
  · split <;> omega
theorem stk_ok {W nf : Nat → Int} {c : Int} (h : swk W) (c0 : 0 ≤ c) (c3 : c ≤ 3) (g : c = 1 → W 1 < 5) (n0 : c = 0 → 2 ≤ nf 0 ∧ nf 0 ≤ 6) (np : 0 ≤ nf 0) : swk (stk W c nf) := by
  obtain ⟨⟨h1, h2⟩, h3, h4⟩ := h
  unfold stk
  have cc : c = 0 ∨ c = 1 ∨ c = 2 ∨ c = 3 := by omega
  rcases cc with e | e | e | e
  · have := n0 e
    subst e
    rw [if_pos rfl]
    refine ⟨?_, ?_⟩
    · rw [fup_s]; omega
    · rw [fup_n (by omega)]; omega
  · have := g e
    subst e
    rw [if_neg (by omega), if_pos rfl]
    refine ⟨?_, ?_⟩
    · rw [fup_n (by omega), fup_n (by omega), fup_n (by omega), fup_n (by omega)]; omega
    · rw [fup_s]; omega
  · subst e
    rw [if_neg (by omega), if_neg (by omega), if_pos rfl]
    refine ⟨?_, ?_⟩
    · rw [fup_n (by omega), fup_n (by omega)]; omega
    · rw [fup_n (by omega), fup_n (by omega)]; omega
  · subst e
    rw [if_neg (by omega), if_neg (by omega), if_neg (by omega)]
    refine ⟨?_, ?_⟩
    · rw [fup_n (by omega)]; omega
    · rw [fup_n (by omega)]; omega
