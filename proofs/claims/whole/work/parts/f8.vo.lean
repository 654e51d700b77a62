/-! what the class's orders are, along a run -/
def okO (o : Int) : Prop := (0 ≤ o ∧ o ≤ 10) ∨ (20 ≤ o ∧ o ≤ 32) ∨ o = 40 ∨ o = 41 ∨ (100 ≤ o ∧ o ≤ 100099)
def vO (O : List Int) (v : Nat → Int) : Prop := (pvn O : Int) ≤ v 6 ∧ ∀ o, o ∈ O → okO o
section VO
variable {O W : List Int} {v b : Nat → Int} {L : Int}
theorem stl2_v {rk : Int} (h0 : 0 ≤ rk) : ∀ (W O : List Int), (∀ o, o ∈ W → (20 ≤ o ∧ o ≤ 32) ∨ o = 50) → pvn (stl2 rk W O).1 = pvn O ∧ ((∀ o, o ∈ O → okO o) → ∀ o, o ∈ (stl2 rk W O).1 → okO o)
  | [], O, _ => ⟨rfl, fun h => h⟩
  | o :: W, O, hw => by
    rw [stl2]
    by_cases q : rkf o < rk
    · rw [if_pos q]; exact ⟨rfl, fun h => h⟩
    · rw [if_neg q]
      dsimp only
      have ob : 20 ≤ o ∧ o ≤ 32 := by
        rcases hw o (List.mem_cons_self ..) with y | y
        · exact y
        · exact absurd (by rw [y, rkf_50]; omega) q
      have i := stl2_v h0 W (o :: O) (fun p hp => hw p (List.mem_cons_of_mem _ hp))
      refine ⟨by rw [i.1, pvn, if_neg (by omega), Nat.add_zero], fun h => i.2 (fun p hp => ?_)⟩
      rcases List.mem_cons.mp hp with y | y
      · rw [y]; exact Or.inr (Or.inl ob)
      · exact h p y
theorem tk_vO {kd va s : Int} (hw : ∀ o, o ∈ W → (20 ≤ o ∧ o ≤ 32) ∨ o = 50) (hv : -1 ≤ va ∧ va ≤ 99999) (h : vO O v) (w : (tkS kd va b L s O W v).1 = -1) : vO (tkS kd va b L s O W v).2.1 (tkS kd va b L s O W v).2.2.2 := by
  have s1 : ∀ rk, 0 ≤ rk → ∀ v' : Nat → Int, v 6 ≤ v' 6 → vO (stl2 rk W O).1 v' := fun rk hr v' h6 => by
    have := stl2_v hr W O hw
    exact ⟨by rw [this.1]; have := h.1; omega, this.2 h.2⟩
  have hval : ∀ v : Nat → Int, vO O v → vO (tkVal kd va b L s O W v).2.1 (tkVal kd va b L s O W v).2.2.2 := by
    intro v h
    unfold tkVal
    split
    · exact h
    · rename_i z
      split
      · exact h
      · rename_i z2
        dsimp only
        have vb := tkV_b (b := b) (L := L) (s := s)
        refine ⟨?_, fun o q => ?_⟩
        · rw [fup_s, pvn]
          have := h.1
          have pl : ∀ c : Int, (if 100 ≤ c ∨ c ≤ 10 then 1 else 0) ≤ (1 : Nat) := fun c => by split <;> omega
          have := pl (if kd = -2 then 100 + va else tkV b L s)
          omega
        · rcases List.mem_cons.mp q with y | y
          · rw [y]
            by_cases k : kd = -2
            · rw [if_pos k]; exact Or.inr (Or.inr (Or.inr (Or.inr (by omega))))
            · rw [if_neg k]; exact Or.inl (by omega)
          · exact h.2 o y
  have hend : vO (tkEnd kd O W v).2.1 (tkEnd kd O W v).2.2.2 := by
    unfold tkEnd
    split
    · exact h
    · dsimp only
      have a := s1 0 (by omega) v (Int.le_refl _)
      refine ⟨?_, fun o q => ?_⟩
      · rw [fup_n (by omega), fup_n (by omega), pvn, if_neg (by split <;> omega), Nat.add_zero]; exact a.1
      · rcases List.mem_cons.mp q with y | y
        · rw [y]; split
          · exact Or.inr (Or.inr (Or.inl rfl))
          · exact Or.inr (Or.inr (Or.inr (Or.inl rfl)))
        · exact a.2 o y
  have hbt : vO (tkBT kd b L s O W v).2.1 (tkBT kd b L s O W v).2.2.2 := by
    unfold tkBT
    split
    · exact hend
    · exact s1 0 (by omega) _ (by dsimp only; simp (disch := omega) only [fup_n]; exact Int.le_refl _)
  have jb := jop_b (b := b) (L := L) (s := s)
  have rj : 0 ≤ rkf (jop b L s) := by have := rkf_b (o := jop b L s) (by omega); omega
  have hbf : vO (tkBF kd b L s O W v).2.1 (tkBF kd b L s O W v).2.2.2 := by
    unfold tkBF
    split
    · exact s1 _ rj _ (by dsimp only; simp (disch := omega) only [fup_n]; exact Int.le_refl _)
    · split
      · exact hend
      · split
        · exact h
        · exact s1 0 (by omega) _ (by dsimp only; simp (disch := omega) only [fup_n]; exact Int.le_refl _)
  have ob := opf_b (k := kd)
  unfold tkS
  split
  · unfold tkTurn
    split
    · exact h
    · dsimp only; refine ⟨?_, h.2⟩; simp (disch := omega) only [fup_n]; exact h.1
  · split
    · exact hval v h
    · split
      · unfold tkFact
        split
        · exact hval _ ⟨by rw [fup_n (by omega)]; exact h.1, h.2⟩
        · dsimp only; refine ⟨?_, h.2⟩; simp (disch := omega) only [fup_n]; exact h.1
      · split
        · unfold tkBV
          split
          · exact s1 _ (by have := rkf_b (o := opf kd) (by omega); omega) _ (by dsimp only; simp (disch := omega) only [fup_n]; exact Int.le_refl _)
          · split
            · exact hbt
            · split
              · exact hbf
              · split
                · exact h
                · exact s1 _ (by have := rkf_b (o := opf kd) (by omega); omega) _ (by dsimp only; rw [fup_s]; omega)
        · exact hbf
theorem nxs_vO {σ : zS} (c : cok L σ) (h : vO σ.2.2.1 σ.2.2.2.2) (w : (tkr b L σ).1 = -1) : vO (nxs b L σ).2.2.1 (nxs b L σ).2.2.2.2 := by
  have tb := t_pl (b := b) (L := L) (p := σ.1) (va := σ.2.1) c.2.1 c.2.2
  exact tk_vO c.1.1 tb.2 h w
theorem crn_vO (hb : ∀ j, 0 ≤ b j ∧ b j ≤ 255) : ∀ (n : Nat) (σ τ : zS), cok L σ → crn b L n σ τ → vO σ.2.2.1 σ.2.2.2.2 → vO τ.2.2.1 τ.2.2.2.2
  | 0, σ, τ, _, r, h => by have e : τ = σ := r; rw [e]; exact h
  | n + 1, σ, τ, c, r, h => crn_vO hb n (nxs b L σ) τ (nxs_ok hb c r.1).1 r.2.2 (nxs_vO c h r.1)
end VO
