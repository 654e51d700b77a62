/-! the class's marks: as many as clauses ended -/
def mkn : List Int → Int
  | [] => 0
  | o :: M => mkn M + (if o = 40 ∨ o = 41 then 1 else 0)
theorem mkn_b : ∀ M : List Int, 0 ≤ mkn M
  | [] => by rw [mkn]; omega
  | o :: M => by rw [mkn]; have := mkn_b M; split <;> omega
theorem mkn_app : ∀ (M N : List Int), mkn (M ++ N) = mkn M + mkn N
  | [], N => by rw [List.nil_append, mkn]; omega
  | o :: M, N => by rw [List.cons_append, mkn, mkn, mkn_app M N]; omega
theorem mkn_0 : ∀ M : List Int, mkn M = 0 → ∀ o, o ∈ M → o ≠ 40 ∧ o ≠ 41
  | [], _, o, h => by cases h
  | p :: M, e, o, h => by
    rw [mkn] at e
    have := mkn_b M
    rcases List.mem_cons.mp h with y | y
    · rw [y]
      by_cases q : p = 40 ∨ p = 41
      · rw [if_pos q] at e; omega
      · omega
    · by_cases q : p = 40 ∨ p = 41
      · rw [if_pos q] at e; omega
      · rw [if_neg q] at e; exact mkn_0 M (by omega) o y
theorem mkn_K : ∀ K : zK, (K.length : Int) ≤ mkn (Ofl K) ∧ (mkn (Ofl K) = (K.length : Int) → ∀ c, c ∈ K → mkn (mof c) = 0)
  | [] => ⟨by rw [Ofl, mkn]; exact Int.le_refl _, fun _ c h => by cases h⟩
  | c :: K => by
    have i := mkn_K K
    have b := mkn_b (mof c)
    have e : mkn (Ofl (c :: K)) = mkn (mof c) + mkn (Ofl K) + 1 := by
      rw [Ofl, mkn, mkn_app]
      by_cases q : c.2 = none
      · rw [if_pos q, if_pos (Or.inl rfl)]
      · rw [if_neg q, if_pos (Or.inr rfl)]
    rw [e, List.length_cons]
    refine ⟨by omega, fun h d hd => ?_⟩
    rcases List.mem_cons.mp hd with y | y
    · rw [y]; omega
    · exact i.2 (by omega) d y
def mks (O : List Int) (v : Nat → Int) : Prop := mkn O + (if v 4 = 0 then 0 else 1) = v 5
section MK
variable {O W : List Int} {v b : Nat → Int} {L : Int}
theorem stl2_m {rk : Int} (h0 : 0 ≤ rk) : ∀ (W O : List Int), (∀ o, o ∈ W → (20 ≤ o ∧ o ≤ 32) ∨ o = 50) → mkn (stl2 rk W O).1 = mkn O
  | [], O, _ => rfl
  | o :: W, O, hw => by
    rw [stl2]
    by_cases q : rkf o < rk
    · rw [if_pos q]
    · rw [if_neg q]
      dsimp only
      have ob : 20 ≤ o ∧ o ≤ 32 := by
        rcases hw o (List.mem_cons_self ..) with y | y
        · exact y
        · exact absurd (by rw [y, rkf_50]; omega) q
      rw [stl2_m h0 W (o :: O) (fun p hp => hw p (List.mem_cons_of_mem _ hp)), mkn, if_neg (by omega), Int.add_zero]
theorem tk_m {kd va s : Int} (hw : ∀ o, o ∈ W → (20 ≤ o ∧ o ≤ 32) ∨ o = 50) (hv : -1 ≤ va ∧ va ≤ 99999) (v40 : 0 ≤ v 4 ∧ v 4 ≤ 4) (h : mks O v) (w : (tkS kd va b L s O W v).1 = -1) : mks (tkS kd va b L s O W v).2.1 (tkS kd va b L s O W v).2.2.2 := by
  have s1 : ∀ rk, 0 ≤ rk → v 4 ≠ 0 → ∀ v' : Nat → Int, v' 4 ≠ 0 → v' 5 = v 5 → mks (stl2 rk W O).1 v' := fun rk hr h4 v' h4' h5 => by
    unfold mks at *
    rw [stl2_m hr W O hw, h5, if_neg h4']
    rw [if_neg h4] at h
    exact h
  have hval : ∀ v : Nat → Int, v 4 ≠ 0 → mks O v → mks (tkVal kd va b L s O W v).2.1 (tkVal kd va b L s O W v).2.2.2 := by
    intro v h4 h
    unfold tkVal
    split
    · exact h
    · rename_i z
      split
      · exact h
      · rename_i z2
        dsimp only
        have vb := tkV_b (b := b) (L := L) (s := s)
        unfold mks at *
        rw [if_neg h4] at h
        have c4 : fup (fup v 4 3) 6 (v 6 + 1) 4 ≠ 0 := by rw [fup_n (by omega), fup_s]; omega
        rw [mkn, if_neg c4, fup_n (by omega), fup_n (by omega)]
        have nm : ¬ ((if kd = -2 then 100 + va else tkV b L s) = 40 ∨ (if kd = -2 then 100 + va else tkV b L s) = 41) := by
          by_cases k : kd = -2
          · rw [if_pos k]; omega
          · rw [if_neg k]; omega
        rw [if_neg nm]
        omega
  have hend : v 4 ≠ 0 → mks (tkEnd kd O W v).2.1 (tkEnd kd O W v).2.2.2 := by
    intro h4
    unfold tkEnd
    split
    · exact h
    · dsimp only
      unfold mks at *
      rw [if_neg h4] at h
      rw [mkn, stl2_m (by omega) W O hw, fup_s, if_pos rfl, fup_n (by omega), fup_n (by omega)]
      have nm : (if v 9 = 0 then (40 : Int) else 41) = 40 ∨ (if v 9 = 0 then (40 : Int) else 41) = 41 := by split <;> omega
      rw [if_pos nm]
      omega
  have hbt : v 4 ≠ 0 → mks (tkBT kd b L s O W v).2.1 (tkBT kd b L s O W v).2.2.2 := by
    intro h4
    unfold tkBT
    split
    · exact hend h4
    · exact s1 0 (by omega) h4 _ (by dsimp only; rw [fup_s]; omega) (by dsimp only; simp (disch := omega) only [fup_n])
  have jb := jop_b (b := b) (L := L) (s := s)
  have rj : 0 ≤ rkf (jop b L s) := by have := rkf_b (o := jop b L s) (by omega); omega
  have hbf : v 4 ≠ 0 → mks (tkBF kd b L s O W v).2.1 (tkBF kd b L s O W v).2.2.2 := by
    intro h4
    unfold tkBF
    split
    · exact s1 _ rj h4 _ (by dsimp only; rw [fup_s]; omega) (by dsimp only; simp (disch := omega) only [fup_n])
    · split
      · exact hend h4
      · split
        · exact h
        · exact s1 0 (by omega) h4 _ (by dsimp only; simp (disch := omega) only [fup_n, fup_s]; omega) (by dsimp only; simp (disch := omega) only [fup_n])
  have ob := opf_b (k := kd)
  unfold tkS
  split
  · rename_i z0
    unfold tkTurn
    split
    · exact h
    · dsimp only
      unfold mks at *
      rw [if_pos z0] at h
      rw [fup_s, if_neg (by omega)]
      simp (disch := omega) only [fup_n, fup_s]
      omega
  · rename_i z0
    split
    · exact hval v z0 h
    · split
      · unfold tkFact
        split
        · refine hval _ (by rw [fup_n (by omega)]; exact z0) ?_
          unfold mks at *
          simp (disch := omega) only [fup_n]
          exact h
        · dsimp only
          unfold mks at *
          simp (disch := omega) only [fup_n]
          exact h
      · split
        · unfold tkBV
          split
          · exact s1 _ (by have := rkf_b (o := opf kd) (by omega); omega) z0 _ (by dsimp only; rw [fup_s]; omega) (by dsimp only; simp (disch := omega) only [fup_n])
          · split
            · exact hbt z0
            · split
              · exact hbf z0
              · split
                · exact h
                · exact s1 _ (by have := rkf_b (o := opf kd) (by omega); omega) z0 _ (by dsimp only; simp (disch := omega) only [fup_n, fup_s]; omega) (by dsimp only; simp (disch := omega) only [fup_n])
        · exact hbf z0
theorem nxs_m {σ : zS} (c : cok L σ) (h : mks σ.2.2.1 σ.2.2.2.2) (w : (tkr b L σ).1 = -1) : mks (nxs b L σ).2.2.1 (nxs b L σ).2.2.2.2 := by
  have tb := t_pl (b := b) (L := L) (p := σ.1) (va := σ.2.1) c.2.1 c.2.2
  exact tk_m c.1.1 tb.2 c.1.2.2.2.2.2.2 h w
theorem crn_m (hb : ∀ j, 0 ≤ b j ∧ b j ≤ 255) : ∀ (n : Nat) (σ τ : zS), cok L σ → crn b L n σ τ → mks σ.2.2.1 σ.2.2.2.2 → mks τ.2.2.1 τ.2.2.2.2
  | 0, σ, τ, c, r, h => by have e : τ = σ := r; rw [e]; exact h
  | n + 1, σ, τ, c, r, h => crn_m hb n (nxs b L σ) τ (nxs_ok hb c r.1).1 r.2.2 (nxs_m c h r.1)
end MK
