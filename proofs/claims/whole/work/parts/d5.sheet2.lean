/-! a sheet's clauses in the model -/
/-- the model's reading against the class's row, so many clauses behind -/
def shR (R W : Nat → Int) (n : Int) : Prop := R 0 = (if n = 0 then 0 else 1) ∧ R 1 = W 0 ∧ R 2 = W 1 ∧ (∀ e, e < 4 → R (105 + e) = W (3 + e)) ∧ (∀ e, e < 4 → R (86 + e) = W (7 + e)) ∧ (∀ c, c < 36 → R (109 + c) = W (11 + c)) ∧ ∀ g, g < 5 → R (90 + 3 * g) = W (47 + 7 * g) ∧ R (91 + 3 * g) = W (48 + 7 * g) ∧ R (92 + 3 * g) = W (49 + 7 * g)
/-- the row while a sheet is read -/
def swo (W : Nat → Int) (n : Int) : Prop := cn 82 W ∧ (n = 0 → W = wz) ∧ (n ≠ 0 → 2 ≤ W 0 ∧ W 2 = 0 ∧ (∀ g, g < 5 → W (50 + 7 * g) = 0 ∧ W (51 + 7 * g) = 0 ∧ W (52 + 7 * g) = 0 ∧ W (53 + 7 * g) = 0) ∧ ∃ G, wok W G)
theorem swo_k {W : Nat → Int} {n : Int} (h : swo W n) : swk W := by
  by_cases q : n = 0
  · rw [h.2.1 q]; exact ⟨by decide, by decide⟩
  · obtain ⟨_, _, _, G, g⟩ := h.2.2 q
    have := g.1
    have := g.2.1
    have := g.2.2.1
    exact ⟨by omega, by omega, by omega⟩
/-- numbers that fit a clause -/
def nok (W : Nat → Int) (c : Int) (nf : Nat → Int) : Prop := ∀ j : Nat, j < smn c → (if c = 0 then 2 else 0) ≤ nf j ∧ nf j ≤ smo W c (j : Int)
theorem stk_wo {W nf : Nat → Int} {c n : Int} (h : swo W n) (n0 : 0 ≤ n) (hs : sfc (W 1) c n = -1) (c0 : 0 ≤ c ∧ c ≤ 3) (hn : nok W c nf) : swo (stk W c nf) (n + 1) := by
  have cc : c = 0 ∨ c = 1 ∨ c = 2 ∨ c = 3 := by omega
  unfold sfc at hs
  unfold nok smn smo at hn
  unfold stk
  rcases cc with rfl | rfl | rfl | rfl
  · have nz : n = 0 := by
      rw [if_neg (by omega)] at hs
      by_cases q : n = 0
      · exact q
      · rw [if_pos (Or.inl ⟨rfl, q⟩)] at hs; omega
    have a := hn 0 (by decide)
    simp only [if_true] at a
    rw [if_pos rfl, h.2.1 nz]
    refine ⟨cn_up (by rw [← h.2.1 nz]; exact h.1) (by omega), fun q => by omega, fun _ => ⟨by rw [fup_s]; exact a.1, by rw [fup_n (by omega)]; decide, fun g hg => ?_, 0, ?_⟩⟩
    · refine ⟨?_, ?_, ?_, ?_⟩ <;> (rw [fup_n (by omega)]; unfold wz; rw [if_neg (by omega)])
    · refine ⟨by rw [fup_n (by omega)]; decide, by omega, by rw [fup_s]; omega, fun e he => ?_, fun e he => ?_, fun e he => ?_, fun g hg => by omega⟩
      · rw [fup_n (by omega)]; unfold wz; rw [if_pos (by omega)]; omega
      · rw [fup_n (by omega)]; unfold wz; rw [if_neg (by omega)]; omega
      · rw [fup_n (by omega)]; unfold wz; rw [if_neg (by omega)]; omega
  · have nz : n ≠ 0 ∧ W 1 < 5 := by
      rw [if_neg (by omega)] at hs
      by_cases q : n = 0
      · rw [if_pos (Or.inr (Or.inl ⟨by omega, q⟩))] at hs; omega
      · by_cases y : 5 ≤ W 1
        · rw [if_pos (Or.inr (Or.inr (Or.inl ⟨rfl, y⟩)))] at hs; omega
        · exact ⟨q, by omega⟩
    have a0 := hn 0 (by decide)
    have a1 := hn 1 (by decide)
    have a2 := hn 2 (by decide)
    simp at a0 a1 a2
    obtain ⟨w0, w2, wg, G, wk⟩ := h.2.2 nz.1
    obtain ⟨k1, k2, k3, k4, k5, k6, k7⟩ := wk
    have eG : (W 1).toNat = G := by omega
    rw [if_neg (by omega), if_pos rfl, eG]
    refine ⟨cn_up (cn_up (cn_up (cn_up h.1 (by omega)) (by omega)) (by omega)) (by omega), fun q => by omega, fun _ => ⟨?_, ?_, fun g hg => ?_, G + 1, ?_⟩⟩
    · simp (disch := omega) only [fup_n]; exact w0
    · simp (disch := omega) only [fup_n]; exact w2
    · simp (disch := omega) only [fup_n]; exact wg g hg
    · refine ⟨by rw [fup_s]; omega, by omega, ?_, fun e he => ?_, fun e he => ?_, fun e he => ?_, fun g hg => ?_⟩
      · simp (disch := omega) only [fup_n]; exact k3
      · simp (disch := omega) only [fup_n]; exact k4 e he
      · simp (disch := omega) only [fup_n]; exact k5 e he
      · simp (disch := omega) only [fup_n]; exact k6 e he
      · have g0 := wg g (by omega)
        unfold gok
        by_cases y : g = G
        · subst y
          simp (disch := omega) only [fup_s, fup_n]
          refine ⟨by omega, by omega, by omega, by omega, by omega, fun _ => by omega, fun q => by omega, fun _ => by omega⟩
        · have kg := k7 g (by omega)
          unfold gok at kg
          simp (disch := omega) only [fup_n]
          exact kg
  · have nz : n ≠ 0 := by
      rw [if_neg (by omega)] at hs
      by_cases q : n = 0
      · rw [if_pos (Or.inr (Or.inl ⟨by omega, q⟩))] at hs; omega
      · exact q
    have a0 := hn 0 (by decide)
    have a1 := hn 1 (by decide)
    have a2 := hn 2 (by decide)
    simp at a0 a1 a2
    obtain ⟨w0, w2, wg, G, wk⟩ := h.2.2 nz
    obtain ⟨i, hi⟩ : ∃ i : Nat, nf 0 = (i : Int) := ⟨(nf 0).toNat, by omega⟩
    rw [if_neg (by omega), if_neg (by omega), if_pos rfl, show (3 + nf 0).toNat = 3 + i by omega, show (7 + nf 0).toNat = 7 + i by omega]
    have wk1 : wok (fup W (3 + i) (nf 1)) G := wok_ld wk (by omega) ⟨by omega, by omega⟩
    refine ⟨cn_up (cn_up h.1 (by omega)) (by omega), fun q => by omega, fun _ => ⟨?_, ?_, fun g hg => ?_, G, ?_⟩⟩
    · simp (disch := omega) only [fup_n]; exact w0
    · simp (disch := omega) only [fup_n]; exact w2
    · simp (disch := omega) only [fup_n]; exact wg g hg
    · obtain ⟨k1, k2, k3, k4, k5, k6, k7⟩ := wk1
      refine ⟨by rw [fup_n (by omega)]; exact k1, k2, by rw [fup_n (by omega)]; exact k3, fun e he => by rw [fup_n (by omega)]; exact k4 e he, fun e he => ?_, fun e he => by rw [fup_n (by omega)]; exact k6 e he, fun g hg => ?_⟩
      · by_cases y : e = i
        · subst y; rw [fup_s]; omega
        · rw [fup_n (by omega)]; exact k5 e he
      · have kg := k7 g hg
        unfold gok at kg ⊢
        simp (disch := omega) only [fup_n] at kg ⊢
        exact kg
  · have nz : n ≠ 0 := by
      rw [if_neg (by omega)] at hs
      by_cases q : n = 0
      · rw [if_pos (Or.inr (Or.inl ⟨by omega, q⟩))] at hs; omega
      · exact q
    have a0 := hn 0 (by decide)
    simp at a0
    obtain ⟨w0, w2, wg, G, wk⟩ := h.2.2 nz
    have sq := sq_b (s := W 0) (by omega) wk.2.2.1.2
    obtain ⟨i, hi⟩ : ∃ i : Nat, nf 0 = (i : Int) := ⟨(nf 0).toNat, by omega⟩
    rw [if_neg (by omega), if_neg (by omega), if_neg (by omega), show (11 + nf 0).toNat = 11 + i by omega]
    refine ⟨cn_up h.1 (by omega), fun q => by omega, fun _ => ⟨?_, ?_, fun g hg => ?_, G, wok_st wk (by omega) ⟨by omega, by omega⟩⟩⟩
    · simp (disch := omega) only [fup_n]; exact w0
    · simp (disch := omega) only [fup_n]; exact w2
    · simp (disch := omega) only [fup_n]; exact wg g hg
/-- one clause, as the class reads it -/
def scl (b : Nat → Int) (L n : Int) (W : Nat → Int) (X : Int × Int × Int × Int) (nf : Nat → Int) (c : Int) : Int × (Nat → Int) × (Int × Int × Int × Int) × (Nat → Int) :=
  if sfc (W 1) c n = -1 then
    (if (rnu b W L c (smn c) 0 (tnx b L X.1 X.2.2.2) nf).1 = -1 then (0, stk W c (rnu b W L c (smn c) 0 (tnx b L X.1 X.2.2.2) nf).2.2, (rnu b W L c (smn c) 0 (tnx b L X.1 X.2.2.2) nf).2.1, (rnu b W L c (smn c) 0 (tnx b L X.1 X.2.2.2) nf).2.2)
    else (1 + 8 * (rnu b W L c (smn c) 0 (tnx b L X.1 X.2.2.2) nf).2.1.2.1 + (rnu b W L c (smn c) 0 (tnx b L X.1 X.2.2.2) nf).1, W, (rnu b W L c (smn c) 0 (tnx b L X.1 X.2.2.2) nf).2.1, (rnu b W L c (smn c) 0 (tnx b L X.1 X.2.2.2) nf).2.2))
  else (1 + 8 * (tnx b L X.1 X.2.2.2).2.1 + sfc (W 1) c n, W, tnx b L X.1 X.2.2.2, nf)
/-- what the model's reading of a sheet leaves -/
def sfr (A F A' F' : Nat → Nat → Int) : Prop := (∀ j, j ≠ 109 → A' j = A j) ∧ (∀ j, j ≠ 103 → F' j = F j) ∧ ∀ k, k ≠ 8 → k ≠ 9 → k ≠ 10 → k ≠ 14 → F' 103 k = F 103 k
theorem sfr_r {A F : Nat → Nat → Int} : sfr A F A F := ⟨fun _ _ => rfl, fun _ _ => rfl, fun _ _ _ _ _ => rfl⟩
theorem sfr_t {A F A1 F1 A2 F2 : Nat → Nat → Int} (h : sfr A F A1 F1) (k : sfr A1 F1 A2 F2) : sfr A F A2 F2 := ⟨fun j a => (k.1 j a).trans (h.1 j a), fun j a => (k.2.1 j a).trans (h.2.1 j a), fun j a c d e => (k.2.2 j a c d e).trans (h.2.2 j a c d e)⟩
theorem sfr_n {A F F1 : Nat → Nat → Int} (h : nfr F F1) : sfr A F A F1 := ⟨fun _ _ => rfl, h.1, fun k a c d _ => h.2 k a c d⟩
theorem sfr_a {A F : Nat → Nat → Int} {g : Nat → Int} : sfr A F (aup A 109 g) F := ⟨fun j a => aup_n a, fun _ _ => rfl, fun _ _ _ _ _ => rfl⟩
theorem sfr_f {A F : Nat → Nat → Int} {k : Nat} {v : Int} (hk : k = 8 ∨ k = 9 ∨ k = 10 ∨ k = 14) : sfr A F A (fF F k v) := ⟨fun _ _ => rfl, fun j a => fF_o a, fun j a c d e => fF_n (by omega)⟩
