/-! acts kept and undone: both sides, and what holds then -/
theorem sds_c {w w' f : Nat → Int} (h : sds w f) (k : ∀ j, j < 76 → w' j = w j) : sds w' f := by
  obtain ⟨h1, h2, h3, h4⟩ := h
  refine ⟨by rw [k 0 (by omega)]; exact h1, fun e he => by rw [k _ (by omega)]; exact h2 e he, fun c hc => by rw [k _ (by omega)]; exact h3 c hc, fun g hg => ?_⟩
  have := h4 g hg
  unfold sdg at this ⊢
  rw [k (2 + 7 * g) (by omega), k (3 + 7 * g) (by omega), k (4 + 7 * g) (by omega), k (5 + 7 * g) (by omega), k (6 + 7 * g) (by omega), k (7 + 7 * g) (by omega), k (1 + 7 * g) (by omega)]
  exact this
/-- two rows of one sheet -/
def same (f f' : Nat → Int) : Prop := f' 0 = f 0 ∧ f' 1 = f 1 ∧ ∀ e, e < 4 → f' (7 + e) = f (7 + e)
theorem hrel_c {row w w' f f' : Nat → Int} (h : hrel row w f) (k : ∀ j, j < 76 → w' j = w j) (s : same f f') : hrel row w' f' := by
  obtain ⟨G, h1, h2, h3, h4, h5⟩ := h
  exact ⟨G, h1, by rw [s.1]; exact h2, by rw [s.2.1]; exact h3, fun e he => by rw [s.2.2 e he]; exact h4 e he, sds_c h5.1 k, h5.2⟩
section HK
variable {A F A' F' : Nat → Nat → Int} {E : zE}
theorem hwo {nx : Int} (h0 : 0 ≤ nx) (h1 : nx < 20) : (hWo nx.toNat).toNat = 22 + 2 * nx.toNat := by
  have : hWo nx.toNat = 22 + 2 * (nx.toNat : Int) := if_pos (by omega)
  rw [this]; omega
theorem wad_h {n : Nat} (h : n < 20) : wad (22 + 2 * n) := by unfold wad; omega
theorem h_keep (h : iH A F) (hW : iW A) : cl mX2_keep [vr 20, vr 12] (HP A F E) = some (vn, HP (aup A (23 + 2 * (F 20 1).toNat) (A 13)) (aup (aup F (22 + 2 * (F 20 1).toNat) (fup (F (22 + 2 * (F 20 1).toNat)) 1 (-1))) 20 (fup (fup (F 20) 1 (if F 20 1 + 1 < 20 then F 20 1 + 1 else 0)) 2 (if F 20 2 + 1 < 20 then F 20 2 + 1 else 20))) E) := by
  obtain ⟨h1, h2, h3, h4⟩ := h
  have e := hwo h1.1 h1.2
  have wb : wad (22 + 2 * (F 20 1).toNat) := wad_h (by omega)
  have w1 := hp_w (A := A) (F := F) (E := E) wb
  have w2 := hp_w (A := A) (F := F) (E := E) wad_12
  have k := H_keep (h := HP A F E) (s := 20) (w := 21) (now := 12) (kd := 6) (ar := hWo) (nx := F 20 1) (sz := F 20 2) rfl rfl (Or.inr (Or.inr rfl)) h1.1 h1.2 h2.1 h2.2 (by rw [e]; exact w1.1) w2.1 (by rw [e, w1.2.2.2]; exact hW.1 _ wb) (by rw [w2.2.2.2]; exact hW.1 _ wad_12) (by rw [e]; omega) (by rw [e, w1.2.1]; omega)
  rw [e, w2.2.2.2, hp_st wb, hp_lu wb] at k
  rw [k]
  congr 2
  have z : hc E 20 (aup A (22 + 2 * (F 20 1).toNat + 1) (A (12 + 1)) 20) (fup (fup (F 20) 1 (if F 20 1 + 1 < 20 then F 20 1 + 1 else 0)) 2 (if F 20 2 + 1 < 20 then F 20 2 + 1 else 20)) = zob 1 [vr 21, vi (if F 20 1 + 1 < 20 then F 20 1 + 1 else 0), vi (if F 20 2 + 1 < 20 then F 20 2 + 1 else 20)] := rfl
  rw [zup_HPf z, show 22 + 2 * (F 20 1).toNat + 1 = 23 + 2 * (F 20 1).toNat by omega]
theorem keep_iH (h : iH A F) (self : hrel (A 13) (fun j => A 113 (10 + j)) (A 13)) (a1 : A' (23 + 2 * (F 20 1).toNat) = A 13) (a2 : ∀ j, 22 ≤ j → j < 62 → j ≠ 23 + 2 * (F 20 1).toNat → A' j = A j) (f1 : F' 20 1 = if F 20 1 + 1 < 20 then F 20 1 + 1 else 0) (f2 : F' 20 2 = if F 20 2 + 1 < 20 then F 20 2 + 1 else 20) (f3 : F' 103 24 = if F 103 24 = 20 then 20 else F 103 24 + 1) (w1 : F 103 24 = 20 → ∀ j, j < 1520 → A' 114 j = if j < 1444 then A 114 (j + 76) else A 113 (10 + (j - 1444))) (w2 : F 103 24 < 20 → ∀ j, A' 114 j = if 76 * (F 103 24).toNat ≤ j ∧ j < 76 * (F 103 24).toNat + 76 then A 113 (10 + (j - 76 * (F 103 24).toNat)) else A 114 j) (s : same (A 13) (A' 13)) : iH A' F' := by
  obtain ⟨h1, h2, h3, h4⟩ := h
  have g1 : 0 ≤ F' 20 1 ∧ F' 20 1 < 20 := by rw [f1]; split <;> omega
  have g2 : F' 20 2 = if F 20 2 < 20 then F 20 2 + 1 else 20 := by rw [f2]; split <;> split <;> omega
  refine ⟨g1, by rw [g2]; split <;> omega, by rw [f3, g2, h3]; split <;> split <;> omega, fun u hu => ?_⟩
  rw [h3] at w1 w2
  by_cases z : F 20 2 < 20
  · rw [if_pos z] at g2
    have e : hix (F' 20 1) (F' 20 2) u = hix (F 20 1) (F 20 2) u := by
      unfold hix
      rw [g2, f1]
      split <;> omega
    rw [e]
    by_cases q : (u : Int) = F 20 2
    · have e2 : hix (F 20 1) (F 20 2) u = (F 20 1).toNat := by unfold hix; omega
      rw [e2, a1]
      refine hrel_c self (fun j hj => ?_) s
      show A' 114 (76 * u + j) = _
      rw [w2 z, if_pos (by omega), show 76 * u + j - 76 * (F 20 2).toNat = j by omega]
    · rw [a2 (23 + 2 * hix (F 20 1) (F 20 2) u) (by omega) (by unfold hix; omega) (by unfold hix; omega)]
      refine hrel_c (h4 u (by omega)) (fun j hj => ?_) s
      show A' 114 (76 * u + j) = _
      rw [w2 z, if_neg (by omega)]
  · rw [if_neg z] at g2
    have z20 : F 20 2 = 20 := by omega
    by_cases q : u = 19
    · have e2 : hix (F' 20 1) (F' 20 2) u = (F 20 1).toNat := by
        unfold hix; rw [g2, f1]; split <;> omega
      rw [e2, a1]
      refine hrel_c self (fun j hj => ?_) s
      show A' 114 (76 * u + j) = _
      rw [w1 z20 _ (by omega), if_neg (by omega), show 76 * u + j - 1444 = j by omega]
    · have e2 : hix (F' 20 1) (F' 20 2) u = hix (F 20 1) (F 20 2) (u + 1) := by
        unfold hix; rw [g2, f1, z20]; split <;> omega
      rw [e2, a2 (23 + 2 * hix (F 20 1) (F 20 2) (u + 1)) (by omega) (by unfold hix; omega) (by unfold hix; omega)]
      refine hrel_c (h4 (u + 1) (by omega)) (fun j hj => ?_) s
      show A' 114 (76 * u + j) = _
      rw [w1 z20 _ (by omega), if_pos (by omega), show 76 * u + j + 76 = 76 * (u + 1) + j by omega]
theorem SR1_self {G : Nat} {f t fs fg fc s : Nat → Int} {z : Int} (h : SR1 G f t fs fg fc z s) : hrel f (fun j => s (10 + j)) f := ⟨G, h.1, rfl, rfl, fun _ _ => rfl, h.2.2.2.1.2.2.2, h.2.2.2.2.2.2.2.2.2.2⟩
/-- an act: now is another row of the same sheet, what is said goes with it -/
theorem SR1_act {G : Nat} {f t fs fg fc s f' s' : Nat → Int} {z : Int} (h : SR1 G f t fs fg fc z s) (ho : wok f' G) (s1 : same f f') (hb : 0 ≤ f' 2 ∧ f' 2 ≤ 999) (hs : sdr s' f') (hk : ∀ j, (j < 10 ∨ 86 ≤ j) → s' j = s j) : SR1 G f' t fs fg fc z s' := by
  obtain ⟨h1, h2, h3, h4, h5, h6, h7, h8, h9, h10, h11⟩ := h
  refine ⟨ho, h2, by rw [hk 0 (by omega)]; exact h3, hs, ?_, by rw [s1.1]; exact h6, fun e he => by rw [s1.2.2 e he]; exact h7 e he, h8, by rw [hk 175 (by omega)]; exact h9, fun k hk' => ?_, hb⟩
  · obtain ⟨t1, t2, t3, t4⟩ := h5
    refine ⟨t1, fun e he => by rw [hk _ (by omega)]; exact t2 e he, fun c hc => by rw [hk _ (by omega)]; exact t3 c hc, fun g hg => ?_⟩
    rw [hk (90 + 3 * g) (by omega), hk (91 + 3 * g) (by omega), hk (92 + 3 * g) (by omega)]
    exact t4 g hg
  · have := h10 k hk'
    unfold NR at this ⊢
    rw [hk (145 + 3 * k) (by omega), hk (146 + 3 * k) (by omega), hk (147 + 3 * k) (by omega)]
    exact this
theorem m_undo_l {u : Nat} (hu : u ≤ 19) : ∀ (n k : Nat) (A F : Nat → Nat → Int), k + n = 76 → F 103 24 = (u : Int) → ∃ W, rn mX11_undo 21 [vr 103, vi (k : Int)] [] (HP A F E) = some (vi (u : Int), HP (aup A 113 W) F E) ∧ ∀ j, W j = if 10 + k ≤ j ∧ j < 86 then A 114 (76 * u + (j - 10)) else A 113 j := by
  intro n
  induction n with
  | zero =>
    intro k A F hk h1
    have : k = 76 := by omega
    subst this
    refine ⟨A 113, ?_, fun j => by rw [if_neg (by omega)]⟩
    rw [sX11_undo_21, aup_id]
    simp (disch := omega) only [eX11_undo, sX11_undo_0, sX11_undo_1, sX11_undo_4, sX11_undo_7, sX11_undo_8, sX11_undo_9, sX11_undo_10, sX11_undo_11, sX11_undo_14, sX11_undo_15, sX11_undo_16, sX11_undo_19, sX11_undo_20, sX11_undo_22, sX11_undo_24, sX11_undo_27, sX11_undo_28, sX11_undo_31, sX11_undo_33, sX11_undo_34, sX11_undo_35, sX11_undo_36, sX11_undo_39, sX11_undo_41, sX11_undo_42, sX11_undo_45, sX11_undo_46, sX11_undo_47, sX11_undo_48, sX11_undo_49, sX11_undo_50, sX11_undo_53, sX11_undo_56, sX11_undo_57, sX11_undo_60, ↓hf103_24, ↓if_pos, h1]
  | succ n ih =>
    intro k A F hk h1
    obtain ⟨W, r1, r2⟩ := ih (k + 1) (aup A 113 (fup (A 113) (10 + k) (A 114 (76 * u + k)))) F (by omega) h1
    rw [aup_aup] at r1
    have tn : (76 * (u : Int) + (k : Int)).toNat = 76 * u + k := by omega
    have tn2 : (10 + (k : Int)).toNat = 10 + k := by omega
    refine ⟨W, ?_, fun j => ?_⟩
    · rw [← r1, sX11_undo_21]
      simp (disch := omega) only [eX11_undo, sX11_undo_0, sX11_undo_1, sX11_undo_4, sX11_undo_7, sX11_undo_8, sX11_undo_9, sX11_undo_10, sX11_undo_11, sX11_undo_14, sX11_undo_15, sX11_undo_16, sX11_undo_19, sX11_undo_20, sX11_undo_22, sX11_undo_24, sX11_undo_27, sX11_undo_28, sX11_undo_31, sX11_undo_33, sX11_undo_34, sX11_undo_35, sX11_undo_36, sX11_undo_39, sX11_undo_41, sX11_undo_42, sX11_undo_45, sX11_undo_46, sX11_undo_47, sX11_undo_48, sX11_undo_49, sX11_undo_50, sX11_undo_53, sX11_undo_56, sX11_undo_57, sX11_undo_60, ↓hf103_23, ↓hf103_24, ↓hf103_20, ↓hg114, ↓hs113, ↓if_neg, i32_of, tn, tn2, h1, Int.toNat_natCast]
      rfl
    · rw [r2, aup_s, aup_n (by omega)]
      by_cases q : j = 10 + k
      · subst q; rw [if_neg (by omega), if_pos (by omega), fup_s, show 10 + k - 10 = k by omega]
      · by_cases q2 : 10 + k ≤ j ∧ j < 86
        · rw [if_pos (by omega), if_pos q2]
        · rw [if_neg (by omega), if_neg q2, fup_n q]
theorem h_back (h : iH A F) (hW : iW A) (hz : 0 < F 20 2) : cl mX2_goBack [vr 20, vr 12] (HP A F E) = some (vi (F 20 2 - 1), HP (aup A 13 (A (23 + 2 * (hpr (F 20 1)).toNat))) (aup (aup F 12 (fup (F 12) 1 (-1))) 20 (fup (fup (F 20) 1 (hpr (F 20 1))) 2 (F 20 2 - 1))) E) := by
  obtain ⟨h1, h2, h3, h4⟩ := h
  have hb : 0 ≤ hpr (F 20 1) ∧ hpr (F 20 1) < 20 := by unfold hpr; split <;> omega
  have e := hwo hb.1 hb.2
  have wb : wad (22 + 2 * (hpr (F 20 1)).toNat) := wad_h (by omega)
  have w1 := hp_w (A := A) (F := F) (E := E) wb
  have w2 := hp_w (A := A) (F := F) (E := E) wad_12
  have k := H_back (h := HP A F E) (s := 20) (w := 21) (now := 12) (kd := 6) (ar := hWo) (nx := F 20 1) (sz := F 20 2) rfl rfl (Or.inr (Or.inr rfl)) h1.1 h1.2 (by omega) h2.2 (by rw [e]; exact w1.1) w2.1 (by rw [e, w1.2.2.2]; exact hW.1 _ wb) (by rw [w2.2.2.2]; exact hW.1 _ wad_12) (by omega) (by rw [w2.2.1]; omega) (by rw [e]; omega) (by rw [e, w1.2.1]; omega) (by omega)
  rw [e, w1.2.2.2, hp_st wad_12, hp_lu wad_12] at k
  rw [k]
  congr 2
  have z : hc E 20 (aup A (12 + 1) (A (22 + 2 * (hpr (F 20 1)).toNat + 1)) 20) (fup (fup (F 20) 1 (hpr (F 20 1))) 2 (F 20 2 - 1)) = zob 1 [vr 21, vi (hpr (F 20 1)), vi (F 20 2 - 1)] := rfl
  rw [zup_HPf z, show 22 + 2 * (hpr (F 20 1)).toNat + 1 = 23 + 2 * (hpr (F 20 1)).toNat by omega]
end HK
