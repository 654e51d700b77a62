/-! longest -/
def outN (Q : (Int → Int) → Int) (G g : Nat) : Nat → (Nat → Int) → Int
  | 0, _ => 0
  | n + 1, f => (if psa Q G f (50 + 7 * g) = 1 then 1 else 0) + outN Q G g n (psa Q G f)
theorem outN_b {Q : (Int → Int) → Int} {G g : Nat} : ∀ (n : Nat) (f : Nat → Int), 0 ≤ outN Q G g n f ∧ outN Q G g n f ≤ n
  | 0, _ => by rw [outN]; omega
  | n + 1, f => by
    have := outN_b (Q := Q) (G := G) (g := g) n (psa Q G f)
    rw [outN]
    split <;> omega
/-- the one with most, of several the least -/
def amx (T : Nat → Int) : Nat → Nat → Nat → Nat
  | 0, _, w => w
  | n + 1, g, w => amx T n (g + 1) (if T w < T g then g else w)
theorem amx_b {T : Nat → Int} : ∀ (n g w : Nat), w < g → amx T n g w < g + n
  | 0, g, w, h => by rw [amx]; omega
  | n + 1, g, w, h => by
    rw [amx]
    have := amx_b (T := T) n (g + 1) (if T w < T g then g else w) (by split <;> omega)
    omega
theorem amx_c {T T' : Nat → Int} : ∀ (n g w : Nat), w < g → (∀ j, j < g + n → T j = T' j) → amx T n g w = amx T' n g w
  | 0, _, _, _, _ => rfl
  | n + 1, g, w, h, k => by
    rw [amx, amx, k w (by omega), k g (by omega)]
    exact amx_c n (g + 1) _ (by split <;> omega) (fun j hj => k j (by omega))
section LO
variable {A F : Nat → Nat → Int} {E : zE} {G : Nat} {Q : (Int → Int) → Int} {f s0 f0 : Nat → Int}
theorem c_co0 {m : Int} : ∀ (n g : Nat) (A F : Nat → Nat → Int) (x3 : zV), g + n = 5 → ∃ W, rn mX10_countOut 2 [vr 1, vi m, vi (g : Int), x3] [] (HP A F E) = rn mX10_countOut 20 [vr 1, vi m, vi 5, x3] [] (HP (aup A 65 W) F E) ∧ ∀ j, W j = if g ≤ j ∧ j < 5 then 0 else A 65 j := by
  intro n
  induction n with
  | zero =>
    intro g A F x3 hg
    have : g = 5 := by omega
    subst this
    refine ⟨A 65, ?_, fun j => by rw [if_neg (by omega)]⟩
    rw [sX10_countOut_2, aup_id]
    simp (disch := omega) only [eX10_countOut, sX10_countOut_0, sX10_countOut_1, sX10_countOut_3, sX10_countOut_4, sX10_countOut_7, sX10_countOut_8, sX10_countOut_11, sX10_countOut_12, sX10_countOut_13, sX10_countOut_14, sX10_countOut_17, sX10_countOut_21, sX10_countOut_24, sX10_countOut_25, sX10_countOut_27, sX10_countOut_28, sX10_countOut_31, sX10_countOut_32, sX10_countOut_35, sX10_countOut_36, sX10_countOut_39, sX10_countOut_42, sX10_countOut_43, sX10_countOut_45, sX10_countOut_46, sX10_countOut_49, sX10_countOut_50, sX10_countOut_53, sX10_countOut_54, sX10_countOut_55, sX10_countOut_56, sX10_countOut_57, sX10_countOut_58, sX10_countOut_61, sX10_countOut_64, sX10_countOut_65, sX10_countOut_68, sX10_countOut_69, sX10_countOut_70, sX10_countOut_73, sX10_countOut_74, sX10_countOut_77, sX10_countOut_78, sX10_countOut_81, sX10_countOut_82, sX10_countOut_83, sX10_countOut_84, sX10_countOut_87, sX10_countOut_90, sX10_countOut_93, sX10_countOut_96, ↓if_pos]
    rfl
  | succ n ih =>
    intro g A F x3 hg
    obtain ⟨W, r1, r2⟩ := ih (g + 1) (aup A 65 (fup (A 65) g 0)) F x3 (by omega)
    rw [aup_aup] at r1
    refine ⟨W, ?_, fun j => ?_⟩
    · rw [← r1, sX10_countOut_2]
      simp (disch := omega) only [eX10_countOut, sX10_countOut_0, sX10_countOut_1, sX10_countOut_3, sX10_countOut_4, sX10_countOut_7, sX10_countOut_8, sX10_countOut_11, sX10_countOut_12, sX10_countOut_13, sX10_countOut_14, sX10_countOut_17, sX10_countOut_21, sX10_countOut_24, sX10_countOut_25, sX10_countOut_27, sX10_countOut_28, sX10_countOut_31, sX10_countOut_32, sX10_countOut_35, sX10_countOut_36, sX10_countOut_39, sX10_countOut_42, sX10_countOut_43, sX10_countOut_45, sX10_countOut_46, sX10_countOut_49, sX10_countOut_50, sX10_countOut_53, sX10_countOut_54, sX10_countOut_55, sX10_countOut_56, sX10_countOut_57, sX10_countOut_58, sX10_countOut_61, sX10_countOut_64, sX10_countOut_65, sX10_countOut_68, sX10_countOut_69, sX10_countOut_70, sX10_countOut_73, sX10_countOut_74, sX10_countOut_77, sX10_countOut_78, sX10_countOut_81, sX10_countOut_82, sX10_countOut_83, sX10_countOut_84, sX10_countOut_87, sX10_countOut_90, sX10_countOut_93, sX10_countOut_96, ↓hf1_15, ↓hs65, Int.toNat_natCast, ↓if_neg, i32_s]
    · rw [r2, aup_s]
      by_cases q : j = g
      · subst q; rw [if_neg (by omega), if_pos (by omega), fup_s]
      · by_cases q2 : g ≤ j ∧ j < 5
        · rw [if_pos (by omega), if_pos q2]
        · rw [if_neg (by omega), if_neg q2, fup_n q]
def oI (f : Nat → Int) (G g : Nat) : Int := if g < G ∧ f (50 + 7 * g) = 1 then 1 else 0
theorem c_co_in {m k : Int} : ∀ (n g : Nat) (A F : Nat → Nat → Int), g + n = 5 → A 13 1 = (G : Int) → G ≤ 5 → (∀ j, g ≤ j → j < 5 → 0 ≤ A 65 j ∧ A 65 j ≤ 10000) → ∃ W, rn mX10_countOut 44 [vr 1, vi m, vi k, vi (g : Int)] [] (HP A F E) = rn mX10_countOut 90 [vr 1, vi m, vi k, vi 5] [] (HP (aup A 65 W) F E) ∧ ∀ j, W j = if g ≤ j ∧ j < 5 then A 65 j + oI (A 15) G j else A 65 j := by
  intro n
  induction n with
  | zero =>
    intro g A F hg hn hG5 hb
    have : g = 5 := by omega
    subst this
    refine ⟨A 65, ?_, fun j => by rw [if_neg (by omega)]⟩
    rw [sX10_countOut_44, aup_id]
    simp (disch := omega) only [eX10_countOut, sX10_countOut_0, sX10_countOut_1, sX10_countOut_3, sX10_countOut_4, sX10_countOut_7, sX10_countOut_8, sX10_countOut_11, sX10_countOut_12, sX10_countOut_13, sX10_countOut_14, sX10_countOut_17, sX10_countOut_20, sX10_countOut_21, sX10_countOut_24, sX10_countOut_25, sX10_countOut_27, sX10_countOut_28, sX10_countOut_31, sX10_countOut_32, sX10_countOut_35, sX10_countOut_36, sX10_countOut_39, sX10_countOut_42, sX10_countOut_43, sX10_countOut_45, sX10_countOut_46, sX10_countOut_49, sX10_countOut_50, sX10_countOut_53, sX10_countOut_54, sX10_countOut_55, sX10_countOut_56, sX10_countOut_57, sX10_countOut_58, sX10_countOut_61, sX10_countOut_64, sX10_countOut_65, sX10_countOut_68, sX10_countOut_69, sX10_countOut_70, sX10_countOut_73, sX10_countOut_74, sX10_countOut_77, sX10_countOut_78, sX10_countOut_81, sX10_countOut_82, sX10_countOut_83, sX10_countOut_84, sX10_countOut_87, sX10_countOut_93, sX10_countOut_96, ↓if_pos]
    rfl
  | succ n ih =>
    intro g A F hg hn hG5 hb
    have hbg := hb g (by omega) (by omega)
    have ob : 0 ≤ oI (A 15) G g ∧ oI (A 15) G g ≤ 1 := by unfold oI; split <;> omega
    obtain ⟨W, r1, r2⟩ := ih (g + 1) (aup A 65 (fup (A 65) g (A 65 g + oI (A 15) G g))) F (by omega) (by rw [aup_n (by omega)]; exact hn) hG5 (fun j j1 j2 => by rw [aup_s, fup_n (by omega)]; exact hb j (by omega) j2)
    rw [aup_aup] at r1
    have go := E_goers (A := A) (F := F) (E := E)
    rw [hn] at go
    have st := c_of3 (A := A) (F := F) (E := E) (p := g) (by omega)
    refine ⟨W, ?_, fun j => ?_⟩
    · rw [← r1, sX10_countOut_44]
      unfold oI
      by_cases z : g < G
      · by_cases z1 : A 15 (50 + 7 * g) = 1
        · rw [if_pos ⟨z, z1⟩]
          simp (disch := omega) only [eX10_countOut, sX10_countOut_0, sX10_countOut_1, sX10_countOut_3, sX10_countOut_4, sX10_countOut_7, sX10_countOut_8, sX10_countOut_11, sX10_countOut_12, sX10_countOut_13, sX10_countOut_14, sX10_countOut_17, sX10_countOut_20, sX10_countOut_21, sX10_countOut_24, sX10_countOut_25, sX10_countOut_27, sX10_countOut_28, sX10_countOut_31, sX10_countOut_32, sX10_countOut_35, sX10_countOut_36, sX10_countOut_39, sX10_countOut_42, sX10_countOut_43, sX10_countOut_45, sX10_countOut_46, sX10_countOut_49, sX10_countOut_50, sX10_countOut_53, sX10_countOut_54, sX10_countOut_55, sX10_countOut_56, sX10_countOut_57, sX10_countOut_58, sX10_countOut_61, sX10_countOut_64, sX10_countOut_65, sX10_countOut_68, sX10_countOut_69, sX10_countOut_70, sX10_countOut_73, sX10_countOut_74, sX10_countOut_77, sX10_countOut_78, sX10_countOut_81, sX10_countOut_82, sX10_countOut_83, sX10_countOut_84, sX10_countOut_87, sX10_countOut_93, sX10_countOut_96, ↓hk1, ↓hf1_15, ↓hf1_9, ↓hk14, ↓hg65, ↓hs65, Int.toNat_natCast, ↓bndi_at go, ↓bndi_at st, ↓if_neg, ↓if_pos, i32_of]
          rfl
        · rw [if_neg (fun q => z1 q.2)]
          simp (disch := omega) only [eX10_countOut, sX10_countOut_0, sX10_countOut_1, sX10_countOut_3, sX10_countOut_4, sX10_countOut_7, sX10_countOut_8, sX10_countOut_11, sX10_countOut_12, sX10_countOut_13, sX10_countOut_14, sX10_countOut_17, sX10_countOut_20, sX10_countOut_21, sX10_countOut_24, sX10_countOut_25, sX10_countOut_27, sX10_countOut_28, sX10_countOut_31, sX10_countOut_32, sX10_countOut_35, sX10_countOut_36, sX10_countOut_39, sX10_countOut_42, sX10_countOut_43, sX10_countOut_45, sX10_countOut_46, sX10_countOut_49, sX10_countOut_50, sX10_countOut_53, sX10_countOut_54, sX10_countOut_55, sX10_countOut_56, sX10_countOut_57, sX10_countOut_58, sX10_countOut_61, sX10_countOut_64, sX10_countOut_65, sX10_countOut_68, sX10_countOut_69, sX10_countOut_70, sX10_countOut_73, sX10_countOut_74, sX10_countOut_77, sX10_countOut_78, sX10_countOut_81, sX10_countOut_82, sX10_countOut_83, sX10_countOut_84, sX10_countOut_87, sX10_countOut_93, sX10_countOut_96, ↓hk1, ↓hf1_15, ↓hf1_9, ↓hk14, ↓hg65, ↓hs65, Int.toNat_natCast, ↓bndi_at go, ↓bndi_at st, ↓if_neg, ↓if_pos, i32_of]
          rfl
      · rw [if_neg (fun q => z q.1)]
        simp (disch := omega) only [eX10_countOut, sX10_countOut_0, sX10_countOut_1, sX10_countOut_3, sX10_countOut_4, sX10_countOut_7, sX10_countOut_8, sX10_countOut_11, sX10_countOut_12, sX10_countOut_13, sX10_countOut_14, sX10_countOut_17, sX10_countOut_20, sX10_countOut_21, sX10_countOut_24, sX10_countOut_25, sX10_countOut_27, sX10_countOut_28, sX10_countOut_31, sX10_countOut_32, sX10_countOut_35, sX10_countOut_36, sX10_countOut_39, sX10_countOut_42, sX10_countOut_43, sX10_countOut_45, sX10_countOut_46, sX10_countOut_49, sX10_countOut_50, sX10_countOut_53, sX10_countOut_54, sX10_countOut_55, sX10_countOut_56, sX10_countOut_57, sX10_countOut_58, sX10_countOut_61, sX10_countOut_64, sX10_countOut_65, sX10_countOut_68, sX10_countOut_69, sX10_countOut_70, sX10_countOut_73, sX10_countOut_74, sX10_countOut_77, sX10_countOut_78, sX10_countOut_81, sX10_countOut_82, sX10_countOut_83, sX10_countOut_84, sX10_countOut_87, sX10_countOut_93, sX10_countOut_96, ↓hk1, ↓hf1_15, ↓hg65, ↓hs65, Int.toNat_natCast, ↓bndi_at go, ↓if_neg, ↓if_pos, i32_of]
        rfl
    · rw [r2, aup_s, aup_n (by omega)]
      by_cases q : j = g
      · subst q; rw [if_neg (by omega), if_pos (by omega), fup_s]
      · by_cases q2 : g ≤ j ∧ j < 5
        · rw [if_pos (by omega), if_pos q2, fup_n q]
        · rw [if_neg (by omega), if_neg q2, fup_n q]
theorem c_co_l {A0 F0 : Nat → Nat → Int} {m : Nat} (h0 : inv A0 F0 E) (hG : A0 13 1 = (G : Int)) (hm : m ≤ 1000) : ∀ (n k : Nat) (A F : Nat → Nat → Int) (x3 : zV), k + n = m → cfr A0 F0 A F → cw A F E G Q (rad (F0 1 5)) → (∀ j, j < 5 → 0 ≤ A 65 j ∧ A 65 j ≤ k) → ∃ A' F', rn mX10_countOut 26 [vr 1, vi (m : Int), vi (k : Int), x3] [] (HP A F E) = some (vn, HP A' F' E) ∧ cfr A0 F0 A' F' ∧ cn 82 (A' 15) ∧ ∀ g, g < G → A' 65 g = A 65 g + outN Q G g n (A 15) := by
  intro n
  induction n with
  | zero =>
    intro k A F x3 hk c h hb
    have : k = m := by omega
    subst this
    refine ⟨A, F, ?_, c, h.2.1, fun g hg => by rw [outN]; omega⟩
    rw [sX10_countOut_26]
    simp (disch := omega) only [eX10_countOut, sX10_countOut_0, sX10_countOut_1, sX10_countOut_3, sX10_countOut_4, sX10_countOut_7, sX10_countOut_8, sX10_countOut_11, sX10_countOut_12, sX10_countOut_13, sX10_countOut_14, sX10_countOut_17, sX10_countOut_20, sX10_countOut_21, sX10_countOut_24, sX10_countOut_25, sX10_countOut_27, sX10_countOut_28, sX10_countOut_31, sX10_countOut_32, sX10_countOut_35, sX10_countOut_36, sX10_countOut_39, sX10_countOut_42, sX10_countOut_43, sX10_countOut_45, sX10_countOut_46, sX10_countOut_49, sX10_countOut_50, sX10_countOut_53, sX10_countOut_54, sX10_countOut_55, sX10_countOut_56, sX10_countOut_57, sX10_countOut_58, sX10_countOut_61, sX10_countOut_64, sX10_countOut_65, sX10_countOut_68, sX10_countOut_69, sX10_countOut_70, sX10_countOut_73, sX10_countOut_74, sX10_countOut_77, sX10_countOut_78, sX10_countOut_81, sX10_countOut_82, sX10_countOut_83, sX10_countOut_84, sX10_countOut_87, sX10_countOut_90, sX10_countOut_93, sX10_countOut_96, ↓if_pos]
  | succ n ih =>
    intro k A F x3 hk c h hb
    have hG5 := h.1.2.1
    obtain ⟨A1, F1, p1, p2, p3, p4, _, _, p5⟩ := c_pass h
    have a65 : A1 65 = A 65 := p5 65 (by omega) (by unfold isk; omega)
    obtain ⟨W, r1, r2⟩ := c_co_in (m := (m : Int)) (k := (k : Int)) (G := G) (E := E) 5 0 A1 F1 (by omega) (by rw [cfr_13 (cfr_t c p3)]; exact hG) hG5 (fun j _ hj => by rw [a65]; have := hb j hj; omega)
    have r1' : rn mX10_countOut 44 [vr 1, vi (m : Int), vi (k : Int), vi 0] [] (HP A1 F1 E) = _ := r1
    have c2 : cfr A0 F0 (aup A1 65 W) F1 := cfr_t (cfr_t c p3) ⟨fun j _ _ j3 _ _ => aup_n j3, fun _ _ _ => rfl⟩
    have h2 : cw (aup A1 65 W) F1 E G Q (rad (F0 1 5)) := ⟨by rw [aup_n (by omega)]; exact p4.1, by rw [aup_n (by omega)]; exact p4.2.1, cR_f p4.2.2 (fun j j1 _ => aup_n (by omega))⟩
    have hW : ∀ j, j < 5 → W j = A 65 j + oI (psa Q G (A 15)) G j := fun j hj => by rw [r2, if_pos (by omega), a65, p2]
    obtain ⟨A2, F2, t1, t2, t3, t4⟩ := ih (k + 1) (aup A1 65 W) F1 (vi 5) (by omega) c2 h2 (fun j hj => by
      have b1 := hb j hj
      have b2 : 0 ≤ oI (psa Q G (A 15)) G j ∧ oI (psa Q G (A 15)) G j ≤ 1 := by unfold oI; split <;> omega
      rw [aup_s, hW j hj]; omega)
    refine ⟨A2, F2, ?_, t2, t3, fun g hg => ?_⟩
    · rw [← t1, sX10_countOut_26]
      simp (disch := omega) only [eX10_countOut, sX10_countOut_0, sX10_countOut_1, sX10_countOut_3, sX10_countOut_4, sX10_countOut_7, sX10_countOut_8, sX10_countOut_11, sX10_countOut_12, sX10_countOut_13, sX10_countOut_14, sX10_countOut_17, sX10_countOut_20, sX10_countOut_21, sX10_countOut_24, sX10_countOut_25, sX10_countOut_27, sX10_countOut_28, sX10_countOut_31, sX10_countOut_32, sX10_countOut_35, sX10_countOut_36, sX10_countOut_39, sX10_countOut_42, sX10_countOut_43, sX10_countOut_45, sX10_countOut_46, sX10_countOut_49, sX10_countOut_50, sX10_countOut_53, sX10_countOut_54, sX10_countOut_55, sX10_countOut_56, sX10_countOut_57, sX10_countOut_58, sX10_countOut_61, sX10_countOut_64, sX10_countOut_65, sX10_countOut_68, sX10_countOut_69, sX10_countOut_70, sX10_countOut_73, sX10_countOut_74, sX10_countOut_77, sX10_countOut_78, sX10_countOut_81, sX10_countOut_82, sX10_countOut_83, sX10_countOut_84, sX10_countOut_87, sX10_countOut_93, sX10_countOut_96, ↓hk1, ↓hf1_9, ↓hk14, ↓bndr_at (c_force h0 c), ↓bndv_at p1, ↓if_neg]
      rw [r1']
      simp (disch := omega) only [eX10_countOut, sX10_countOut_0, sX10_countOut_1, sX10_countOut_3, sX10_countOut_4, sX10_countOut_7, sX10_countOut_8, sX10_countOut_11, sX10_countOut_12, sX10_countOut_13, sX10_countOut_14, sX10_countOut_17, sX10_countOut_20, sX10_countOut_21, sX10_countOut_24, sX10_countOut_25, sX10_countOut_27, sX10_countOut_28, sX10_countOut_31, sX10_countOut_32, sX10_countOut_35, sX10_countOut_36, sX10_countOut_39, sX10_countOut_42, sX10_countOut_43, sX10_countOut_45, sX10_countOut_46, sX10_countOut_49, sX10_countOut_50, sX10_countOut_53, sX10_countOut_54, sX10_countOut_55, sX10_countOut_56, sX10_countOut_57, sX10_countOut_58, sX10_countOut_61, sX10_countOut_64, sX10_countOut_65, sX10_countOut_68, sX10_countOut_69, sX10_countOut_70, sX10_countOut_73, sX10_countOut_74, sX10_countOut_77, sX10_countOut_78, sX10_countOut_81, sX10_countOut_82, sX10_countOut_83, sX10_countOut_84, sX10_countOut_87, sX10_countOut_90, sX10_countOut_93, sX10_countOut_96, i32_s]
    · rw [t4 g hg, aup_s, aup_n (by omega), hW g (by omega), p2, outN]
      have : oI (psa Q G (A 15)) G g = if psa Q G (A 15) (50 + 7 * g) = 1 then 1 else 0 := by
        unfold oI
        by_cases y : psa Q G (A 15) (50 + 7 * g) = 1
        · rw [if_pos ⟨hg, y⟩, if_pos y]
        · rw [if_neg (fun q => y q.2), if_neg y]
      omega
theorem c_countOut {m : Nat} (h : inv A F E) (r : SR1 G (A 13) (A 11) (A 17) (A 18) (A 19) (F 16 3) (A 113)) (q : cR A E (rad (F 1 5)) Q) (hm : m ≤ 1000) : ∃ A' F', cl mX10_countOut [vr 1, vi (m : Int)] (HP A F E) = some (vn, HP A' F' E) ∧ cfr A F A' F' ∧ cn 82 (A' 15) ∧ ∀ g, g < G → A' 65 g = outN Q G g m (A 13) := by
  have hG5 := r.1.2.1
  obtain ⟨W, r1, r2⟩ := c_co0 (m := (m : Int)) (E := E) 5 0 A F vn (by omega)
  have r1' : rn mX10_countOut 2 [vr 1, vi (m : Int), vi 0, vn] [] (HP A F E) = _ := r1
  have c0 : cfr A F (aup A 65 W) F := ⟨fun j _ _ j3 _ _ => aup_n j3, fun _ _ _ => rfl⟩
  obtain ⟨A1, F1, s1, s2, s3, s4, _, s6, _⟩ := c_restart' h r q c0 (by rw [aup_n (by omega)]; exact h.2.2.1.1 14 wad_14)
  have a65 : ∀ j, j < 5 → A1 65 j = 0 := fun j hj => by rw [s6 65 (by omega), aup_s, r2, if_pos (by omega)]
  obtain ⟨A2, F2, t1, t2, t3, t4⟩ := c_co_l h r.1.1 hm m 0 A1 F1 vn (by omega) s3 s4 (fun j hj => by rw [a65 j hj]; omega)
  have t1' : rn mX10_countOut 26 [vr 1, vi (m : Int), vi 0, vn] [] (HP A1 F1 E) = _ := t1
  refine ⟨A2, F2, ?_, t2, t3, fun g hg => by rw [t4 g hg, a65 g (by omega), s2]; omega⟩
  simp (disch := omega) only [eX10_countOut, sX10_countOut_0, sX10_countOut_1, sX10_countOut_3, sX10_countOut_4, sX10_countOut_7, sX10_countOut_8, sX10_countOut_11, sX10_countOut_12, sX10_countOut_13, sX10_countOut_14, sX10_countOut_17, sX10_countOut_21, sX10_countOut_24, sX10_countOut_25, sX10_countOut_27, sX10_countOut_28, sX10_countOut_31, sX10_countOut_32, sX10_countOut_35, sX10_countOut_36, sX10_countOut_39, sX10_countOut_42, sX10_countOut_43, sX10_countOut_45, sX10_countOut_46, sX10_countOut_49, sX10_countOut_50, sX10_countOut_53, sX10_countOut_54, sX10_countOut_55, sX10_countOut_56, sX10_countOut_57, sX10_countOut_58, sX10_countOut_61, sX10_countOut_64, sX10_countOut_65, sX10_countOut_68, sX10_countOut_69, sX10_countOut_70, sX10_countOut_73, sX10_countOut_74, sX10_countOut_77, sX10_countOut_78, sX10_countOut_81, sX10_countOut_82, sX10_countOut_83, sX10_countOut_84, sX10_countOut_87, sX10_countOut_90, sX10_countOut_93, sX10_countOut_96]
  rw [r1']
  simp (disch := omega) only [eX10_countOut, sX10_countOut_0, sX10_countOut_1, sX10_countOut_3, sX10_countOut_4, sX10_countOut_7, sX10_countOut_8, sX10_countOut_11, sX10_countOut_12, sX10_countOut_13, sX10_countOut_14, sX10_countOut_17, sX10_countOut_20, sX10_countOut_21, sX10_countOut_24, sX10_countOut_25, sX10_countOut_27, sX10_countOut_28, sX10_countOut_31, sX10_countOut_32, sX10_countOut_35, sX10_countOut_36, sX10_countOut_39, sX10_countOut_42, sX10_countOut_43, sX10_countOut_45, sX10_countOut_46, sX10_countOut_49, sX10_countOut_50, sX10_countOut_53, sX10_countOut_54, sX10_countOut_55, sX10_countOut_56, sX10_countOut_57, sX10_countOut_58, sX10_countOut_61, sX10_countOut_64, sX10_countOut_65, sX10_countOut_68, sX10_countOut_69, sX10_countOut_70, sX10_countOut_73, sX10_countOut_74, sX10_countOut_77, sX10_countOut_78, sX10_countOut_81, sX10_countOut_82, sX10_countOut_83, sX10_countOut_84, sX10_countOut_87, sX10_countOut_90, sX10_countOut_93, sX10_countOut_96, ↓hk1, ↓bndv_at s1]
  exact t1'
end LO
