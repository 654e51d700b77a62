/-! seen -/
def snN (Q : (Int → Int) → Int) (G p : Nat) : Nat → (Nat → Int) → Nat → Nat
  | 0, _, w => w
  | n + 1, f, w => snN Q G p n (psa Q G f) (if f (50 + 7 * p) = 0 then w ||| 2 ^ (f (47 + 7 * p)).toNat else w)
theorem q_1sh {c : Int} (h0 : 0 ≤ c) (h1 : c < 36) : q42 qlshl 1 c = ((2 ^ c.toNat : Nat) : Int) := by
  have e := q_1sh_dec ⟨c.toNat, by omega⟩
  simp only at e
  rw [← e, show ((c.toNat : Nat) : Int) = c by omega]
theorem pow36 {c : Nat} (h : c < 36) : 2 ^ c < 68719476736 := by
  have : 2 ^ c < 2 ^ 36 := Nat.pow_lt_pow_right (by omega) h
  omega
theorem sumN_e {g g' : Nat → Int} : ∀ n : Nat, (∀ j, j < n → g j = g' j) → sumN g n = sumN g' n
  | 0, _ => rfl
  | n + 1, h => by rw [sumN, sumN, sumN_e n (fun j hj => h j (by omega)), h n (by omega)]
theorem sumN_z {g : Nat → Int} {N : Nat} : ∀ n : Nat, (∀ j, N ≤ j → g j = 0) → sumN g (N + n) = sumN g N
  | 0, _ => rfl
  | n + 1, h => by rw [← Nat.add_assoc, sumN, sumN_z n h, h (N + n) (by omega), Int.add_zero]
section SN
variable {A F : Nat → Nat → Int} {E : zE} {G p : Nat} {Q : (Int → Int) → Int} {s0 : Nat → Int}
theorem c_sn_l {A0 F0 : Nat → Nat → Int} {m : Nat} (h0 : inv A0 F0 E) (hp : p < G) (hm : m ≤ 100) : ∀ (n k : Nat) (A F : Nat → Nat → Int) (w : Nat), k + n = m + 1 → w < 68719476736 → cfr A0 F0 A F → cw A F E G Q (rad (F0 1 5)) → ∃ A' F', rn mX10_seen 29 [vr 1, vi (p : Int), vi (m : Int), vl (w : Int), vs, vi (k : Int)] [] (HP A F E) = some (vi (bcN (snN Q G p n (A 15) w)), HP A' F' E) ∧ cfr A0 F0 A' F' ∧ cw A' F' E G Q (rad (F0 1 5)) := by
  intro n
  induction n with
  | zero =>
    intro k A F w hk hw c h
    have bc := J_bitCount (h := HP A F E) hw
    refine ⟨A, F, ?_, c, h⟩
    rw [sX10_seen_29]
    simp (disch := omega) only [eX10_seen, sX10_seen_0, sX10_seen_1, sX10_seen_2, sX10_seen_5, sX10_seen_8, sX10_seen_9, sX10_seen_10, sX10_seen_12, sX10_seen_15, sX10_seen_18, sX10_seen_19, sX10_seen_20, sX10_seen_21, sX10_seen_24, sX10_seen_25, sX10_seen_26, sX10_seen_27, sX10_seen_31, sX10_seen_32, sX10_seen_35, sX10_seen_36, sX10_seen_39, sX10_seen_40, sX10_seen_43, sX10_seen_46, sX10_seen_47, sX10_seen_48, sX10_seen_49, sX10_seen_52, sX10_seen_53, sX10_seen_54, sX10_seen_57, sX10_seen_58, sX10_seen_59, sX10_seen_60, sX10_seen_61, sX10_seen_64, sX10_seen_65, sX10_seen_68, sX10_seen_71, sX10_seen_74, sX10_seen_77, sX10_seen_78, sX10_seen_81, snN, ↓bndi_at bc, ↓if_pos]
  | succ n ih =>
    intro k A F w hk hw c h
    have g5 := h.1.2.1
    have gk := h.1.2.2.2.2.2.2 p hp
    have sb := h.1.2.2.1
    have sq := sq_b (s := A 15 0) (by omega) sb.2
    unfold gok at gk
    have on := c_isOn (A := A) (F := F) (E := E) (p := p) (by omega)
    have ce := c_of0 (A := A) (F := F) (E := E) (p := p) (by omega)
    obtain ⟨A1, F1, p1, p2, p3, p4, _⟩ := c_pass h
    by_cases z : A 15 (50 + 7 * p) = 0
    · rw [if_pos z] at on
      have cb := gk.2.2.2.2.2.1 z
      have s1 := q_1sh (c := A 15 (47 + 7 * p)) cb.1 (by omega)
      have o1 := q4_orN (a := w) (b := 2 ^ (A 15 (47 + 7 * p)).toNat) hw (pow36 (by omega))
      obtain ⟨A2, F2, t1, t2, t3⟩ := ih (k + 1) A1 F1 (w ||| 2 ^ (A 15 (47 + 7 * p)).toNat) (by omega) o1.2 (cfr_t c p3) p4
      refine ⟨A2, F2, ?_, t2, t3⟩
      rw [snN, if_pos z, ← p2, ← t1, sX10_seen_29]
      simp (disch := omega) only [eX10_seen, sX10_seen_0, sX10_seen_1, sX10_seen_2, sX10_seen_5, sX10_seen_8, sX10_seen_9, sX10_seen_10, sX10_seen_12, sX10_seen_15, sX10_seen_18, sX10_seen_19, sX10_seen_20, sX10_seen_21, sX10_seen_24, sX10_seen_25, sX10_seen_26, sX10_seen_27, sX10_seen_31, sX10_seen_32, sX10_seen_35, sX10_seen_36, sX10_seen_39, sX10_seen_40, sX10_seen_43, sX10_seen_46, sX10_seen_47, sX10_seen_48, sX10_seen_49, sX10_seen_52, sX10_seen_53, sX10_seen_54, sX10_seen_57, sX10_seen_58, sX10_seen_59, sX10_seen_60, sX10_seen_61, sX10_seen_64, sX10_seen_65, sX10_seen_68, sX10_seen_71, sX10_seen_74, sX10_seen_77, sX10_seen_78, sX10_seen_81, ↓hk1, ↓hf1_9, ↓hk14, ↓bndi_at on, ↓bndi_at ce, s1, o1.1, ↓bndr_at (c_force h0 c), ↓bndv_at p1, ↓if_neg, ↓if_pos, i32_s]
    · rw [if_neg z] at on
      obtain ⟨A2, F2, t1, t2, t3⟩ := ih (k + 1) A1 F1 w (by omega) hw (cfr_t c p3) p4
      refine ⟨A2, F2, ?_, t2, t3⟩
      rw [snN, if_neg z, ← p2, ← t1, sX10_seen_29]
      simp (disch := omega) only [eX10_seen, sX10_seen_0, sX10_seen_1, sX10_seen_2, sX10_seen_5, sX10_seen_8, sX10_seen_9, sX10_seen_10, sX10_seen_12, sX10_seen_15, sX10_seen_18, sX10_seen_19, sX10_seen_20, sX10_seen_21, sX10_seen_24, sX10_seen_25, sX10_seen_26, sX10_seen_27, sX10_seen_31, sX10_seen_32, sX10_seen_35, sX10_seen_36, sX10_seen_39, sX10_seen_40, sX10_seen_43, sX10_seen_46, sX10_seen_47, sX10_seen_48, sX10_seen_49, sX10_seen_52, sX10_seen_53, sX10_seen_54, sX10_seen_57, sX10_seen_58, sX10_seen_59, sX10_seen_60, sX10_seen_61, sX10_seen_64, sX10_seen_65, sX10_seen_68, sX10_seen_71, sX10_seen_74, sX10_seen_77, sX10_seen_78, sX10_seen_81, ↓hk1, ↓hf1_9, ↓hk14, ↓bndi_at on, ↓bndr_at (c_force h0 c), ↓bndv_at p1, ↓if_neg, ↓if_pos, i32_s]
theorem m_sn_0 {g m : Int} : ∀ (n k : Nat) (A F : Nat → Nat → Int), k + n = 36 → ∃ W, rn mX11_seen 27 [vr 103, vi g, vi m, vi 0, vi (k : Int)] [] (HP A F E) = rn mX11_seen 48 [vr 103, vi g, vi m, vi 0, vi 36] [] (HP (aup A 117 W) F E) ∧ ∀ j, W j = if k ≤ j ∧ j < 36 then 0 else A 117 j := by
  have i10 : i1 0 = 0 := by decide
  intro n
  induction n with
  | zero =>
    intro k A F hk
    have : k = 36 := by omega
    subst this
    refine ⟨A 117, ?_, fun j => by rw [if_neg (by omega)]⟩
    rw [sX11_seen_27, aup_id]
    simp (disch := omega) only [eX11_seen, sX11_seen_0, sX11_seen_1, sX11_seen_2, sX11_seen_5, sX11_seen_8, sX11_seen_9, sX11_seen_10, sX11_seen_11, sX11_seen_14, sX11_seen_17, sX11_seen_20, sX11_seen_21, sX11_seen_22, sX11_seen_23, sX11_seen_24, sX11_seen_25, sX11_seen_29, sX11_seen_31, sX11_seen_34, sX11_seen_35, sX11_seen_38, sX11_seen_40, sX11_seen_41, sX11_seen_42, sX11_seen_45, sX11_seen_49, sX11_seen_52, sX11_seen_53, sX11_seen_57, sX11_seen_58, sX11_seen_61, sX11_seen_62, sX11_seen_63, sX11_seen_66, sX11_seen_69, sX11_seen_70, sX11_seen_73, sX11_seen_74, sX11_seen_75, sX11_seen_78, sX11_seen_79, sX11_seen_80, sX11_seen_81, sX11_seen_84, sX11_seen_87, sX11_seen_90, sX11_seen_91, sX11_seen_94, sX11_seen_95, sX11_seen_99, sX11_seen_100, sX11_seen_103, sX11_seen_106, sX11_seen_107, sX11_seen_108, sX11_seen_111, sX11_seen_113, sX11_seen_114, sX11_seen_117, sX11_seen_118, sX11_seen_121, sX11_seen_122, sX11_seen_123, sX11_seen_124, sX11_seen_127, sX11_seen_130, sX11_seen_131, ↓if_pos]
    rfl
  | succ n ih =>
    intro k A F hk
    obtain ⟨W, r1, r2⟩ := ih (k + 1) (aup A 117 (fup (A 117) k 0)) F (by omega)
    rw [aup_aup] at r1
    refine ⟨W, ?_, fun j => ?_⟩
    · rw [← r1, sX11_seen_27]
      simp (disch := omega) only [eX11_seen, sX11_seen_0, sX11_seen_1, sX11_seen_2, sX11_seen_5, sX11_seen_8, sX11_seen_9, sX11_seen_10, sX11_seen_11, sX11_seen_14, sX11_seen_17, sX11_seen_20, sX11_seen_21, sX11_seen_22, sX11_seen_23, sX11_seen_24, sX11_seen_25, sX11_seen_29, sX11_seen_31, sX11_seen_34, sX11_seen_35, sX11_seen_38, sX11_seen_40, sX11_seen_41, sX11_seen_42, sX11_seen_45, sX11_seen_49, sX11_seen_52, sX11_seen_53, sX11_seen_57, sX11_seen_58, sX11_seen_61, sX11_seen_62, sX11_seen_63, sX11_seen_66, sX11_seen_69, sX11_seen_70, sX11_seen_73, sX11_seen_74, sX11_seen_75, sX11_seen_78, sX11_seen_79, sX11_seen_80, sX11_seen_81, sX11_seen_84, sX11_seen_87, sX11_seen_90, sX11_seen_91, sX11_seen_94, sX11_seen_95, sX11_seen_99, sX11_seen_100, sX11_seen_103, sX11_seen_106, sX11_seen_107, sX11_seen_108, sX11_seen_111, sX11_seen_113, sX11_seen_114, sX11_seen_117, sX11_seen_118, sX11_seen_121, sX11_seen_122, sX11_seen_123, sX11_seen_124, sX11_seen_127, sX11_seen_130, sX11_seen_131, ↓hf103_27, ↓hs117, Int.toNat_natCast, i10, ↓if_neg, i32_s]
    · rw [r2, aup_s]
      by_cases q : j = k
      · subst q; rw [if_neg (by omega), if_pos (by omega), fup_s]
      · by_cases q2' : k ≤ j ∧ j < 36
        · rw [if_pos (by omega), if_pos q2']
        · rw [if_neg (by omega), if_neg q2', fup_n q]
theorem m_sn_l {m N : Nat} (hp : p < G) (hm : m ≤ 100) (hN : (N : Int) = s0 1 * s0 1) (hN6 : N ≤ 36) : ∀ (n k : Nat) (A F : Nat → Nat → Int) (f : Nat → Int) (w : Nat), k + n = m + 1 → w < 2 ^ N → mw A F G Q f s0 → (∀ j, j < 36 → A 117 j = if w.testBit j then 1 else 0) → ∃ A' F', rn mX11_seen 55 [vr 103, vi (p : Int), vi (m : Int), vi 0, vi (k : Int)] [] (HP A F E) = rn mX11_seen 90 [vr 103, vi (p : Int), vi (m : Int), vi 0, vi ((m : Int) + 1)] [] (HP A' F' E) ∧ mwx A F A' F' ∧ (∃ f', mw A' F' G Q f' s0) ∧ snN Q G p n f w < 2 ^ N ∧ ∀ j, j < 36 → A' 117 j = if (snN Q G p n f w).testBit j then 1 else 0 := by
  have i11 : i1 1 = 1 := by decide
  intro n
  induction n with
  | zero =>
    intro k A F f w hk hw h ha
    have : k = m + 1 := by omega
    subst this
    refine ⟨A, F, ?_, mwx_r, ⟨f, h⟩, hw, ha⟩
    rw [sX11_seen_55]
    simp (disch := omega) only [eX11_seen, sX11_seen_0, sX11_seen_1, sX11_seen_2, sX11_seen_5, sX11_seen_8, sX11_seen_9, sX11_seen_10, sX11_seen_11, sX11_seen_14, sX11_seen_17, sX11_seen_20, sX11_seen_21, sX11_seen_22, sX11_seen_23, sX11_seen_24, sX11_seen_25, sX11_seen_29, sX11_seen_31, sX11_seen_34, sX11_seen_35, sX11_seen_38, sX11_seen_40, sX11_seen_41, sX11_seen_42, sX11_seen_45, sX11_seen_48, sX11_seen_49, sX11_seen_52, sX11_seen_53, sX11_seen_57, sX11_seen_58, sX11_seen_61, sX11_seen_62, sX11_seen_63, sX11_seen_66, sX11_seen_69, sX11_seen_70, sX11_seen_73, sX11_seen_74, sX11_seen_75, sX11_seen_78, sX11_seen_79, sX11_seen_80, sX11_seen_81, sX11_seen_84, sX11_seen_87, sX11_seen_91, sX11_seen_94, sX11_seen_95, sX11_seen_99, sX11_seen_100, sX11_seen_103, sX11_seen_106, sX11_seen_107, sX11_seen_108, sX11_seen_111, sX11_seen_113, sX11_seen_114, sX11_seen_117, sX11_seen_118, sX11_seen_121, sX11_seen_122, sX11_seen_123, sX11_seen_124, sX11_seen_127, sX11_seen_130, sX11_seen_131, ↓if_pos]
    rfl
  | succ n ih =>
    intro k A F f w hk hw h ha
    have g5 := h.1.2.1
    have gk := h.1.2.2.2.2.2.2 p hp
    have e0 : s0 1 = f 0 := by rw [← h.2.2.2.2 1 (by omega)]; exact sd_0 h.2.1
    unfold gok at gk
    have on := mw_isOn (p := p) (E := E) h (by omega)
    by_cases z : f (50 + 7 * p) = 0
    · rw [if_pos z] at on
      have cb := gk.2.2.2.2.2.1 z
      rw [← e0, ← hN] at cb
      have ce := mw_cell (p := p) (E := E) h (by omega) z
      have h1 := mw_own (j := 117) (g := fup (A 117) (f (47 + 7 * p)).toNat 1) h (by omega)
      obtain ⟨A1, F1, p1, p2, p3⟩ := mw_pass (E := E) h1
      have pw : 2 ^ (f (47 + 7 * p)).toNat < 2 ^ N := Nat.pow_lt_pow_right (by omega) (by omega)
      obtain ⟨A2, F2, u1, u2, u3, u4, u5⟩ := ih (k + 1) A1 F1 (psa Q G f) (w ||| 2 ^ (f (47 + 7 * p)).toNat) (by omega) (Nat.or_lt_two_pow hw pw) p3 (fun j hj => by
        rw [p2.1 117 (by omega) (by omega) (by omega), aup_s, Nat.testBit_or, Nat.testBit_two_pow]
        by_cases q : j = (f (47 + 7 * p)).toNat
        · rw [q, fup_s, decide_eq_true rfl, Bool.or_true, if_pos rfl]
        · rw [fup_n q, decide_eq_false (fun y => q y.symm), Bool.or_false, ha j hj])
      refine ⟨A2, F2, ?_, mwx_t (mwx_t ⟨fun j _ _ _ d => aup_n (by omega), fun _ _ => rfl, fun _ _ _ _ _ _ => rfl⟩ (mwx_of (mwg_of p2))) u2, u3, ?_, fun j hj => ?_⟩
      · rw [← u1, sX11_seen_55]
        simp (disch := omega) only [eX11_seen, sX11_seen_0, sX11_seen_1, sX11_seen_2, sX11_seen_5, sX11_seen_8, sX11_seen_9, sX11_seen_10, sX11_seen_11, sX11_seen_14, sX11_seen_17, sX11_seen_20, sX11_seen_21, sX11_seen_22, sX11_seen_23, sX11_seen_24, sX11_seen_25, sX11_seen_29, sX11_seen_31, sX11_seen_34, sX11_seen_35, sX11_seen_38, sX11_seen_40, sX11_seen_41, sX11_seen_42, sX11_seen_45, sX11_seen_48, sX11_seen_49, sX11_seen_52, sX11_seen_53, sX11_seen_57, sX11_seen_58, sX11_seen_61, sX11_seen_62, sX11_seen_63, sX11_seen_66, sX11_seen_69, sX11_seen_70, sX11_seen_73, sX11_seen_74, sX11_seen_75, sX11_seen_78, sX11_seen_79, sX11_seen_80, sX11_seen_81, sX11_seen_84, sX11_seen_87, sX11_seen_91, sX11_seen_94, sX11_seen_95, sX11_seen_99, sX11_seen_100, sX11_seen_103, sX11_seen_106, sX11_seen_107, sX11_seen_108, sX11_seen_111, sX11_seen_113, sX11_seen_114, sX11_seen_117, sX11_seen_118, sX11_seen_121, sX11_seen_122, sX11_seen_123, sX11_seen_124, sX11_seen_127, sX11_seen_130, sX11_seen_131, ↓hk103, ↓hf103_27, ↓hs117, i11, ↓bndi_at on, ↓bndi_at ce, ↓bndv_at p1, ↓if_neg, ↓if_pos, i32_s]
      · rw [snN, if_pos z]; exact u4
      · rw [snN, if_pos z]; exact u5 j hj
    · rw [if_neg z] at on
      obtain ⟨A1, F1, p1, p2, p3⟩ := mw_pass (E := E) h
      obtain ⟨A2, F2, u1, u2, u3, u4, u5⟩ := ih (k + 1) A1 F1 (psa Q G f) w (by omega) hw p3 (fun j hj => by rw [p2.1 117 (by omega) (by omega) (by omega)]; exact ha j hj)
      refine ⟨A2, F2, ?_, mwx_t (mwx_of (mwg_of p2)) u2, u3, ?_, fun j hj => ?_⟩
      · rw [← u1, sX11_seen_55]
        simp (disch := omega) only [eX11_seen, sX11_seen_0, sX11_seen_1, sX11_seen_2, sX11_seen_5, sX11_seen_8, sX11_seen_9, sX11_seen_10, sX11_seen_11, sX11_seen_14, sX11_seen_17, sX11_seen_20, sX11_seen_21, sX11_seen_22, sX11_seen_23, sX11_seen_24, sX11_seen_25, sX11_seen_29, sX11_seen_31, sX11_seen_34, sX11_seen_35, sX11_seen_38, sX11_seen_40, sX11_seen_41, sX11_seen_42, sX11_seen_45, sX11_seen_48, sX11_seen_49, sX11_seen_52, sX11_seen_53, sX11_seen_57, sX11_seen_58, sX11_seen_61, sX11_seen_62, sX11_seen_63, sX11_seen_66, sX11_seen_69, sX11_seen_70, sX11_seen_73, sX11_seen_74, sX11_seen_75, sX11_seen_78, sX11_seen_79, sX11_seen_80, sX11_seen_81, sX11_seen_84, sX11_seen_87, sX11_seen_91, sX11_seen_94, sX11_seen_95, sX11_seen_99, sX11_seen_100, sX11_seen_103, sX11_seen_106, sX11_seen_107, sX11_seen_108, sX11_seen_111, sX11_seen_113, sX11_seen_114, sX11_seen_117, sX11_seen_118, sX11_seen_121, sX11_seen_122, sX11_seen_123, sX11_seen_124, sX11_seen_127, sX11_seen_130, sX11_seen_131, ↓hk103, ↓bndi_at on, ↓bndv_at p1, ↓if_neg, ↓if_pos, i32_s]
      · rw [snN, if_neg z]; exact u4
      · rw [snN, if_neg z]; exact u5 j hj
theorem m_sn_c {g m : Int} {N : Nat} (hN : (N : Int) = A 113 1 * A 113 1) (hN6 : N ≤ 36) (h0 : 0 ≤ A 113 1) (h1 : A 113 1 ≤ 6) (hb : ∀ j, j < 36 → A 117 j = 0 ∨ A 117 j = 1) : ∀ (n k : Nat), k + n = N → rn mX11_seen 97 [vr 103, vi g, vi m, vi (sumN (A 117) k), vi (k : Int)] [] (HP A F E) = some (vi (sumN (A 117) N), HP A F E) := by
  have cs := m_cells (A := A) (F := F) (E := E) h0 h1
  rw [← hN] at cs
  intro n
  induction n with
  | zero =>
    intro k hk
    have : k = N := by omega
    subst this
    rw [sX11_seen_97]
    simp (disch := omega) only [eX11_seen, sX11_seen_0, sX11_seen_1, sX11_seen_2, sX11_seen_5, sX11_seen_8, sX11_seen_9, sX11_seen_10, sX11_seen_11, sX11_seen_14, sX11_seen_17, sX11_seen_20, sX11_seen_21, sX11_seen_22, sX11_seen_23, sX11_seen_24, sX11_seen_25, sX11_seen_29, sX11_seen_31, sX11_seen_34, sX11_seen_35, sX11_seen_38, sX11_seen_40, sX11_seen_41, sX11_seen_42, sX11_seen_45, sX11_seen_48, sX11_seen_49, sX11_seen_52, sX11_seen_53, sX11_seen_57, sX11_seen_58, sX11_seen_61, sX11_seen_62, sX11_seen_63, sX11_seen_66, sX11_seen_69, sX11_seen_70, sX11_seen_73, sX11_seen_74, sX11_seen_75, sX11_seen_78, sX11_seen_79, sX11_seen_80, sX11_seen_81, sX11_seen_84, sX11_seen_87, sX11_seen_90, sX11_seen_91, sX11_seen_94, sX11_seen_95, sX11_seen_99, sX11_seen_100, sX11_seen_103, sX11_seen_106, sX11_seen_107, sX11_seen_108, sX11_seen_111, sX11_seen_113, sX11_seen_114, sX11_seen_117, sX11_seen_118, sX11_seen_121, sX11_seen_122, sX11_seen_123, sX11_seen_124, sX11_seen_127, sX11_seen_130, sX11_seen_131, ↓hk103, ↓bndi_at cs, ↓if_pos]
  | succ n ih =>
    intro k hk
    have i := ih (k + 1) (by omega)
    have bd := sumN_bd (g := A 117) (b := 1) k (fun j hj => by have := hb j (by omega); omega)
    rw [sX11_seen_97, ← i, sumN]
    rcases hb k (by omega) with y | y
    · rw [y]
      simp (disch := omega) only [eX11_seen, sX11_seen_0, sX11_seen_1, sX11_seen_2, sX11_seen_5, sX11_seen_8, sX11_seen_9, sX11_seen_10, sX11_seen_11, sX11_seen_14, sX11_seen_17, sX11_seen_20, sX11_seen_21, sX11_seen_22, sX11_seen_23, sX11_seen_24, sX11_seen_25, sX11_seen_29, sX11_seen_31, sX11_seen_34, sX11_seen_35, sX11_seen_38, sX11_seen_40, sX11_seen_41, sX11_seen_42, sX11_seen_45, sX11_seen_48, sX11_seen_49, sX11_seen_52, sX11_seen_53, sX11_seen_57, sX11_seen_58, sX11_seen_61, sX11_seen_62, sX11_seen_63, sX11_seen_66, sX11_seen_69, sX11_seen_70, sX11_seen_73, sX11_seen_74, sX11_seen_75, sX11_seen_78, sX11_seen_79, sX11_seen_80, sX11_seen_81, sX11_seen_84, sX11_seen_87, sX11_seen_90, sX11_seen_91, sX11_seen_94, sX11_seen_95, sX11_seen_99, sX11_seen_100, sX11_seen_103, sX11_seen_106, sX11_seen_107, sX11_seen_108, sX11_seen_111, sX11_seen_113, sX11_seen_114, sX11_seen_117, sX11_seen_118, sX11_seen_121, sX11_seen_122, sX11_seen_123, sX11_seen_124, sX11_seen_127, sX11_seen_130, sX11_seen_131, ↓hk103, ↓hf103_27, ↓hg117, Int.toNat_natCast, y, ↓bndi_at cs, ↓if_pos, ↓if_neg, i32_of]
      rfl
    · rw [y]
      simp (disch := omega) only [eX11_seen, sX11_seen_0, sX11_seen_1, sX11_seen_2, sX11_seen_5, sX11_seen_8, sX11_seen_9, sX11_seen_10, sX11_seen_11, sX11_seen_14, sX11_seen_17, sX11_seen_20, sX11_seen_21, sX11_seen_22, sX11_seen_23, sX11_seen_24, sX11_seen_25, sX11_seen_29, sX11_seen_31, sX11_seen_34, sX11_seen_35, sX11_seen_38, sX11_seen_40, sX11_seen_41, sX11_seen_42, sX11_seen_45, sX11_seen_48, sX11_seen_49, sX11_seen_52, sX11_seen_53, sX11_seen_57, sX11_seen_58, sX11_seen_61, sX11_seen_62, sX11_seen_63, sX11_seen_66, sX11_seen_69, sX11_seen_70, sX11_seen_73, sX11_seen_74, sX11_seen_75, sX11_seen_78, sX11_seen_79, sX11_seen_80, sX11_seen_81, sX11_seen_84, sX11_seen_87, sX11_seen_90, sX11_seen_91, sX11_seen_94, sX11_seen_95, sX11_seen_99, sX11_seen_100, sX11_seen_103, sX11_seen_106, sX11_seen_107, sX11_seen_108, sX11_seen_111, sX11_seen_113, sX11_seen_114, sX11_seen_117, sX11_seen_118, sX11_seen_121, sX11_seen_122, sX11_seen_123, sX11_seen_124, sX11_seen_127, sX11_seen_130, sX11_seen_131, ↓hk103, ↓hf103_27, ↓hg117, Int.toNat_natCast, y, ↓bndi_at cs, ↓if_pos, ↓if_neg, i32_of]
      rfl
theorem k_seen {g n : Int} (h : inv A F E) : prs mX10_seen mX11_seen [vi g, vi n] A F E := by
  have b := iS_b h.2.2.2.1
  have ig := E_isGoer (A := A) (F := F) (E := E) (g := g) b.2.1.1 b.2.1.2
  have mg := fun A1 F1 => m_isGoer (A := A1) (F := F1) (E := E) (g := g)
  have wi := E_within (v := n) (lo := 0) (hi := 100) (h := HP A F E)
  have mi := fun H => m_in (v := n) (lo := 0) (hi := 100) (h := H)
  by_cases z : 0 ≤ g ∧ g < A 13 1
  · rw [if_pos z] at ig
    by_cases z1 : 0 ≤ n ∧ n ≤ 100
    · rw [if_pos z1] at wi
      obtain ⟨G, r⟩ := b.2.2.2.2.2.2.mp (b.2.2.2.2.2.1 (by omega))
      have hG : A 13 1 = (G : Int) := r.1.1
      have hG5 := r.1.2.1
      have sb := r.1.2.2.1
      have sq := sq_b (s := A 13 0) (by omega) sb.2
      have s13 : A 113 1 = A 13 0 := b.2.2.1
      obtain ⟨Q, q1, q2'⟩ := inv_Q h
      obtain ⟨p, rfl⟩ : ∃ p : Nat, g = (p : Int) := ⟨g.toNat, by omega⟩
      obtain ⟨m, rfl⟩ : ∃ m : Nat, n = (m : Int) := ⟨n.toNat, by omega⟩
      obtain ⟨N, hN⟩ : ∃ N : Nat, (N : Int) = A 13 0 * A 13 0 := ⟨(A 13 0 * A 13 0).toNat, by omega⟩
      obtain ⟨A1, F1, s1, s2, s3, s4, _⟩ := c_restart h r q1
      obtain ⟨A2, F2, t1, t2, t3⟩ := c_sn_l (p := p) (m := m) h (by omega) (by omega) (m + 1) 0 A1 F1 0 (by omega) (by omega) s3 s4
      rw [s2] at t1
      have t1' : rn mX10_seen 29 [vr 1, vi (p : Int), vi (m : Int), vl 0, vs, vi 0] [] (HP A1 F1 E) = _ := t1
      obtain ⟨W, v1, v2⟩ := m_sn_0 (g := (p : Int)) (m := (m : Int)) (E := E) 36 0 A2 F2 (by omega)
      have v1' : rn mX11_seen 27 [vr 103, vi (p : Int), vi (m : Int), vi 0, vi 0] [] (HP A2 F2 E) = _ := v1
      have hA : A2 113 = A 113 := cfr_113 t2
      have e : ∀ j, 67 ≤ j → j < 127 → j ≠ 117 → (aup A2 117 W) j = A j := fun j j1 j2 j3 => by rw [aup_n j3]; exact t2.1 j (by omega) (by omega) (by omega) (by omega) (by unfold isk; omega)
      obtain ⟨A3, k1, k2, k3⟩ := mw_keeps (E := E) (A := aup A2 117 W) (F := F2) (f := A 13) (G := G) (Q := Q) r.1 (by rw [e 113 (by omega) (by omega) (by omega)]; exact r.2.2.2.1) (mQ_c q2' (e 105 (by omega) (by omega) (by omega)) (e 107 (by omega) (by omega) (by omega)) (e 108 (by omega) (by omega) (by omega)) (by rw [t2.2 103 (by omega) (by omega)]))
      rw [e 113 (by omega) (by omega) (by omega)] at k3
      obtain ⟨A4, F4, l1, l2, ⟨f', l3⟩, l4, l5⟩ := m_sn_l (p := p) (m := m) (N := N) (E := E) (by omega) (by omega) (by rw [s13]; exact hN) (by omega) (m + 1) 0 A3 F2 (A 13) 0 (by omega) (Nat.pow_pos (by omega)) k3 (fun j hj => by rw [k2 117 (by omega), aup_s, v2, if_pos (by omega), Nat.zero_testBit, if_neg (by decide)])
      have l1' : rn mX11_seen 55 [vr 103, vi (p : Int), vi (m : Int), vi 0, vi 0] [] (HP A3 F2 E) = _ := l1
      have lb := mw_lays (E := E) l3
      have cc := m_sn_c (A := aup A4 113 (A 113)) (F := F4) (E := E) (g := (p : Int)) (m := (m : Int)) (N := N) (by rw [aup_s, s13]; exact hN) (by omega) (by rw [aup_s]; omega) (by rw [aup_s]; omega) (fun j hj => by rw [aup_n (by omega), l5 j hj]; split; exact Or.inr rfl; exact Or.inl rfl) N 0 (by omega)
      have cc' : rn mX11_seen 97 [vr 103, vi (p : Int), vi (m : Int), vi 0, vi 0] [] (HP (aup A4 113 (A 113)) F4 E) = _ := cc
      have fin : sumN (aup A4 113 (A 113) 117) N = bcN (snN Q G p (m + 1) (A 13) 0) := by
        rw [aup_n (by omega)]
        unfold bcN
        rw [show 36 = N + (36 - N) by omega, sumN_z (N := N) (36 - N) (fun j hj => ?_)]
        · exact sumN_e N (fun j hj => l5 j (by omega))
        · rw [Nat.testBit_lt_two_pow (Nat.lt_of_lt_of_le l4 (Nat.pow_le_pow_right (by omega) hj)), if_neg (by decide)]
      rw [fin] at cc'
      have mg' := mg A2 F2
      rw [hA, b.2.2.2.1, if_pos z] at mg'
      have mi' := mi (HP A2 F2 E)
      rw [if_pos z1] at mi'
      refine prs_q h (v := bcN (snN Q G p (m + 1) (A 13) 0)) (A2 := aup A4 113 (A 113)) (F2 := F4) ?_ t2 t3.2.1 ?_ ⟨fun j j1 j2 j3 => ?_, fun j hj => l2.2.1 j hj, fun k x1 x2 x3 x4 x5 => l2.2.2 k x1 x2 x3 x4 x5⟩
      · rw [← t1']
        simp (disch := omega) only [eX10_seen, sX10_seen_0, sX10_seen_1, sX10_seen_2, sX10_seen_5, sX10_seen_8, sX10_seen_9, sX10_seen_10, sX10_seen_12, sX10_seen_15, sX10_seen_18, sX10_seen_19, sX10_seen_20, sX10_seen_21, sX10_seen_24, sX10_seen_25, sX10_seen_26, sX10_seen_27, sX10_seen_31, sX10_seen_32, sX10_seen_35, sX10_seen_36, sX10_seen_39, sX10_seen_40, sX10_seen_43, sX10_seen_46, sX10_seen_47, sX10_seen_48, sX10_seen_49, sX10_seen_52, sX10_seen_53, sX10_seen_54, sX10_seen_57, sX10_seen_58, sX10_seen_59, sX10_seen_60, sX10_seen_61, sX10_seen_64, sX10_seen_65, sX10_seen_68, sX10_seen_71, sX10_seen_74, sX10_seen_77, sX10_seen_78, sX10_seen_81, ↓hk1, ↓bndi_at ig, ↓bndi_at wi, ↓bndv_at s1, ↓if_pos, ↓if_neg]
      · simp (disch := omega) only [eX11_seen, sX11_seen_0, sX11_seen_1, sX11_seen_2, sX11_seen_5, sX11_seen_8, sX11_seen_9, sX11_seen_10, sX11_seen_11, sX11_seen_14, sX11_seen_17, sX11_seen_20, sX11_seen_21, sX11_seen_22, sX11_seen_23, sX11_seen_24, sX11_seen_25, sX11_seen_29, sX11_seen_31, sX11_seen_34, sX11_seen_35, sX11_seen_38, sX11_seen_40, sX11_seen_41, sX11_seen_42, sX11_seen_45, sX11_seen_49, sX11_seen_52, sX11_seen_53, sX11_seen_57, sX11_seen_58, sX11_seen_61, sX11_seen_62, sX11_seen_63, sX11_seen_66, sX11_seen_69, sX11_seen_70, sX11_seen_73, sX11_seen_74, sX11_seen_75, sX11_seen_78, sX11_seen_79, sX11_seen_80, sX11_seen_81, sX11_seen_84, sX11_seen_87, sX11_seen_90, sX11_seen_91, sX11_seen_94, sX11_seen_95, sX11_seen_99, sX11_seen_100, sX11_seen_103, sX11_seen_106, sX11_seen_107, sX11_seen_108, sX11_seen_111, sX11_seen_113, sX11_seen_114, sX11_seen_117, sX11_seen_118, sX11_seen_121, sX11_seen_122, sX11_seen_123, sX11_seen_124, sX11_seen_127, sX11_seen_130, sX11_seen_131, ↓hk103, ↓bndi_at mg', ↓bndi_at mi', ↓if_pos, ↓if_neg]
        rw [v1']
        simp (disch := omega) only [eX11_seen, sX11_seen_0, sX11_seen_1, sX11_seen_2, sX11_seen_5, sX11_seen_8, sX11_seen_9, sX11_seen_10, sX11_seen_11, sX11_seen_14, sX11_seen_17, sX11_seen_20, sX11_seen_21, sX11_seen_22, sX11_seen_23, sX11_seen_24, sX11_seen_25, sX11_seen_29, sX11_seen_31, sX11_seen_34, sX11_seen_35, sX11_seen_38, sX11_seen_40, sX11_seen_41, sX11_seen_42, sX11_seen_45, sX11_seen_48, sX11_seen_49, sX11_seen_52, sX11_seen_53, sX11_seen_57, sX11_seen_58, sX11_seen_61, sX11_seen_62, sX11_seen_63, sX11_seen_66, sX11_seen_69, sX11_seen_70, sX11_seen_73, sX11_seen_74, sX11_seen_75, sX11_seen_78, sX11_seen_79, sX11_seen_80, sX11_seen_81, sX11_seen_84, sX11_seen_87, sX11_seen_91, sX11_seen_94, sX11_seen_95, sX11_seen_99, sX11_seen_100, sX11_seen_103, sX11_seen_106, sX11_seen_107, sX11_seen_108, sX11_seen_111, sX11_seen_113, sX11_seen_114, sX11_seen_117, sX11_seen_118, sX11_seen_121, sX11_seen_122, sX11_seen_123, sX11_seen_124, sX11_seen_127, sX11_seen_130, sX11_seen_131, ↓hk103, ↓bndv_at k1]
        rw [l1']
        simp (disch := omega) only [eX11_seen, sX11_seen_0, sX11_seen_1, sX11_seen_2, sX11_seen_5, sX11_seen_8, sX11_seen_9, sX11_seen_10, sX11_seen_11, sX11_seen_14, sX11_seen_17, sX11_seen_20, sX11_seen_21, sX11_seen_22, sX11_seen_23, sX11_seen_24, sX11_seen_25, sX11_seen_29, sX11_seen_31, sX11_seen_34, sX11_seen_35, sX11_seen_38, sX11_seen_40, sX11_seen_41, sX11_seen_42, sX11_seen_45, sX11_seen_48, sX11_seen_49, sX11_seen_52, sX11_seen_53, sX11_seen_57, sX11_seen_58, sX11_seen_61, sX11_seen_62, sX11_seen_63, sX11_seen_66, sX11_seen_69, sX11_seen_70, sX11_seen_73, sX11_seen_74, sX11_seen_75, sX11_seen_78, sX11_seen_79, sX11_seen_80, sX11_seen_81, sX11_seen_84, sX11_seen_87, sX11_seen_90, sX11_seen_91, sX11_seen_94, sX11_seen_95, sX11_seen_99, sX11_seen_100, sX11_seen_103, sX11_seen_106, sX11_seen_107, sX11_seen_108, sX11_seen_111, sX11_seen_113, sX11_seen_114, sX11_seen_117, sX11_seen_118, sX11_seen_121, sX11_seen_122, sX11_seen_123, sX11_seen_124, sX11_seen_127, sX11_seen_130, sX11_seen_131, ↓hk103, ↓bndv_at lb]
        exact cc'
      · by_cases y : j = 113
        · rw [y, aup_s, hA]
        · rw [aup_n y, l2.1 j j1 j2 y (by omega), k2 j (by omega), aup_n (by omega)]
    · have mg' := mg A F
      have mi' := mi (HP A F E)
      rw [if_neg z1] at mi' wi
      rw [b.2.2.2.1, if_pos z] at mg'
      refine prs_0 (v := -1) h ?_ ?_
      · simp (disch := omega) only [eX10_seen, sX10_seen_0, sX10_seen_1, sX10_seen_2, sX10_seen_5, sX10_seen_8, sX10_seen_9, sX10_seen_10, sX10_seen_12, sX10_seen_15, sX10_seen_18, sX10_seen_19, sX10_seen_20, sX10_seen_21, sX10_seen_24, sX10_seen_25, sX10_seen_26, sX10_seen_27, sX10_seen_31, sX10_seen_32, sX10_seen_35, sX10_seen_36, sX10_seen_39, sX10_seen_40, sX10_seen_43, sX10_seen_46, sX10_seen_47, sX10_seen_48, sX10_seen_49, sX10_seen_52, sX10_seen_53, sX10_seen_54, sX10_seen_57, sX10_seen_58, sX10_seen_59, sX10_seen_60, sX10_seen_61, sX10_seen_64, sX10_seen_65, sX10_seen_68, sX10_seen_71, sX10_seen_74, sX10_seen_77, sX10_seen_78, sX10_seen_81, ↓hk1, ↓bndi_at ig, ↓bndi_at wi, ↓if_pos, ↓if_neg]
      · simp (disch := omega) only [eX11_seen, sX11_seen_0, sX11_seen_1, sX11_seen_2, sX11_seen_5, sX11_seen_8, sX11_seen_9, sX11_seen_10, sX11_seen_11, sX11_seen_14, sX11_seen_17, sX11_seen_20, sX11_seen_21, sX11_seen_22, sX11_seen_23, sX11_seen_24, sX11_seen_25, sX11_seen_29, sX11_seen_31, sX11_seen_34, sX11_seen_35, sX11_seen_38, sX11_seen_40, sX11_seen_41, sX11_seen_42, sX11_seen_45, sX11_seen_48, sX11_seen_49, sX11_seen_52, sX11_seen_53, sX11_seen_57, sX11_seen_58, sX11_seen_61, sX11_seen_62, sX11_seen_63, sX11_seen_66, sX11_seen_69, sX11_seen_70, sX11_seen_73, sX11_seen_74, sX11_seen_75, sX11_seen_78, sX11_seen_79, sX11_seen_80, sX11_seen_81, sX11_seen_84, sX11_seen_87, sX11_seen_90, sX11_seen_91, sX11_seen_94, sX11_seen_95, sX11_seen_99, sX11_seen_100, sX11_seen_103, sX11_seen_106, sX11_seen_107, sX11_seen_108, sX11_seen_111, sX11_seen_113, sX11_seen_114, sX11_seen_117, sX11_seen_118, sX11_seen_121, sX11_seen_122, sX11_seen_123, sX11_seen_124, sX11_seen_127, sX11_seen_130, sX11_seen_131, ↓hk103, ↓bndi_at mg', ↓bndi_at mi', ↓if_pos, ↓if_neg]
  · have mg' := mg A F
    rw [b.2.2.2.1, if_neg z] at mg'
    rw [if_neg z] at ig
    refine prs_0 (v := -1) h ?_ ?_
    · simp (disch := omega) only [eX10_seen, sX10_seen_0, sX10_seen_1, sX10_seen_2, sX10_seen_5, sX10_seen_8, sX10_seen_9, sX10_seen_10, sX10_seen_12, sX10_seen_15, sX10_seen_18, sX10_seen_19, sX10_seen_20, sX10_seen_21, sX10_seen_24, sX10_seen_25, sX10_seen_26, sX10_seen_27, sX10_seen_31, sX10_seen_32, sX10_seen_35, sX10_seen_36, sX10_seen_39, sX10_seen_40, sX10_seen_43, sX10_seen_46, sX10_seen_47, sX10_seen_48, sX10_seen_49, sX10_seen_52, sX10_seen_53, sX10_seen_54, sX10_seen_57, sX10_seen_58, sX10_seen_59, sX10_seen_60, sX10_seen_61, sX10_seen_64, sX10_seen_65, sX10_seen_68, sX10_seen_71, sX10_seen_74, sX10_seen_77, sX10_seen_78, sX10_seen_81, ↓hk1, ↓bndi_at ig, ↓if_pos, ↓if_neg]
    · simp (disch := omega) only [eX11_seen, sX11_seen_0, sX11_seen_1, sX11_seen_2, sX11_seen_5, sX11_seen_8, sX11_seen_9, sX11_seen_10, sX11_seen_11, sX11_seen_14, sX11_seen_17, sX11_seen_20, sX11_seen_21, sX11_seen_22, sX11_seen_23, sX11_seen_24, sX11_seen_25, sX11_seen_29, sX11_seen_31, sX11_seen_34, sX11_seen_35, sX11_seen_38, sX11_seen_40, sX11_seen_41, sX11_seen_42, sX11_seen_45, sX11_seen_48, sX11_seen_49, sX11_seen_52, sX11_seen_53, sX11_seen_57, sX11_seen_58, sX11_seen_61, sX11_seen_62, sX11_seen_63, sX11_seen_66, sX11_seen_69, sX11_seen_70, sX11_seen_73, sX11_seen_74, sX11_seen_75, sX11_seen_78, sX11_seen_79, sX11_seen_80, sX11_seen_81, sX11_seen_84, sX11_seen_87, sX11_seen_90, sX11_seen_91, sX11_seen_94, sX11_seen_95, sX11_seen_99, sX11_seen_100, sX11_seen_103, sX11_seen_106, sX11_seen_107, sX11_seen_108, sX11_seen_111, sX11_seen_113, sX11_seen_114, sX11_seen_117, sX11_seen_118, sX11_seen_121, sX11_seen_122, sX11_seen_123, sX11_seen_124, sX11_seen_127, sX11_seen_130, sX11_seen_131, ↓hk103, ↓bndi_at mg', ↓if_pos, ↓if_neg]
end SN
