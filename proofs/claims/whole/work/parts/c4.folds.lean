/-! folds, the class's side -/
def fcN (P : Nat → Bool) : Nat → Int × Int
  | 0 => (0, -1)
  | n + 1 => if P n then ((fcN P n).1 + 1, if (fcN P n).2 = -1 then (n : Int) else (fcN P n).2) else fcN P n
theorem fcN_b {P : Nat → Bool} : ∀ n : Nat, (0 ≤ (fcN P n).1 ∧ (fcN P n).1 ≤ (n : Int)) ∧ (-1 ≤ (fcN P n).2 ∧ (fcN P n).2 < (n : Int)) ∧ ((fcN P n).1 = 0 ↔ (fcN P n).2 = -1)
  | 0 => by
    show (0 ≤ (0 : Int) ∧ (0 : Int) ≤ ((0 : Nat) : Int)) ∧ (-1 ≤ (-1 : Int) ∧ (-1 : Int) < ((0 : Nat) : Int)) ∧ ((0 : Int) = 0 ↔ (-1 : Int) = -1)
    omega
  | n + 1 => by
    have i := fcN_b (P := P) n
    rw [fcN]
    by_cases z : P n = true
    · rw [if_pos z]
      simp only
      by_cases y : (fcN P n).2 = -1
      · rw [if_pos y]; omega
      · rw [if_neg y]; omega
    · rw [if_neg z]; omega
theorem E_leadIn {c e : Nat} {h : zH} (hc : c < 256) (he : e < 4) : cl mX10_leadIn [vi (c : Int), vi (e : Int)] h = some (vi (ldI c e : Int), h) := by
  have l := ld_q hc he
  simp (disch := omega) only [eX10_leadIn, sX10_leadIn_0, sX10_leadIn_1, sX10_leadIn_2, sX10_leadIn_3, sX10_leadIn_4, sX10_leadIn_5, sX10_leadIn_6, sX10_leadIn_7, sX10_leadIn_8, sX10_leadIn_9, i32_of, l]
section FO
variable {A F : Nat → Nat → Int} {E : zE} {G Z : Nat} {Q : (Int → Int) → Int}
theorem E_behind {c m : Nat} (hc : c < 256) (hm : m < 5) (hl : F 14 1 = 3 - (m : Int)) : cl mX10_behindAllLike [vr 1, vi (c : Int)] (HP A F E) = some (vi (((c / 4 ^ m + 1) * 4 ^ m : Nat) : Int), HP A F E) := by
  have lu := h_lastUsed (A := A) (F := F) (E := E) wad_14
  rw [hl] at lu
  have l := bl_q hc hm
  have e : (3 : Int) - (3 - (m : Int)) = m := by omega
  simp (disch := omega) only [eX10_behindAllLike, sX10_behindAllLike_0, sX10_behindAllLike_1, sX10_behindAllLike_2, sX10_behindAllLike_3, sX10_behindAllLike_6, sX10_behindAllLike_9, sX10_behindAllLike_10, sX10_behindAllLike_11, sX10_behindAllLike_12, sX10_behindAllLike_13, sX10_behindAllLike_14, sX10_behindAllLike_15, sX10_behindAllLike_16, sX10_behindAllLike_17, sX10_behindAllLike_18, sX10_behindAllLike_19, ↓hf1_9, ↓hk14, ↓bndi_at lu, i32_of, e, l]
theorem c_folded {A0 F0 : Nat → Nat → Int} {c : Nat} (h0 : inv A0 F0 E) (r : SR1 G (A0 13) (A0 11) (A0 17) (A0 18) (A0 19) (F0 16 3) (A0 113)) (hZ : F0 16 3 = (Z : Int)) (hc : c < 256) (q : cR A0 E (rad (F0 1 5)) Q) (cf : cfr A0 F0 A F) (h : cn 82 (A 15)) : ∃ A' F', cl mX10_rightlyFolded [vr 1, vi (c : Int)] (HP A F E) = some (vi (if alS Q G Z (A0 17) (A0 18) (A0 19) 61 0 (tlR (A0 11) c) then 1 else 0), HP A' F' E) ∧ cfr A0 F0 A' F' ∧ cn 82 (A' 15) ∧ F' 14 1 = (hfS Q G Z (A0 17) (A0 18) (A0 19) (nlast (A0 17) Z 0 (-1) + 1).toNat 0 (tlR (A0 11) c, -1)).2.2 := by
  obtain ⟨A1, F1, s1, s2, s3, s4, s5, _⟩ := c_told h0 r q cf h
  have e1 : HP A1 F1 E = HP (aup A1 15 (A0 11)) F1 E := by rw [← s2, aup_id]
  rw [e1] at s1
  have st : ∀ (W : Nat → Int) (i : Nat) (v : Int), i < 82 → cl mX9_set [vr 14, vi (i : Int), vi v] (HP (aup A1 15 W) F1 E) = some (vn, HP (aup A1 15 (fup W i v)) F1 E) := by
    intro W i v hi
    have := h_set (A := aup A1 15 W) (F := F1) (E := E) (i := (i : Int)) (v := v) wad_14 (by omega) (by omega)
    simp only [Nat.reduceAdd, aup_s, aup_aup, Int.toNat_natCast] at this
    exact this
  have t0 : cl mX9_set [vr 14, vi 3, vi (ldI c 0 : Int)] (HP (aup A1 15 (A0 11)) F1 E) = _ := st (A0 11) 3 (ldI c 0 : Int) (by omega)
  have t1 : cl mX9_set [vr 14, vi 4, vi (ldI c 1 : Int)] (HP (aup A1 15 (fup (A0 11) 3 (ldI c 0 : Int))) F1 E) = _ := st _ 4 (ldI c 1 : Int) (by omega)
  have t2 : cl mX9_set [vr 14, vi 5, vi (ldI c 2 : Int)] (HP (aup A1 15 (fup (fup (A0 11) 3 (ldI c 0 : Int)) 4 (ldI c 1 : Int))) F1 E) = _ := st _ 5 (ldI c 2 : Int) (by omega)
  have t3 : cl mX9_set [vr 14, vi 6, vi (ldI c 3 : Int)] (HP (aup A1 15 (fup (fup (fup (A0 11) 3 (ldI c 0 : Int)) 4 (ldI c 1 : Int)) 5 (ldI c 2 : Int))) F1 E) = some (vn, HP (aup A1 15 (tlR (A0 11) c)) F1 E) := st _ 6 (ldI c 3 : Int) (by omega)
  have l0 : ∀ H, cl mX10_leadIn [vi (c : Int), vi 0] H = some (vi (ldI c 0 : Int), H) := fun H => E_leadIn (e := 0) hc (by omega)
  have l1 : ∀ H, cl mX10_leadIn [vi (c : Int), vi 1] H = some (vi (ldI c 1 : Int), H) := fun H => E_leadIn (e := 1) hc (by omega)
  have l2 : ∀ H, cl mX10_leadIn [vi (c : Int), vi 2] H = some (vi (ldI c 2 : Int), H) := fun H => E_leadIn (e := 2) hc (by omega)
  have l3 : ∀ H, cl mX10_leadIn [vi (c : Int), vi 3] H = some (vi (ldI c 3 : Int), H) := fun H => E_leadIn (e := 3) hc (by omega)
  have c2 : cfr A0 F0 (aup A1 15 (tlR (A0 11) c)) F1 := cfr_t s3 ⟨fun j j1 _ _ _ _ => aup_n j1, fun _ _ _ => rfl⟩
  have w2 : cw (aup A1 15 (tlR (A0 11) c)) F1 E G Q (rad (F0 1 5)) := ⟨by rw [aup_s]; exact tlR_ok r.2.1, by rw [aup_s]; exact tlR_cn (h0.2.2.1.1 10 wad_10), cR_f s4.2.2 (fun j j1 _ => aup_n (by omega))⟩
  obtain ⟨⟨n1, n2⟩, ⟨n3, n4, n5⟩, n6⟩ := c_notes r hZ c2
  obtain ⟨A2, F2, u1, u2, u3, u4, _⟩ := c_hold (Z := Z) w2 n1 n2 n6
  rw [n3, n4, n5, aup_s] at u1 u4
  rw [s5] at u4
  have rf := c_force h0 c2
  refine ⟨A2, F2, ?_, cfr_t c2 u2, u3, u4⟩
  by_cases y : alS Q G Z (A0 17) (A0 18) (A0 19) 61 0 (tlR (A0 11) c) = true
  · rw [if_pos y] at u1 ⊢
    simp (disch := omega) only [eX10_rightlyFolded, sX10_rightlyFolded_0, sX10_rightlyFolded_1, sX10_rightlyFolded_4, sX10_rightlyFolded_5, sX10_rightlyFolded_8, sX10_rightlyFolded_11, sX10_rightlyFolded_12, sX10_rightlyFolded_13, sX10_rightlyFolded_14, sX10_rightlyFolded_15, sX10_rightlyFolded_18, sX10_rightlyFolded_19, sX10_rightlyFolded_22, sX10_rightlyFolded_23, sX10_rightlyFolded_24, sX10_rightlyFolded_25, sX10_rightlyFolded_26, sX10_rightlyFolded_27, sX10_rightlyFolded_30, sX10_rightlyFolded_33, sX10_rightlyFolded_36, sX10_rightlyFolded_39, sX10_rightlyFolded_40, sX10_rightlyFolded_43, sX10_rightlyFolded_44, sX10_rightlyFolded_47, sX10_rightlyFolded_48, sX10_rightlyFolded_51, sX10_rightlyFolded_54, ↓hk1, ↓hf1_9, ↓hf1_7, ↓hf1_10, ↓hk14, ↓hk16, ↓bndv_at s1, ↓bndi_at (l0 _), ↓bndi_at (l1 _), ↓bndi_at (l2 _), ↓bndi_at (l3 _), ↓bndv_at t0, ↓bndv_at t1, ↓bndv_at t2, ↓bndv_at t3, ↓bndr_at rf, ↓bndi_at u1, ↓if_pos, ↓if_neg, ↓reduceIte, i32_of, Int.reduceAdd, or_true]
  · rw [if_neg y] at u1 ⊢
    simp (disch := omega) only [eX10_rightlyFolded, sX10_rightlyFolded_0, sX10_rightlyFolded_1, sX10_rightlyFolded_4, sX10_rightlyFolded_5, sX10_rightlyFolded_8, sX10_rightlyFolded_11, sX10_rightlyFolded_12, sX10_rightlyFolded_13, sX10_rightlyFolded_14, sX10_rightlyFolded_15, sX10_rightlyFolded_18, sX10_rightlyFolded_19, sX10_rightlyFolded_22, sX10_rightlyFolded_23, sX10_rightlyFolded_24, sX10_rightlyFolded_25, sX10_rightlyFolded_26, sX10_rightlyFolded_27, sX10_rightlyFolded_30, sX10_rightlyFolded_33, sX10_rightlyFolded_36, sX10_rightlyFolded_39, sX10_rightlyFolded_40, sX10_rightlyFolded_43, sX10_rightlyFolded_44, sX10_rightlyFolded_47, sX10_rightlyFolded_48, sX10_rightlyFolded_51, sX10_rightlyFolded_54, ↓hk1, ↓hf1_9, ↓hf1_7, ↓hf1_10, ↓hk14, ↓hk16, ↓bndv_at s1, ↓bndi_at (l0 _), ↓bndi_at (l1 _), ↓bndi_at (l2 _), ↓bndi_at (l3 _), ↓bndv_at t0, ↓bndv_at t1, ↓bndv_at t2, ↓bndv_at t3, ↓bndr_at rf, ↓bndi_at u1, ↓if_pos, ↓if_neg, ↓reduceIte, i32_of, Int.reduceAdd, true_or]
theorem c_fo_l {A0 F0 : Nat → Nat → Int} {w : Int} {P : Nat → Bool} (h0 : inv A0 F0 E) (r : SR1 G (A0 13) (A0 11) (A0 17) (A0 18) (A0 19) (F0 16 3) (A0 113)) (hZ : F0 16 3 = (Z : Int)) (q : cR A0 E (rad (F0 1 5)) Q) (hP : ∀ c, P c = alS Q G Z (A0 17) (A0 18) (A0 19) 61 0 (tlR (A0 11) c)) : ∀ (n k : Nat) (A F : Nat → Nat → Int) (un : Nat) (b : Bool), k + n = 256 → cfr A0 F0 A F → cn 82 (A 15) → un ≤ 256 → (∀ d, k ≤ d → d < un → P d = b) → ∃ A' F' x4 x5, rn mX10_folds 32 [vr 1, vi w, vi (fcN P k).1, vi (fcN P k).2, vi (un : Int), vi (if b then 1 else 0), vi (k : Int)] [] (HP A F E) = rn mX10_folds 89 [vr 1, vi w, vi (fcN P 256).1, vi (fcN P 256).2, vi x4, vi x5, vi 256] [] (HP A' F' E) ∧ cfr A0 F0 A' F' ∧ cn 82 (A' 15) := by
  have hb : ∀ j, j < Z → 0 ≤ A0 17 j ∧ A0 17 j ≤ 60 := fun j hj => (r.2.2.2.2.2.2.2.2.2.1 j (by omega)).1
  intro n
  induction n with
  | zero =>
    intro k A F un b hk c h hu hd
    have : k = 256 := by omega
    subst this
    refine ⟨A, F, (un : Int), (if b then 1 else 0), ?_, c, h⟩
    rw [sX10_folds_32]
    simp (disch := omega) only [eX10_folds, sX10_folds_0, sX10_folds_1, sX10_folds_4, sX10_folds_7, sX10_folds_8, sX10_folds_9, sX10_folds_10, sX10_folds_13, sX10_folds_16, sX10_folds_18, sX10_folds_19, sX10_folds_20, sX10_folds_21, sX10_folds_22, sX10_folds_23, sX10_folds_24, sX10_folds_26, sX10_folds_27, sX10_folds_29, sX10_folds_30, sX10_folds_34, sX10_folds_37, sX10_folds_40, sX10_folds_42, sX10_folds_44, sX10_folds_47, sX10_folds_48, sX10_folds_50, sX10_folds_53, sX10_folds_55, sX10_folds_56, sX10_folds_58, sX10_folds_61, sX10_folds_63, sX10_folds_65, sX10_folds_68, sX10_folds_71, sX10_folds_72, sX10_folds_73, sX10_folds_76, sX10_folds_78, sX10_folds_81, sX10_folds_82, sX10_folds_83, sX10_folds_86, sX10_folds_90, sX10_folds_91, sX10_folds_94, sX10_folds_95, sX10_folds_96, sX10_folds_97, sX10_folds_98, sX10_folds_101, sX10_folds_103, sX10_folds_106, sX10_folds_107, sX10_folds_108, sX10_folds_111, ↓if_pos]
    rfl
  | succ n ih =>
    intro k A F un b hk c h hu hd
    have mid : ∃ A1 F1, ∃ un' : Nat, rn mX10_folds 32 [vr 1, vi w, vi (fcN P k).1, vi (fcN P k).2, vi (un : Int), vi (if b then 1 else 0), vi (k : Int)] [] (HP A F E) = rn mX10_folds 63 [vr 1, vi w, vi (fcN P k).1, vi (fcN P k).2, vi (un' : Int), vi (if P k then 1 else 0), vi (k : Int)] [] (HP A1 F1 E) ∧ cfr A0 F0 A1 F1 ∧ cn 82 (A1 15) ∧ un' ≤ 256 ∧ ∀ d, k ≤ d → d < un' → P d = P k := by
      by_cases z : k < un
      · have e := hd k (by omega) z
        refine ⟨A, F, un, ?_, c, h, hu, fun d d1 d2 => by rw [e]; exact hd d d1 d2⟩
        rw [sX10_folds_32, e]
        simp (disch := omega) only [eX10_folds, sX10_folds_0, sX10_folds_1, sX10_folds_4, sX10_folds_7, sX10_folds_8, sX10_folds_9, sX10_folds_10, sX10_folds_13, sX10_folds_16, sX10_folds_18, sX10_folds_19, sX10_folds_20, sX10_folds_21, sX10_folds_22, sX10_folds_23, sX10_folds_24, sX10_folds_26, sX10_folds_27, sX10_folds_29, sX10_folds_30, sX10_folds_34, sX10_folds_37, sX10_folds_40, sX10_folds_42, sX10_folds_44, sX10_folds_47, sX10_folds_48, sX10_folds_50, sX10_folds_53, sX10_folds_55, sX10_folds_56, sX10_folds_58, sX10_folds_61, sX10_folds_65, sX10_folds_68, sX10_folds_71, sX10_folds_72, sX10_folds_73, sX10_folds_76, sX10_folds_78, sX10_folds_81, sX10_folds_82, sX10_folds_83, sX10_folds_86, sX10_folds_89, sX10_folds_90, sX10_folds_91, sX10_folds_94, sX10_folds_95, sX10_folds_96, sX10_folds_97, sX10_folds_98, sX10_folds_101, sX10_folds_103, sX10_folds_106, sX10_folds_107, sX10_folds_108, sX10_folds_111, ↓if_pos, ↓if_neg]
      · obtain ⟨A1, F1, t1, t2, t3, t4⟩ := c_folded (c := k) h0 r hZ (by omega) q c h
        rw [← hP k] at t1
        have g1 := hfS_ge (Q := Q) (G := G) (Z := Z) (fs := A0 17) (fg := A0 18) (fc := A0 19) (nlast (A0 17) Z 0 (-1) + 1).toNat 0 (tlR (A0 11) k, -1)
        have g2 := hfS_le (Q := Q) (G := G) (Z := Z) (fs := A0 17) (fg := A0 18) (fc := A0 19) q.1 (nlast (A0 17) Z 0 (-1) + 1).toNat 0 (tlR (A0 11) k, -1) (tlR_ok r.2.1) (by show (-1 : Int) ≤ 3; omega)
        have g3 : ((-1 : Int)) ≤ (hfS Q G Z (A0 17) (A0 18) (A0 19) (nlast (A0 17) Z 0 (-1) + 1).toNat 0 (tlR (A0 11) k, -1)).2.2 := g1
        obtain ⟨m, hm⟩ : ∃ m : Nat, (hfS Q G Z (A0 17) (A0 18) (A0 19) (nlast (A0 17) Z 0 (-1) + 1).toNat 0 (tlR (A0 11) k, -1)).2.2 = 3 - (m : Int) := ⟨(3 - (hfS Q G Z (A0 17) (A0 18) (A0 19) (nlast (A0 17) Z 0 (-1) + 1).toNat 0 (tlR (A0 11) k, -1)).2.2).toNat, by omega⟩
        have m5 : m < 5 := by omega
        have bh := E_behind (A := A1) (F := F1) (E := E) (c := k) (m := m) (by omega) m5 (by rw [t4]; exact hm)
        refine ⟨A1, F1, (k / 4 ^ m + 1) * 4 ^ m, ?_, t2, t3, bl_le (by omega) m5, fun d d1 d2 => ?_⟩
        · rw [sX10_folds_32]
          simp (disch := omega) only [eX10_folds, sX10_folds_0, sX10_folds_1, sX10_folds_4, sX10_folds_7, sX10_folds_8, sX10_folds_9, sX10_folds_10, sX10_folds_13, sX10_folds_16, sX10_folds_18, sX10_folds_19, sX10_folds_20, sX10_folds_21, sX10_folds_22, sX10_folds_23, sX10_folds_24, sX10_folds_26, sX10_folds_27, sX10_folds_29, sX10_folds_30, sX10_folds_34, sX10_folds_37, sX10_folds_40, sX10_folds_42, sX10_folds_44, sX10_folds_47, sX10_folds_48, sX10_folds_50, sX10_folds_53, sX10_folds_55, sX10_folds_56, sX10_folds_58, sX10_folds_61, sX10_folds_65, sX10_folds_68, sX10_folds_71, sX10_folds_72, sX10_folds_73, sX10_folds_76, sX10_folds_78, sX10_folds_81, sX10_folds_82, sX10_folds_83, sX10_folds_86, sX10_folds_89, sX10_folds_90, sX10_folds_91, sX10_folds_94, sX10_folds_95, sX10_folds_96, sX10_folds_97, sX10_folds_98, sX10_folds_101, sX10_folds_103, sX10_folds_106, sX10_folds_107, sX10_folds_108, sX10_folds_111, ↓hk1, ↓bndi_at t1, ↓bndi_at bh, ↓if_pos, ↓if_neg]
        · rw [hP, hP]
          exact fold_alike q.1 r.2.1 hb m5 hm (bl_k d1 d2)
    obtain ⟨A1, F1, un', m1, m2, m3, m4, m5⟩ := mid
    obtain ⟨A2, F2, x4, x5, u1, u2, u3⟩ := ih (k + 1) A1 F1 un' (P k) (by omega) m2 m3 m4 (fun d d1 d2 => m5 d (by omega) d2)
    refine ⟨A2, F2, x4, x5, ?_, u2, u3⟩
    have fb := fcN_b (P := P) k
    rw [m1, ← u1]
    by_cases z : P k = true
    · rw [fcN, if_pos z, if_pos z]
      simp only
      by_cases y : (fcN P k).2 = -1
      · rw [if_pos y]
        simp (disch := omega) only [eX10_folds, sX10_folds_0, sX10_folds_1, sX10_folds_4, sX10_folds_7, sX10_folds_8, sX10_folds_9, sX10_folds_10, sX10_folds_13, sX10_folds_16, sX10_folds_18, sX10_folds_19, sX10_folds_20, sX10_folds_21, sX10_folds_22, sX10_folds_23, sX10_folds_24, sX10_folds_26, sX10_folds_27, sX10_folds_29, sX10_folds_30, sX10_folds_34, sX10_folds_37, sX10_folds_40, sX10_folds_42, sX10_folds_44, sX10_folds_47, sX10_folds_48, sX10_folds_50, sX10_folds_53, sX10_folds_55, sX10_folds_56, sX10_folds_58, sX10_folds_61, sX10_folds_63, sX10_folds_65, sX10_folds_68, sX10_folds_71, sX10_folds_72, sX10_folds_73, sX10_folds_76, sX10_folds_78, sX10_folds_81, sX10_folds_82, sX10_folds_83, sX10_folds_86, sX10_folds_90, sX10_folds_91, sX10_folds_94, sX10_folds_95, sX10_folds_96, sX10_folds_97, sX10_folds_98, sX10_folds_101, sX10_folds_103, sX10_folds_106, sX10_folds_107, sX10_folds_108, sX10_folds_111, ↓if_pos, ↓if_neg, i32_of]
        rfl
      · rw [if_neg y]
        simp (disch := omega) only [eX10_folds, sX10_folds_0, sX10_folds_1, sX10_folds_4, sX10_folds_7, sX10_folds_8, sX10_folds_9, sX10_folds_10, sX10_folds_13, sX10_folds_16, sX10_folds_18, sX10_folds_19, sX10_folds_20, sX10_folds_21, sX10_folds_22, sX10_folds_23, sX10_folds_24, sX10_folds_26, sX10_folds_27, sX10_folds_29, sX10_folds_30, sX10_folds_34, sX10_folds_37, sX10_folds_40, sX10_folds_42, sX10_folds_44, sX10_folds_47, sX10_folds_48, sX10_folds_50, sX10_folds_53, sX10_folds_55, sX10_folds_56, sX10_folds_58, sX10_folds_61, sX10_folds_63, sX10_folds_65, sX10_folds_68, sX10_folds_71, sX10_folds_72, sX10_folds_73, sX10_folds_76, sX10_folds_78, sX10_folds_81, sX10_folds_82, sX10_folds_83, sX10_folds_86, sX10_folds_90, sX10_folds_91, sX10_folds_94, sX10_folds_95, sX10_folds_96, sX10_folds_97, sX10_folds_98, sX10_folds_101, sX10_folds_103, sX10_folds_106, sX10_folds_107, sX10_folds_108, sX10_folds_111, ↓if_pos, ↓if_neg, i32_of]
        rfl
    · rw [fcN, if_neg z, if_neg z]
      simp (disch := omega) only [eX10_folds, sX10_folds_0, sX10_folds_1, sX10_folds_4, sX10_folds_7, sX10_folds_8, sX10_folds_9, sX10_folds_10, sX10_folds_13, sX10_folds_16, sX10_folds_18, sX10_folds_19, sX10_folds_20, sX10_folds_21, sX10_folds_22, sX10_folds_23, sX10_folds_24, sX10_folds_26, sX10_folds_27, sX10_folds_29, sX10_folds_30, sX10_folds_34, sX10_folds_37, sX10_folds_40, sX10_folds_42, sX10_folds_44, sX10_folds_47, sX10_folds_48, sX10_folds_50, sX10_folds_53, sX10_folds_55, sX10_folds_56, sX10_folds_58, sX10_folds_61, sX10_folds_63, sX10_folds_65, sX10_folds_68, sX10_folds_71, sX10_folds_72, sX10_folds_73, sX10_folds_76, sX10_folds_78, sX10_folds_81, sX10_folds_82, sX10_folds_83, sX10_folds_86, sX10_folds_90, sX10_folds_91, sX10_folds_94, sX10_folds_95, sX10_folds_96, sX10_folds_97, sX10_folds_98, sX10_folds_101, sX10_folds_103, sX10_folds_106, sX10_folds_107, sX10_folds_108, sX10_folds_111, ↓if_pos, ↓if_neg, i32_of]
      rfl
end FO
