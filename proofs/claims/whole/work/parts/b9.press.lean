/-! look: the fitting rules pressed together -/
def fitN (P : Nat → Bool) : Nat → Nat
  | 0 => 0
  | k + 1 => fitN P k + (if P k then 1 else 0)
def pkT (P : Nat → Bool) (v : Nat → Nat → Int) : Nat → Nat → Int
  | 0, _ => 0
  | k + 1, j => if P k = true ∧ 5 * fitN P k ≤ j ∧ j < 5 * fitN P k + 5 then v k (j - 5 * fitN P k) else pkT P v k j
theorem fitN_b {P : Nat → Bool} : ∀ k, fitN P k ≤ k
  | 0 => Nat.le_refl _
  | k + 1 => by have := fitN_b (P := P) k; rw [fitN]; split <;> omega
theorem pkT_lo {P : Nat → Bool} {v : Nat → Nat → Int} {k j : Nat} (h : j < 5 * fitN P k) : pkT P v (k + 1) j = pkT P v k j := by
  rw [pkT, if_neg (by omega)]
theorem pkT_at {P : Nat → Bool} {v : Nat → Nat → Int} {k g : Nat} (z : P k = true) (hg : g < 5) : pkT P v (k + 1) (5 * fitN P k + g) = v k g := by
  rw [pkT, if_pos (show P k = true ∧ 5 * fitN P k ≤ 5 * fitN P k + g ∧ 5 * fitN P k + g < 5 * fitN P k + 5 from ⟨z, by omega, by omega⟩), show 5 * fitN P k + g - 5 * fitN P k = g by omega]
theorem pk_sum {P : Nat → Bool} {v : Nat → Nat → Int} {g : Nat} {c : Int} (hg : g < 5) : ∀ k, sumN (alC (pkT P v k) g c) (fitN P k) = sumN (fun b => if P b = true ∧ v b g = c then 1 else 0) k
  | 0 => rfl
  | k + 1 => by
    have i := pk_sum (P := P) (v := v) (g := g) (c := c) hg k
    have e : sumN (alC (pkT P v (k + 1)) g c) (fitN P k) = sumN (alC (pkT P v k) g c) (fitN P k) := sumN_c _ (fun j hj => by unfold alC; rw [pkT_lo (by omega)])
    rw [fitN, sumN, ← i, ← e]
    by_cases z : P k = true
    · rw [if_pos z, sumN]
      congr 1
      unfold alC
      rw [pkT_at z hg]
      by_cases y : v k g = c
      · rw [if_pos y, if_pos ⟨z, y⟩]
      · rw [if_neg y, if_neg (fun q => y q.2)]
    · rw [if_neg z, if_neg (fun q => z q.1), Int.add_zero]
      rfl
theorem mxN_c {h h' : Nat → Int} : ∀ n, (∀ k, k < n → h k = h' k) → mxN h n = mxN h' n
  | 0, _ => rfl
  | n + 1, k => by rw [mxN, mxN, mxN_c n (fun j hj => k j (by omega)), k n (by omega)]
theorem mxN_0 {h : Nat → Int} : ∀ n, 0 ≤ mxN h n
  | 0 => by rw [mxN]; omega
  | n + 1 => by have := mxN_0 (h := h) n; rw [mxN]; split <;> omega
theorem pk_max {P : Nat → Bool} {v : Nat → Nat → Int} {g : Nat} {H : Int → Int} (hg : g < 5) : ∀ k, mxN (fun i => H (pkT P v k (5 * i + g))) (fitN P k) = mxN (fun a => if P a then H (v a g) else 0) k
  | 0 => rfl
  | k + 1 => by
    have i := pk_max (P := P) (v := v) (g := g) (H := H) hg k
    have e : mxN (fun i => H (pkT P v (k + 1) (5 * i + g))) (fitN P k) = mxN (fun i => H (pkT P v k (5 * i + g))) (fitN P k) := mxN_c _ (fun j hj => by show H _ = H _; rw [pkT_lo (by omega)])
    rw [fitN]
    by_cases z : P k = true
    · rw [if_pos z, mxN, mxN, e, i, pkT_at z hg, if_pos z]
    · rw [if_neg z, show fitN P k + 0 = fitN P k from rfl, e, i, mxN, if_neg z]
      have := mxN_0 (h := fun a => if P a = true then H (v a g) else 0) k
      rw [if_neg (by omega)]
/-- both ways of counting give the same -/
theorem pk_al {P : Nat → Bool} {v : Nat → Nat → Int} {V : Nat → Int} {g R : Nat} (hg : g < 5) (hV : ∀ k, k ≤ R → V (5 * k + g) = v k g) : mxN (fun k => sumN (alC (pkT P v (R + 1)) g (pkT P v (R + 1) (5 * k + g))) (fitN P (R + 1))) (fitN P (R + 1)) = mxN (alM P V g R) (R + 1) := by
  rw [pk_max (P := P) (v := v) (H := fun c => sumN (alC (pkT P v (R + 1)) g c) (fitN P (R + 1))) hg (R + 1)]
  refine mxN_c _ (fun a ha => ?_)
  unfold alM
  by_cases z : P a = true
  · rw [if_pos z, if_pos z, pk_sum hg (R + 1)]
    refine sumN_c _ (fun b hb => ?_)
    unfold alF
    rw [hV b (by omega), hV a (by omega)]
  · rw [if_neg z, if_neg z]
section TF
variable {A F : Nat → Nat → Int} {E : zE} {G Z : Nat} {Q : (Int → Int) → Int}
theorem c_tf_in {m k x4 : Nat} {x3 : Int} (hk : k ≤ 6) : ∀ (n g : Nat) (A F : Nat → Nat → Int), g + n = 5 → ∃ W, rn mX10_trackFitting 73 [vr 1, vi (m : Int), vi (k : Int), vi x3, vr x4, vi (g : Int)] [] (HP A F E) = rn mX10_trackFitting 106 [vr 1, vi (m : Int), vi (k : Int), vi x3, vr x4, vi 5] [] (HP (aup A 64 W) F E) ∧ ∀ j, W j = if 5 * k + g ≤ j ∧ j < 5 * k + 5 then A 15 (47 + 7 * (j - 5 * k)) else A 64 j := by
  intro n
  induction n with
  | zero =>
    intro g A F hg
    have : g = 5 := by omega
    subst this
    refine ⟨A 64, ?_, fun j => by rw [if_neg (by omega)]⟩
    rw [sX10_trackFitting_73, aup_id]
    simp (disch := omega) only [eX10_trackFitting, sX10_trackFitting_0, sX10_trackFitting_1, sX10_trackFitting_2, sX10_trackFitting_3, sX10_trackFitting_5, sX10_trackFitting_6, sX10_trackFitting_9, sX10_trackFitting_12, sX10_trackFitting_13, sX10_trackFitting_15, sX10_trackFitting_18, sX10_trackFitting_19, sX10_trackFitting_20, sX10_trackFitting_23, sX10_trackFitting_25, sX10_trackFitting_26, sX10_trackFitting_29, sX10_trackFitting_30, sX10_trackFitting_33, sX10_trackFitting_36, sX10_trackFitting_37, sX10_trackFitting_40, sX10_trackFitting_41, sX10_trackFitting_44, sX10_trackFitting_46, sX10_trackFitting_49, sX10_trackFitting_52, sX10_trackFitting_53, sX10_trackFitting_56, sX10_trackFitting_57, sX10_trackFitting_60, sX10_trackFitting_63, sX10_trackFitting_64, sX10_trackFitting_65, sX10_trackFitting_67, sX10_trackFitting_70, sX10_trackFitting_71, sX10_trackFitting_75, sX10_trackFitting_76, sX10_trackFitting_79, sX10_trackFitting_80, sX10_trackFitting_83, sX10_trackFitting_84, sX10_trackFitting_85, sX10_trackFitting_86, sX10_trackFitting_88, sX10_trackFitting_89, sX10_trackFitting_90, sX10_trackFitting_93, sX10_trackFitting_95, sX10_trackFitting_96, sX10_trackFitting_99, sX10_trackFitting_100, sX10_trackFitting_103, sX10_trackFitting_109, sX10_trackFitting_112, sX10_trackFitting_115, sX10_trackFitting_116, ↓if_pos]
    rfl
  | succ n ih =>
    intro g A F hg
    obtain ⟨W, r1, r2⟩ := ih (g + 1) (aup A 64 (fup (A 64) (5 * k + g) (A 15 (47 + 7 * g)))) F (by omega)
    rw [aup_aup] at r1
    have ce := c_of0 (A := A) (F := F) (E := E) (p := g) (by omega)
    have e : ((k : Int) * 5 + (g : Int)).toNat = 5 * k + g := by omega
    refine ⟨W, ?_, fun j => ?_⟩
    · rw [← r1, sX10_trackFitting_73]
      simp (disch := omega) only [eX10_trackFitting, sX10_trackFitting_0, sX10_trackFitting_1, sX10_trackFitting_2, sX10_trackFitting_3, sX10_trackFitting_5, sX10_trackFitting_6, sX10_trackFitting_9, sX10_trackFitting_12, sX10_trackFitting_13, sX10_trackFitting_15, sX10_trackFitting_18, sX10_trackFitting_19, sX10_trackFitting_20, sX10_trackFitting_23, sX10_trackFitting_25, sX10_trackFitting_26, sX10_trackFitting_29, sX10_trackFitting_30, sX10_trackFitting_33, sX10_trackFitting_36, sX10_trackFitting_37, sX10_trackFitting_40, sX10_trackFitting_41, sX10_trackFitting_44, sX10_trackFitting_46, sX10_trackFitting_49, sX10_trackFitting_52, sX10_trackFitting_53, sX10_trackFitting_56, sX10_trackFitting_57, sX10_trackFitting_60, sX10_trackFitting_63, sX10_trackFitting_64, sX10_trackFitting_65, sX10_trackFitting_67, sX10_trackFitting_70, sX10_trackFitting_71, sX10_trackFitting_75, sX10_trackFitting_76, sX10_trackFitting_79, sX10_trackFitting_80, sX10_trackFitting_83, sX10_trackFitting_84, sX10_trackFitting_85, sX10_trackFitting_86, sX10_trackFitting_88, sX10_trackFitting_89, sX10_trackFitting_90, sX10_trackFitting_93, sX10_trackFitting_95, sX10_trackFitting_96, sX10_trackFitting_99, sX10_trackFitting_100, sX10_trackFitting_103, sX10_trackFitting_109, sX10_trackFitting_112, sX10_trackFitting_115, sX10_trackFitting_116, ↓hf1_14, ↓hf1_9, ↓hk14, ↓bndi_at ce, ↓hs64, i32_of, e, ↓if_neg]
      rfl
    · rw [r2, aup_s, aup_n (by omega)]
      by_cases q : j = 5 * k + g
      · subst q; rw [if_neg (by omega), if_pos (by omega), fup_s, show 5 * k + g - 5 * k = g by omega]
      · by_cases q2 : 5 * k + g ≤ j ∧ j < 5 * k + 5
        · rw [if_pos (by omega), if_pos q2]
        · rw [if_neg (by omega), if_neg q2, fup_n q]
theorem c_tf_l {A0 F0 : Nat → Nat → Int} {Qf : Nat → (Int → Int) → Int} {m : Nat} (hm : m < 100000) (h0 : inv A0 F0 E) (r : SR1 G (A0 13) (A0 11) (A0 17) (A0 18) (A0 19) (F0 16 3) (A0 113)) (hZ : F0 16 3 = (Z : Int)) (hQf : ∀ k, k ≤ E.2.1 → cR A0 E (rad ((k : Int) - 1)) (Qf k)) : ∀ (n a : Nat) (A F : Nat → Nat → Int) (x4 x5 : zV), a + n = E.2.1 + 1 → cfr A0 F0 A F → cn 82 (A 15) → (∀ j, j < 5 * fitN (fun k => alS (Qf k) G Z (A0 17) (A0 18) (A0 19) 61 0 (A0 11)) a → A 64 j = pkT (fun k => alS (Qf k) G Z (A0 17) (A0 18) (A0 19) 61 0 (A0 11)) (fun k g => psN (Qf k) G m (A0 11) (47 + 7 * g)) a j) → ∃ A' F', rn mX10_trackFitting 4 [vr 1, vi (m : Int), vi ((fitN (fun k => alS (Qf k) G Z (A0 17) (A0 18) (A0 19) 61 0 (A0 11)) a : Nat) : Int), vi ((a : Int) - 1), x4, x5] [] (HP A F E) = some (vi ((fitN (fun k => alS (Qf k) G Z (A0 17) (A0 18) (A0 19) 61 0 (A0 11)) (E.2.1 + 1) : Nat) : Int), HP A' F' E) ∧ cfr A0 F0 A' F' ∧ cn 82 (A' 15) ∧ ∀ j, j < 5 * fitN (fun k => alS (Qf k) G Z (A0 17) (A0 18) (A0 19) 61 0 (A0 11)) (E.2.1 + 1) → A' 64 j = pkT (fun k => alS (Qf k) G Z (A0 17) (A0 18) (A0 19) 61 0 (A0 11)) (fun k g => psN (Qf k) G m (A0 11) (47 + 7 * g)) (E.2.1 + 1) j := by
  have h6 := h0.2.1.1
  generalize hP : (fun k => alS (Qf k) G Z (A0 17) (A0 18) (A0 19) 61 0 (A0 11)) = P
  generalize hv : (fun k g => psN (Qf k) G m (A0 11) (47 + 7 * g)) = v
  intro n
  induction n with
  | zero =>
    intro a A F x4 x5 ha c h hT
    have : a = E.2.1 + 1 := by omega
    subst this
    have e1 : F 1 4 = (E.2.1 : Int) := by rw [c.2 1 (by omega) (by omega)]; exact h0.2.1.2.2.1
    refine ⟨A, F, ?_, c, h, hT⟩
    rw [sX10_trackFitting_4]
    simp (disch := omega) only [eX10_trackFitting, sX10_trackFitting_0, sX10_trackFitting_1, sX10_trackFitting_2, sX10_trackFitting_3, sX10_trackFitting_5, sX10_trackFitting_6, sX10_trackFitting_9, sX10_trackFitting_12, sX10_trackFitting_13, sX10_trackFitting_15, sX10_trackFitting_18, sX10_trackFitting_19, sX10_trackFitting_20, sX10_trackFitting_23, sX10_trackFitting_25, sX10_trackFitting_26, sX10_trackFitting_29, sX10_trackFitting_30, sX10_trackFitting_33, sX10_trackFitting_36, sX10_trackFitting_37, sX10_trackFitting_40, sX10_trackFitting_41, sX10_trackFitting_44, sX10_trackFitting_46, sX10_trackFitting_49, sX10_trackFitting_52, sX10_trackFitting_53, sX10_trackFitting_56, sX10_trackFitting_57, sX10_trackFitting_60, sX10_trackFitting_63, sX10_trackFitting_64, sX10_trackFitting_65, sX10_trackFitting_67, sX10_trackFitting_70, sX10_trackFitting_71, sX10_trackFitting_75, sX10_trackFitting_76, sX10_trackFitting_79, sX10_trackFitting_80, sX10_trackFitting_83, sX10_trackFitting_84, sX10_trackFitting_85, sX10_trackFitting_86, sX10_trackFitting_88, sX10_trackFitting_89, sX10_trackFitting_90, sX10_trackFitting_93, sX10_trackFitting_95, sX10_trackFitting_96, sX10_trackFitting_99, sX10_trackFitting_100, sX10_trackFitting_103, sX10_trackFitting_106, sX10_trackFitting_109, sX10_trackFitting_112, sX10_trackFitting_115, sX10_trackFitting_116, ↓hf1_4, e1, ↓if_pos]
  | succ n ih =>
    intro a A F x4 x5 ha c h hT
    have fb := fitN_b (P := P) a
    have e1 : F 1 4 = (E.2.1 : Int) := by rw [c.2 1 (by omega) (by omega)]; exact h0.2.1.2.2.1
    have rf := E_ruleOf (A := A) (F := F) (E := E) (k := (a : Int) - 1) e1 h6 (by omega) (by omega)
    obtain ⟨A1, F1, s1, s2, s3, s4, _, s6, _⟩ := c_told h0 r (hQf a (by omega)) c h
    obtain ⟨⟨n1, n2⟩, ⟨n3, n4, n5⟩, n6⟩ := c_notes r hZ s3
    obtain ⟨A2, F2, t1, t2, t3, _, t5, _⟩ := c_hold (Z := Z) s4 n1 n2 n6
    rw [n3, n4, n5, s2] at t1
    have c2 := cfr_t s3 t2
    have ePa : alS (Qf a) G Z (A0 17) (A0 18) (A0 19) 61 0 (A0 11) = P a := by rw [← hP]
    rw [ePa] at t1
    have a64 : A2 64 = A 64 := by
      rw [t5 64 (by omega) (by unfold isk; omega), s6 64 (by omega)]
    by_cases z : P a = true
    · rw [if_pos z] at t1
      obtain ⟨A3, F3, w1, w2, w3, w4, _, w6, _⟩ := c_told h0 r (hQf a (by omega)) c2 t3
      obtain ⟨A4, F4, x1, x2, x3, x4', x5'⟩ := c_walk (m := m) hm w4
      rw [w2] at x2
      have a64' : ∀ j, A4 64 j = A 64 j := fun j => by rw [x5' 64 (by omega) (by unfold isk; omega), w6 64 (by omega), a64]
      obtain ⟨W, y1, y2⟩ := c_tf_in (m := m) (k := fitN P a) (x4 := rad ((a : Int) - 1)) (x3 := (a : Int) - 1) (E := E) (by omega) 5 0 A4 F4 (by omega)
      have y1' : rn mX10_trackFitting 73 [vr 1, vi (m : Int), vi ((fitN P a : Nat) : Int), vi ((a : Int) - 1), vr (rad ((a : Int) - 1)), vi 0] [] (HP A4 F4 E) = _ := y1
      have c5 : cfr A0 F0 (aup A4 64 W) F4 := cfr_t (cfr_t w3 x3) ⟨fun j _ j2 _ _ _ => aup_n j2, fun _ _ _ => rfl⟩
      have ef : fitN P (a + 1) = fitN P a + 1 := by rw [fitN, if_pos z]
      obtain ⟨A5, F5, u1, u2, u3, u4⟩ := ih (a + 1) (aup A4 64 W) F4 (vr (rad ((a : Int) - 1))) (vi 5) (by omega) c5 (by rw [aup_n (by omega)]; exact x4'.2.1) (fun j hj => by
        rw [aup_s, y2]
        rw [ef] at hj
        by_cases q : 5 * fitN P a + 0 ≤ j ∧ j < 5 * fitN P a + 5
        · rw [if_pos q, x2, pkT, if_pos ⟨z, by omega, by omega⟩, ← hv]
        · rw [if_neg q, a64' j, hT j (by omega), pkT_lo (by omega)])
      refine ⟨A5, F5, ?_, u2, u3, u4⟩
      rw [← u1, ef, sX10_trackFitting_4]
      simp (disch := omega) only [eX10_trackFitting, sX10_trackFitting_0, sX10_trackFitting_1, sX10_trackFitting_2, sX10_trackFitting_3, sX10_trackFitting_5, sX10_trackFitting_6, sX10_trackFitting_9, sX10_trackFitting_12, sX10_trackFitting_13, sX10_trackFitting_15, sX10_trackFitting_18, sX10_trackFitting_19, sX10_trackFitting_20, sX10_trackFitting_23, sX10_trackFitting_25, sX10_trackFitting_26, sX10_trackFitting_29, sX10_trackFitting_30, sX10_trackFitting_33, sX10_trackFitting_36, sX10_trackFitting_37, sX10_trackFitting_40, sX10_trackFitting_41, sX10_trackFitting_44, sX10_trackFitting_46, sX10_trackFitting_49, sX10_trackFitting_52, sX10_trackFitting_53, sX10_trackFitting_56, sX10_trackFitting_57, sX10_trackFitting_60, sX10_trackFitting_63, sX10_trackFitting_64, sX10_trackFitting_65, sX10_trackFitting_67, sX10_trackFitting_70, sX10_trackFitting_71, sX10_trackFitting_75, sX10_trackFitting_76, sX10_trackFitting_79, sX10_trackFitting_80, sX10_trackFitting_83, sX10_trackFitting_84, sX10_trackFitting_85, sX10_trackFitting_86, sX10_trackFitting_88, sX10_trackFitting_89, sX10_trackFitting_90, sX10_trackFitting_93, sX10_trackFitting_95, sX10_trackFitting_96, sX10_trackFitting_99, sX10_trackFitting_100, sX10_trackFitting_103, sX10_trackFitting_109, sX10_trackFitting_112, sX10_trackFitting_115, sX10_trackFitting_116, ↓hk1, ↓hf1_4, ↓hf1_9, ↓hf1_7, ↓hf1_10, ↓hk14, ↓hk16, e1, ↓bndr_at rf, ↓bndv_at s1, ↓bndi_at t1, ↓bndv_at w1, ↓bndv_at x1, ↓if_pos, ↓if_neg]
      rw [y1']
      simp (disch := omega) only [eX10_trackFitting, sX10_trackFitting_0, sX10_trackFitting_1, sX10_trackFitting_2, sX10_trackFitting_3, sX10_trackFitting_5, sX10_trackFitting_6, sX10_trackFitting_9, sX10_trackFitting_12, sX10_trackFitting_13, sX10_trackFitting_15, sX10_trackFitting_18, sX10_trackFitting_19, sX10_trackFitting_20, sX10_trackFitting_23, sX10_trackFitting_25, sX10_trackFitting_26, sX10_trackFitting_29, sX10_trackFitting_30, sX10_trackFitting_33, sX10_trackFitting_36, sX10_trackFitting_37, sX10_trackFitting_40, sX10_trackFitting_41, sX10_trackFitting_44, sX10_trackFitting_46, sX10_trackFitting_49, sX10_trackFitting_52, sX10_trackFitting_53, sX10_trackFitting_56, sX10_trackFitting_57, sX10_trackFitting_60, sX10_trackFitting_63, sX10_trackFitting_64, sX10_trackFitting_65, sX10_trackFitting_67, sX10_trackFitting_70, sX10_trackFitting_71, sX10_trackFitting_75, sX10_trackFitting_76, sX10_trackFitting_79, sX10_trackFitting_80, sX10_trackFitting_83, sX10_trackFitting_84, sX10_trackFitting_85, sX10_trackFitting_86, sX10_trackFitting_88, sX10_trackFitting_89, sX10_trackFitting_90, sX10_trackFitting_93, sX10_trackFitting_95, sX10_trackFitting_96, sX10_trackFitting_99, sX10_trackFitting_100, sX10_trackFitting_103, sX10_trackFitting_106, sX10_trackFitting_109, sX10_trackFitting_112, sX10_trackFitting_115, sX10_trackFitting_116, i32_of]
      rw [show (a : Int) - 1 + 1 = ((a + 1 : Nat) : Int) - 1 by omega]
      rfl
    · rw [if_neg z] at t1
      have ef : fitN P (a + 1) = fitN P a := by rw [fitN, if_neg z]; rfl
      obtain ⟨A5, F5, u1, u2, u3, u4⟩ := ih (a + 1) A2 F2 (vr (rad ((a : Int) - 1))) x5 (by omega) c2 t3 (fun j hj => by
        rw [ef] at hj
        rw [a64, hT j hj, pkT_lo hj])
      refine ⟨A5, F5, ?_, u2, u3, u4⟩
      rw [← u1, ef, sX10_trackFitting_4]
      simp (disch := omega) only [eX10_trackFitting, sX10_trackFitting_0, sX10_trackFitting_1, sX10_trackFitting_2, sX10_trackFitting_3, sX10_trackFitting_5, sX10_trackFitting_6, sX10_trackFitting_9, sX10_trackFitting_12, sX10_trackFitting_13, sX10_trackFitting_15, sX10_trackFitting_18, sX10_trackFitting_19, sX10_trackFitting_20, sX10_trackFitting_23, sX10_trackFitting_25, sX10_trackFitting_26, sX10_trackFitting_29, sX10_trackFitting_30, sX10_trackFitting_33, sX10_trackFitting_36, sX10_trackFitting_37, sX10_trackFitting_40, sX10_trackFitting_41, sX10_trackFitting_44, sX10_trackFitting_46, sX10_trackFitting_49, sX10_trackFitting_52, sX10_trackFitting_53, sX10_trackFitting_56, sX10_trackFitting_57, sX10_trackFitting_60, sX10_trackFitting_63, sX10_trackFitting_64, sX10_trackFitting_65, sX10_trackFitting_67, sX10_trackFitting_70, sX10_trackFitting_71, sX10_trackFitting_75, sX10_trackFitting_76, sX10_trackFitting_79, sX10_trackFitting_80, sX10_trackFitting_83, sX10_trackFitting_84, sX10_trackFitting_85, sX10_trackFitting_86, sX10_trackFitting_88, sX10_trackFitting_89, sX10_trackFitting_90, sX10_trackFitting_93, sX10_trackFitting_95, sX10_trackFitting_96, sX10_trackFitting_99, sX10_trackFitting_100, sX10_trackFitting_103, sX10_trackFitting_106, sX10_trackFitting_109, sX10_trackFitting_112, sX10_trackFitting_115, sX10_trackFitting_116, ↓hk1, ↓hf1_4, ↓hf1_9, ↓hf1_7, ↓hf1_10, ↓hk14, ↓hk16, e1, ↓bndr_at rf, ↓bndv_at s1, ↓bndi_at t1, ↓if_pos, ↓if_neg, i32_of]
      rw [show (a : Int) - 1 + 1 = ((a + 1 : Nat) : Int) - 1 by omega]
end TF
