/-! rests: counting -/
def onN (Q : (Int → Int) → Int) (G g : Nat) : Nat → (Nat → Int) → Int
  | 0, _ => 0
  | n + 1, f => (if psa Q G f (50 + 7 * g) = 0 then 1 else 0) + onN Q G g n (psa Q G f)
theorem onN_b {Q : (Int → Int) → Int} {G g : Nat} : ∀ (n : Nat) (f : Nat → Int), 0 ≤ onN Q G g n f ∧ onN Q G g n f ≤ n
  | 0, _ => by rw [onN]; omega
  | n + 1, f => by
    have := onN_b (Q := Q) (G := G) (g := g) n (psa Q G f)
    rw [onN]
    split <;> omega
/-- a row with two turned -/
def twR (f : Nat → Int) (p q t : Nat) : Nat → Int := fup (fup f (48 + 7 * p) ((t / 4 : Nat) : Int)) (48 + 7 * q) ((t % 4 : Nat) : Int)
def rsP (T U : Nat → Int) (t : Nat) : Nat → Nat → Bool
  | 0, _ => true
  | n + 1, k => if T (4 * k + t % 4) > T t ∨ U (4 * (t / 4) + k) > U t then false else rsP T U t n (k + 1)
def rsN (P : Nat → Bool) : Nat → Int × Int → Int × Int
  | 0, x => x
  | n + 1, x => rsN P n (if P n then (x.1 + 1, (n : Int)) else x)
theorem rsN_c {P P' : Nat → Bool} : ∀ (n : Nat) (x : Int × Int), (∀ j, j < n → P j = P' j) → rsN P n x = rsN P' n x
  | 0, _, _ => rfl
  | n + 1, x, h => by rw [rsN, rsN, h n (by omega), rsN_c n _ (fun j hj => h j (by omega))]
theorem rsN_b {P : Nat → Bool} : ∀ (n : Nat) (x : Int × Int), (0 ≤ x.1 ∧ x.1 + n ≤ 1000) → (-1 ≤ x.2 ∧ x.2 ≤ 100) → n ≤ 16 → (0 ≤ (rsN P n x).1 ∧ (rsN P n x).1 ≤ 1000) ∧ -1 ≤ (rsN P n x).2 ∧ (rsN P n x).2 ≤ 100
  | 0, x, h1, h2, _ => ⟨⟨h1.1, by rw [rsN]; omega⟩, h2⟩
  | n + 1, x, h1, h2, hn => by
    rw [rsN]
    by_cases z : P n = true
    · rw [if_pos z]
      exact rsN_b (P := P) n (x.1 + 1, (n : Int)) ⟨by show 0 ≤ x.1 + 1; omega, by show x.1 + 1 + (n : Int) ≤ 1000; omega⟩ ⟨by show -1 ≤ (n : Int); omega, by show (n : Int) ≤ 100; omega⟩ (by omega)
    · rw [if_neg z]
      exact rsN_b (P := P) n x ⟨h1.1, by omega⟩ h2 (by omega)
section RS
variable {A F : Nat → Nat → Int} {E : zE} {G p q : Nat} {Q : (Int → Int) → Int} {f s0 f0 : Nat → Int}
theorem twR_ok {t : Nat} (h : wok f G) (hp : p < G) (hq : q < G) (ht : t < 16) : wok (twR f p q t) G := wturn_ok (wturn_ok h hp (by omega)) hq (by omega)
theorem c_on_in {A0 F0 : Nat → Nat → Int} {m t : Nat} (h0 : inv A0 F0 E) (hp : p ≤ 4) (hq : q ≤ 4) (hm : m ≤ 1000) (ht : t < 16) : ∀ (n k : Nat) (A F : Nat → Nat → Int), k + n = m → cfr A0 F0 A F → cw A F E G Q (rad (F0 1 5)) → (0 ≤ A 65 t ∧ A 65 t ≤ k) → (0 ≤ A 66 t ∧ A 66 t ≤ k) → ∃ A' F', rn mX10_countOn 49 [vr 1, vi (p : Int), vi (q : Int), vi (m : Int), vi (t : Int), vi (k : Int)] [] (HP A F E) = some (vn, HP A' F' E) ∧ cfr A0 F0 A' F' ∧ cn 82 (A' 15) ∧ A' 65 = fup (A 65) t (A 65 t + onN Q G p n (A 15)) ∧ A' 66 = fup (A 66) t (A 66 t + onN Q G q n (A 15)) := by
  intro n
  induction n with
  | zero =>
    intro k A F hk c h b1 b2
    have : k = m := by omega
    subst this
    refine ⟨A, F, ?_, c, h.2.1, by rw [onN, Int.add_zero, fup_id], by rw [onN, Int.add_zero, fup_id]⟩
    rw [sX10_countOn_49]
    simp (disch := omega) only [eX10_countOn, sX10_countOn_0, sX10_countOn_1, sX10_countOn_4, sX10_countOn_5, sX10_countOn_8, sX10_countOn_9, sX10_countOn_10, sX10_countOn_12, sX10_countOn_13, sX10_countOn_14, sX10_countOn_17, sX10_countOn_18, sX10_countOn_21, sX10_countOn_22, sX10_countOn_23, sX10_countOn_25, sX10_countOn_26, sX10_countOn_27, sX10_countOn_30, sX10_countOn_31, sX10_countOn_34, sX10_countOn_36, sX10_countOn_37, sX10_countOn_38, sX10_countOn_39, sX10_countOn_42, sX10_countOn_44, sX10_countOn_45, sX10_countOn_46, sX10_countOn_47, sX10_countOn_51, sX10_countOn_52, sX10_countOn_55, sX10_countOn_56, sX10_countOn_59, sX10_countOn_60, sX10_countOn_63, sX10_countOn_66, sX10_countOn_67, sX10_countOn_70, sX10_countOn_72, sX10_countOn_73, sX10_countOn_74, sX10_countOn_75, sX10_countOn_78, sX10_countOn_79, sX10_countOn_82, sX10_countOn_85, sX10_countOn_86, sX10_countOn_89, sX10_countOn_90, sX10_countOn_91, sX10_countOn_92, sX10_countOn_93, sX10_countOn_96, sX10_countOn_98, sX10_countOn_99, sX10_countOn_100, sX10_countOn_101, sX10_countOn_104, sX10_countOn_105, sX10_countOn_108, sX10_countOn_111, sX10_countOn_112, sX10_countOn_115, sX10_countOn_116, sX10_countOn_117, sX10_countOn_118, sX10_countOn_121, sX10_countOn_124, ↓if_pos]
  | succ n ih =>
    intro k A F hk c h b1 b2
    obtain ⟨A1, F1, p1, p2, p3, p4, _, _, p5⟩ := c_pass h
    have a65 : A1 65 = A 65 := p5 65 (by omega) (by unfold isk; omega)
    have a66 : A1 66 = A 66 := p5 66 (by omega) (by unfold isk; omega)
    have on := c_isOn (A := A1) (F := F1) (E := E) hp
    rw [p2] at on
    generalize hX : (if psa Q G (A 15) (50 + 7 * p) = 0 then (1 : Int) else 0) = X at *
    generalize hY : (if psa Q G (A 15) (50 + 7 * q) = 0 then (1 : Int) else 0) = Y at *
    have xb : X = 0 ∨ X = 1 := by rw [← hX]; split <;> omega
    have yb : Y = 0 ∨ Y = 1 := by rw [← hY]; split <;> omega
    have on2 := c_isOn (A := aup A1 65 (fup (A 65) t (A 65 t + X))) (F := F1) (E := E) hq
    rw [aup_n (by omega), p2, hY] at on2
    have c2 : cfr A0 F0 (aup (aup A1 65 (fup (A 65) t (A 65 t + X))) 66 (fup (A 66) t (A 66 t + Y))) F1 := cfr_t (cfr_t c p3) ⟨fun j _ _ j3 j4 _ => by rw [aup_n j4, aup_n j3], fun _ _ _ => rfl⟩
    have h2 : cw (aup (aup A1 65 (fup (A 65) t (A 65 t + X))) 66 (fup (A 66) t (A 66 t + Y))) F1 E G Q (rad (F0 1 5)) := ⟨by rw [aup_n (by omega), aup_n (by omega)]; exact p4.1, by rw [aup_n (by omega), aup_n (by omega)]; exact p4.2.1, cR_f p4.2.2 (fun j j1 _ => by rw [aup_n (by omega), aup_n (by omega)])⟩
    obtain ⟨A2, F2, t1, t2, t3, t4, t5⟩ := ih (k + 1) _ F1 (by omega) c2 h2 (by rw [aup_n (by omega), aup_s, fup_s]; omega) (by rw [aup_s, fup_s]; omega)
    simp (disch := omega) only [aup_n, aup_s, fup_s, fup_fup, p2] at t4 t5
    refine ⟨A2, F2, ?_, t2, t3, by rw [t4, onN, hX, Int.add_assoc], by rw [t5, onN, hY, Int.add_assoc]⟩
    rw [← t1, sX10_countOn_49]
    rcases xb with x | x <;> rcases yb with y | y
    · rw [x] at on on2 ⊢
      rw [y] at on2 ⊢
      simp (disch := omega) only [eX10_countOn, sX10_countOn_0, sX10_countOn_1, sX10_countOn_4, sX10_countOn_5, sX10_countOn_8, sX10_countOn_9, sX10_countOn_10, sX10_countOn_12, sX10_countOn_13, sX10_countOn_14, sX10_countOn_17, sX10_countOn_18, sX10_countOn_21, sX10_countOn_22, sX10_countOn_23, sX10_countOn_25, sX10_countOn_26, sX10_countOn_27, sX10_countOn_30, sX10_countOn_31, sX10_countOn_34, sX10_countOn_36, sX10_countOn_37, sX10_countOn_38, sX10_countOn_39, sX10_countOn_42, sX10_countOn_44, sX10_countOn_45, sX10_countOn_46, sX10_countOn_47, sX10_countOn_51, sX10_countOn_52, sX10_countOn_55, sX10_countOn_56, sX10_countOn_59, sX10_countOn_60, sX10_countOn_63, sX10_countOn_66, sX10_countOn_67, sX10_countOn_70, sX10_countOn_72, sX10_countOn_73, sX10_countOn_74, sX10_countOn_75, sX10_countOn_78, sX10_countOn_79, sX10_countOn_82, sX10_countOn_85, sX10_countOn_86, sX10_countOn_89, sX10_countOn_90, sX10_countOn_91, sX10_countOn_92, sX10_countOn_93, sX10_countOn_96, sX10_countOn_98, sX10_countOn_99, sX10_countOn_100, sX10_countOn_101, sX10_countOn_104, sX10_countOn_105, sX10_countOn_108, sX10_countOn_111, sX10_countOn_112, sX10_countOn_115, sX10_countOn_116, sX10_countOn_117, sX10_countOn_118, sX10_countOn_121, sX10_countOn_124, ↓hk1, ↓hf1_9, ↓hf1_15, ↓hf1_16, ↓hk14, ↓bndr_at (c_force h0 c), ↓bndv_at p1, ↓hg65, ↓hs65, ↓hg66, ↓hs66, Int.toNat_natCast, a65, a66, ↓bndi_at on, ↓bndi_at on2, aup_n, i32_of, ↓if_neg, ↓if_pos]
      rfl
    · rw [x] at on on2 ⊢
      rw [y] at on2 ⊢
      simp (disch := omega) only [eX10_countOn, sX10_countOn_0, sX10_countOn_1, sX10_countOn_4, sX10_countOn_5, sX10_countOn_8, sX10_countOn_9, sX10_countOn_10, sX10_countOn_12, sX10_countOn_13, sX10_countOn_14, sX10_countOn_17, sX10_countOn_18, sX10_countOn_21, sX10_countOn_22, sX10_countOn_23, sX10_countOn_25, sX10_countOn_26, sX10_countOn_27, sX10_countOn_30, sX10_countOn_31, sX10_countOn_34, sX10_countOn_36, sX10_countOn_37, sX10_countOn_38, sX10_countOn_39, sX10_countOn_42, sX10_countOn_44, sX10_countOn_45, sX10_countOn_46, sX10_countOn_47, sX10_countOn_51, sX10_countOn_52, sX10_countOn_55, sX10_countOn_56, sX10_countOn_59, sX10_countOn_60, sX10_countOn_63, sX10_countOn_66, sX10_countOn_67, sX10_countOn_70, sX10_countOn_72, sX10_countOn_73, sX10_countOn_74, sX10_countOn_75, sX10_countOn_78, sX10_countOn_79, sX10_countOn_82, sX10_countOn_85, sX10_countOn_86, sX10_countOn_89, sX10_countOn_90, sX10_countOn_91, sX10_countOn_92, sX10_countOn_93, sX10_countOn_96, sX10_countOn_98, sX10_countOn_99, sX10_countOn_100, sX10_countOn_101, sX10_countOn_104, sX10_countOn_105, sX10_countOn_108, sX10_countOn_111, sX10_countOn_112, sX10_countOn_115, sX10_countOn_116, sX10_countOn_117, sX10_countOn_118, sX10_countOn_121, sX10_countOn_124, ↓hk1, ↓hf1_9, ↓hf1_15, ↓hf1_16, ↓hk14, ↓bndr_at (c_force h0 c), ↓bndv_at p1, ↓hg65, ↓hs65, ↓hg66, ↓hs66, Int.toNat_natCast, a65, a66, ↓bndi_at on, ↓bndi_at on2, aup_n, i32_of, ↓if_neg, ↓if_pos]
      rfl
    · rw [x] at on on2 ⊢
      rw [y] at on2 ⊢
      simp (disch := omega) only [eX10_countOn, sX10_countOn_0, sX10_countOn_1, sX10_countOn_4, sX10_countOn_5, sX10_countOn_8, sX10_countOn_9, sX10_countOn_10, sX10_countOn_12, sX10_countOn_13, sX10_countOn_14, sX10_countOn_17, sX10_countOn_18, sX10_countOn_21, sX10_countOn_22, sX10_countOn_23, sX10_countOn_25, sX10_countOn_26, sX10_countOn_27, sX10_countOn_30, sX10_countOn_31, sX10_countOn_34, sX10_countOn_36, sX10_countOn_37, sX10_countOn_38, sX10_countOn_39, sX10_countOn_42, sX10_countOn_44, sX10_countOn_45, sX10_countOn_46, sX10_countOn_47, sX10_countOn_51, sX10_countOn_52, sX10_countOn_55, sX10_countOn_56, sX10_countOn_59, sX10_countOn_60, sX10_countOn_63, sX10_countOn_66, sX10_countOn_67, sX10_countOn_70, sX10_countOn_72, sX10_countOn_73, sX10_countOn_74, sX10_countOn_75, sX10_countOn_78, sX10_countOn_79, sX10_countOn_82, sX10_countOn_85, sX10_countOn_86, sX10_countOn_89, sX10_countOn_90, sX10_countOn_91, sX10_countOn_92, sX10_countOn_93, sX10_countOn_96, sX10_countOn_98, sX10_countOn_99, sX10_countOn_100, sX10_countOn_101, sX10_countOn_104, sX10_countOn_105, sX10_countOn_108, sX10_countOn_111, sX10_countOn_112, sX10_countOn_115, sX10_countOn_116, sX10_countOn_117, sX10_countOn_118, sX10_countOn_121, sX10_countOn_124, ↓hk1, ↓hf1_9, ↓hf1_15, ↓hf1_16, ↓hk14, ↓bndr_at (c_force h0 c), ↓bndv_at p1, ↓hg65, ↓hs65, ↓hg66, ↓hs66, Int.toNat_natCast, a65, a66, ↓bndi_at on, ↓bndi_at on2, aup_n, i32_of, ↓if_neg, ↓if_pos]
      rfl
    · rw [x] at on on2 ⊢
      rw [y] at on2 ⊢
      simp (disch := omega) only [eX10_countOn, sX10_countOn_0, sX10_countOn_1, sX10_countOn_4, sX10_countOn_5, sX10_countOn_8, sX10_countOn_9, sX10_countOn_10, sX10_countOn_12, sX10_countOn_13, sX10_countOn_14, sX10_countOn_17, sX10_countOn_18, sX10_countOn_21, sX10_countOn_22, sX10_countOn_23, sX10_countOn_25, sX10_countOn_26, sX10_countOn_27, sX10_countOn_30, sX10_countOn_31, sX10_countOn_34, sX10_countOn_36, sX10_countOn_37, sX10_countOn_38, sX10_countOn_39, sX10_countOn_42, sX10_countOn_44, sX10_countOn_45, sX10_countOn_46, sX10_countOn_47, sX10_countOn_51, sX10_countOn_52, sX10_countOn_55, sX10_countOn_56, sX10_countOn_59, sX10_countOn_60, sX10_countOn_63, sX10_countOn_66, sX10_countOn_67, sX10_countOn_70, sX10_countOn_72, sX10_countOn_73, sX10_countOn_74, sX10_countOn_75, sX10_countOn_78, sX10_countOn_79, sX10_countOn_82, sX10_countOn_85, sX10_countOn_86, sX10_countOn_89, sX10_countOn_90, sX10_countOn_91, sX10_countOn_92, sX10_countOn_93, sX10_countOn_96, sX10_countOn_98, sX10_countOn_99, sX10_countOn_100, sX10_countOn_101, sX10_countOn_104, sX10_countOn_105, sX10_countOn_108, sX10_countOn_111, sX10_countOn_112, sX10_countOn_115, sX10_countOn_116, sX10_countOn_117, sX10_countOn_118, sX10_countOn_121, sX10_countOn_124, ↓hk1, ↓hf1_9, ↓hf1_15, ↓hf1_16, ↓hk14, ↓bndr_at (c_force h0 c), ↓bndv_at p1, ↓hg65, ↓hs65, ↓hg66, ↓hs66, Int.toNat_natCast, a65, a66, ↓bndi_at on, ↓bndi_at on2, aup_n, i32_of, ↓if_neg, ↓if_pos]
      rfl
theorem c_countOn {A0 F0 : Nat → Nat → Int} {m t : Nat} (h0 : inv A0 F0 E) (r : SR1 G (A0 13) (A0 11) (A0 17) (A0 18) (A0 19) (F0 16 3) (A0 113)) (qq : cR A0 E (rad (F0 1 5)) Q) (hp : p < G) (hq : q < G) (hm : m ≤ 1000) (ht : t < 16) (c : cfr A0 F0 A F) (h : cn 82 (A 15)) : ∃ A' F', cl mX10_countOn [vr 1, vi (p : Int), vi (q : Int), vi (m : Int), vi (t : Int)] (HP A F E) = some (vn, HP A' F' E) ∧ cfr A0 F0 A' F' ∧ cn 82 (A' 15) ∧ A' 65 = fup (A 65) t (onN Q G p m (twR (A0 13) p q t)) ∧ A' 66 = fup (A 66) t (onN Q G q m (twR (A0 13) p q t)) := by
  have hG5 := r.1.2.1
  obtain ⟨A1, F1, s1, s2, s3, s4, _, s6, _⟩ := c_restart' h0 r qq c h
  have dv : q2 (· / ·) (t : Int) 4 = ((t / 4 : Nat) : Int) := by rw [q_div (by omega) (by omega) (by omega) (by omega)]; omega
  have rm : q2 qrem (t : Int) 4 = ((t % 4 : Nat) : Int) := by rw [q_rem (by omega) (by omega) (by omega) (by omega)]; omega
  have pt1 : cl mX9_put [vr 14, vi (p : Int), vi 1, vi ((t / 4 : Nat) : Int)] (HP A1 F1 E) = some (vn, HP (aup A1 15 (fup (A0 13) (48 + 7 * p) ((t / 4 : Nat) : Int))) F1 E) := by
    have := h_put (A := A1) (F := F1) (E := E) (g := (p : Int)) (p := 1) (v := ((t / 4 : Nat) : Int)) wad_14 (by omega) (by omega) (by omega) (by omega)
    rw [show (47 + 7 * (p : Int) + 1).toNat = 48 + 7 * p by omega] at this
    rw [this, ← s2]
  have pt2 : cl mX9_put [vr 14, vi (q : Int), vi 1, vi ((t % 4 : Nat) : Int)] (HP (aup A1 15 (fup (A0 13) (48 + 7 * p) ((t / 4 : Nat) : Int))) F1 E) = some (vn, HP (aup A1 15 (twR (A0 13) p q t)) F1 E) := by
    have := h_put (A := aup A1 15 (fup (A0 13) (48 + 7 * p) ((t / 4 : Nat) : Int))) (F := F1) (E := E) (g := (q : Int)) (p := 1) (v := ((t % 4 : Nat) : Int)) wad_14 (by omega) (by omega) (by omega) (by omega)
    rw [show (47 + 7 * (q : Int) + 1).toNat = 48 + 7 * q by omega, aup_aup, aup_s] at this
    exact this
  have a65 : A1 65 = A 65 := s6 65 (by omega)
  have a66 : A1 66 = A 66 := s6 66 (by omega)
  generalize hR : twR (A0 13) p q t = R at *
  have c2 : cfr A0 F0 (aup (aup (aup A1 15 R) 65 (fup (A 65) t 0)) 66 (fup (A 66) t 0)) F1 := cfr_t s3 ⟨fun j j1 _ j3 j4 _ => by rw [aup_n j4, aup_n j3, aup_n j1], fun _ _ _ => rfl⟩
  have w2 : cw (aup (aup (aup A1 15 R) 65 (fup (A 65) t 0)) 66 (fup (A 66) t 0)) F1 E G Q (rad (F0 1 5)) := by
    refine ⟨?_, ?_, cR_f s4.2.2 (fun j j1 _ => by rw [aup_n (by omega), aup_n (by omega), aup_n (by omega)])⟩
    · rw [aup_n (by omega), aup_n (by omega), aup_s, ← hR]; exact twR_ok r.1 hp hq ht
    · rw [aup_n (by omega), aup_n (by omega), aup_s, ← hR]; exact cn_up (cn_up (h0.2.2.1.1 12 wad_12) (by omega)) (by omega)
  obtain ⟨A2, F2, t1, t2, t3, t4, t5⟩ := c_on_in (p := p) (q := q) (m := m) (t := t) h0 (by omega) (by omega) hm ht m 0 _ F1 (by omega) c2 w2 (by rw [aup_n (by omega), aup_s, fup_s]; omega) (by rw [aup_s, fup_s]; omega)
  have t1' : rn mX10_countOn 49 [vr 1, vi (p : Int), vi (q : Int), vi (m : Int), vi (t : Int), vi 0] [] (HP (aup (aup (aup A1 15 R) 65 (fup (A 65) t 0)) 66 (fup (A 66) t 0)) F1 E) = _ := t1
  refine ⟨A2, F2, ?_, t2, t3, ?_, ?_⟩
  · rw [← t1']
    simp (disch := omega) only [eX10_countOn, sX10_countOn_0, sX10_countOn_1, sX10_countOn_4, sX10_countOn_5, sX10_countOn_8, sX10_countOn_9, sX10_countOn_10, sX10_countOn_12, sX10_countOn_13, sX10_countOn_14, sX10_countOn_17, sX10_countOn_18, sX10_countOn_21, sX10_countOn_22, sX10_countOn_23, sX10_countOn_25, sX10_countOn_26, sX10_countOn_27, sX10_countOn_30, sX10_countOn_31, sX10_countOn_34, sX10_countOn_36, sX10_countOn_37, sX10_countOn_38, sX10_countOn_39, sX10_countOn_42, sX10_countOn_44, sX10_countOn_45, sX10_countOn_46, sX10_countOn_47, sX10_countOn_51, sX10_countOn_52, sX10_countOn_55, sX10_countOn_56, sX10_countOn_59, sX10_countOn_60, sX10_countOn_63, sX10_countOn_66, sX10_countOn_67, sX10_countOn_70, sX10_countOn_72, sX10_countOn_73, sX10_countOn_74, sX10_countOn_75, sX10_countOn_78, sX10_countOn_79, sX10_countOn_82, sX10_countOn_85, sX10_countOn_86, sX10_countOn_89, sX10_countOn_90, sX10_countOn_91, sX10_countOn_92, sX10_countOn_93, sX10_countOn_96, sX10_countOn_98, sX10_countOn_99, sX10_countOn_100, sX10_countOn_101, sX10_countOn_104, sX10_countOn_105, sX10_countOn_108, sX10_countOn_111, sX10_countOn_112, sX10_countOn_115, sX10_countOn_116, sX10_countOn_117, sX10_countOn_118, sX10_countOn_121, sX10_countOn_124, ↓hk1, ↓hf1_9, ↓hf1_15, ↓hf1_16, ↓hk14, ↓bndv_at s1, dv, rm, Int.reduceEq, if_false, ↓bndv_at pt1, ↓bndv_at pt2, ↓hs65, ↓hs66, Int.toNat_natCast, aup_n, a65, a66, ↓if_neg]
  · rw [t4]
    simp (disch := omega) only [aup_n, aup_s, fup_s, fup_fup, Int.zero_add]
  · rw [t5]
    simp (disch := omega) only [aup_n, aup_s, fup_s, fup_fup, Int.zero_add]
end RS
