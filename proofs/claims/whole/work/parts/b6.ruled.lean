/-! ruled -/
/-- the model's frame while its force changes too -/
def mwz (A F A' F' : Nat → Nat → Int) : Prop := (∀ j, j ≠ 111 → j ≠ 112 → j ≠ 113 → (j < 116 ∨ 122 < j) → A' j = A j) ∧ (∀ j, j ≠ 103 → F' j = F j) ∧ ∀ k, k ≠ 18 → k ≠ 21 → k ≠ 29 → k ≠ 30 → k ≠ 31 → k ≠ 36 → F' 103 k = F 103 k
section RU
variable {A F : Nat → Nat → Int} {E : zE} {G Z : Nat} {Q : (Int → Int) → Int} {f s0 fs fg fc t : Nat → Int}
theorem mwz_r : mwz A F A F := ⟨fun _ _ _ _ _ => rfl, fun _ _ => rfl, fun _ _ _ _ _ _ _ => rfl⟩
theorem mwz_t {A1 F1 A2 F2 : Nat → Nat → Int} (h : mwz A F A1 F1) (k : mwz A1 F1 A2 F2) : mwz A F A2 F2 := ⟨fun j a b c d => (k.1 j a b c d).trans (h.1 j a b c d), fun j a => (k.2.1 j a).trans (h.2.1 j a), fun j a b c d e g => (k.2.2 j a b c d e g).trans (h.2.2 j a b c d e g)⟩
theorem mwz_of {A1 F1 : Nat → Nat → Int} (h : mwx A F A1 F1) : mwz A F A1 F1 := ⟨h.1, h.2.1, fun k a _ c d e g => h.2.2 k a c d e g⟩
theorem mw_Q {F' : Nat → Nat → Int} {Q' : (Int → Int) → Int} (h : mw A F G Q f s0) (q : mQ A F' Q') : mw A F' G Q' f s0 := ⟨h.1, h.2.1, q, h.2.2.2.1, h.2.2.2.2⟩
/-- one function for each of the rules, none first -/
theorem iR_Qf (h : iR A F E) : ∃ Qf : Nat → (Int → Int) → Int, ∀ k, k ≤ E.2.1 → cR A E (rad ((k : Int) - 1)) (Qf k) ∧ ∀ F' : Nat → Nat → Int, F' 103 21 = (k : Int) - 1 → mQ A F' (Qf k) := by
  have key : ∀ k : Nat, ∃ Q : (Int → Int) → Int, k ≤ E.2.1 → cR A E (rad ((k : Int) - 1)) Q ∧ ∀ F' : Nat → Nat → Int, F' 103 21 = (k : Int) - 1 → mQ A F' Q := fun k => by
    by_cases q : k ≤ E.2.1
    · obtain ⟨Q, q1, q2⟩ := iR_Q h (k := (k : Int) - 1) (by omega) (by omega)
      exact ⟨Q, fun _ => ⟨q1, q2⟩⟩
    · exact ⟨fun _ => 0, fun y => absurd y q⟩
  exact ⟨fun k => Classical.choose (key k), fun k hk => Classical.choose_spec (key k) hk⟩
theorem m_ff_l {A0 F0 : Nat → Nat → Int} {Qf : Nat → (Int → Int) → Int} {R : Nat} {th was : Int} (hR6 : R ≤ 6) (hQf : ∀ k, k ≤ R → ∀ F' : Nat → Nat → Int, F' 103 21 = (k : Int) - 1 → mQ A0 F' (Qf k)) (hn : ntS s0 fs fg fc G Z) (ht : wok t G) (td : tdr s0 t) (s1 : s0 1 = t 0) (s2 : s0 2 = t 1) (sd : ∀ e, e < 4 → s0 (86 + e) = t (7 + e)) : ∀ (n r : Nat) (A F : Nat → Nat → Int) (Q : (Int → Int) → Int) (f : Nat → Int), r + n = R + 1 → F 103 2 = (R : Int) → mw A F G Q f s0 → A 105 = A0 105 → A 107 = A0 107 → A 108 = A0 108 → ∃ A' F', rn mX11_fillsFits 11 [vr 103, vi th, vi was, vi (r : Int)] [] (HP A F E) = rn mX11_fillsFits 48 [vr 103, vi th, vi was, vi ((R : Int) + 1)] [] (HP A' F' E) ∧ mwz A F A' F' ∧ (∃ Q' f', mw A' F' G Q' f' s0) ∧ ∀ k, (r ≤ k ∧ k ≤ R → A' 121 k = (if alS (Qf k) G Z fs fg fc 61 0 t then 1 else 0) ∧ ∀ g, g < 5 → 0 ≤ th → th ≤ 60 → A' 122 (5 * k + g) = con (psN (Qf k) G th.toNat t) g) ∧ (k < r → A' 121 k = A 121 k ∧ ∀ g, g < 5 → A' 122 (5 * k + g) = A 122 (5 * k + g)) := by
  intro n
  induction n with
  | zero =>
    intro r A F Q f hr h2 h a1 a2 a3
    have : r = R + 1 := by omega
    subst this
    refine ⟨A, F, ?_, mwz_r, ⟨Q, f, h⟩, fun k => ⟨fun y => by omega, fun _ => ⟨rfl, fun _ _ => rfl⟩⟩⟩
    rw [sX11_fillsFits_11]
    simp (disch := omega) only [eX11_fillsFits, sX11_fillsFits_0, sX11_fillsFits_1, sX11_fillsFits_4, sX11_fillsFits_5, sX11_fillsFits_6, sX11_fillsFits_9, sX11_fillsFits_10, sX11_fillsFits_12, sX11_fillsFits_13, sX11_fillsFits_16, sX11_fillsFits_19, sX11_fillsFits_20, sX11_fillsFits_21, sX11_fillsFits_22, sX11_fillsFits_23, sX11_fillsFits_26, sX11_fillsFits_27, sX11_fillsFits_30, sX11_fillsFits_31, sX11_fillsFits_34, sX11_fillsFits_35, sX11_fillsFits_36, sX11_fillsFits_37, sX11_fillsFits_38, sX11_fillsFits_41, sX11_fillsFits_42, sX11_fillsFits_45, sX11_fillsFits_49, sX11_fillsFits_50, sX11_fillsFits_53, sX11_fillsFits_54, sX11_fillsFits_57, ↓hf103_2, h2, ↓if_pos]
    rfl
  | succ n ih =>
    intro r A F Q f hr h2 h a1 a2 a3
    have hF : (aup F 103 (fup (F 103) 21 ((r : Int) - 1))) 103 21 = (r : Int) - 1 := by rw [aup_s, fup_s]
    have hq : mQ A (aup F 103 (fup (F 103) 21 ((r : Int) - 1))) (Qf r) := mQ_c (hQf r (by omega) (aup F 103 (fup (F 103) 21 ((r : Int) - 1))) hF) a1 a2 a3 rfl
    have h1 := mw_Q h hq
    obtain ⟨S, b1, b2⟩ := mw_begins (E := E) h1 ht td s1 s2 sd
    obtain ⟨A1, F1, c1, c2, ⟨f', c3⟩, c4, c5⟩ := m_allSo (r := r) (th := th) (E := E) (by omega) hn b2
    have i1v : ∀ b : Bool, i1 (if b then 1 else 0) = if b then 1 else 0 := by decide
    have z1 : mwz A F (aup A1 121 (fup (A1 121) r (if alS (Qf r) G Z fs fg fc 61 0 t then 1 else 0))) F1 := mwz_t (mwz_t ⟨fun j _ _ c _ => aup_n c, fun j hj => aup_n hj, fun k _ k2 _ _ _ _ => by rw [aup_s, fup_n k2]⟩ (mwz_of c2)) ⟨fun j _ _ _ d => aup_n (by omega), fun _ _ => rfl, fun _ _ _ _ _ _ _ => rfl⟩
    have o : ∀ j, j < 111 → (aup A1 121 (fup (A1 121) r (if alS (Qf r) G Z fs fg fc 61 0 t then 1 else 0))) j = A j := fun j hj => z1.1 j (by omega) (by omega) (by omega) (by omega)
    obtain ⟨A2, F2, u1, u2, u3, u4⟩ := ih (r + 1) (aup A1 121 (fup (A1 121) r (if alS (Qf r) G Z fs fg fc 61 0 t then 1 else 0))) F1 (Qf r) f' (by omega) (by rw [z1.2.2 2 (by omega) (by omega) (by omega) (by omega) (by omega) (by omega)]; exact h2) (mw_own c3 (by omega)) (by rw [o 105 (by omega)]; exact a1) (by rw [o 107 (by omega)]; exact a2) (by rw [o 108 (by omega)]; exact a3)
    have a121 : A1 121 = A 121 := by rw [c5, aup_n (by omega)]
    refine ⟨A2, F2, ?_, mwz_t z1 u2, u3, fun k => ⟨fun y => ?_, fun y => ?_⟩⟩
    · rw [← u1, sX11_fillsFits_11]
      simp (disch := omega) only [eX11_fillsFits, sX11_fillsFits_0, sX11_fillsFits_1, sX11_fillsFits_4, sX11_fillsFits_5, sX11_fillsFits_6, sX11_fillsFits_9, sX11_fillsFits_10, sX11_fillsFits_12, sX11_fillsFits_13, sX11_fillsFits_16, sX11_fillsFits_19, sX11_fillsFits_20, sX11_fillsFits_21, sX11_fillsFits_22, sX11_fillsFits_23, sX11_fillsFits_26, sX11_fillsFits_27, sX11_fillsFits_30, sX11_fillsFits_31, sX11_fillsFits_34, sX11_fillsFits_35, sX11_fillsFits_36, sX11_fillsFits_37, sX11_fillsFits_38, sX11_fillsFits_41, sX11_fillsFits_42, sX11_fillsFits_45, sX11_fillsFits_49, sX11_fillsFits_50, sX11_fillsFits_53, sX11_fillsFits_54, sX11_fillsFits_57, ↓hk103, ↓hf103_2, ↓hp103_21, ↓hf103_34, h2, i32_of, ↓bndv_at b1, ↓bndi_at c1, ↓hs121, Int.toNat_natCast, i1v, ↓if_neg]
      rfl
    · by_cases x : k = r
      · subst x
        have u := (u4 k).2 (by omega)
        refine ⟨by rw [u.1, aup_s, fup_s], fun g g1 g2 g3 => ?_⟩
        rw [u.2 g g1, aup_n (by omega), c4]
        unfold cdn
        rw [if_pos (by omega), show 5 * k + g - 5 * k = g by omega, Nat.sub_zero]
      · exact (u4 k).1 (by omega)
    · have u := (u4 k).2 (by omega)
      refine ⟨by rw [u.1, aup_s, fup_n (by omega), a121], fun g g1 => ?_⟩
      rw [u.2 g g1, aup_n (by omega), c4]
      unfold cdn
      rw [if_neg (by omega), aup_n (by omega)]
theorem m_fills {A0 F0 A1 F1 : Nat → Nat → Int} {Qf : Nat → (Int → Int) → Int} {th : Int} (h : inv A0 F0 E) (r : SR1 G (A0 13) (A0 11) (A0 17) (A0 18) (A0 19) (F0 16 3) (A0 113)) (hZ : F0 16 3 = (Z : Int)) (c : cfr A0 F0 A1 F1) (hQf : ∀ k, k ≤ E.2.1 → cR A0 E (rad ((k : Int) - 1)) (Qf k) ∧ ∀ F' : Nat → Nat → Int, F' 103 21 = (k : Int) - 1 → mQ A0 F' (Qf k)) : ∃ A' F', cl mX11_fillsFits [vr 103, vi th] (HP A1 F1 E) = some (vn, HP A' F' E) ∧ mqf A1 F1 A' F' ∧ (∀ k, k ≤ E.2.1 → A' 121 k = (if alS (Qf k) G Z (A0 17) (A0 18) (A0 19) 61 0 (A0 11) then 1 else 0) ∧ ∀ g, g < 5 → 0 ≤ th → th ≤ 60 → A' 122 (5 * k + g) = con (psN (Qf k) G th.toNat (A0 11)) g) := by
  have hR := h.2.1
  have hA : A1 113 = A0 113 := cfr_113 c
  have f103 : F1 103 = F0 103 := c.2 103 (by omega) (by omega)
  have e : ∀ j, 67 ≤ j → j < 127 → A1 j = A0 j := fun j j1 j2 => c.1 j (by omega) (by omega) (by omega) (by omega) (by unfold isk; omega)
  obtain ⟨Q, q1, q2'⟩ := inv_Q h
  obtain ⟨A2, k1, k2, k3⟩ := q_start (E := E) r c q2'
  rw [hA] at k3
  have hn : ntS (A0 113) (A0 17) (A0 18) (A0 19) G Z := ⟨by rw [r.2.2.2.2.2.2.2.2.1]; exact hZ, by have := r.2.2.2.2.2.2.2.1; omega, fun k hk => r.2.2.2.2.2.2.2.2.2.1 k (by omega)⟩
  have sm := r.2.2.2.1
  obtain ⟨A3, F3, u1, u2, ⟨Q', f', u3⟩, u4⟩ := m_ff_l (A0 := A0) (F0 := F0) (Qf := Qf) (R := E.2.1) (th := th) (was := F1 103 21) (E := E) hR.1 (fun k hk => (hQf k hk).2) hn r.2.1 r.2.2.2.2.1 (by rw [sd_0 sm]; exact r.2.2.2.2.2.1) (by rw [sd_1 sm, r.1.1, r.2.1.1]) (fun e he => by rw [sd_d sm he]; exact r.2.2.2.2.2.2.1 e he) (E.2.1 + 1) 0 A2 F1 Q (A0 13) (by omega) (by rw [f103]; exact hR.2.2.2.1) k3 (by rw [k2 105 (by omega), e 105 (by omega) (by omega)]) (by rw [k2 107 (by omega), e 107 (by omega) (by omega)]) (by rw [k2 108 (by omega), e 108 (by omega) (by omega)])
  have u1' : rn mX11_fillsFits 11 [vr 103, vi th, vi (F1 103 21), vi 0] [] (HP A2 F1 E) = _ := u1
  have hF : (aup F3 103 (fup (F3 103) 21 (F1 103 21))) 103 21 = F0 103 21 := by rw [aup_s, fup_s, f103]
  have lb : cl mX11_laysBack [vr 103] (HP A3 (aup F3 103 (fup (F3 103) 21 (F1 103 21))) E) = some (vn, HP (aup A3 113 (A0 113)) (aup F3 103 (fup (F3 103) 21 (F1 103 21))) E) := by
    obtain ⟨W, w1, w2⟩ := m_lays (E := E) (A := A3) (F := aup F3 103 (fup (F3 103) 21 (F1 103 21)))
    have ew : W = A0 113 := by
      funext j
      rw [w2]
      split
      · rw [u3.2.2.2.1 (j - 10) (by omega), show 10 + (j - 10) = j by omega]
      · exact u3.2.2.2.2 j (by omega)
    rw [w1, ew]
  refine ⟨aup A3 113 (A0 113), aup F3 103 (fup (F3 103) 21 (F1 103 21)), ?_, ⟨fun j j1 j2 j3 => ?_, fun j hj => ?_, fun k x1 x2 x3 x4 x5 => ?_⟩, fun k hk => ?_⟩
  · simp (disch := omega) only [eX11_fillsFits, sX11_fillsFits_0, sX11_fillsFits_1, sX11_fillsFits_4, sX11_fillsFits_5, sX11_fillsFits_6, sX11_fillsFits_9, sX11_fillsFits_10, sX11_fillsFits_12, sX11_fillsFits_13, sX11_fillsFits_16, sX11_fillsFits_19, sX11_fillsFits_20, sX11_fillsFits_21, sX11_fillsFits_22, sX11_fillsFits_23, sX11_fillsFits_26, sX11_fillsFits_27, sX11_fillsFits_30, sX11_fillsFits_31, sX11_fillsFits_34, sX11_fillsFits_35, sX11_fillsFits_36, sX11_fillsFits_37, sX11_fillsFits_38, sX11_fillsFits_41, sX11_fillsFits_42, sX11_fillsFits_45, sX11_fillsFits_49, sX11_fillsFits_50, sX11_fillsFits_53, sX11_fillsFits_54, sX11_fillsFits_57, ↓hk103, ↓hf103_21, ↓bndv_at k1]
    rw [u1']
    simp (disch := omega) only [eX11_fillsFits, sX11_fillsFits_0, sX11_fillsFits_1, sX11_fillsFits_4, sX11_fillsFits_5, sX11_fillsFits_6, sX11_fillsFits_9, sX11_fillsFits_10, sX11_fillsFits_12, sX11_fillsFits_13, sX11_fillsFits_16, sX11_fillsFits_19, sX11_fillsFits_20, sX11_fillsFits_21, sX11_fillsFits_22, sX11_fillsFits_23, sX11_fillsFits_26, sX11_fillsFits_27, sX11_fillsFits_30, sX11_fillsFits_31, sX11_fillsFits_34, sX11_fillsFits_35, sX11_fillsFits_36, sX11_fillsFits_37, sX11_fillsFits_38, sX11_fillsFits_41, sX11_fillsFits_42, sX11_fillsFits_45, sX11_fillsFits_48, sX11_fillsFits_49, sX11_fillsFits_50, sX11_fillsFits_53, sX11_fillsFits_54, sX11_fillsFits_57, ↓hk103, ↓hp103_21, ↓bndv_at lb]
  · by_cases y : j = 113
    · rw [y, aup_s, hA]
    · rw [aup_n y, u2.1 j j1 j2 y (by omega), k2 j (by omega)]
  · rw [aup_n hj, u2.2.1 j hj]
  · rw [aup_s]
    by_cases y : k = 21
    · rw [y, fup_s]
    · rw [fup_n y, u2.2.2 k x1 y x2 x3 x4 x5]
  · have u := (u4 k).1 (by omega)
    rw [aup_n (by omega), aup_n (by omega)]
    exact u
end RU
