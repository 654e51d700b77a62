/-! home, meet: the first step at which something holds -/
def fstN (Q : (Int → Int) → Int) (G : Nat) (P : (Nat → Int) → Bool) : Nat → (Nat → Int) → Int
  | 0, _ => -2
  | n + 1, f => if P f then f 2 else fstN Q G P n (psa Q G f)
section A2
variable {A F : Nat → Nat → Int} {E : zE} {G b p : Nat} {Q : (Int → Int) → Int} {f s0 : Nat → Int} {w : zH}
theorem c_isOn (hp : p ≤ 4) : cl mX9_isOn [vr 14, vi (p : Int)] (HP A F E) = some (vi (if A 15 (50 + 7 * p) = 0 then 1 else 0), HP A F E) := by
  have := h_isOn (A := A) (F := F) (E := E) (g := (p : Int)) wad_14 (by omega) (by omega)
  rw [show (47 + 7 * (p : Int) + 3).toNat = 50 + 7 * p by omega] at this
  exact this
theorem c_of0 (hp : p ≤ 4) : cl mX9_of [vr 14, vi (p : Int), vi 0] (HP A F E) = some (vi (A 15 (47 + 7 * p)), HP A F E) := by
  have := h_of (A := A) (F := F) (E := E) (g := (p : Int)) (p := 0) wad_14 (by omega) (by omega) (by omega) (by omega)
  rw [show (47 + 7 * (p : Int) + 0).toNat = 47 + 7 * p by omega] at this
  exact this
theorem c_of3 (hp : p ≤ 4) : cl mX9_of [vr 14, vi (p : Int), vi 3] (HP A F E) = some (vi (A 15 (50 + 7 * p)), HP A F E) := by
  have := h_of (A := A) (F := F) (E := E) (g := (p : Int)) (p := 3) wad_14 (by omega) (by omega) (by omega) (by omega)
  rw [show (47 + 7 * (p : Int) + 3).toNat = 50 + 7 * p by omega] at this
  exact this
theorem c_get2 : cl mX9_get [vr 14, vi 2] (HP A F E) = some (vi (A 15 2), HP A F E) := h_get wad_14 (by omega) (by omega)
theorem mw_isOn (h : mw A F G Q f s0) (hp : p < 5) : cl mX11_isOn [vr 103, vi (p : Int)] (HP A F E) = some (vi (if f (50 + 7 * p) = 0 then 1 else 0), HP A F E) := by
  have := m_isOn (A := A) (F := F) (E := E) (g := p) (by omega)
  rw [(sd_g h.2.1 hp).2.2.1] at this
  exact this
theorem mw_status (h : mw A F G Q f s0) (hp : p < 5) : cl mX11_statusOf [vr 103, vi (p : Int)] (HP A F E) = some (vi (f (50 + 7 * p)), HP A F E) := by
  have := m_statusOf (A := A) (F := F) (E := E) (g := p) (by omega)
  rw [(sd_g h.2.1 hp).2.2.1] at this
  exact this
theorem mw_cell (h : mw A F G Q f s0) (hp : p < 5) (on : f (50 + 7 * p) = 0) : cl mX11_cellOf [vr 103, vi (p : Int)] (HP A F E) = some (vi (f (47 + 7 * p)), HP A F E) := by
  have := m_cellOf (A := A) (F := F) (E := E) (g := p) (by omega)
  rw [(sd_g h.2.1 hp).2.2.2.2.2 on] at this
  exact this
theorem psa_2b (h0 : 0 ≤ f 2) (h1 : f 2 ≤ 100000) : psa Q G f 2 = f 2 + 1 := by rw [psa_2, i32_of (by omega) (by omega)]
theorem c_home_l {A0 F0 : Nat → Nat → Int} (h0 : inv A0 F0 E) (hp : p ≤ 4) : ∀ (n k : Nat) (A F : Nat → Nat → Int), k + n = 200 → cfr A0 F0 A F → cw A F E G Q (rad (F0 1 5)) → ∃ A' F', rn mX10_home 16 [vr 1, vi (p : Int), vi (k : Int)] [] (HP A F E) = some (vi (fstN Q G (fun f => decide (f (50 + 7 * p) = 0)) n (A 15)), HP A' F' E) ∧ cfr A0 F0 A' F' ∧ cw A' F' E G Q (rad (F0 1 5)) := by
  intro n
  induction n with
  | zero =>
    intro k A F hk c h
    have : k = 200 := by omega
    subst this
    refine ⟨A, F, ?_, c, h⟩
    rw [sX10_home_16]
    simp (disch := omega) only [eX10_home, sX10_home_0, sX10_home_1, sX10_home_2, sX10_home_5, sX10_home_8, sX10_home_9, sX10_home_10, sX10_home_11, sX10_home_14, sX10_home_15, sX10_home_17, sX10_home_20, sX10_home_23, sX10_home_24, sX10_home_27, sX10_home_28, sX10_home_31, sX10_home_34, sX10_home_35, sX10_home_38, sX10_home_39, sX10_home_42, sX10_home_43, sX10_home_44, sX10_home_47, sX10_home_48, sX10_home_51, sX10_home_54, sX10_home_57, sX10_home_60, sX10_home_62, fstN, ↓if_pos]
  | succ n ih =>
    intro k A F hk c h
    have on := c_isOn (A := A) (F := F) (E := E) hp
    by_cases z : A 15 (50 + 7 * p) = 0
    · rw [if_pos z] at on
      refine ⟨A, F, ?_, c, h⟩
      rw [fstN, decide_eq_true z, if_pos rfl, sX10_home_16]
      simp (disch := omega) only [eX10_home, sX10_home_0, sX10_home_1, sX10_home_2, sX10_home_5, sX10_home_8, sX10_home_9, sX10_home_10, sX10_home_11, sX10_home_14, sX10_home_15, sX10_home_17, sX10_home_20, sX10_home_23, sX10_home_24, sX10_home_27, sX10_home_28, sX10_home_31, sX10_home_34, sX10_home_35, sX10_home_38, sX10_home_39, sX10_home_42, sX10_home_43, sX10_home_44, sX10_home_47, sX10_home_48, sX10_home_51, sX10_home_54, sX10_home_57, sX10_home_60, sX10_home_62, ↓hf1_9, ↓hk14, ↓bndi_at on, ↓bndi_at c_get2, ↓if_neg]
    · rw [if_neg z] at on
      obtain ⟨A1, F1, p1, p2, p3, p4, _⟩ := c_pass h
      obtain ⟨A2, F2, t1, t2, t3⟩ := ih (k + 1) A1 F1 (by omega) (cfr_t c p3) p4
      refine ⟨A2, F2, ?_, t2, t3⟩
      rw [fstN, decide_eq_false z, if_neg (by simp), ← p2, ← t1, sX10_home_16]
      simp (disch := omega) only [eX10_home, sX10_home_0, sX10_home_1, sX10_home_2, sX10_home_5, sX10_home_8, sX10_home_9, sX10_home_10, sX10_home_11, sX10_home_14, sX10_home_15, sX10_home_17, sX10_home_20, sX10_home_23, sX10_home_24, sX10_home_27, sX10_home_28, sX10_home_31, sX10_home_34, sX10_home_35, sX10_home_38, sX10_home_39, sX10_home_42, sX10_home_43, sX10_home_44, sX10_home_47, sX10_home_48, sX10_home_51, sX10_home_54, sX10_home_57, sX10_home_60, sX10_home_62, ↓hk1, ↓hf1_9, ↓hk14, ↓bndi_at on, ↓bndr_at (c_force h0 c), ↓bndv_at p1, ↓if_neg, ↓if_pos, i32_s]
theorem m_home_l (hp : p < 5) : ∀ (n k : Nat) (A F : Nat → Nat → Int) (f : Nat → Int), k + n = 200 → mw A F G Q f s0 → 0 ≤ f 2 → f 2 + n ≤ 2000 → ∃ A' F' f' k', rn mX11_home 19 [vr 103, vi (p : Int), vi (-2), vi (k : Int)] [] (HP A F E) = rn mX11_home 56 [vr 103, vi (p : Int), vi (fstN Q G (fun f => decide (f (50 + 7 * p) = 0)) n f), vi k'] [] (HP A' F' E) ∧ mwf A F A' F' ∧ mw A' F' G Q f' s0 := by
  intro n
  induction n with
  | zero =>
    intro k A F f hk h h0 h1
    have : k = 200 := by omega
    subst this
    refine ⟨A, F, f, ((200 : Nat) : Int), ?_, mwf_r, h⟩
    rw [sX11_home_19]
    simp (disch := omega) only [eX11_home, sX11_home_0, sX11_home_1, sX11_home_2, sX11_home_5, sX11_home_8, sX11_home_9, sX11_home_10, sX11_home_12, sX11_home_13, sX11_home_14, sX11_home_17, sX11_home_18, sX11_home_20, sX11_home_23, sX11_home_26, sX11_home_27, sX11_home_30, sX11_home_31, sX11_home_32, sX11_home_35, sX11_home_38, sX11_home_39, sX11_home_42, sX11_home_44, sX11_home_45, sX11_home_46, sX11_home_47, sX11_home_50, sX11_home_53, sX11_home_57, sX11_home_60, sX11_home_61, fstN, ↓if_pos]
  | succ n ih =>
    intro k A F f hk h h0 h1
    have on := mw_isOn (E := E) h hp
    obtain ⟨A1, F1, p1, p2, p3⟩ := mw_pass (E := E) h
    by_cases z : f (50 + 7 * p) = 0
    · rw [if_pos z] at on
      refine ⟨A1, F1, psa Q G f, ((k + 1 : Nat) : Int), ?_, p2, p3⟩
      have s10 : A 113 10 = f 2 := sd_2 h.2.1
      rw [fstN, decide_eq_true z, if_pos rfl, sX11_home_19]
      simp (disch := omega) only [eX11_home, sX11_home_0, sX11_home_1, sX11_home_2, sX11_home_5, sX11_home_8, sX11_home_9, sX11_home_10, sX11_home_12, sX11_home_13, sX11_home_14, sX11_home_17, sX11_home_18, sX11_home_20, sX11_home_23, sX11_home_26, sX11_home_27, sX11_home_30, sX11_home_31, sX11_home_32, sX11_home_35, sX11_home_38, sX11_home_39, sX11_home_42, sX11_home_44, sX11_home_45, sX11_home_46, sX11_home_47, sX11_home_50, sX11_home_53, sX11_home_57, sX11_home_60, sX11_home_61, ↓hk103, ↓hf103_20, ↓hg113, Int.reduceToNat, s10, ↓bndi_at on, ↓bndv_at p1, ↓if_neg, ↓if_pos, i32_s]
      rw [sX11_home_19]
      by_cases y : k + 1 = 200
      · simp (disch := omega) only [eX11_home, sX11_home_0, sX11_home_1, sX11_home_2, sX11_home_5, sX11_home_8, sX11_home_9, sX11_home_10, sX11_home_12, sX11_home_13, sX11_home_14, sX11_home_17, sX11_home_18, sX11_home_20, sX11_home_23, sX11_home_26, sX11_home_27, sX11_home_30, sX11_home_31, sX11_home_32, sX11_home_35, sX11_home_38, sX11_home_39, sX11_home_42, sX11_home_44, sX11_home_45, sX11_home_46, sX11_home_47, sX11_home_50, sX11_home_53, sX11_home_57, sX11_home_60, sX11_home_61, ↓if_neg, ↓if_pos]
      · simp (disch := omega) only [eX11_home, sX11_home_0, sX11_home_1, sX11_home_2, sX11_home_5, sX11_home_8, sX11_home_9, sX11_home_10, sX11_home_12, sX11_home_13, sX11_home_14, sX11_home_17, sX11_home_18, sX11_home_20, sX11_home_23, sX11_home_26, sX11_home_27, sX11_home_30, sX11_home_31, sX11_home_32, sX11_home_35, sX11_home_38, sX11_home_39, sX11_home_42, sX11_home_44, sX11_home_45, sX11_home_46, sX11_home_47, sX11_home_50, sX11_home_53, sX11_home_57, sX11_home_60, sX11_home_61, ↓if_neg, ↓if_pos]
    · rw [if_neg z] at on
      obtain ⟨A2, F2, f', k', t1, t2, t3⟩ := ih (k + 1) A1 F1 _ (by omega) p3 (by rw [psa_2b h0 (by omega)]; omega) (by rw [psa_2b h0 (by omega)]; omega)
      refine ⟨A2, F2, f', k', ?_, mwf_t p2 t2, t3⟩
      rw [fstN, decide_eq_false z, if_neg (by simp), ← t1, sX11_home_19]
      simp (disch := omega) only [eX11_home, sX11_home_0, sX11_home_1, sX11_home_2, sX11_home_5, sX11_home_8, sX11_home_9, sX11_home_10, sX11_home_12, sX11_home_13, sX11_home_14, sX11_home_17, sX11_home_18, sX11_home_20, sX11_home_23, sX11_home_26, sX11_home_27, sX11_home_30, sX11_home_31, sX11_home_32, sX11_home_35, sX11_home_38, sX11_home_39, sX11_home_42, sX11_home_44, sX11_home_45, sX11_home_46, sX11_home_47, sX11_home_50, sX11_home_53, sX11_home_57, sX11_home_60, sX11_home_61, ↓hk103, ↓bndi_at on, ↓bndv_at p1, ↓if_neg, ↓if_pos, i32_s]
theorem k_home {g : Int} (h : inv A F E) : prs mX10_home mX11_home [vi g] A F E := by
  have b := iS_b h.2.2.2.1
  have ig := E_isGoer (A := A) (F := F) (E := E) (g := g) b.2.1.1 b.2.1.2
  have mg := fun A1 F1 => m_isGoer (A := A1) (F := F1) (E := E) (g := g)
  by_cases z : 0 ≤ g ∧ g < A 13 1
  · rw [if_pos z] at ig
    obtain ⟨G, r⟩ := b.2.2.2.2.2.2.mp (b.2.2.2.2.2.1 (by omega))
    have hG : A 13 1 = (G : Int) := r.1.1
    have hG5 := r.1.2.1
    have st := r.2.2.2.2.2.2.2.2.2.2
    obtain ⟨Q, q1, q2⟩ := inv_Q h
    obtain ⟨p, rfl⟩ : ∃ p : Nat, g = (p : Int) := ⟨g.toNat, by omega⟩
    obtain ⟨A1, F1, s1, s2, s3, s4, _⟩ := c_restart h r q1
    obtain ⟨A2, F2, t1, t2, t3⟩ := c_home_l (p := p) h (by omega) 200 0 A1 F1 (by omega) s3 s4
    rw [s2] at t1
    have t1' : rn mX10_home 16 [vr 1, vi (p : Int), vi 0] [] (HP A1 F1 E) = _ := t1
    obtain ⟨A3, k1, k2, k3⟩ := q_start (E := E) r t2 q2
    obtain ⟨A4, F4, f', k', l1, l2, l3⟩ := m_home_l (p := p) (E := E) (by omega) 200 0 A3 F2 _ (by omega) k3 st.1 (by omega)
    have l1' : rn mX11_home 19 [vr 103, vi (p : Int), vi (-2), vi 0] [] (HP A3 F2 E) = _ := l1
    have lb := mw_lays (E := E) l3
    have mg' := mg A2 F2
    rw [cfr_113 t2, b.2.2.2.1, if_pos z] at mg'
    refine prs_q h (v := fstN Q G (fun f => decide (f (50 + 7 * p) = 0)) 200 (A 13)) ?_ t2 t3.2.1 ?_ (mqf_of k2 l2)
    · rw [← t1']
      simp (disch := omega) only [eX10_home, sX10_home_0, sX10_home_1, sX10_home_2, sX10_home_5, sX10_home_8, sX10_home_9, sX10_home_10, sX10_home_11, sX10_home_14, sX10_home_15, sX10_home_17, sX10_home_20, sX10_home_23, sX10_home_24, sX10_home_27, sX10_home_28, sX10_home_31, sX10_home_34, sX10_home_35, sX10_home_38, sX10_home_39, sX10_home_42, sX10_home_43, sX10_home_44, sX10_home_47, sX10_home_48, sX10_home_51, sX10_home_54, sX10_home_57, sX10_home_60, sX10_home_62, ↓hk1, ↓bndi_at ig, ↓bndv_at s1, ↓if_pos, ↓if_neg]
    · simp (disch := omega) only [eX11_home, sX11_home_0, sX11_home_1, sX11_home_2, sX11_home_5, sX11_home_8, sX11_home_9, sX11_home_10, sX11_home_12, sX11_home_13, sX11_home_14, sX11_home_17, sX11_home_18, sX11_home_20, sX11_home_23, sX11_home_26, sX11_home_27, sX11_home_30, sX11_home_31, sX11_home_32, sX11_home_35, sX11_home_38, sX11_home_39, sX11_home_42, sX11_home_44, sX11_home_45, sX11_home_46, sX11_home_47, sX11_home_50, sX11_home_53, sX11_home_57, sX11_home_60, sX11_home_61, ↓hk103, ↓bndi_at mg', ↓bndv_at k1, ↓if_pos, ↓if_neg]
      rw [l1']
      simp (disch := omega) only [eX11_home, sX11_home_0, sX11_home_1, sX11_home_2, sX11_home_5, sX11_home_8, sX11_home_9, sX11_home_10, sX11_home_12, sX11_home_13, sX11_home_14, sX11_home_17, sX11_home_18, sX11_home_20, sX11_home_23, sX11_home_26, sX11_home_27, sX11_home_30, sX11_home_31, sX11_home_32, sX11_home_35, sX11_home_38, sX11_home_39, sX11_home_42, sX11_home_44, sX11_home_45, sX11_home_46, sX11_home_47, sX11_home_50, sX11_home_53, sX11_home_56, sX11_home_57, sX11_home_60, sX11_home_61, ↓hk103, ↓bndv_at lb]
  · have mg' := mg A F
    rw [b.2.2.2.1, if_neg z] at mg'
    rw [if_neg z] at ig
    refine prs_0 (v := -1) h ?_ ?_
    · simp (disch := omega) only [eX10_home, sX10_home_0, sX10_home_1, sX10_home_2, sX10_home_5, sX10_home_8, sX10_home_9, sX10_home_10, sX10_home_11, sX10_home_14, sX10_home_15, sX10_home_17, sX10_home_20, sX10_home_23, sX10_home_24, sX10_home_27, sX10_home_28, sX10_home_31, sX10_home_34, sX10_home_35, sX10_home_38, sX10_home_39, sX10_home_42, sX10_home_43, sX10_home_44, sX10_home_47, sX10_home_48, sX10_home_51, sX10_home_54, sX10_home_57, sX10_home_60, sX10_home_62, ↓hk1, ↓bndi_at ig, ↓if_pos, ↓if_neg]
    · simp (disch := omega) only [eX11_home, sX11_home_0, sX11_home_1, sX11_home_2, sX11_home_5, sX11_home_8, sX11_home_9, sX11_home_10, sX11_home_12, sX11_home_13, sX11_home_14, sX11_home_17, sX11_home_18, sX11_home_20, sX11_home_23, sX11_home_26, sX11_home_27, sX11_home_30, sX11_home_31, sX11_home_32, sX11_home_35, sX11_home_38, sX11_home_39, sX11_home_42, sX11_home_44, sX11_home_45, sX11_home_46, sX11_home_47, sX11_home_50, sX11_home_53, sX11_home_56, sX11_home_57, sX11_home_60, sX11_home_61, ↓hk103, ↓bndi_at mg', ↓if_pos, ↓if_neg]
/-- two are in one cell -/
def mtP (p q : Nat) (f : Nat → Int) : Bool := decide (f (50 + 7 * p) = 0 ∧ f (50 + 7 * q) = 0 ∧ f (47 + 7 * p) = f (47 + 7 * q))
variable {q : Nat}
theorem c_meet_l {A0 F0 : Nat → Nat → Int} (h0 : inv A0 F0 E) (hp : p ≤ 4) (hq : q ≤ 4) : ∀ (n k : Nat) (A F : Nat → Nat → Int) (x4 : zV), k + n = 200 → cfr A0 F0 A F → cw A F E G Q (rad (F0 1 5)) → ∃ A' F', rn mX10_meet 29 [vr 1, vi (p : Int), vi (q : Int), vi (k : Int), x4] [] (HP A F E) = some (vi (fstN Q G (mtP p q) n (A 15)), HP A' F' E) ∧ cfr A0 F0 A' F' ∧ cw A' F' E G Q (rad (F0 1 5)) := by
  intro n
  induction n with
  | zero =>
    intro k A F x4 hk c h
    have : k = 200 := by omega
    subst this
    refine ⟨A, F, ?_, c, h⟩
    rw [sX10_meet_29]
    simp (disch := omega) only [eX10_meet, sX10_meet_0, sX10_meet_1, sX10_meet_2, sX10_meet_5, sX10_meet_8, sX10_meet_9, sX10_meet_10, sX10_meet_13, sX10_meet_16, sX10_meet_17, sX10_meet_18, sX10_meet_21, sX10_meet_22, sX10_meet_23, sX10_meet_24, sX10_meet_27, sX10_meet_28, sX10_meet_30, sX10_meet_33, sX10_meet_36, sX10_meet_37, sX10_meet_40, sX10_meet_41, sX10_meet_44, sX10_meet_47, sX10_meet_48, sX10_meet_51, sX10_meet_52, sX10_meet_55, sX10_meet_58, sX10_meet_59, sX10_meet_62, sX10_meet_63, sX10_meet_65, sX10_meet_67, sX10_meet_70, sX10_meet_71, sX10_meet_74, sX10_meet_75, sX10_meet_76, sX10_meet_79, sX10_meet_80, sX10_meet_83, sX10_meet_84, sX10_meet_85, sX10_meet_88, sX10_meet_91, sX10_meet_92, sX10_meet_95, sX10_meet_96, sX10_meet_99, sX10_meet_100, sX10_meet_101, sX10_meet_104, sX10_meet_105, sX10_meet_108, sX10_meet_111, sX10_meet_114, sX10_meet_117, sX10_meet_119, fstN, ↓if_pos]
  | succ n ih =>
    intro k A F x4 hk c h
    have on := c_isOn (A := A) (F := F) (E := E) hp
    have on2 := c_isOn (A := A) (F := F) (E := E) hq
    have ce := c_of0 (A := A) (F := F) (E := E) hp
    have ce2 := c_of0 (A := A) (F := F) (E := E) hq
    by_cases z : mtP p q (A 15) = true
    · have z' := of_decide_eq_true z
      rw [if_pos z'.1] at on
      rw [if_pos z'.2.1] at on2
      refine ⟨A, F, ?_, c, h⟩
      rw [fstN, if_pos z, sX10_meet_29]
      simp (disch := omega) only [eX10_meet, sX10_meet_0, sX10_meet_1, sX10_meet_2, sX10_meet_5, sX10_meet_8, sX10_meet_9, sX10_meet_10, sX10_meet_13, sX10_meet_16, sX10_meet_17, sX10_meet_18, sX10_meet_21, sX10_meet_22, sX10_meet_23, sX10_meet_24, sX10_meet_27, sX10_meet_28, sX10_meet_30, sX10_meet_33, sX10_meet_36, sX10_meet_37, sX10_meet_40, sX10_meet_41, sX10_meet_44, sX10_meet_47, sX10_meet_48, sX10_meet_51, sX10_meet_52, sX10_meet_55, sX10_meet_58, sX10_meet_59, sX10_meet_62, sX10_meet_63, sX10_meet_65, sX10_meet_67, sX10_meet_70, sX10_meet_71, sX10_meet_74, sX10_meet_75, sX10_meet_76, sX10_meet_79, sX10_meet_80, sX10_meet_83, sX10_meet_84, sX10_meet_85, sX10_meet_88, sX10_meet_91, sX10_meet_92, sX10_meet_95, sX10_meet_96, sX10_meet_99, sX10_meet_100, sX10_meet_101, sX10_meet_104, sX10_meet_105, sX10_meet_108, sX10_meet_111, sX10_meet_114, sX10_meet_117, sX10_meet_119, ↓hf1_9, ↓hk14, ↓bndi_at on, ↓bndi_at on2, ↓bndi_at ce, ↓bndi_at ce2, z'.2.2, ↓bndi_at c_get2, ↓if_neg, ↓if_pos, not_true_eq_false, if_false]
    · obtain ⟨A1, F1, p1, p2, p3, p4, _⟩ := c_pass h
      have z' : ¬ (A 15 (50 + 7 * p) = 0 ∧ A 15 (50 + 7 * q) = 0 ∧ A 15 (47 + 7 * p) = A 15 (47 + 7 * q)) := fun y => z (decide_eq_true y)
      by_cases y1 : A 15 (50 + 7 * p) = 0
      · rw [if_pos y1] at on
        by_cases y2 : A 15 (50 + 7 * q) = 0
        · rw [if_pos y2] at on2
          have y3 : ¬ A 15 (47 + 7 * p) = A 15 (47 + 7 * q) := fun y => z' ⟨y1, y2, y⟩
          obtain ⟨A2, F2, t1, t2, t3⟩ := ih (k + 1) A1 F1 (vi 1) (by omega) (cfr_t c p3) p4
          refine ⟨A2, F2, ?_, t2, t3⟩
          rw [fstN, if_neg z, ← p2, ← t1, sX10_meet_29]
          simp (disch := omega) only [eX10_meet, sX10_meet_0, sX10_meet_1, sX10_meet_2, sX10_meet_5, sX10_meet_8, sX10_meet_9, sX10_meet_10, sX10_meet_13, sX10_meet_16, sX10_meet_17, sX10_meet_18, sX10_meet_21, sX10_meet_22, sX10_meet_23, sX10_meet_24, sX10_meet_27, sX10_meet_28, sX10_meet_30, sX10_meet_33, sX10_meet_36, sX10_meet_37, sX10_meet_40, sX10_meet_41, sX10_meet_44, sX10_meet_47, sX10_meet_48, sX10_meet_51, sX10_meet_52, sX10_meet_55, sX10_meet_58, sX10_meet_59, sX10_meet_62, sX10_meet_63, sX10_meet_65, sX10_meet_67, sX10_meet_70, sX10_meet_71, sX10_meet_74, sX10_meet_75, sX10_meet_76, sX10_meet_79, sX10_meet_80, sX10_meet_83, sX10_meet_84, sX10_meet_85, sX10_meet_88, sX10_meet_91, sX10_meet_92, sX10_meet_95, sX10_meet_96, sX10_meet_99, sX10_meet_100, sX10_meet_101, sX10_meet_104, sX10_meet_105, sX10_meet_108, sX10_meet_111, sX10_meet_114, sX10_meet_117, sX10_meet_119, ↓hk1, ↓hf1_9, ↓hk14, ↓bndi_at on, ↓bndi_at on2, ↓bndi_at ce, ↓bndi_at ce2, ↓bndr_at (c_force h0 c), ↓bndv_at p1, ↓if_neg, ↓if_pos, i32_s]
        · rw [if_neg y2] at on2
          obtain ⟨A2, F2, t1, t2, t3⟩ := ih (k + 1) A1 F1 (vi 0) (by omega) (cfr_t c p3) p4
          refine ⟨A2, F2, ?_, t2, t3⟩
          rw [fstN, if_neg z, ← p2, ← t1, sX10_meet_29]
          simp (disch := omega) only [eX10_meet, sX10_meet_0, sX10_meet_1, sX10_meet_2, sX10_meet_5, sX10_meet_8, sX10_meet_9, sX10_meet_10, sX10_meet_13, sX10_meet_16, sX10_meet_17, sX10_meet_18, sX10_meet_21, sX10_meet_22, sX10_meet_23, sX10_meet_24, sX10_meet_27, sX10_meet_28, sX10_meet_30, sX10_meet_33, sX10_meet_36, sX10_meet_37, sX10_meet_40, sX10_meet_41, sX10_meet_44, sX10_meet_47, sX10_meet_48, sX10_meet_51, sX10_meet_52, sX10_meet_55, sX10_meet_58, sX10_meet_59, sX10_meet_62, sX10_meet_63, sX10_meet_65, sX10_meet_67, sX10_meet_70, sX10_meet_71, sX10_meet_74, sX10_meet_75, sX10_meet_76, sX10_meet_79, sX10_meet_80, sX10_meet_83, sX10_meet_84, sX10_meet_85, sX10_meet_88, sX10_meet_91, sX10_meet_92, sX10_meet_95, sX10_meet_96, sX10_meet_99, sX10_meet_100, sX10_meet_101, sX10_meet_104, sX10_meet_105, sX10_meet_108, sX10_meet_111, sX10_meet_114, sX10_meet_117, sX10_meet_119, ↓hk1, ↓hf1_9, ↓hk14, ↓bndi_at on, ↓bndi_at on2, ↓bndr_at (c_force h0 c), ↓bndv_at p1, ↓if_neg, ↓if_pos, i32_s]
      · rw [if_neg y1] at on
        obtain ⟨A2, F2, t1, t2, t3⟩ := ih (k + 1) A1 F1 (vi 0) (by omega) (cfr_t c p3) p4
        refine ⟨A2, F2, ?_, t2, t3⟩
        rw [fstN, if_neg z, ← p2, ← t1, sX10_meet_29]
        simp (disch := omega) only [eX10_meet, sX10_meet_0, sX10_meet_1, sX10_meet_2, sX10_meet_5, sX10_meet_8, sX10_meet_9, sX10_meet_10, sX10_meet_13, sX10_meet_16, sX10_meet_17, sX10_meet_18, sX10_meet_21, sX10_meet_22, sX10_meet_23, sX10_meet_24, sX10_meet_27, sX10_meet_28, sX10_meet_30, sX10_meet_33, sX10_meet_36, sX10_meet_37, sX10_meet_40, sX10_meet_41, sX10_meet_44, sX10_meet_47, sX10_meet_48, sX10_meet_51, sX10_meet_52, sX10_meet_55, sX10_meet_58, sX10_meet_59, sX10_meet_62, sX10_meet_63, sX10_meet_65, sX10_meet_67, sX10_meet_70, sX10_meet_71, sX10_meet_74, sX10_meet_75, sX10_meet_76, sX10_meet_79, sX10_meet_80, sX10_meet_83, sX10_meet_84, sX10_meet_85, sX10_meet_88, sX10_meet_91, sX10_meet_92, sX10_meet_95, sX10_meet_96, sX10_meet_99, sX10_meet_100, sX10_meet_101, sX10_meet_104, sX10_meet_105, sX10_meet_108, sX10_meet_111, sX10_meet_114, sX10_meet_117, sX10_meet_119, ↓hk1, ↓hf1_9, ↓hk14, ↓bndi_at on, ↓bndr_at (c_force h0 c), ↓bndv_at p1, ↓if_neg, ↓if_pos, i32_s]
theorem m_meet_l (hp : p < 5) (hq : q < 5) : ∀ (n k : Nat) (A F : Nat → Nat → Int) (f : Nat → Int), k + n = 200 → mw A F G Q f s0 → 0 ≤ f 2 → f 2 + n ≤ 2000 → ∃ A' F' f' k', rn mX11_meet 33 [vr 103, vi (p : Int), vi (q : Int), vi (-2), vi (k : Int)] [] (HP A F E) = rn mX11_meet 92 [vr 103, vi (p : Int), vi (q : Int), vi (fstN Q G (mtP p q) n f), vi k'] [] (HP A' F' E) ∧ mwf A F A' F' ∧ mw A' F' G Q f' s0 := by
  intro n
  induction n with
  | zero =>
    intro k A F f hk h h0 h1
    have : k = 200 := by omega
    subst this
    refine ⟨A, F, f, ((200 : Nat) : Int), ?_, mwf_r, h⟩
    rw [sX11_meet_33]
    simp (disch := omega) only [eX11_meet, sX11_meet_0, sX11_meet_1, sX11_meet_2, sX11_meet_5, sX11_meet_8, sX11_meet_9, sX11_meet_10, sX11_meet_13, sX11_meet_16, sX11_meet_17, sX11_meet_18, sX11_meet_21, sX11_meet_22, sX11_meet_23, sX11_meet_25, sX11_meet_26, sX11_meet_27, sX11_meet_30, sX11_meet_31, sX11_meet_35, sX11_meet_38, sX11_meet_41, sX11_meet_42, sX11_meet_45, sX11_meet_46, sX11_meet_47, sX11_meet_50, sX11_meet_53, sX11_meet_54, sX11_meet_55, sX11_meet_58, sX11_meet_61, sX11_meet_62, sX11_meet_63, sX11_meet_66, sX11_meet_67, sX11_meet_68, sX11_meet_71, sX11_meet_74, sX11_meet_75, sX11_meet_78, sX11_meet_80, sX11_meet_81, sX11_meet_82, sX11_meet_83, sX11_meet_86, sX11_meet_89, sX11_meet_93, sX11_meet_96, sX11_meet_97, fstN, ↓if_pos]
  | succ n ih =>
    intro k A F f hk h h0 h1
    have on := mw_isOn (E := E) h hp
    have on2 := mw_isOn (E := E) h hq
    obtain ⟨A1, F1, p1, p2, p3⟩ := mw_pass (E := E) h
    by_cases z : mtP p q f = true
    · have z' := of_decide_eq_true z
      rw [if_pos z'.1] at on
      rw [if_pos z'.2.1] at on2
      have ce := mw_cell (E := E) h hp z'.1
      have ce2 := mw_cell (E := E) h hq z'.2.1
      refine ⟨A1, F1, psa Q G f, ((k + 1 : Nat) : Int), ?_, p2, p3⟩
      have s10 : A 113 10 = f 2 := sd_2 h.2.1
      rw [fstN, if_pos z, sX11_meet_33]
      simp (disch := omega) only [eX11_meet, sX11_meet_0, sX11_meet_1, sX11_meet_2, sX11_meet_5, sX11_meet_8, sX11_meet_9, sX11_meet_10, sX11_meet_13, sX11_meet_16, sX11_meet_17, sX11_meet_18, sX11_meet_21, sX11_meet_22, sX11_meet_23, sX11_meet_25, sX11_meet_26, sX11_meet_27, sX11_meet_30, sX11_meet_31, sX11_meet_35, sX11_meet_38, sX11_meet_41, sX11_meet_42, sX11_meet_45, sX11_meet_46, sX11_meet_47, sX11_meet_50, sX11_meet_53, sX11_meet_54, sX11_meet_55, sX11_meet_58, sX11_meet_61, sX11_meet_62, sX11_meet_63, sX11_meet_66, sX11_meet_67, sX11_meet_68, sX11_meet_71, sX11_meet_74, sX11_meet_75, sX11_meet_78, sX11_meet_80, sX11_meet_81, sX11_meet_82, sX11_meet_83, sX11_meet_86, sX11_meet_89, sX11_meet_93, sX11_meet_96, sX11_meet_97, ↓hk103, ↓hf103_20, ↓hg113, Int.reduceToNat, s10, ↓bndi_at on, ↓bndi_at on2, ↓bndi_at ce, ↓bndi_at ce2, z'.2.2, ↓bndv_at p1, ↓if_neg, ↓if_pos, i32_s, not_true_eq_false, if_false]
      rw [sX11_meet_33]
      by_cases y : k + 1 = 200
      · simp (disch := omega) only [eX11_meet, sX11_meet_0, sX11_meet_1, sX11_meet_2, sX11_meet_5, sX11_meet_8, sX11_meet_9, sX11_meet_10, sX11_meet_13, sX11_meet_16, sX11_meet_17, sX11_meet_18, sX11_meet_21, sX11_meet_22, sX11_meet_23, sX11_meet_25, sX11_meet_26, sX11_meet_27, sX11_meet_30, sX11_meet_31, sX11_meet_35, sX11_meet_38, sX11_meet_41, sX11_meet_42, sX11_meet_45, sX11_meet_46, sX11_meet_47, sX11_meet_50, sX11_meet_53, sX11_meet_54, sX11_meet_55, sX11_meet_58, sX11_meet_61, sX11_meet_62, sX11_meet_63, sX11_meet_66, sX11_meet_67, sX11_meet_68, sX11_meet_71, sX11_meet_74, sX11_meet_75, sX11_meet_78, sX11_meet_80, sX11_meet_81, sX11_meet_82, sX11_meet_83, sX11_meet_86, sX11_meet_89, sX11_meet_93, sX11_meet_96, sX11_meet_97, ↓if_neg, ↓if_pos]
      · simp (disch := omega) only [eX11_meet, sX11_meet_0, sX11_meet_1, sX11_meet_2, sX11_meet_5, sX11_meet_8, sX11_meet_9, sX11_meet_10, sX11_meet_13, sX11_meet_16, sX11_meet_17, sX11_meet_18, sX11_meet_21, sX11_meet_22, sX11_meet_23, sX11_meet_25, sX11_meet_26, sX11_meet_27, sX11_meet_30, sX11_meet_31, sX11_meet_35, sX11_meet_38, sX11_meet_41, sX11_meet_42, sX11_meet_45, sX11_meet_46, sX11_meet_47, sX11_meet_50, sX11_meet_53, sX11_meet_54, sX11_meet_55, sX11_meet_58, sX11_meet_61, sX11_meet_62, sX11_meet_63, sX11_meet_66, sX11_meet_67, sX11_meet_68, sX11_meet_71, sX11_meet_74, sX11_meet_75, sX11_meet_78, sX11_meet_80, sX11_meet_81, sX11_meet_82, sX11_meet_83, sX11_meet_86, sX11_meet_89, sX11_meet_93, sX11_meet_96, sX11_meet_97, ↓if_neg, ↓if_pos]
    · have z' : ¬ (f (50 + 7 * p) = 0 ∧ f (50 + 7 * q) = 0 ∧ f (47 + 7 * p) = f (47 + 7 * q)) := fun y => z (decide_eq_true y)
      obtain ⟨A2, F2, f', k', t1, t2, t3⟩ := ih (k + 1) A1 F1 _ (by omega) p3 (by rw [psa_2b h0 (by omega)]; omega) (by rw [psa_2b h0 (by omega)]; omega)
      refine ⟨A2, F2, f', k', ?_, mwf_t p2 t2, t3⟩
      rw [fstN, if_neg z, ← t1, sX11_meet_33]
      by_cases y1 : f (50 + 7 * p) = 0
      · rw [if_pos y1] at on
        by_cases y2 : f (50 + 7 * q) = 0
        · rw [if_pos y2] at on2
          have y3 : ¬ f (47 + 7 * p) = f (47 + 7 * q) := fun y => z' ⟨y1, y2, y⟩
          have ce := mw_cell (E := E) h hp y1
          have ce2 := mw_cell (E := E) h hq y2
          simp (disch := omega) only [eX11_meet, sX11_meet_0, sX11_meet_1, sX11_meet_2, sX11_meet_5, sX11_meet_8, sX11_meet_9, sX11_meet_10, sX11_meet_13, sX11_meet_16, sX11_meet_17, sX11_meet_18, sX11_meet_21, sX11_meet_22, sX11_meet_23, sX11_meet_25, sX11_meet_26, sX11_meet_27, sX11_meet_30, sX11_meet_31, sX11_meet_35, sX11_meet_38, sX11_meet_41, sX11_meet_42, sX11_meet_45, sX11_meet_46, sX11_meet_47, sX11_meet_50, sX11_meet_53, sX11_meet_54, sX11_meet_55, sX11_meet_58, sX11_meet_61, sX11_meet_62, sX11_meet_63, sX11_meet_66, sX11_meet_67, sX11_meet_68, sX11_meet_71, sX11_meet_74, sX11_meet_75, sX11_meet_78, sX11_meet_80, sX11_meet_81, sX11_meet_82, sX11_meet_83, sX11_meet_86, sX11_meet_89, sX11_meet_93, sX11_meet_96, sX11_meet_97, ↓hk103, ↓bndi_at on, ↓bndi_at on2, ↓bndi_at ce, ↓bndi_at ce2, ↓bndv_at p1, ↓if_neg, ↓if_pos, i32_s]
        · rw [if_neg y2] at on2
          simp (disch := omega) only [eX11_meet, sX11_meet_0, sX11_meet_1, sX11_meet_2, sX11_meet_5, sX11_meet_8, sX11_meet_9, sX11_meet_10, sX11_meet_13, sX11_meet_16, sX11_meet_17, sX11_meet_18, sX11_meet_21, sX11_meet_22, sX11_meet_23, sX11_meet_25, sX11_meet_26, sX11_meet_27, sX11_meet_30, sX11_meet_31, sX11_meet_35, sX11_meet_38, sX11_meet_41, sX11_meet_42, sX11_meet_45, sX11_meet_46, sX11_meet_47, sX11_meet_50, sX11_meet_53, sX11_meet_54, sX11_meet_55, sX11_meet_58, sX11_meet_61, sX11_meet_62, sX11_meet_63, sX11_meet_66, sX11_meet_67, sX11_meet_68, sX11_meet_71, sX11_meet_74, sX11_meet_75, sX11_meet_78, sX11_meet_80, sX11_meet_81, sX11_meet_82, sX11_meet_83, sX11_meet_86, sX11_meet_89, sX11_meet_93, sX11_meet_96, sX11_meet_97, ↓hk103, ↓bndi_at on, ↓bndi_at on2, ↓bndv_at p1, ↓if_neg, ↓if_pos, i32_s]
      · rw [if_neg y1] at on
        simp (disch := omega) only [eX11_meet, sX11_meet_0, sX11_meet_1, sX11_meet_2, sX11_meet_5, sX11_meet_8, sX11_meet_9, sX11_meet_10, sX11_meet_13, sX11_meet_16, sX11_meet_17, sX11_meet_18, sX11_meet_21, sX11_meet_22, sX11_meet_23, sX11_meet_25, sX11_meet_26, sX11_meet_27, sX11_meet_30, sX11_meet_31, sX11_meet_35, sX11_meet_38, sX11_meet_41, sX11_meet_42, sX11_meet_45, sX11_meet_46, sX11_meet_47, sX11_meet_50, sX11_meet_53, sX11_meet_54, sX11_meet_55, sX11_meet_58, sX11_meet_61, sX11_meet_62, sX11_meet_63, sX11_meet_66, sX11_meet_67, sX11_meet_68, sX11_meet_71, sX11_meet_74, sX11_meet_75, sX11_meet_78, sX11_meet_80, sX11_meet_81, sX11_meet_82, sX11_meet_83, sX11_meet_86, sX11_meet_89, sX11_meet_93, sX11_meet_96, sX11_meet_97, ↓hk103, ↓bndi_at on, ↓bndv_at p1, ↓if_neg, ↓if_pos, i32_s]
theorem k_meet {g1 g2 : Int} (h : inv A F E) : prs mX10_meet mX11_meet [vi g1, vi g2] A F E := by
  have b := iS_b h.2.2.2.1
  have ig := E_isGoer (A := A) (F := F) (E := E) (g := g1) b.2.1.1 b.2.1.2
  have ig2 := E_isGoer (A := A) (F := F) (E := E) (g := g2) b.2.1.1 b.2.1.2
  have mg := fun A1 F1 => m_isGoer (A := A1) (F := F1) (E := E) (g := g1)
  have mg2 := fun A1 F1 => m_isGoer (A := A1) (F := F1) (E := E) (g := g2)
  by_cases z : 0 ≤ g1 ∧ g1 < A 13 1
  · rw [if_pos z] at ig
    by_cases z2 : 0 ≤ g2 ∧ g2 < A 13 1
    · rw [if_pos z2] at ig2
      by_cases z3 : g1 = g2
      · have mg' := mg A F
        have mg2' := mg2 A F
        rw [b.2.2.2.1, if_pos z] at mg'
        rw [b.2.2.2.1, if_pos z2] at mg2'
        refine prs_0 (v := -1) h ?_ ?_
        · simp (disch := omega) only [eX10_meet, sX10_meet_0, sX10_meet_1, sX10_meet_2, sX10_meet_5, sX10_meet_8, sX10_meet_9, sX10_meet_10, sX10_meet_13, sX10_meet_16, sX10_meet_17, sX10_meet_18, sX10_meet_21, sX10_meet_22, sX10_meet_23, sX10_meet_24, sX10_meet_27, sX10_meet_28, sX10_meet_30, sX10_meet_33, sX10_meet_36, sX10_meet_37, sX10_meet_40, sX10_meet_41, sX10_meet_44, sX10_meet_47, sX10_meet_48, sX10_meet_51, sX10_meet_52, sX10_meet_55, sX10_meet_58, sX10_meet_59, sX10_meet_62, sX10_meet_63, sX10_meet_65, sX10_meet_67, sX10_meet_70, sX10_meet_71, sX10_meet_74, sX10_meet_75, sX10_meet_76, sX10_meet_79, sX10_meet_80, sX10_meet_83, sX10_meet_84, sX10_meet_85, sX10_meet_88, sX10_meet_91, sX10_meet_92, sX10_meet_95, sX10_meet_96, sX10_meet_99, sX10_meet_100, sX10_meet_101, sX10_meet_104, sX10_meet_105, sX10_meet_108, sX10_meet_111, sX10_meet_114, sX10_meet_117, sX10_meet_119, ↓hk1, ↓bndi_at ig, ↓bndi_at ig2, ↓if_pos, ↓if_neg]
        · simp (disch := omega) only [eX11_meet, sX11_meet_0, sX11_meet_1, sX11_meet_2, sX11_meet_5, sX11_meet_8, sX11_meet_9, sX11_meet_10, sX11_meet_13, sX11_meet_16, sX11_meet_17, sX11_meet_18, sX11_meet_21, sX11_meet_22, sX11_meet_23, sX11_meet_25, sX11_meet_26, sX11_meet_27, sX11_meet_30, sX11_meet_31, sX11_meet_35, sX11_meet_38, sX11_meet_41, sX11_meet_42, sX11_meet_45, sX11_meet_46, sX11_meet_47, sX11_meet_50, sX11_meet_53, sX11_meet_54, sX11_meet_55, sX11_meet_58, sX11_meet_61, sX11_meet_62, sX11_meet_63, sX11_meet_66, sX11_meet_67, sX11_meet_68, sX11_meet_71, sX11_meet_74, sX11_meet_75, sX11_meet_78, sX11_meet_80, sX11_meet_81, sX11_meet_82, sX11_meet_83, sX11_meet_86, sX11_meet_89, sX11_meet_92, sX11_meet_93, sX11_meet_96, sX11_meet_97, ↓hk103, ↓bndi_at mg', ↓bndi_at mg2', ↓if_pos, ↓if_neg]
      · obtain ⟨G, r⟩ := b.2.2.2.2.2.2.mp (b.2.2.2.2.2.1 (by omega))
        have hG : A 13 1 = (G : Int) := r.1.1
        have hG5 := r.1.2.1
        have st := r.2.2.2.2.2.2.2.2.2.2
        obtain ⟨Q, q1, q2⟩ := inv_Q h
        obtain ⟨p, rfl⟩ : ∃ p : Nat, g1 = (p : Int) := ⟨g1.toNat, by omega⟩
        obtain ⟨q, rfl⟩ : ∃ q : Nat, g2 = (q : Int) := ⟨g2.toNat, by omega⟩
        obtain ⟨A1, F1, s1, s2, s3, s4, _⟩ := c_restart h r q1
        obtain ⟨A2, F2, t1, t2, t3⟩ := c_meet_l (p := p) (q := q) h (by omega) (by omega) 200 0 A1 F1 vn (by omega) s3 s4
        rw [s2] at t1
        have t1' : rn mX10_meet 29 [vr 1, vi (p : Int), vi (q : Int), vi 0, vn] [] (HP A1 F1 E) = _ := t1
        obtain ⟨A3, k1, k2, k3⟩ := q_start (E := E) r t2 q2
        obtain ⟨A4, F4, f', k', l1, l2, l3⟩ := m_meet_l (p := p) (q := q) (E := E) (by omega) (by omega) 200 0 A3 F2 _ (by omega) k3 st.1 (by omega)
        have l1' : rn mX11_meet 33 [vr 103, vi (p : Int), vi (q : Int), vi (-2), vi 0] [] (HP A3 F2 E) = _ := l1
        have lb := mw_lays (E := E) l3
        have mg' := mg A2 F2
        rw [cfr_113 t2, b.2.2.2.1, if_pos z] at mg'
        have mg2' := mg2 A2 F2
        rw [cfr_113 t2, b.2.2.2.1, if_pos z2] at mg2'
        refine prs_q h (v := fstN Q G (mtP p q) 200 (A 13)) ?_ t2 t3.2.1 ?_ (mqf_of k2 l2)
        · rw [← t1']
          simp (disch := omega) only [eX10_meet, sX10_meet_0, sX10_meet_1, sX10_meet_2, sX10_meet_5, sX10_meet_8, sX10_meet_9, sX10_meet_10, sX10_meet_13, sX10_meet_16, sX10_meet_17, sX10_meet_18, sX10_meet_21, sX10_meet_22, sX10_meet_23, sX10_meet_24, sX10_meet_27, sX10_meet_28, sX10_meet_30, sX10_meet_33, sX10_meet_36, sX10_meet_37, sX10_meet_40, sX10_meet_41, sX10_meet_44, sX10_meet_47, sX10_meet_48, sX10_meet_51, sX10_meet_52, sX10_meet_55, sX10_meet_58, sX10_meet_59, sX10_meet_62, sX10_meet_63, sX10_meet_65, sX10_meet_67, sX10_meet_70, sX10_meet_71, sX10_meet_74, sX10_meet_75, sX10_meet_76, sX10_meet_79, sX10_meet_80, sX10_meet_83, sX10_meet_84, sX10_meet_85, sX10_meet_88, sX10_meet_91, sX10_meet_92, sX10_meet_95, sX10_meet_96, sX10_meet_99, sX10_meet_100, sX10_meet_101, sX10_meet_104, sX10_meet_105, sX10_meet_108, sX10_meet_111, sX10_meet_114, sX10_meet_117, sX10_meet_119, ↓hk1, ↓bndi_at ig, ↓bndi_at ig2, ↓bndv_at s1, ↓if_pos, ↓if_neg]
        · simp (disch := omega) only [eX11_meet, sX11_meet_0, sX11_meet_1, sX11_meet_2, sX11_meet_5, sX11_meet_8, sX11_meet_9, sX11_meet_10, sX11_meet_13, sX11_meet_16, sX11_meet_17, sX11_meet_18, sX11_meet_21, sX11_meet_22, sX11_meet_23, sX11_meet_25, sX11_meet_26, sX11_meet_27, sX11_meet_30, sX11_meet_31, sX11_meet_35, sX11_meet_38, sX11_meet_41, sX11_meet_42, sX11_meet_45, sX11_meet_46, sX11_meet_47, sX11_meet_50, sX11_meet_53, sX11_meet_54, sX11_meet_55, sX11_meet_58, sX11_meet_61, sX11_meet_62, sX11_meet_63, sX11_meet_66, sX11_meet_67, sX11_meet_68, sX11_meet_71, sX11_meet_74, sX11_meet_75, sX11_meet_78, sX11_meet_80, sX11_meet_81, sX11_meet_82, sX11_meet_83, sX11_meet_86, sX11_meet_89, sX11_meet_93, sX11_meet_96, sX11_meet_97, ↓hk103, ↓bndi_at mg', ↓bndi_at mg2', ↓bndv_at k1, ↓if_pos, ↓if_neg]
          rw [l1']
          simp (disch := omega) only [eX11_meet, sX11_meet_0, sX11_meet_1, sX11_meet_2, sX11_meet_5, sX11_meet_8, sX11_meet_9, sX11_meet_10, sX11_meet_13, sX11_meet_16, sX11_meet_17, sX11_meet_18, sX11_meet_21, sX11_meet_22, sX11_meet_23, sX11_meet_25, sX11_meet_26, sX11_meet_27, sX11_meet_30, sX11_meet_31, sX11_meet_35, sX11_meet_38, sX11_meet_41, sX11_meet_42, sX11_meet_45, sX11_meet_46, sX11_meet_47, sX11_meet_50, sX11_meet_53, sX11_meet_54, sX11_meet_55, sX11_meet_58, sX11_meet_61, sX11_meet_62, sX11_meet_63, sX11_meet_66, sX11_meet_67, sX11_meet_68, sX11_meet_71, sX11_meet_74, sX11_meet_75, sX11_meet_78, sX11_meet_80, sX11_meet_81, sX11_meet_82, sX11_meet_83, sX11_meet_86, sX11_meet_89, sX11_meet_92, sX11_meet_93, sX11_meet_96, sX11_meet_97, ↓hk103, ↓bndv_at lb]
    · have mg' := mg A F
      have mg2' := mg2 A F
      rw [b.2.2.2.1, if_pos z] at mg'
      rw [b.2.2.2.1, if_neg z2] at mg2'
      rw [if_neg z2] at ig2
      refine prs_0 (v := -1) h ?_ ?_
      · simp (disch := omega) only [eX10_meet, sX10_meet_0, sX10_meet_1, sX10_meet_2, sX10_meet_5, sX10_meet_8, sX10_meet_9, sX10_meet_10, sX10_meet_13, sX10_meet_16, sX10_meet_17, sX10_meet_18, sX10_meet_21, sX10_meet_22, sX10_meet_23, sX10_meet_24, sX10_meet_27, sX10_meet_28, sX10_meet_30, sX10_meet_33, sX10_meet_36, sX10_meet_37, sX10_meet_40, sX10_meet_41, sX10_meet_44, sX10_meet_47, sX10_meet_48, sX10_meet_51, sX10_meet_52, sX10_meet_55, sX10_meet_58, sX10_meet_59, sX10_meet_62, sX10_meet_63, sX10_meet_65, sX10_meet_67, sX10_meet_70, sX10_meet_71, sX10_meet_74, sX10_meet_75, sX10_meet_76, sX10_meet_79, sX10_meet_80, sX10_meet_83, sX10_meet_84, sX10_meet_85, sX10_meet_88, sX10_meet_91, sX10_meet_92, sX10_meet_95, sX10_meet_96, sX10_meet_99, sX10_meet_100, sX10_meet_101, sX10_meet_104, sX10_meet_105, sX10_meet_108, sX10_meet_111, sX10_meet_114, sX10_meet_117, sX10_meet_119, ↓hk1, ↓bndi_at ig, ↓bndi_at ig2, ↓if_pos, ↓if_neg]
      · simp (disch := omega) only [eX11_meet, sX11_meet_0, sX11_meet_1, sX11_meet_2, sX11_meet_5, sX11_meet_8, sX11_meet_9, sX11_meet_10, sX11_meet_13, sX11_meet_16, sX11_meet_17, sX11_meet_18, sX11_meet_21, sX11_meet_22, sX11_meet_23, sX11_meet_25, sX11_meet_26, sX11_meet_27, sX11_meet_30, sX11_meet_31, sX11_meet_35, sX11_meet_38, sX11_meet_41, sX11_meet_42, sX11_meet_45, sX11_meet_46, sX11_meet_47, sX11_meet_50, sX11_meet_53, sX11_meet_54, sX11_meet_55, sX11_meet_58, sX11_meet_61, sX11_meet_62, sX11_meet_63, sX11_meet_66, sX11_meet_67, sX11_meet_68, sX11_meet_71, sX11_meet_74, sX11_meet_75, sX11_meet_78, sX11_meet_80, sX11_meet_81, sX11_meet_82, sX11_meet_83, sX11_meet_86, sX11_meet_89, sX11_meet_92, sX11_meet_93, sX11_meet_96, sX11_meet_97, ↓hk103, ↓bndi_at mg', ↓bndi_at mg2', ↓if_pos, ↓if_neg]
  · have mg' := mg A F
    rw [b.2.2.2.1, if_neg z] at mg'
    rw [if_neg z] at ig
    refine prs_0 (v := -1) h ?_ ?_
    · simp (disch := omega) only [eX10_meet, sX10_meet_0, sX10_meet_1, sX10_meet_2, sX10_meet_5, sX10_meet_8, sX10_meet_9, sX10_meet_10, sX10_meet_13, sX10_meet_16, sX10_meet_17, sX10_meet_18, sX10_meet_21, sX10_meet_22, sX10_meet_23, sX10_meet_24, sX10_meet_27, sX10_meet_28, sX10_meet_30, sX10_meet_33, sX10_meet_36, sX10_meet_37, sX10_meet_40, sX10_meet_41, sX10_meet_44, sX10_meet_47, sX10_meet_48, sX10_meet_51, sX10_meet_52, sX10_meet_55, sX10_meet_58, sX10_meet_59, sX10_meet_62, sX10_meet_63, sX10_meet_65, sX10_meet_67, sX10_meet_70, sX10_meet_71, sX10_meet_74, sX10_meet_75, sX10_meet_76, sX10_meet_79, sX10_meet_80, sX10_meet_83, sX10_meet_84, sX10_meet_85, sX10_meet_88, sX10_meet_91, sX10_meet_92, sX10_meet_95, sX10_meet_96, sX10_meet_99, sX10_meet_100, sX10_meet_101, sX10_meet_104, sX10_meet_105, sX10_meet_108, sX10_meet_111, sX10_meet_114, sX10_meet_117, sX10_meet_119, ↓hk1, ↓bndi_at ig, ↓if_pos, ↓if_neg]
    · simp (disch := omega) only [eX11_meet, sX11_meet_0, sX11_meet_1, sX11_meet_2, sX11_meet_5, sX11_meet_8, sX11_meet_9, sX11_meet_10, sX11_meet_13, sX11_meet_16, sX11_meet_17, sX11_meet_18, sX11_meet_21, sX11_meet_22, sX11_meet_23, sX11_meet_25, sX11_meet_26, sX11_meet_27, sX11_meet_30, sX11_meet_31, sX11_meet_35, sX11_meet_38, sX11_meet_41, sX11_meet_42, sX11_meet_45, sX11_meet_46, sX11_meet_47, sX11_meet_50, sX11_meet_53, sX11_meet_54, sX11_meet_55, sX11_meet_58, sX11_meet_61, sX11_meet_62, sX11_meet_63, sX11_meet_66, sX11_meet_67, sX11_meet_68, sX11_meet_71, sX11_meet_74, sX11_meet_75, sX11_meet_78, sX11_meet_80, sX11_meet_81, sX11_meet_82, sX11_meet_83, sX11_meet_86, sX11_meet_89, sX11_meet_92, sX11_meet_93, sX11_meet_96, sX11_meet_97, ↓hk103, ↓bndi_at mg', ↓if_pos, ↓if_neg]
end A2
