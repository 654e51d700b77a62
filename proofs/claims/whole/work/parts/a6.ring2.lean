/-! ring, whole -/
section RG2
variable {A F : Nat → Nat → Int} {E : zE} {G : Nat} {Q : (Int → Int) → Int} {f s0 f0 : Nat → Int}
theorem c_where {g : Nat} {b : Nat} (h : cw A F E G Q b) (hg : g < G) : cl mX9_whereabouts [vr 14, vi (g : Int)] (HP A F E) = some (vi (wwh (A 15) g), HP A F E) := by
  have hG5 := h.1.2.1
  have gk := h.1.2.2.2.2.2.2 g hg
  have s6 := h.1.2.2.1
  have sq := sq_b (s := A 15 0) (by omega) s6.2
  unfold gok at gk
  have hw := hp_w (A := A) (F := F) (E := E) wad_14
  have ew : wf (HP A F E) 14 = A 15 := hw.2.2.2
  have := w_where (g := g) hw.1 (by omega) (by rw [ew]; omega) (by rw [ew]; omega) (by rw [ew]; omega) (by rw [ew]; omega) (by rw [ew]; by_cases z : A 15 (50 + 7 * g) = 0; exact (by have := gk.2.2.2.2.2.1 z; omega); exact (by have := gk.2.2.2.2.2.2.1 z; omega)) (by rw [ew]; by_cases z : A 15 (50 + 7 * g) = 0; exact (by have := gk.2.2.2.2.2.1 z; omega); exact (by have := gk.2.2.2.2.2.2.1 z; omega)) (by rw [ew]; omega) (by rw [ew]; omega) (by rw [ew]; omega) (by rw [ew]; omega)
  rw [ew] at this
  exact this
def trV (f : Nat → Int) (G g : Nat) : Int := if g < G then wwh f g else 0
theorem c_tr_in {k b : Nat} (hk : k ≤ 60) (hn : A 13 1 = (G : Int)) : ∀ (n g : Nat) (A F : Nat → Nat → Int), g + n = 5 → A 13 1 = (G : Int) → cw A F E G Q b → ∃ W, rn mX10_trackAll 14 [vr 1, vi (k : Int), vi (g : Int)] [] (HP A F E) = rn mX10_trackAll 55 [vr 1, vi (k : Int), vi 5] [] (HP (aup A 64 W) F E) ∧ ∀ j, W j = if 5 * k + g ≤ j ∧ j < 5 * k + 5 then trV (A 15) G (j - 5 * k) else A 64 j := by
  intro n
  induction n with
  | zero =>
    intro g A F hg hn h
    have : g = 5 := by omega
    subst this
    refine ⟨A 64, ?_, fun j => by rw [if_neg (by omega)]⟩
    rw [sX10_trackAll_14, aup_id]
    simp (disch := omega) only [eX10_trackAll, sX10_trackAll_0, sX10_trackAll_1, sX10_trackAll_4, sX10_trackAll_5, sX10_trackAll_7, sX10_trackAll_9, sX10_trackAll_12, sX10_trackAll_13, sX10_trackAll_15, sX10_trackAll_16, sX10_trackAll_19, sX10_trackAll_20, sX10_trackAll_23, sX10_trackAll_24, sX10_trackAll_25, sX10_trackAll_26, sX10_trackAll_27, sX10_trackAll_28, sX10_trackAll_29, sX10_trackAll_30, sX10_trackAll_33, sX10_trackAll_36, sX10_trackAll_37, sX10_trackAll_40, sX10_trackAll_41, sX10_trackAll_44, sX10_trackAll_47, sX10_trackAll_48, sX10_trackAll_49, sX10_trackAll_52, sX10_trackAll_56, sX10_trackAll_59, sX10_trackAll_60, sX10_trackAll_63, sX10_trackAll_66, sX10_trackAll_69, sX10_trackAll_72, ↓if_pos]
    rfl
  | succ n ih =>
    intro g A F hg hn h
    have h2 : ∀ v, cw (aup A 64 v) F E G Q b := fun v => ⟨by rw [aup_n (by omega)]; exact h.1, by rw [aup_n (by omega)]; exact h.2.1, cR_f h.2.2 (fun j j1 _ => aup_n (by omega))⟩
    obtain ⟨W, r1, r2⟩ := ih (g + 1) (aup A 64 (fup (A 64) (5 * k + g) (trV (A 15) G g))) F (by omega) (by rw [aup_n (by omega)]; exact hn) (h2 _)
    rw [aup_aup] at r1
    have e : ((k : Int) * 5 + (g : Int)).toNat = 5 * k + g := by omega
    refine ⟨W, ?_, fun j => ?_⟩
    · rw [← r1, sX10_trackAll_14]
      have go := E_goers (A := A) (F := F) (E := E)
      rw [hn] at go
      by_cases z : g < G
      · have wh := c_where (g := g) h z
        rw [show trV (A 15) G g = wwh (A 15) g from if_pos z]
        simp (disch := omega) only [eX10_trackAll, sX10_trackAll_0, sX10_trackAll_1, sX10_trackAll_4, sX10_trackAll_5, sX10_trackAll_7, sX10_trackAll_9, sX10_trackAll_12, sX10_trackAll_13, sX10_trackAll_15, sX10_trackAll_16, sX10_trackAll_19, sX10_trackAll_20, sX10_trackAll_23, sX10_trackAll_24, sX10_trackAll_25, sX10_trackAll_26, sX10_trackAll_27, sX10_trackAll_28, sX10_trackAll_29, sX10_trackAll_30, sX10_trackAll_33, sX10_trackAll_36, sX10_trackAll_37, sX10_trackAll_40, sX10_trackAll_41, sX10_trackAll_44, sX10_trackAll_47, sX10_trackAll_48, sX10_trackAll_49, sX10_trackAll_52, sX10_trackAll_56, sX10_trackAll_59, sX10_trackAll_60, sX10_trackAll_63, sX10_trackAll_66, sX10_trackAll_69, sX10_trackAll_72, ↓hk1, ↓hf1_14, ↓hf1_9, ↓hk14, ↓bndi_at go, ↓bndi_at wh, ↓hs64, i32_of, e, ↓if_pos, ↓if_neg]
        rfl
      · rw [show trV (A 15) G g = 0 from if_neg z]
        simp (disch := omega) only [eX10_trackAll, sX10_trackAll_0, sX10_trackAll_1, sX10_trackAll_4, sX10_trackAll_5, sX10_trackAll_7, sX10_trackAll_9, sX10_trackAll_12, sX10_trackAll_13, sX10_trackAll_15, sX10_trackAll_16, sX10_trackAll_19, sX10_trackAll_20, sX10_trackAll_23, sX10_trackAll_24, sX10_trackAll_25, sX10_trackAll_26, sX10_trackAll_27, sX10_trackAll_28, sX10_trackAll_29, sX10_trackAll_30, sX10_trackAll_33, sX10_trackAll_36, sX10_trackAll_37, sX10_trackAll_40, sX10_trackAll_41, sX10_trackAll_44, sX10_trackAll_47, sX10_trackAll_48, sX10_trackAll_49, sX10_trackAll_52, sX10_trackAll_56, sX10_trackAll_59, sX10_trackAll_60, sX10_trackAll_63, sX10_trackAll_66, sX10_trackAll_69, sX10_trackAll_72, ↓hk1, ↓hf1_14, ↓bndi_at go, ↓hs64, i32_of, e, ↓if_pos, ↓if_neg]
        rfl
    · rw [r2, aup_s, aup_n (by omega)]
      by_cases q : j = 5 * k + g
      · subst q; rw [if_neg (by omega), if_pos (by omega), fup_s, show 5 * k + g - 5 * k = g by omega]
      · by_cases q2 : 5 * k + g ≤ j ∧ j < 5 * k + 5
        · rw [if_pos (by omega), if_pos q2]
        · rw [if_neg (by omega), if_neg q2, fup_n q]
theorem c_tr_l {A0 F0 : Nat → Nat → Int} (h0 : inv A0 F0 E) (hG : A0 13 1 = (G : Int)) : ∀ (n k : Nat) (A F : Nat → Nat → Int) (x2 : zV), k + n = 61 → cfr A0 F0 A F → cw A F E G Q (rad (F0 1 5)) → ∃ A' F', rn mX10_trackAll 6 [vr 1, vi (k : Int), x2] [] (HP A F E) = some (vn, HP A' F' E) ∧ cfr A0 F0 A' F' ∧ cn 82 (A' 15) ∧ (∀ i g, k ≤ i → i ≤ 60 → g < 5 → A' 64 (5 * i + g) = trV (psN Q G (i - k) (A 15)) G g) ∧ ∀ j, j < 5 * k → A' 64 j = A 64 j := by
  intro n
  induction n with
  | zero =>
    intro k A F x2 hk c h
    have : k = 61 := by omega
    subst this
    refine ⟨A, F, ?_, c, h.2.1, fun i g h1 h2 => by omega, fun _ _ => rfl⟩
    rw [sX10_trackAll_6]
    simp (disch := omega) only [eX10_trackAll, sX10_trackAll_0, sX10_trackAll_1, sX10_trackAll_4, sX10_trackAll_5, sX10_trackAll_7, sX10_trackAll_9, sX10_trackAll_12, sX10_trackAll_13, sX10_trackAll_15, sX10_trackAll_16, sX10_trackAll_19, sX10_trackAll_20, sX10_trackAll_23, sX10_trackAll_24, sX10_trackAll_25, sX10_trackAll_26, sX10_trackAll_27, sX10_trackAll_28, sX10_trackAll_29, sX10_trackAll_30, sX10_trackAll_33, sX10_trackAll_36, sX10_trackAll_37, sX10_trackAll_40, sX10_trackAll_41, sX10_trackAll_44, sX10_trackAll_47, sX10_trackAll_48, sX10_trackAll_49, sX10_trackAll_52, sX10_trackAll_55, sX10_trackAll_56, sX10_trackAll_59, sX10_trackAll_60, sX10_trackAll_63, sX10_trackAll_66, sX10_trackAll_69, sX10_trackAll_72, ↓if_pos]
  | succ n ih =>
    intro k A F x2 hk c h
    have hn : A 13 1 = (G : Int) := by rw [cfr_13 c]; exact hG
    obtain ⟨W, r1, r2⟩ := c_tr_in (k := k) (E := E) (by omega) hn 5 0 A F (by omega) hn h
    have r1' : rn mX10_trackAll 14 [vr 1, vi (k : Int), vi 0] [] (HP A F E) = _ := r1
    have c1 : cfr A0 F0 (aup A 64 W) F := cfr_t c ⟨fun j _ j2 _ _ _ => aup_n j2, fun _ _ _ => rfl⟩
    have h1 : cw (aup A 64 W) F E G Q (rad (F0 1 5)) := ⟨by rw [aup_n (by omega)]; exact h.1, by rw [aup_n (by omega)]; exact h.2.1, cR_f h.2.2 (fun j j1 _ => aup_n (by omega))⟩
    obtain ⟨A1, F1, p1, p2, p3, p4, _, _, p5⟩ := c_pass h1
    rw [aup_n (by omega)] at p2
    obtain ⟨A2, F2, t1, t2, t3, t4, t5⟩ := ih (k + 1) A1 F1 (vi 5) (by omega) (cfr_t c1 p3) p4
    have a64 : A1 64 = W := by rw [p5 64 (by omega) (by unfold isk; omega), aup_s]
    refine ⟨A2, F2, ?_, t2, t3, fun i g i1 i2 i3 => ?_, fun j hj => ?_⟩
    · rw [← t1, sX10_trackAll_6]
      simp (disch := omega) only [eX10_trackAll, sX10_trackAll_0, sX10_trackAll_1, sX10_trackAll_4, sX10_trackAll_5, sX10_trackAll_7, sX10_trackAll_9, sX10_trackAll_12, sX10_trackAll_13, sX10_trackAll_15, sX10_trackAll_16, sX10_trackAll_19, sX10_trackAll_20, sX10_trackAll_23, sX10_trackAll_24, sX10_trackAll_25, sX10_trackAll_26, sX10_trackAll_27, sX10_trackAll_28, sX10_trackAll_29, sX10_trackAll_30, sX10_trackAll_33, sX10_trackAll_36, sX10_trackAll_37, sX10_trackAll_40, sX10_trackAll_41, sX10_trackAll_44, sX10_trackAll_47, sX10_trackAll_48, sX10_trackAll_49, sX10_trackAll_52, sX10_trackAll_56, sX10_trackAll_59, sX10_trackAll_60, sX10_trackAll_63, sX10_trackAll_66, sX10_trackAll_69, sX10_trackAll_72, ↓if_neg]
      rw [r1']
      simp (disch := omega) only [eX10_trackAll, sX10_trackAll_0, sX10_trackAll_1, sX10_trackAll_4, sX10_trackAll_5, sX10_trackAll_7, sX10_trackAll_9, sX10_trackAll_12, sX10_trackAll_13, sX10_trackAll_15, sX10_trackAll_16, sX10_trackAll_19, sX10_trackAll_20, sX10_trackAll_23, sX10_trackAll_24, sX10_trackAll_25, sX10_trackAll_26, sX10_trackAll_27, sX10_trackAll_28, sX10_trackAll_29, sX10_trackAll_30, sX10_trackAll_33, sX10_trackAll_36, sX10_trackAll_37, sX10_trackAll_40, sX10_trackAll_41, sX10_trackAll_44, sX10_trackAll_47, sX10_trackAll_48, sX10_trackAll_49, sX10_trackAll_52, sX10_trackAll_55, sX10_trackAll_56, sX10_trackAll_59, sX10_trackAll_60, sX10_trackAll_63, sX10_trackAll_66, sX10_trackAll_69, sX10_trackAll_72, ↓hk1, ↓hf1_9, ↓hk14, ↓bndr_at (c_force h0 c1), ↓bndv_at p1, i32_s]
    · by_cases q : i = k
      · subst q
        rw [t5 _ (by omega), a64, r2, if_pos (by omega), show 5 * i + g - 5 * i = g by omega, show i - i = 0 by omega]
        rfl
      · rw [t4 i g (by omega) i2 i3, p2, show i - k = (i - (k + 1)) + 1 by omega, psN]
    · rw [t5 j (by omega), a64, r2, if_neg (by omega)]
theorem c_track (h : inv A F E) (r : SR1 G (A 13) (A 11) (A 17) (A 18) (A 19) (F 16 3) (A 113)) (q : cR A E (rad (F 1 5)) Q) : ∃ A' F', cl mX10_trackAll [vr 1] (HP A F E) = some (vn, HP A' F' E) ∧ cfr A F A' F' ∧ cn 82 (A' 15) ∧ ∀ i g, i ≤ 60 → g < 5 → A' 64 (5 * i + g) = trV (psN Q G i (A 13)) G g := by
  obtain ⟨A1, F1, s1, s2, s3, s4, _⟩ := c_restart h r q
  obtain ⟨A2, F2, t1, t2, t3, t4, t5⟩ := c_tr_l h r.1.1 61 0 A1 F1 vn (by omega) s3 s4
  have t1' : rn mX10_trackAll 6 [vr 1, vi 0, vn] [] (HP A1 F1 E) = _ := t1
  refine ⟨A2, F2, ?_, t2, t3, fun i g i1 i2 => by rw [t4 i g (by omega) i1 i2, s2, Nat.sub_zero]⟩
  rw [← t1']
  simp (disch := omega) only [eX10_trackAll, sX10_trackAll_0, sX10_trackAll_1, sX10_trackAll_4, sX10_trackAll_5, sX10_trackAll_7, sX10_trackAll_9, sX10_trackAll_12, sX10_trackAll_13, sX10_trackAll_15, sX10_trackAll_16, sX10_trackAll_19, sX10_trackAll_20, sX10_trackAll_23, sX10_trackAll_24, sX10_trackAll_25, sX10_trackAll_26, sX10_trackAll_27, sX10_trackAll_28, sX10_trackAll_29, sX10_trackAll_30, sX10_trackAll_33, sX10_trackAll_36, sX10_trackAll_37, sX10_trackAll_40, sX10_trackAll_41, sX10_trackAll_44, sX10_trackAll_47, sX10_trackAll_48, sX10_trackAll_49, sX10_trackAll_52, sX10_trackAll_55, sX10_trackAll_56, sX10_trackAll_59, sX10_trackAll_60, sX10_trackAll_63, sX10_trackAll_66, sX10_trackAll_69, sX10_trackAll_72, ↓hk1, ↓bndv_at s1]
/-- the model's frame while it also writes its own rows -/
def mwx (A F A' F' : Nat → Nat → Int) : Prop := (∀ j, j ≠ 111 → j ≠ 112 → j ≠ 113 → (j < 116 ∨ 122 < j) → A' j = A j) ∧ (∀ j, j ≠ 103 → F' j = F j) ∧ ∀ k, k ≠ 18 → k ≠ 29 → k ≠ 30 → k ≠ 31 → k ≠ 36 → F' 103 k = F 103 k
theorem mwx_r : mwx A F A F := ⟨fun _ _ _ _ _ => rfl, fun _ _ => rfl, fun _ _ _ _ _ _ => rfl⟩
theorem mwx_t {A1 F1 A2 F2 : Nat → Nat → Int} (h : mwx A F A1 F1) (k : mwx A1 F1 A2 F2) : mwx A F A2 F2 := ⟨fun j a b c d => (k.1 j a b c d).trans (h.1 j a b c d), fun j a => (k.2.1 j a).trans (h.2.1 j a), fun j a b c d e => (k.2.2 j a b c d e).trans (h.2.2 j a b c d e)⟩
theorem mwx_of {A1 F1 : Nat → Nat → Int} (h : mwg A F A1 F1) : mwx A F A1 F1 := ⟨fun j a b c _ => h.1 j a b c, h.2.1, h.2.2⟩
theorem mqf_x {A1 F1 F2 A2 A3 : Nat → Nat → Int} (k : ∀ j, j ≠ 115 → A2 j = A1 j) (m : mwx A2 F1 A3 F2) (s : A3 113 = A1 113) : mqf A1 F1 A3 F2 := by
  refine ⟨fun j a b c => ?_, m.2.1, m.2.2⟩
  by_cases q : j = 113
  · rw [q, s]
  · rw [m.1 j a b q (by omega), k j (by omega)]
theorem mw_own {j : Nat} {g : Nat → Int} (h : mw A F G Q f s0) (hj : 115 < j) : mw (aup A j g) F G Q f s0 := ⟨h.1, by rw [aup_n (by omega)]; exact h.2.1, mQ_c h.2.2.1 (aup_n (by omega)) (aup_n (by omega)) (aup_n (by omega)) rfl, fun i hi => by rw [aup_n (by omega)]; exact h.2.2.2.1 i hi, fun i hi => by rw [aup_n (by omega)]; exact h.2.2.2.2 i hi⟩
theorem mw_where {g : Nat} (h : mw A F G Q f s0) (hg : g < G) : cl mX11_whereOf [vr 103, vi (g : Int)] (HP A F E) = some (vi (mwv f g), HP A F E) := by
  have hG5 := h.1.2.1
  have gk := h.1.2.2.2.2.2.2 g hg
  have s6 := h.1.2.2.1
  have sq := sq_b (s := f 0) (by omega) s6.2
  unfold gok at gk
  have sg := sd_g h.2.1 (g := g) (by omega)
  have st := mw_status (p := g) (E := E) h (by omega)
  have x0 : (11 + 7 * (g : Int)).toNat = 11 + 7 * g := by omega
  have x1 : (11 + 7 * (g : Int) + 1).toNat = 12 + 7 * g := by omega
  have x4 : (11 + 7 * (g : Int) + 4).toNat = 15 + 7 * g := by omega
  have x5 : (11 + 7 * (g : Int) + 5).toNat = 16 + 7 * g := by omega
  unfold mwv
  by_cases z : f (50 + 7 * g) = 0
  · have c := sg.2.2.2.2.2 z
    have cb := gk.2.2.2.2.2.1 z
    rw [if_pos z]
    simp (disch := omega) only [eX11_whereOf, sX11_whereOf_0, sX11_whereOf_2, sX11_whereOf_4, sX11_whereOf_5, sX11_whereOf_6, sX11_whereOf_7, sX11_whereOf_8, sX11_whereOf_9, sX11_whereOf_10, sX11_whereOf_13, sX11_whereOf_16, sX11_whereOf_17, sX11_whereOf_20, sX11_whereOf_21, sX11_whereOf_22, sX11_whereOf_25, sX11_whereOf_26, sX11_whereOf_27, sX11_whereOf_30, sX11_whereOf_31, sX11_whereOf_34, sX11_whereOf_36, sX11_whereOf_37, sX11_whereOf_40, sX11_whereOf_41, sX11_whereOf_42, sX11_whereOf_43, sX11_whereOf_44, sX11_whereOf_45, sX11_whereOf_46, sX11_whereOf_49, sX11_whereOf_50, sX11_whereOf_51, sX11_whereOf_52, sX11_whereOf_53, sX11_whereOf_54, sX11_whereOf_57, sX11_whereOf_58, sX11_whereOf_59, sX11_whereOf_60, sX11_whereOf_61, sX11_whereOf_62, sX11_whereOf_63, sX11_whereOf_64, sX11_whereOf_65, sX11_whereOf_68, sX11_whereOf_69, sX11_whereOf_70, sX11_whereOf_71, sX11_whereOf_74, sX11_whereOf_75, sX11_whereOf_76, sX11_whereOf_77, sX11_whereOf_78, sX11_whereOf_79, ↓hk103, ↓hf103_20, ↓hg113, ↓bndi_at st, i32_of, x0, x1, c, sg.1, ↓if_pos, ↓if_neg]
  · rw [if_neg z]
    by_cases z1 : f (50 + 7 * g) = 1
    · have c := sg.2.2.2.1 z1
      rw [if_pos z1]
      simp (disch := omega) only [eX11_whereOf, sX11_whereOf_0, sX11_whereOf_2, sX11_whereOf_4, sX11_whereOf_5, sX11_whereOf_6, sX11_whereOf_7, sX11_whereOf_8, sX11_whereOf_9, sX11_whereOf_10, sX11_whereOf_13, sX11_whereOf_16, sX11_whereOf_17, sX11_whereOf_20, sX11_whereOf_21, sX11_whereOf_22, sX11_whereOf_25, sX11_whereOf_26, sX11_whereOf_27, sX11_whereOf_30, sX11_whereOf_31, sX11_whereOf_34, sX11_whereOf_36, sX11_whereOf_37, sX11_whereOf_40, sX11_whereOf_41, sX11_whereOf_42, sX11_whereOf_43, sX11_whereOf_44, sX11_whereOf_45, sX11_whereOf_46, sX11_whereOf_49, sX11_whereOf_50, sX11_whereOf_51, sX11_whereOf_52, sX11_whereOf_53, sX11_whereOf_54, sX11_whereOf_57, sX11_whereOf_58, sX11_whereOf_59, sX11_whereOf_60, sX11_whereOf_61, sX11_whereOf_62, sX11_whereOf_63, sX11_whereOf_64, sX11_whereOf_65, sX11_whereOf_68, sX11_whereOf_69, sX11_whereOf_70, sX11_whereOf_71, sX11_whereOf_74, sX11_whereOf_75, sX11_whereOf_76, sX11_whereOf_77, sX11_whereOf_78, sX11_whereOf_79, ↓hk103, ↓hf103_20, ↓hg113, ↓bndi_at st, i32_of, x4, x5, x1, c.1, c.2, sg.1, ↓if_pos, ↓if_neg]
    · rw [if_neg z1]
      simp (disch := omega) only [eX11_whereOf, sX11_whereOf_0, sX11_whereOf_2, sX11_whereOf_4, sX11_whereOf_5, sX11_whereOf_6, sX11_whereOf_7, sX11_whereOf_8, sX11_whereOf_9, sX11_whereOf_10, sX11_whereOf_13, sX11_whereOf_16, sX11_whereOf_17, sX11_whereOf_20, sX11_whereOf_21, sX11_whereOf_22, sX11_whereOf_25, sX11_whereOf_26, sX11_whereOf_27, sX11_whereOf_30, sX11_whereOf_31, sX11_whereOf_34, sX11_whereOf_36, sX11_whereOf_37, sX11_whereOf_40, sX11_whereOf_41, sX11_whereOf_42, sX11_whereOf_43, sX11_whereOf_44, sX11_whereOf_45, sX11_whereOf_46, sX11_whereOf_49, sX11_whereOf_50, sX11_whereOf_51, sX11_whereOf_52, sX11_whereOf_53, sX11_whereOf_54, sX11_whereOf_57, sX11_whereOf_58, sX11_whereOf_59, sX11_whereOf_60, sX11_whereOf_61, sX11_whereOf_62, sX11_whereOf_63, sX11_whereOf_64, sX11_whereOf_65, sX11_whereOf_68, sX11_whereOf_69, sX11_whereOf_70, sX11_whereOf_71, sX11_whereOf_74, sX11_whereOf_75, sX11_whereOf_76, sX11_whereOf_77, sX11_whereOf_78, sX11_whereOf_79, ↓hk103, ↓hf103_20, ↓hg113, ↓bndi_at st, i32_of, x1, sg.1, ↓if_pos, ↓if_neg]
theorem m_rg_in {w : Int} {k : Nat} (hk : k ≤ 60) : ∀ (n g : Nat) (A F : Nat → Nat → Int), g + n = G → mw A F G Q f s0 → ∃ W, rn mX11_ring 33 [vr 103, vi w, vi (k : Int), vi (g : Int)] [] (HP A F E) = rn mX11_ring 64 [vr 103, vi w, vi (k : Int), vi (G : Int)] [] (HP (aup A 120 W) F E) ∧ ∀ j, W j = if 5 * k + g ≤ j ∧ j < 5 * k + G then mwv f (j - 5 * k) else A 120 j := by
  intro n
  induction n with
  | zero =>
    intro g A F hg h
    have : g = G := by omega
    subst this
    have hG : A 113 2 = (g : Int) := by rw [sd_1 h.2.1]; exact h.1.1
    refine ⟨A 120, ?_, fun j => by rw [if_neg (by omega)]⟩
    rw [sX11_ring_33, aup_id]
    simp (disch := omega) only [eX11_ring, sX11_ring_0, sX11_ring_1, sX11_ring_4, sX11_ring_7, sX11_ring_8, sX11_ring_9, sX11_ring_10, sX11_ring_11, sX11_ring_14, sX11_ring_17, sX11_ring_18, sX11_ring_19, sX11_ring_20, sX11_ring_23, sX11_ring_24, sX11_ring_26, sX11_ring_28, sX11_ring_31, sX11_ring_32, sX11_ring_34, sX11_ring_35, sX11_ring_38, sX11_ring_39, sX11_ring_40, sX11_ring_43, sX11_ring_44, sX11_ring_47, sX11_ring_48, sX11_ring_49, sX11_ring_50, sX11_ring_51, sX11_ring_52, sX11_ring_53, sX11_ring_54, sX11_ring_57, sX11_ring_58, sX11_ring_61, sX11_ring_65, sX11_ring_68, sX11_ring_71, sX11_ring_74, sX11_ring_75, sX11_ring_78, sX11_ring_79, sX11_ring_81, sX11_ring_83, sX11_ring_86, sX11_ring_87, sX11_ring_88, sX11_ring_89, sX11_ring_91, sX11_ring_93, sX11_ring_96, sX11_ring_97, sX11_ring_98, sX11_ring_99, sX11_ring_102, sX11_ring_105, sX11_ring_106, sX11_ring_109, sX11_ring_110, sX11_ring_113, sX11_ring_115, sX11_ring_116, sX11_ring_117, sX11_ring_118, sX11_ring_121, sX11_ring_122, sX11_ring_123, sX11_ring_124, sX11_ring_125, sX11_ring_128, sX11_ring_131, sX11_ring_134, sX11_ring_137, sX11_ring_139, ↓hf103_20, ↓hg113, Int.reduceToNat, hG, ↓if_pos]
  | succ n ih =>
    intro g A F hg h
    have hG : A 113 2 = (G : Int) := by rw [sd_1 h.2.1]; exact h.1.1
    have hG5 := h.1.2.1
    obtain ⟨W, r1, r2⟩ := ih (g + 1) (aup A 120 (fup (A 120) (5 * k + g) (mwv f g))) F (by omega) (mw_own h (by omega))
    rw [aup_aup] at r1
    have wh := mw_where (g := g) (E := E) h (by omega)
    have e : (5 * (k : Int) + (g : Int)).toNat = 5 * k + g := by omega
    refine ⟨W, ?_, fun j => ?_⟩
    · rw [← r1, sX11_ring_33]
      simp (disch := omega) only [eX11_ring, sX11_ring_0, sX11_ring_1, sX11_ring_4, sX11_ring_7, sX11_ring_8, sX11_ring_9, sX11_ring_10, sX11_ring_11, sX11_ring_14, sX11_ring_17, sX11_ring_18, sX11_ring_19, sX11_ring_20, sX11_ring_23, sX11_ring_24, sX11_ring_26, sX11_ring_28, sX11_ring_31, sX11_ring_32, sX11_ring_34, sX11_ring_35, sX11_ring_38, sX11_ring_39, sX11_ring_40, sX11_ring_43, sX11_ring_44, sX11_ring_47, sX11_ring_48, sX11_ring_49, sX11_ring_50, sX11_ring_51, sX11_ring_52, sX11_ring_53, sX11_ring_54, sX11_ring_57, sX11_ring_58, sX11_ring_61, sX11_ring_65, sX11_ring_68, sX11_ring_71, sX11_ring_74, sX11_ring_75, sX11_ring_78, sX11_ring_79, sX11_ring_81, sX11_ring_83, sX11_ring_86, sX11_ring_87, sX11_ring_88, sX11_ring_89, sX11_ring_91, sX11_ring_93, sX11_ring_96, sX11_ring_97, sX11_ring_98, sX11_ring_99, sX11_ring_102, sX11_ring_105, sX11_ring_106, sX11_ring_109, sX11_ring_110, sX11_ring_113, sX11_ring_115, sX11_ring_116, sX11_ring_117, sX11_ring_118, sX11_ring_121, sX11_ring_122, sX11_ring_123, sX11_ring_124, sX11_ring_125, sX11_ring_128, sX11_ring_131, sX11_ring_134, sX11_ring_137, sX11_ring_139, ↓hk103, ↓hf103_20, ↓hf103_33, ↓hg113, ↓hs120, Int.reduceToNat, hG, ↓bndi_at wh, i32_of, e, ↓if_neg]
      rfl
    · rw [r2, aup_s]
      by_cases q : j = 5 * k + g
      · subst q; rw [if_neg (by omega), if_pos (by omega), fup_s, show 5 * k + g - 5 * k = g by omega]
      · by_cases q2 : 5 * k + g ≤ j ∧ j < 5 * k + G
        · rw [if_pos (by omega), if_pos q2]
        · rw [if_neg (by omega), if_neg q2, fup_n q]
theorem m_rg_l {w : Int} : ∀ (n k : Nat) (A F : Nat → Nat → Int) (f : Nat → Int) (x3 : zV), k + n = 61 → mw A F G Q f s0 → ∃ A' F' x3', rn mX11_ring 25 [vr 103, vi w, vi (k : Int), x3] [] (HP A F E) = rn mX11_ring 74 [vr 103, vi w, vi 61, x3'] [] (HP A' F' E) ∧ mwx A F A' F' ∧ (∃ f', mw A' F' G Q f' s0) ∧ (∀ i g, k ≤ i → i ≤ 60 → g < G → A' 120 (5 * i + g) = mwv (psN Q G (i - k) f) g) ∧ ∀ j, j < 5 * k → A' 120 j = A 120 j := by
  intro n
  induction n with
  | zero =>
    intro k A F f x3 hk h
    have : k = 61 := by omega
    subst this
    refine ⟨A, F, x3, ?_, mwx_r, ⟨f, h⟩, fun i g h1 h2 => by omega, fun _ _ => rfl⟩
    rw [sX11_ring_25]
    simp (disch := omega) only [eX11_ring, sX11_ring_0, sX11_ring_1, sX11_ring_4, sX11_ring_7, sX11_ring_8, sX11_ring_9, sX11_ring_10, sX11_ring_11, sX11_ring_14, sX11_ring_17, sX11_ring_18, sX11_ring_19, sX11_ring_20, sX11_ring_23, sX11_ring_24, sX11_ring_26, sX11_ring_28, sX11_ring_31, sX11_ring_32, sX11_ring_34, sX11_ring_35, sX11_ring_38, sX11_ring_39, sX11_ring_40, sX11_ring_43, sX11_ring_44, sX11_ring_47, sX11_ring_48, sX11_ring_49, sX11_ring_50, sX11_ring_51, sX11_ring_52, sX11_ring_53, sX11_ring_54, sX11_ring_57, sX11_ring_58, sX11_ring_61, sX11_ring_64, sX11_ring_65, sX11_ring_68, sX11_ring_71, sX11_ring_75, sX11_ring_78, sX11_ring_79, sX11_ring_81, sX11_ring_83, sX11_ring_86, sX11_ring_87, sX11_ring_88, sX11_ring_89, sX11_ring_91, sX11_ring_93, sX11_ring_96, sX11_ring_97, sX11_ring_98, sX11_ring_99, sX11_ring_102, sX11_ring_105, sX11_ring_106, sX11_ring_109, sX11_ring_110, sX11_ring_113, sX11_ring_115, sX11_ring_116, sX11_ring_117, sX11_ring_118, sX11_ring_121, sX11_ring_122, sX11_ring_123, sX11_ring_124, sX11_ring_125, sX11_ring_128, sX11_ring_131, sX11_ring_134, sX11_ring_137, sX11_ring_139, ↓if_pos]
    rfl
  | succ n ih =>
    intro k A F f x3 hk h
    have hG5 := h.1.2.1
    obtain ⟨W, r1, r2⟩ := m_rg_in (w := w) (k := k) (E := E) (by omega) G 0 A F (by omega) h
    have r1' : rn mX11_ring 33 [vr 103, vi w, vi (k : Int), vi 0] [] (HP A F E) = _ := r1
    have h1 := mw_own (j := 120) (g := W) h (by omega)
    obtain ⟨A1, F1, p1, p2, p3⟩ := mw_pass (E := E) h1
    obtain ⟨A2, F2, x3', t1, t2, t3, t4, t5⟩ := ih (k + 1) A1 F1 _ (vi (G : Int)) (by omega) p3
    have a120 : A1 120 = W := by rw [p2.1 120 (by omega) (by omega) (by omega), aup_s]
    refine ⟨A2, F2, x3', ?_, mwx_t (mwx_t ⟨fun j _ _ _ d => aup_n (by omega), fun _ _ => rfl, fun _ _ _ _ _ _ => rfl⟩ (mwx_of (mwg_of p2))) t2, t3, fun i g i1 i2 i3 => ?_, fun j hj => ?_⟩
    · rw [← t1, sX11_ring_25]
      simp (disch := omega) only [eX11_ring, sX11_ring_0, sX11_ring_1, sX11_ring_4, sX11_ring_7, sX11_ring_8, sX11_ring_9, sX11_ring_10, sX11_ring_11, sX11_ring_14, sX11_ring_17, sX11_ring_18, sX11_ring_19, sX11_ring_20, sX11_ring_23, sX11_ring_24, sX11_ring_26, sX11_ring_28, sX11_ring_31, sX11_ring_32, sX11_ring_34, sX11_ring_35, sX11_ring_38, sX11_ring_39, sX11_ring_40, sX11_ring_43, sX11_ring_44, sX11_ring_47, sX11_ring_48, sX11_ring_49, sX11_ring_50, sX11_ring_51, sX11_ring_52, sX11_ring_53, sX11_ring_54, sX11_ring_57, sX11_ring_58, sX11_ring_61, sX11_ring_65, sX11_ring_68, sX11_ring_71, sX11_ring_75, sX11_ring_78, sX11_ring_79, sX11_ring_81, sX11_ring_83, sX11_ring_86, sX11_ring_87, sX11_ring_88, sX11_ring_89, sX11_ring_91, sX11_ring_93, sX11_ring_96, sX11_ring_97, sX11_ring_98, sX11_ring_99, sX11_ring_102, sX11_ring_105, sX11_ring_106, sX11_ring_109, sX11_ring_110, sX11_ring_113, sX11_ring_115, sX11_ring_116, sX11_ring_117, sX11_ring_118, sX11_ring_121, sX11_ring_122, sX11_ring_123, sX11_ring_124, sX11_ring_125, sX11_ring_128, sX11_ring_131, sX11_ring_134, sX11_ring_137, sX11_ring_139, ↓if_neg]
      rw [r1']
      simp (disch := omega) only [eX11_ring, sX11_ring_0, sX11_ring_1, sX11_ring_4, sX11_ring_7, sX11_ring_8, sX11_ring_9, sX11_ring_10, sX11_ring_11, sX11_ring_14, sX11_ring_17, sX11_ring_18, sX11_ring_19, sX11_ring_20, sX11_ring_23, sX11_ring_24, sX11_ring_26, sX11_ring_28, sX11_ring_31, sX11_ring_32, sX11_ring_34, sX11_ring_35, sX11_ring_38, sX11_ring_39, sX11_ring_40, sX11_ring_43, sX11_ring_44, sX11_ring_47, sX11_ring_48, sX11_ring_49, sX11_ring_50, sX11_ring_51, sX11_ring_52, sX11_ring_53, sX11_ring_54, sX11_ring_57, sX11_ring_58, sX11_ring_61, sX11_ring_64, sX11_ring_65, sX11_ring_68, sX11_ring_71, sX11_ring_75, sX11_ring_78, sX11_ring_79, sX11_ring_81, sX11_ring_83, sX11_ring_86, sX11_ring_87, sX11_ring_88, sX11_ring_89, sX11_ring_91, sX11_ring_93, sX11_ring_96, sX11_ring_97, sX11_ring_98, sX11_ring_99, sX11_ring_102, sX11_ring_105, sX11_ring_106, sX11_ring_109, sX11_ring_110, sX11_ring_113, sX11_ring_115, sX11_ring_116, sX11_ring_117, sX11_ring_118, sX11_ring_121, sX11_ring_122, sX11_ring_123, sX11_ring_124, sX11_ring_125, sX11_ring_128, sX11_ring_131, sX11_ring_134, sX11_ring_137, sX11_ring_139, ↓hk103, ↓bndv_at p1, i32_s]
    · by_cases q : i = k
      · subst q
        rw [t5 _ (by omega), a120, r2, if_pos (by omega), show 5 * i + g - 5 * i = g by omega, show i - i = 0 by omega]
        rfl
      · rw [t4 i g (by omega) i2 i3, show i - k = (i - (k + 1)) + 1 by omega, psN]
    · rw [t5 j (by omega), a120, r2, if_neg (by omega)]
theorem k_ring {w : Int} (h : inv A F E) : prs mX10_ring mX11_ring [vi w] A F E := by
  have b := iS_b h.2.2.2.1
  have hs := E_hasSheet (A := A) (F := F) (E := E)
  have ms := fun A1 F1 => m_isSheet (A := A1) (F := F1) (E := E)
  have wi := E_within (v := w) (lo := 0) (hi := 1) (h := HP A F E)
  have mi := fun H => m_in (v := w) (lo := 0) (hi := 1) (h := H)
  by_cases z : 0 < A 13 0
  · rw [if_pos z] at hs
    by_cases z1 : 0 ≤ w ∧ w ≤ 1
    · rw [if_pos z1] at wi
      have hw : w = 0 ∨ w = 1 := by omega
      obtain ⟨G, r⟩ := b.2.2.2.2.2.2.mp z
      have hG5 := r.1.2.1
      obtain ⟨Q, q1, q2'⟩ := inv_Q h
      obtain ⟨A2, F2, t1, t2, t3, t4⟩ := c_track h r q1
      have u := c_rgO (A := A2) (F := F2) (E := E) hw 60 0 vn (by omega)
      rw [cfr_13 t2] at u
      have u' : rn mX10_ring 24 [vr 1, vi w, vi 0, vn] [] (HP A2 F2 E) = _ := u
      obtain ⟨A3, k1, k2, k3⟩ := q_start (E := E) r t2 q2'
      obtain ⟨A4, F4, x3', l1, l2, ⟨f', l3⟩, l4, _⟩ := m_rg_l (w := w) (E := E) 61 0 A3 F2 _ vn (by omega) k3
      have l1' : rn mX11_ring 25 [vr 103, vi w, vi 0, vn] [] (HP A3 F2 E) = _ := l1
      have lb := mw_lays (E := E) l3
      have hA : A2 113 = A 113 := cfr_113 t2
      have hG : (aup A4 113 (A2 113)) 113 2 = (G : Int) := by rw [aup_s, hA, b.2.2.2.1]; exact r.1.1
      have v := m_rgO (A := aup A4 113 (A2 113)) (F := F4) (E := E) hG hG5 hw 60 0 x3' (by omega)
      have v' : rn mX11_ring 80 [vr 103, vi w, vi 0, x3'] [] (HP (aup A4 113 (A2 113)) F4 E) = _ := v
      have e10 : (aup A4 113 (A2 113)) 113 10 = A 13 2 := by rw [aup_s, hA]; exact sd_2 r.2.2.2.1
      have al : rgO (fun a b => alN (A2 64) a b 5 0) 60 0 = rgO (fun a b => alN ((aup A4 113 (A2 113)) 120) a b G 0) 60 0 := by
        refine rgO_c 60 0 (by omega) (fun a b' hab hb => ?_)
        rw [aup_n (by omega), Bool.eq_iff_iff, alN_iff, alN_iff]
        have key : ∀ g, g < G → (trV (psN Q G a (A 13)) G g = trV (psN Q G b' (A 13)) G g ↔ mwv (psN Q G a (A 13)) g = mwv (psN Q G b' (A 13)) g) := fun g hg => by
          have e : psN Q G b' (A 13) = psN Q G (b' - a) (psN Q G a (A 13)) := by rw [← psN_add, show a + (b' - a) = b' by omega]
          unfold trV
          rw [if_pos hg, if_pos hg, e]
          exact whe q1.1 (psN_ok q1.1 a _ r.1) hg
        constructor
        · intro y g _ g2
          have := y g (by omega) (by omega)
          rw [t4 a g (by omega) (by omega), t4 b' g (by omega) (by omega)] at this
          rw [l4 a g (by omega) (by omega) (by omega), l4 b' g (by omega) (by omega) (by omega)]
          exact (key g (by omega)).mp this
        · intro y g _ g2
          rw [t4 a g (by omega) (by omega), t4 b' g (by omega) (by omega)]
          by_cases hg : g < G
          · have := y g (by omega) (by omega)
            rw [l4 a g (by omega) (by omega) (by omega), l4 b' g (by omega) (by omega) (by omega)] at this
            exact (key g hg).mpr this
          · unfold trV; rw [if_neg hg, if_neg hg]
      rw [e10, ← al] at v'
      have ms' := ms A2 F2
      rw [hA, if_pos (b.2.2.2.2.1.mpr z)] at ms'
      have mi' := mi (HP A2 F2 E)
      rw [if_pos z1] at mi'
      refine prs_q (A2 := aup A4 113 (A2 113)) (F2 := F4) h (v := rgA w (A 13 2) (rgO (fun a b => alN (A2 64) a b 5 0) 60 0)) ?_ t2 t3 ?_ (mqf_x k2 (mwx_t l2 ⟨fun j _ _ c _ => aup_n c, fun _ _ => rfl, fun _ _ _ _ _ _ => rfl⟩) aup_s)
      · rw [← u']
        simp (disch := omega) only [eX10_ring, sX10_ring_0, sX10_ring_1, sX10_ring_4, sX10_ring_7, sX10_ring_8, sX10_ring_9, sX10_ring_10, sX10_ring_13, sX10_ring_16, sX10_ring_17, sX10_ring_18, sX10_ring_19, sX10_ring_22, sX10_ring_23, sX10_ring_25, sX10_ring_27, sX10_ring_30, sX10_ring_31, sX10_ring_32, sX10_ring_33, sX10_ring_35, sX10_ring_37, sX10_ring_40, sX10_ring_41, sX10_ring_42, sX10_ring_43, sX10_ring_46, sX10_ring_49, sX10_ring_50, sX10_ring_53, sX10_ring_54, sX10_ring_57, sX10_ring_58, sX10_ring_61, sX10_ring_62, sX10_ring_63, sX10_ring_66, sX10_ring_67, sX10_ring_68, sX10_ring_69, sX10_ring_70, sX10_ring_73, sX10_ring_76, sX10_ring_79, sX10_ring_82, sX10_ring_84, ↓hk1, ↓bndi_at hs, ↓bndi_at wi, ↓bndv_at t1, ↓if_pos, ↓if_neg]
      · simp (disch := omega) only [eX11_ring, sX11_ring_0, sX11_ring_1, sX11_ring_4, sX11_ring_7, sX11_ring_8, sX11_ring_9, sX11_ring_10, sX11_ring_11, sX11_ring_14, sX11_ring_17, sX11_ring_18, sX11_ring_19, sX11_ring_20, sX11_ring_23, sX11_ring_24, sX11_ring_26, sX11_ring_28, sX11_ring_31, sX11_ring_32, sX11_ring_34, sX11_ring_35, sX11_ring_38, sX11_ring_39, sX11_ring_40, sX11_ring_43, sX11_ring_44, sX11_ring_47, sX11_ring_48, sX11_ring_49, sX11_ring_50, sX11_ring_51, sX11_ring_52, sX11_ring_53, sX11_ring_54, sX11_ring_57, sX11_ring_58, sX11_ring_61, sX11_ring_64, sX11_ring_65, sX11_ring_68, sX11_ring_71, sX11_ring_75, sX11_ring_78, sX11_ring_79, sX11_ring_81, sX11_ring_83, sX11_ring_86, sX11_ring_87, sX11_ring_88, sX11_ring_89, sX11_ring_91, sX11_ring_93, sX11_ring_96, sX11_ring_97, sX11_ring_98, sX11_ring_99, sX11_ring_102, sX11_ring_105, sX11_ring_106, sX11_ring_109, sX11_ring_110, sX11_ring_113, sX11_ring_115, sX11_ring_116, sX11_ring_117, sX11_ring_118, sX11_ring_121, sX11_ring_122, sX11_ring_123, sX11_ring_124, sX11_ring_125, sX11_ring_128, sX11_ring_131, sX11_ring_134, sX11_ring_137, sX11_ring_139, ↓hk103, ↓bndi_at ms', ↓bndi_at mi', ↓bndv_at k1, ↓if_pos, ↓if_neg]
        rw [l1']
        simp (disch := omega) only [eX11_ring, sX11_ring_0, sX11_ring_1, sX11_ring_4, sX11_ring_7, sX11_ring_8, sX11_ring_9, sX11_ring_10, sX11_ring_11, sX11_ring_14, sX11_ring_17, sX11_ring_18, sX11_ring_19, sX11_ring_20, sX11_ring_23, sX11_ring_24, sX11_ring_26, sX11_ring_28, sX11_ring_31, sX11_ring_32, sX11_ring_34, sX11_ring_35, sX11_ring_38, sX11_ring_39, sX11_ring_40, sX11_ring_43, sX11_ring_44, sX11_ring_47, sX11_ring_48, sX11_ring_49, sX11_ring_50, sX11_ring_51, sX11_ring_52, sX11_ring_53, sX11_ring_54, sX11_ring_57, sX11_ring_58, sX11_ring_61, sX11_ring_64, sX11_ring_65, sX11_ring_68, sX11_ring_71, sX11_ring_74, sX11_ring_75, sX11_ring_78, sX11_ring_79, sX11_ring_81, sX11_ring_83, sX11_ring_86, sX11_ring_87, sX11_ring_88, sX11_ring_89, sX11_ring_91, sX11_ring_93, sX11_ring_96, sX11_ring_97, sX11_ring_98, sX11_ring_99, sX11_ring_102, sX11_ring_105, sX11_ring_106, sX11_ring_109, sX11_ring_110, sX11_ring_113, sX11_ring_115, sX11_ring_116, sX11_ring_117, sX11_ring_118, sX11_ring_121, sX11_ring_122, sX11_ring_123, sX11_ring_124, sX11_ring_125, sX11_ring_128, sX11_ring_131, sX11_ring_134, sX11_ring_137, sX11_ring_139, ↓hk103, ↓bndv_at lb]
        rw [v']
    · have ms' := ms A F
      have mi' := mi (HP A F E)
      rw [if_neg z1] at mi' wi
      rw [if_pos (b.2.2.2.2.1.mpr z)] at ms'
      refine prs_0 (v := -1) h ?_ ?_
      · simp (disch := omega) only [eX10_ring, sX10_ring_0, sX10_ring_1, sX10_ring_4, sX10_ring_7, sX10_ring_8, sX10_ring_9, sX10_ring_10, sX10_ring_13, sX10_ring_16, sX10_ring_17, sX10_ring_18, sX10_ring_19, sX10_ring_22, sX10_ring_23, sX10_ring_25, sX10_ring_27, sX10_ring_30, sX10_ring_31, sX10_ring_32, sX10_ring_33, sX10_ring_35, sX10_ring_37, sX10_ring_40, sX10_ring_41, sX10_ring_42, sX10_ring_43, sX10_ring_46, sX10_ring_49, sX10_ring_50, sX10_ring_53, sX10_ring_54, sX10_ring_57, sX10_ring_58, sX10_ring_61, sX10_ring_62, sX10_ring_63, sX10_ring_66, sX10_ring_67, sX10_ring_68, sX10_ring_69, sX10_ring_70, sX10_ring_73, sX10_ring_76, sX10_ring_79, sX10_ring_82, sX10_ring_84, ↓hk1, ↓bndi_at hs, ↓bndi_at wi, ↓if_pos, ↓if_neg]
      · simp (disch := omega) only [eX11_ring, sX11_ring_0, sX11_ring_1, sX11_ring_4, sX11_ring_7, sX11_ring_8, sX11_ring_9, sX11_ring_10, sX11_ring_11, sX11_ring_14, sX11_ring_17, sX11_ring_18, sX11_ring_19, sX11_ring_20, sX11_ring_23, sX11_ring_24, sX11_ring_26, sX11_ring_28, sX11_ring_31, sX11_ring_32, sX11_ring_34, sX11_ring_35, sX11_ring_38, sX11_ring_39, sX11_ring_40, sX11_ring_43, sX11_ring_44, sX11_ring_47, sX11_ring_48, sX11_ring_49, sX11_ring_50, sX11_ring_51, sX11_ring_52, sX11_ring_53, sX11_ring_54, sX11_ring_57, sX11_ring_58, sX11_ring_61, sX11_ring_64, sX11_ring_65, sX11_ring_68, sX11_ring_71, sX11_ring_74, sX11_ring_75, sX11_ring_78, sX11_ring_79, sX11_ring_81, sX11_ring_83, sX11_ring_86, sX11_ring_87, sX11_ring_88, sX11_ring_89, sX11_ring_91, sX11_ring_93, sX11_ring_96, sX11_ring_97, sX11_ring_98, sX11_ring_99, sX11_ring_102, sX11_ring_105, sX11_ring_106, sX11_ring_109, sX11_ring_110, sX11_ring_113, sX11_ring_115, sX11_ring_116, sX11_ring_117, sX11_ring_118, sX11_ring_121, sX11_ring_122, sX11_ring_123, sX11_ring_124, sX11_ring_125, sX11_ring_128, sX11_ring_131, sX11_ring_134, sX11_ring_137, sX11_ring_139, ↓hk103, ↓bndi_at ms', ↓bndi_at mi', ↓if_pos, ↓if_neg]
  · have ms' := ms A F
    rw [if_neg z] at hs
    rw [if_neg (fun q => z (b.2.2.2.2.1.mp q))] at ms'
    refine prs_0 (v := -1) h ?_ ?_
    · simp (disch := omega) only [eX10_ring, sX10_ring_0, sX10_ring_1, sX10_ring_4, sX10_ring_7, sX10_ring_8, sX10_ring_9, sX10_ring_10, sX10_ring_13, sX10_ring_16, sX10_ring_17, sX10_ring_18, sX10_ring_19, sX10_ring_22, sX10_ring_23, sX10_ring_25, sX10_ring_27, sX10_ring_30, sX10_ring_31, sX10_ring_32, sX10_ring_33, sX10_ring_35, sX10_ring_37, sX10_ring_40, sX10_ring_41, sX10_ring_42, sX10_ring_43, sX10_ring_46, sX10_ring_49, sX10_ring_50, sX10_ring_53, sX10_ring_54, sX10_ring_57, sX10_ring_58, sX10_ring_61, sX10_ring_62, sX10_ring_63, sX10_ring_66, sX10_ring_67, sX10_ring_68, sX10_ring_69, sX10_ring_70, sX10_ring_73, sX10_ring_76, sX10_ring_79, sX10_ring_82, sX10_ring_84, ↓hk1, ↓bndi_at hs, ↓if_pos, ↓if_neg]
    · simp (disch := omega) only [eX11_ring, sX11_ring_0, sX11_ring_1, sX11_ring_4, sX11_ring_7, sX11_ring_8, sX11_ring_9, sX11_ring_10, sX11_ring_11, sX11_ring_14, sX11_ring_17, sX11_ring_18, sX11_ring_19, sX11_ring_20, sX11_ring_23, sX11_ring_24, sX11_ring_26, sX11_ring_28, sX11_ring_31, sX11_ring_32, sX11_ring_34, sX11_ring_35, sX11_ring_38, sX11_ring_39, sX11_ring_40, sX11_ring_43, sX11_ring_44, sX11_ring_47, sX11_ring_48, sX11_ring_49, sX11_ring_50, sX11_ring_51, sX11_ring_52, sX11_ring_53, sX11_ring_54, sX11_ring_57, sX11_ring_58, sX11_ring_61, sX11_ring_64, sX11_ring_65, sX11_ring_68, sX11_ring_71, sX11_ring_74, sX11_ring_75, sX11_ring_78, sX11_ring_79, sX11_ring_81, sX11_ring_83, sX11_ring_86, sX11_ring_87, sX11_ring_88, sX11_ring_89, sX11_ring_91, sX11_ring_93, sX11_ring_96, sX11_ring_97, sX11_ring_98, sX11_ring_99, sX11_ring_102, sX11_ring_105, sX11_ring_106, sX11_ring_109, sX11_ring_110, sX11_ring_113, sX11_ring_115, sX11_ring_116, sX11_ring_117, sX11_ring_118, sX11_ring_121, sX11_ring_122, sX11_ring_123, sX11_ring_124, sX11_ring_125, sX11_ring_128, sX11_ring_131, sX11_ring_134, sX11_ring_137, sX11_ring_139, ↓hk103, ↓bndi_at ms', ↓if_pos, ↓if_neg]
end RG2
