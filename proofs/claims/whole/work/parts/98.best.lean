/-! the best fold, the best stone: costs -/
def cst (f : Nat → Int) (G : Nat) : Int := cntN 2 f G * 1000 + 999 - foodN f G
theorem cst_b {f : Nat → Int} {G : Nat} (h : wok f G) : cst f G / 1000 = cntN 2 f G ∧ 999 - cst f G % 1000 = foodN f G ∧ 0 ≤ cst f G ∧ cst f G ≤ 6000 := by
  have c := cnt_b (s := 2) (f := f) h.2.1
  have d := food_b h G (by omega)
  have h5 := h.2.1
  unfold cst
  omega
/-- the best of what comes, by costs -/
def bstN (c : Nat → Int) : Nat → Nat → Int × Int → Int × Int
  | 0, _, x => x
  | n + 1, k, x => bstN c n (k + 1) (if c k < x.1 then (c k, (k : Int)) else x)
/-- what the model may change while it walks on and weighs -/
def mwg (A F A' F' : Nat → Nat → Int) : Prop := (∀ j, j ≠ 111 → j ≠ 112 → j ≠ 113 → A' j = A j) ∧ (∀ j, j ≠ 103 → F' j = F j) ∧ ∀ k, k ≠ 18 → k ≠ 29 → k ≠ 30 → k ≠ 31 → k ≠ 36 → F' 103 k = F 103 k
theorem mwg_r {A F : Nat → Nat → Int} : mwg A F A F := ⟨fun _ _ _ _ => rfl, fun _ _ => rfl, fun _ _ _ _ _ _ => rfl⟩
theorem mwg_t {A F A1 F1 A2 F2 : Nat → Nat → Int} (h : mwg A F A1 F1) (k : mwg A1 F1 A2 F2) : mwg A F A2 F2 := ⟨fun j a b c => (k.1 j a b c).trans (h.1 j a b c), fun j a => (k.2.1 j a).trans (h.2.1 j a), fun j a b c d e => (k.2.2 j a b c d e).trans (h.2.2 j a b c d e)⟩
theorem mwg_of {A F A1 F1 : Nat → Nat → Int} (h : mwf A F A1 F1) : mwg A F A1 F1 := ⟨h.1, h.2.1, fun k a _ _ _ _ => h.2.2 k a⟩
theorem mqf_g {A1 F1 F2 A2 A3 : Nat → Nat → Int} (k : ∀ j, j ≠ 115 → A2 j = A1 j) (m : mwg A2 F1 A3 F2) (s : A3 113 = A1 113) : mqf A1 F1 A3 F2 := by
  refine ⟨fun j a b c => ?_, m.2.1, m.2.2⟩
  by_cases q : j = 113
  · rw [q, s]
  · rw [m.1 j a b q, k j (by omega)]
section BE
variable {A F : Nat → Nat → Int} {E : zE} {G : Nat} {Q : (Int → Int) → Int} {f s0 f0 : Nat → Int}
theorem c_food {b : Nat} (h : cw A F E G Q b) : cl mX9_foodOfAll [vr 14] (HP A F E) = some (vi (foodN (A 15) G), HP A F E) := h_food wad_14 h.1.1 h.1.2.1
theorem mw_food (h : mw A F G Q f s0) : cl mX11_foodAll [vr 103] (HP A F E) = some (vi (foodN f G), HP A F E) := by
  have := m_food (A := A) (F := F) (E := E) (G := G) (by rw [sd_1 h.2.1]; exact h.1.1) h.1.2.1
  rw [sd_food h.2.1 h.1.2.1] at this
  exact this
theorem c_cost {A0 F0 : Nat → Nat → Int} {m : Nat} (h0 : inv A0 F0 E) (c : cfr A0 F0 A F) (hm : m < 100000) (h : cw A F E G Q (rad (F0 1 5))) : ∃ A' F', cl mX10_costBehind [vr 1, vi (m : Int)] (HP A F E) = some (vi (cst (psN Q G m (A 15)) G), HP A' F' E) ∧ cfr A0 F0 A' F' ∧ cw A' F' E G Q (rad (F0 1 5)) := by
  obtain ⟨A2, F2, t1, t2, t3, t4, _⟩ := c_walk (m := m) hm h
  have rf := c_force h0 c
  have cb := c_bits (s := 2) t4
  have jb := J_cnt (s := 2) (f := A2 15) (h := HP A2 F2 E) t4.1.2.1
  have fo := c_food t4
  have b := cst_b t4.1
  have c5 := cnt_b (s := 2) (f := A2 15) t4.1.2.1
  have d := food_b t4.1 G (by omega)
  have h5 := t4.1.2.1
  refine ⟨A2, F2, ?_, cfr_t c t3, t4⟩
  rw [← t2]
  simp (disch := omega) only [eX10_costBehind, sX10_costBehind_0, sX10_costBehind_1, sX10_costBehind_2, sX10_costBehind_3, sX10_costBehind_6, sX10_costBehind_9, sX10_costBehind_10, sX10_costBehind_13, sX10_costBehind_14, sX10_costBehind_17, sX10_costBehind_20, sX10_costBehind_23, sX10_costBehind_24, sX10_costBehind_27, sX10_costBehind_28, sX10_costBehind_29, sX10_costBehind_32, sX10_costBehind_35, sX10_costBehind_36, ↓hk1, ↓hf1_9, ↓hk14, ↓bndr_at rf, ↓bndv_at t1, ↓bndi_at cb, ↓bndi_at jb, ↓bndi_at fo, i32_of]
  rfl
/-- the model's numbers of the best so far -/
def bsF (F : Nat → Nat → Int) (x : Int × Int) : Prop := F 103 29 = x.1 / 1000 ∧ F 103 30 = 999 - x.1 % 1000 ∧ F 103 31 = (if x.2 < 0 then -2 else x.2)
theorem mw_fld {F' : Nat → Nat → Int} (h : mw A F G Q f s0) (k : F' 103 21 = F 103 21) : mw A F' G Q f s0 := ⟨h.1, h.2.1, mQ_c h.2.2.1 rfl rfl rfl k, h.2.2.2.1, h.2.2.2.2⟩
theorem m_weighs {m : Nat} {w : Int} {x : Int × Int} (hm : m < 100000) (h : mw A F G Q f s0) (hb : 0 ≤ w → bsF F x ∧ 0 ≤ x.1 ∧ x.1 ≤ 6000 ∧ 504 ≤ x.1 % 1000) (r : wok f0 G) (sd : sdr s0 f0) : ∃ A' F', cl mX11_weighs [vr 103, vi (m : Int), vi w] (HP A F E) = some (vn, HP A' F' E) ∧ mwg A F A' F' ∧ mw A' F' G Q f0 s0 ∧ A' 113 = s0 ∧ (w = -2 → bsF F' (cst (psN Q G m f) G, -1)) ∧ (0 ≤ w → bsF F' (if cst (psN Q G m f) G < x.1 then (cst (psN Q G m f) G, w) else x)) := by
  obtain ⟨A1, F1, p1, p2, p3⟩ := mw_passN (m := m) (E := E) hm h
  have mb := mw_bits (s := 2) (E := E) p3
  have mc := m_cnt (s := 2) (f := psN Q G m f) (h := HP A1 F1 E) p3.1.2.1
  have mf := mw_food (E := E) p3
  have lb := mw_lays (E := E) p3
  have h2 := mw_back p3 r sd
  have b := cst_b p3.1
  have c5 := cnt_b (s := 2) (f := psN Q G m f) p3.1.2.1
  have d := food_b p3.1 G (by omega)
  have h5 := p3.1.2.1
  generalize hL : cntN 2 (psN Q G m f) G = L at *
  generalize hD : foodN (psN Q G m f) G = D at *
  generalize hC : cst (psN Q G m f) G = C at *
  have fr : mwg A F (aup A1 113 s0) F1 := ⟨fun j a b c => by rw [aup_n c, p2.1 j a b c], p2.2.1, fun k a _ _ _ _ => p2.2.2 k a⟩
  have hset : ∀ F2 : Nat → Nat → Int, F2 = aup F1 103 (fup (fup (fup (F1 103) 29 L) 30 D) 31 w) → mwg A F (aup A1 113 s0) F2 ∧ mw (aup A1 113 s0) F2 G Q f0 s0 := by
    rintro F2 rfl
    refine ⟨mwg_t fr ⟨fun _ _ _ _ => rfl, fun j hj => aup_n hj, fun k k1 k2 k3 k4 k5 => ?_⟩, mw_fld h2 ?_⟩
    · rw [aup_s, fup_n k4, fup_n k3, fup_n k2]
    · rw [aup_s, fup_n (by omega), fup_n (by omega), fup_n (by omega)]
  have e29 : ∀ k, (k = 29 ∨ k = 30 ∨ k = 31) → F1 103 k = F 103 k := fun k hk => p2.2.2 k (by omega)
  by_cases w0 : w < 0
  · refine ⟨aup A1 113 s0, aup F1 103 (fup (fup (fup (F1 103) 29 L) 30 D) 31 w), ?_, (hset _ rfl).1, (hset _ rfl).2, aup_s, fun q => ?_, fun q => by omega⟩
    · simp (disch := omega) only [eX11_weighs, sX11_weighs_0, sX11_weighs_1, sX11_weighs_2, sX11_weighs_5, sX11_weighs_6, sX11_weighs_7, sX11_weighs_10, sX11_weighs_13, sX11_weighs_14, sX11_weighs_15, sX11_weighs_18, sX11_weighs_20, sX11_weighs_21, sX11_weighs_24, sX11_weighs_25, sX11_weighs_28, sX11_weighs_29, sX11_weighs_30, sX11_weighs_33, sX11_weighs_36, sX11_weighs_37, sX11_weighs_38, sX11_weighs_41, sX11_weighs_44, sX11_weighs_46, sX11_weighs_47, sX11_weighs_50, sX11_weighs_53, sX11_weighs_54, sX11_weighs_55, sX11_weighs_56, sX11_weighs_59, sX11_weighs_60, sX11_weighs_62, sX11_weighs_65, sX11_weighs_66, sX11_weighs_67, sX11_weighs_70, ↓hk103, ↓bndv_at p1, ↓bndi_at mb, ↓bndi_at mc, ↓bndi_at mf, ↓bndv_at lb, ↓hp103_29, ↓hp103_30, ↓hp103_31, aup_s, aup_aup, ↓if_pos, ↓if_neg]
    · unfold bsF
      simp (disch := omega) only [aup_s, fup_s, fup_n]
      exact ⟨by omega, by omega, by rw [if_pos (by omega)]; exact q⟩
  · obtain ⟨⟨k1, k2, k3⟩, k4, k5, k6⟩ := hb (by omega)
    have m29 : F1 103 29 = x.1 / 1000 := by rw [e29 29 (by omega)]; exact k1
    have m30 : F1 103 30 = 999 - x.1 % 1000 := by rw [e29 30 (by omega)]; exact k2
    by_cases z : C < x.1
    · refine ⟨aup A1 113 s0, aup F1 103 (fup (fup (fup (F1 103) 29 L) 30 D) 31 w), ?_, (hset _ rfl).1, (hset _ rfl).2, aup_s, fun q => by omega, fun _ => ?_⟩
      · by_cases y : L = x.1 / 1000
        · simp (disch := omega) only [eX11_weighs, sX11_weighs_0, sX11_weighs_1, sX11_weighs_2, sX11_weighs_5, sX11_weighs_6, sX11_weighs_7, sX11_weighs_10, sX11_weighs_13, sX11_weighs_14, sX11_weighs_15, sX11_weighs_18, sX11_weighs_20, sX11_weighs_21, sX11_weighs_24, sX11_weighs_25, sX11_weighs_28, sX11_weighs_29, sX11_weighs_30, sX11_weighs_33, sX11_weighs_36, sX11_weighs_37, sX11_weighs_38, sX11_weighs_41, sX11_weighs_44, sX11_weighs_46, sX11_weighs_47, sX11_weighs_50, sX11_weighs_53, sX11_weighs_54, sX11_weighs_55, sX11_weighs_56, sX11_weighs_59, sX11_weighs_60, sX11_weighs_62, sX11_weighs_65, sX11_weighs_66, sX11_weighs_67, sX11_weighs_70, ↓hk103, ↓bndv_at p1, ↓bndi_at mb, ↓bndi_at mc, ↓bndi_at mf, ↓bndv_at lb, ↓hf103_29, ↓hf103_30, m29, m30, ↓hp103_29, ↓hp103_30, ↓hp103_31, aup_s, aup_aup, ↓if_pos, ↓if_neg]
        · simp (disch := omega) only [eX11_weighs, sX11_weighs_0, sX11_weighs_1, sX11_weighs_2, sX11_weighs_5, sX11_weighs_6, sX11_weighs_7, sX11_weighs_10, sX11_weighs_13, sX11_weighs_14, sX11_weighs_15, sX11_weighs_18, sX11_weighs_20, sX11_weighs_21, sX11_weighs_24, sX11_weighs_25, sX11_weighs_28, sX11_weighs_29, sX11_weighs_30, sX11_weighs_33, sX11_weighs_36, sX11_weighs_37, sX11_weighs_38, sX11_weighs_41, sX11_weighs_44, sX11_weighs_46, sX11_weighs_47, sX11_weighs_50, sX11_weighs_53, sX11_weighs_54, sX11_weighs_55, sX11_weighs_56, sX11_weighs_59, sX11_weighs_60, sX11_weighs_62, sX11_weighs_65, sX11_weighs_66, sX11_weighs_67, sX11_weighs_70, ↓hk103, ↓bndv_at p1, ↓bndi_at mb, ↓bndi_at mc, ↓bndi_at mf, ↓bndv_at lb, ↓hf103_29, ↓hf103_30, m29, m30, ↓hp103_29, ↓hp103_30, ↓hp103_31, aup_s, aup_aup, ↓if_pos, ↓if_neg]
      · rw [if_pos z]
        unfold bsF
        simp (disch := omega) only [aup_s, fup_s, fup_n]
        exact ⟨by omega, by omega, by rw [if_neg w0]⟩
    · refine ⟨aup A1 113 s0, F1, ?_, fr, h2, aup_s, fun q => by omega, fun _ => ?_⟩
      · by_cases y : L = x.1 / 1000
        · simp (disch := omega) only [eX11_weighs, sX11_weighs_0, sX11_weighs_1, sX11_weighs_2, sX11_weighs_5, sX11_weighs_6, sX11_weighs_7, sX11_weighs_10, sX11_weighs_13, sX11_weighs_14, sX11_weighs_15, sX11_weighs_18, sX11_weighs_20, sX11_weighs_21, sX11_weighs_24, sX11_weighs_25, sX11_weighs_28, sX11_weighs_29, sX11_weighs_30, sX11_weighs_33, sX11_weighs_36, sX11_weighs_37, sX11_weighs_38, sX11_weighs_41, sX11_weighs_44, sX11_weighs_46, sX11_weighs_47, sX11_weighs_50, sX11_weighs_53, sX11_weighs_54, sX11_weighs_55, sX11_weighs_56, sX11_weighs_59, sX11_weighs_60, sX11_weighs_62, sX11_weighs_65, sX11_weighs_66, sX11_weighs_67, sX11_weighs_70, ↓hk103, ↓bndv_at p1, ↓bndi_at mb, ↓bndi_at mc, ↓bndi_at mf, ↓bndv_at lb, ↓hf103_29, ↓hf103_30, m29, m30, ↓if_pos, ↓if_neg]
        · simp (disch := omega) only [eX11_weighs, sX11_weighs_0, sX11_weighs_1, sX11_weighs_2, sX11_weighs_5, sX11_weighs_6, sX11_weighs_7, sX11_weighs_10, sX11_weighs_13, sX11_weighs_14, sX11_weighs_15, sX11_weighs_18, sX11_weighs_20, sX11_weighs_21, sX11_weighs_24, sX11_weighs_25, sX11_weighs_28, sX11_weighs_29, sX11_weighs_30, sX11_weighs_33, sX11_weighs_36, sX11_weighs_37, sX11_weighs_38, sX11_weighs_41, sX11_weighs_44, sX11_weighs_46, sX11_weighs_47, sX11_weighs_50, sX11_weighs_53, sX11_weighs_54, sX11_weighs_55, sX11_weighs_56, sX11_weighs_59, sX11_weighs_60, sX11_weighs_62, sX11_weighs_65, sX11_weighs_66, sX11_weighs_67, sX11_weighs_70, ↓hk103, ↓bndv_at p1, ↓bndi_at mb, ↓bndi_at mc, ↓bndi_at mf, ↓bndv_at lb, ↓hf103_29, ↓hf103_30, m29, m30, ↓if_pos, ↓if_neg]
      · rw [if_neg z]
        exact ⟨m29, m30, by rw [e29 31 (by omega)]; exact k3⟩
end BE
