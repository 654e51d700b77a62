/-! gusts -/
def gsw (G : Nat) (x : Int) : Nat := (drx (drx x) / 65536 % (G : Int)).toNat
def gsf (x : Int) : Int := drx (drx (drx x)) / 65536 % 4
def gst (pp : Int) (G : Nat) (y : (Nat → Int) × Int) : (Nat → Int) × Int :=
  if drx y.2 / 65536 % 100 < pp ∧ 0 < G then (if y.1 (50 + 7 * gsw G y.2) = 0 then fup y.1 (48 + 7 * gsw G y.2) (gsf y.2) else y.1, drx (drx (drx y.2))) else (y.1, drx y.2)
def gsN (Q : (Int → Int) → Int) (pp : Int) (G : Nat) : Nat → (Nat → Int) × Int → (Nat → Int) × Int
  | 0, y => y
  | n + 1, y => gsN Q pp G n (psa Q G (gst pp G y).1, (gst pp G y).2)
section GU
variable {A F : Nat → Nat → Int} {E : zE} {G : Nat} {Q : (Int → Int) → Int} {f s0 f0 : Nat → Int} {pp : Int}
theorem gsw_b {x : Int} (h : 0 < G) : gsw G x < G := by
  unfold gsw
  have b1 := Int.emod_lt_of_pos (drx (drx x) / 65536) (show (0 : Int) < (G : Int) by omega)
  have b2 := Int.emod_nonneg (drx (drx x) / 65536) (show (G : Int) ≠ 0 by omega)
  omega
theorem gsw_i {x : Int} (h : 0 < G) : ((gsw G x : Nat) : Int) = drx (drx x) / 65536 % (G : Int) := by
  unfold gsw
  have b2 := Int.emod_nonneg (drx (drx x) / 65536) (show (G : Int) ≠ 0 by omega)
  omega
theorem gsf_b {x : Int} : 0 ≤ gsf x ∧ gsf x ≤ 3 := by unfold gsf; omega
theorem gst_ok {y : (Nat → Int) × Int} (h : wok y.1 G) : wok (gst pp G y).1 G := by
  unfold gst
  split
  · rename_i q
    show wok (if _ then _ else _) G
    split
    · exact wturn_ok h (gsw_b q.2) gsf_b
    · exact h
  · exact h
theorem gst_cn {y : (Nat → Int) × Int} (hG : G ≤ 5) (h : cn 82 y.1) : cn 82 (gst pp G y).1 := by
  unfold gst
  split
  · rename_i q
    have := gsw_b (x := y.2) q.2
    show cn 82 (if _ then _ else _)
    split
    · exact cn_up h (by omega)
    · exact h
  · exact h
theorem gst_x {y : (Nat → Int) × Int} : 0 ≤ (gst pp G y).2 ∧ (gst pp G y).2 < 2147483648 := by
  unfold gst
  split <;> exact drx_b _
theorem h_draw {x : Int} (h0 : 0 ≤ x) (h1 : x < 2147483648) : cl mX0_draw [vr 63] (HP A (aup F 63 (fup (F 63) 0 x)) E) = some (vi (drx x / 65536), HP A (aup F 63 (fup (F 63) 0 (drx x))) E) := by
  have := D_draw (h := HP A (aup F 63 (fup (F 63) 0 x)) E) (d := 63) (x := x) (by rw [HP_2, aup_s]; show zob 0 [vl (fup (F 63) 0 x 0)] = _; rw [fup_s]) h0 h1
  rw [this]
  have z : zup (HP A (aup F 63 (fup (F 63) 0 x)) E) 63 (zob 0 [vl (drx x)]) = HP A (aup F 63 (fup (F 63) 0 (drx x))) E := by
    have e : hc E 63 (A 63) (fup (F 63) 0 (drx x)) = zob 0 [vl (drx x)] := by show zob 0 [vl (fup (F 63) 0 (drx x) 0)] = _; rw [fup_s]
    rw [zup_HPf e, aup_aup]
  rw [z]
theorem F_63 : aup F 63 (fup (F 63) 0 (F 63 0)) = F := by rw [fup_id, aup_id]
theorem c_gust {b : Nat} (h : cw A F E G Q b) (hn : A 13 1 = (G : Int)) (x0 : 0 ≤ F 63 0) (x1 : F 63 0 < 2147483648) (p0 : 0 ≤ pp) (p1 : pp ≤ 100) : ∃ A' F', cl mX10_gust [vr 1, vi pp] (HP A F E) = some (vn, HP A' F' E) ∧ A' 15 = (gst pp G (A 15, F 63 0)).1 ∧ F' 63 0 = (gst pp G (A 15, F 63 0)).2 ∧ cfr A F A' F' ∧ cw A' F' E G Q b := by
  have hG5 := h.1.2.1
  generalize hx : F 63 0 = x at *
  have d1 := h_draw (A := A) (F := F) (E := E) (x := x) x0 x1
  rw [← hx, F_63, hx] at d1
  have b1 := drx_b x
  have b2 := drx_b (drx x)
  have b3 := drx_b (drx (drx x))
  have d2 := h_draw (A := A) (F := F) (E := E) b1.1 b1.2
  have d3 := h_draw (A := A) (F := F) (E := E) b2.1 b2.2
  have r1 : q2 qrem (drx x / 65536) 100 = drx x / 65536 % 100 := q_rem (by omega) (by omega) (by omega) (by omega)
  have r3 : q2 qrem (drx (drx (drx x)) / 65536) 4 = gsf x := q_rem (by omega) (by omega) (by omega) (by omega)
  have go := fun F1 => E_goers (A := A) (F := F1) (E := E)
  rw [hn] at go
  by_cases z1 : drx x / 65536 % 100 < pp
  · by_cases z2 : 0 < G
    · have r2 : q2 qrem (drx (drx x) / 65536) (G : Int) = ((gsw G x : Nat) : Int) := by rw [gsw_i z2]; exact q_rem (by omega) (by omega) (by omega) (by omega)
      have wb := gsw_b (x := x) z2
      have g0 : ¬ (G : Int) = 0 := by omega
      have on := c_isOn (A := A) (F := aup F 63 (fup (F 63) 0 (drx (drx (drx x))))) (E := E) (p := gsw G x) (by omega)
      have e : gst pp G (A 15, x) = (if A 15 (50 + 7 * gsw G x) = 0 then fup (A 15) (48 + 7 * gsw G x) (gsf x) else A 15, drx (drx (drx x))) := if_pos ⟨z1, z2⟩
      rw [e]
      by_cases z3 : A 15 (50 + 7 * gsw G x) = 0
      · rw [if_pos z3] at on
        rw [if_pos z3]
        have pt : cl mX9_put [vr 14, vi ((gsw G x : Nat) : Int), vi 1, vi (gsf x)] (HP A (aup F 63 (fup (F 63) 0 (drx (drx (drx x))))) E) = some (vn, HP (aup A 15 (fup (A 15) (48 + 7 * gsw G x) (gsf x))) (aup F 63 (fup (F 63) 0 (drx (drx (drx x))))) E) := by
          have := h_put (A := A) (F := aup F 63 (fup (F 63) 0 (drx (drx (drx x))))) (E := E) (g := ((gsw G x : Nat) : Int)) (p := 1) (v := gsf x) wad_14 (by omega) (by omega) (by omega) (by omega)
          rw [show (47 + 7 * ((gsw G x : Nat) : Int) + 1).toNat = 48 + 7 * gsw G x by omega] at this
          exact this
        refine ⟨aup A 15 (fup (A 15) (48 + 7 * gsw G x) (gsf x)), aup F 63 (fup (F 63) 0 (drx (drx (drx x)))), ?_, aup_s, by rw [aup_s, fup_s], ⟨fun j j1 _ _ _ _ => aup_n j1, fun j _ j2 => aup_n j2⟩, by rw [aup_s]; exact wturn_ok h.1 wb gsf_b, by rw [aup_s]; exact cn_up h.2.1 (by omega), cR_f h.2.2 (fun j j1 _ => aup_n (by omega))⟩
        simp (disch := omega) only [eX10_gust, sX10_gust_0, sX10_gust_1, sX10_gust_4, sX10_gust_7, sX10_gust_9, sX10_gust_10, sX10_gust_11, sX10_gust_14, sX10_gust_15, sX10_gust_18, sX10_gust_21, sX10_gust_22, sX10_gust_23, sX10_gust_26, sX10_gust_29, sX10_gust_30, sX10_gust_33, sX10_gust_34, sX10_gust_35, sX10_gust_36, sX10_gust_39, sX10_gust_42, sX10_gust_43, sX10_gust_44, sX10_gust_45, sX10_gust_46, sX10_gust_49, sX10_gust_50, sX10_gust_53, sX10_gust_56, sX10_gust_57, sX10_gust_60, sX10_gust_61, sX10_gust_62, sX10_gust_63, sX10_gust_66, ↓hk1, ↓hf1_13, ↓hf1_9, ↓hk63, ↓hk14, ↓bndi_at d1, ↓bndi_at d2, ↓bndi_at d3, r1, r2, r3, ↓bndi_at (go _), g0, ↓bndi_at on, ↓bndv_at pt, Int.reduceEq, ↓if_pos, ↓if_neg, ↓reduceIte]
      · rw [if_neg z3] at on
        rw [if_neg z3]
        refine ⟨A, aup F 63 (fup (F 63) 0 (drx (drx (drx x)))), ?_, rfl, by rw [aup_s, fup_s], ⟨fun j _ _ _ _ _ => rfl, fun j _ j2 => aup_n j2⟩, h⟩
        simp (disch := omega) only [eX10_gust, sX10_gust_0, sX10_gust_1, sX10_gust_4, sX10_gust_7, sX10_gust_9, sX10_gust_10, sX10_gust_11, sX10_gust_14, sX10_gust_15, sX10_gust_18, sX10_gust_21, sX10_gust_22, sX10_gust_23, sX10_gust_26, sX10_gust_29, sX10_gust_30, sX10_gust_33, sX10_gust_34, sX10_gust_35, sX10_gust_36, sX10_gust_39, sX10_gust_42, sX10_gust_43, sX10_gust_44, sX10_gust_45, sX10_gust_46, sX10_gust_49, sX10_gust_50, sX10_gust_53, sX10_gust_56, sX10_gust_57, sX10_gust_60, sX10_gust_61, sX10_gust_62, sX10_gust_63, sX10_gust_66, ↓hk1, ↓hf1_13, ↓hf1_9, ↓hk63, ↓hk14, ↓bndi_at d1, ↓bndi_at d2, ↓bndi_at d3, r1, r2, r3, ↓bndi_at (go _), g0, ↓bndi_at on, Int.reduceEq, ↓if_pos, ↓if_neg, ↓reduceIte]
    · have e : gst pp G (A 15, x) = (A 15, drx x) := if_neg (fun q => z2 q.2)
      rw [e]
      refine ⟨A, aup F 63 (fup (F 63) 0 (drx x)), ?_, rfl, by rw [aup_s, fup_s], ⟨fun j _ _ _ _ _ => rfl, fun j _ j2 => aup_n j2⟩, h⟩
      simp (disch := omega) only [eX10_gust, sX10_gust_0, sX10_gust_1, sX10_gust_4, sX10_gust_7, sX10_gust_9, sX10_gust_10, sX10_gust_11, sX10_gust_14, sX10_gust_15, sX10_gust_18, sX10_gust_21, sX10_gust_22, sX10_gust_23, sX10_gust_26, sX10_gust_29, sX10_gust_30, sX10_gust_33, sX10_gust_34, sX10_gust_35, sX10_gust_36, sX10_gust_39, sX10_gust_42, sX10_gust_43, sX10_gust_44, sX10_gust_45, sX10_gust_46, sX10_gust_49, sX10_gust_50, sX10_gust_53, sX10_gust_56, sX10_gust_57, sX10_gust_60, sX10_gust_61, sX10_gust_62, sX10_gust_63, sX10_gust_66, ↓hk1, ↓hf1_13, ↓hk63, ↓bndi_at d1, r1, ↓bndi_at (go _), Int.reduceEq, ↓if_pos, ↓if_neg, ↓reduceIte]
  · have e : gst pp G (A 15, x) = (A 15, drx x) := if_neg (fun q => z1 q.1)
    rw [e]
    refine ⟨A, aup F 63 (fup (F 63) 0 (drx x)), ?_, rfl, by rw [aup_s, fup_s], ⟨fun j _ _ _ _ _ => rfl, fun j _ j2 => aup_n j2⟩, h⟩
    simp (disch := omega) only [eX10_gust, sX10_gust_0, sX10_gust_1, sX10_gust_4, sX10_gust_7, sX10_gust_9, sX10_gust_10, sX10_gust_11, sX10_gust_14, sX10_gust_15, sX10_gust_18, sX10_gust_21, sX10_gust_22, sX10_gust_23, sX10_gust_26, sX10_gust_29, sX10_gust_30, sX10_gust_33, sX10_gust_34, sX10_gust_35, sX10_gust_36, sX10_gust_39, sX10_gust_42, sX10_gust_43, sX10_gust_44, sX10_gust_45, sX10_gust_46, sX10_gust_49, sX10_gust_50, sX10_gust_53, sX10_gust_56, sX10_gust_57, sX10_gust_60, sX10_gust_61, sX10_gust_62, sX10_gust_63, sX10_gust_66, ↓hk1, ↓hf1_13, ↓hk63, ↓bndi_at d1, r1, Int.reduceEq, ↓if_pos, ↓if_neg, ↓reduceIte]
theorem m_draw {x o : Int} (h0 : 0 ≤ x) (h1 : x < 2147483648) (o0 : 0 < o) (o1 : o ≤ 1000) : cl mX11_draw [vr 103, vi o] (HP A (aup F 103 (fup (F 103) 36 x)) E) = some (vi (drx x / 65536 % o), HP A (aup F 103 (fup (F 103) 36 (drx x))) E) := by
  have b1 := drx_b x
  have m1 := Int.emod_lt_of_pos (drx x / 65536) o0
  have m2 := Int.emod_nonneg (drx x / 65536) (show o ≠ 0 by omega)
  have e1 : i64 (x * 1103515245) = x * 1103515245 := i64_of (by omega) (by omega)
  have e2 : i64 (x * 1103515245 + 12345) = x * 1103515245 + 12345 := i64_of (by omega) (by omega)
  have e3 : q4 qreml (x * 1103515245 + 12345) 2147483648 = drx x := q4_rem (by omega) (by omega) (by omega) (by omega)
  have e4 : q4 (· / ·) (drx x) 65536 = drx x / 65536 := q4_div (by omega) (by omega) (by omega) (by omega)
  have e5 : q4 qreml (drx x / 65536) o = drx x / 65536 % o := q4_rem (by omega) (by omega) (by omega) (by omega)
  have o2 : ¬ o = 0 := by omega
  simp (disch := omega) only [eX11_draw, sX11_draw_0, sX11_draw_1, sX11_draw_2, sX11_draw_5, sX11_draw_8, sX11_draw_9, sX11_draw_12, sX11_draw_13, sX11_draw_16, sX11_draw_17, sX11_draw_20, sX11_draw_21, sX11_draw_24, sX11_draw_27, sX11_draw_28, sX11_draw_29, sX11_draw_30, sX11_draw_31, sX11_draw_32, ↓hf103_36, ↓hp103_36, aup_s, fup_s, aup_aup, fup_fup, e1, e2, e3, e4, e5, Int.reduceEq, o2, if_false, ↓if_neg, i32_of]
theorem F_36 {F : Nat → Nat → Int} {x : Int} (h : F 103 36 = x) : aup F 103 (fup (F 103) 36 x) = F := by rw [← h, fup_id, aup_id]
/-- one gust and what the model may change by it -/
theorem m_gust {x : Int} (h : mw A F G Q f s0) (hx : F 103 36 = x) (x0 : 0 ≤ x) (x1 : x < 2147483648) : ∃ A' F', (∀ (m n w y5 y6 y7 y8 : Int), rn mX11_gusts 93 [vr 103, vi m, vi n, vi pp, vi w, vi y5, vi y6, vi y7, vi y8] [] (HP A F E) = rn mX11_gusts 116 [vr 103, vi m, vi n, vi pp, vi w, vi y5, vi y6, vi y7, vi y8] [] (HP A' F' E)) ∧ mwg A F A' F' ∧ mw A' F' G Q (gst pp G (f, x)).1 s0 ∧ F' 103 36 = (gst pp G (f, x)).2 := by
  have hG5 := h.1.2.1
  have hG : A 113 2 = (G : Int) := by rw [sd_1 h.2.1]; exact h.1.1
  have d1 := m_draw (A := A) (F := F) (E := E) (x := x) (o := 100) x0 x1 (by omega) (by omega)
  rw [F_36 hx] at d1
  have b1 := drx_b x
  have b2 := drx_b (drx x)
  have b3 := drx_b (drx (drx x))
  have fr : ∀ v : Int, mwg A F A (aup F 103 (fup (F 103) 36 v)) := fun v => ⟨fun _ _ _ _ => rfl, fun j hj => aup_n hj, fun k _ _ _ _ k5 => by rw [aup_s, fup_n k5]⟩
  by_cases z1 : drx x / 65536 % 100 < pp
  · by_cases z2 : 0 < G
    · have d2 := m_draw (A := A) (F := F) (E := E) (x := drx x) (o := (G : Int)) b1.1 b1.2 (by omega) (by omega)
      have d3 := m_draw (A := A) (F := F) (E := E) (x := drx (drx x)) (o := 4) b2.1 b2.2 (by omega) (by omega)
      rw [← gsw_i z2] at d2
      have wb := gsw_b (x := x) z2
      have e : gst pp G (f, x) = (if f (50 + 7 * gsw G x) = 0 then fup f (48 + 7 * gsw G x) (gsf x) else f, drx (drx (drx x))) := if_pos ⟨z1, z2⟩
      rw [e]
      have h3 := mw_fld (F' := aup F 103 (fup (F 103) 36 (drx (drx (drx x))))) h (by rw [aup_s, fup_n (by omega)])
      have on := mw_isOn (p := gsw G x) (E := E) h3 (by omega)
      have sg := sd_g h.2.1 (g := gsw G x) (by omega)
      by_cases z3 : f (50 + 7 * gsw G x) = 0
      · rw [if_pos z3] at on ⊢
        have x2 : (11 + 7 * ((gsw G x : Nat) : Int) + 1).toNat = 12 + 7 * gsw G x := by omega
        have bl : cl mX11_blows [vr 103] (HP A (aup F 103 (fup (F 103) 36 (drx x))) E) = some (vn, HP (aup A 113 (fup (A 113) (12 + 7 * gsw G x) (gsf x))) (aup F 103 (fup (F 103) 36 (drx (drx (drx x))))) E) := by
          simp (disch := omega) only [eX11_blows, sX11_blows_0, sX11_blows_1, sX11_blows_2, sX11_blows_5, sX11_blows_6, sX11_blows_7, sX11_blows_10, sX11_blows_11, sX11_blows_12, sX11_blows_13, sX11_blows_16, sX11_blows_17, sX11_blows_18, sX11_blows_19, sX11_blows_22, sX11_blows_25, sX11_blows_26, sX11_blows_29, sX11_blows_31, sX11_blows_33, sX11_blows_34, sX11_blows_35, sX11_blows_36, sX11_blows_37, sX11_blows_38, sX11_blows_39, sX11_blows_40, ↓hk103, ↓hf103_20, ↓hg113, ↓hs113, Int.reduceToNat, hG, ↓bndi_at d2, ↓bndi_at d3, ↓bndi_at on, ↓if_pos, ↓if_neg, i32_of, x2]
          rfl
        refine ⟨aup A 113 (fup (A 113) (12 + 7 * gsw G x) (gsf x)), aup F 103 (fup (F 103) 36 (drx (drx (drx x)))), fun m n w y5 y6 y7 y8 => ?_, mwg_t (fr _) ⟨fun j _ _ c => aup_n c, fun _ _ => rfl, fun _ _ _ _ _ _ => rfl⟩, mw_set h3 (wturn_ok h.1 wb gsf_b) ?_ (fun j hj => fup_n (by omega)), by rw [aup_s, fup_s]⟩
        · simp (disch := omega) only [eX11_gusts, sX11_gusts_0, sX11_gusts_1, sX11_gusts_4, sX11_gusts_7, sX11_gusts_8, sX11_gusts_9, sX11_gusts_10, sX11_gusts_13, sX11_gusts_16, sX11_gusts_19, sX11_gusts_20, sX11_gusts_21, sX11_gusts_22, sX11_gusts_25, sX11_gusts_28, sX11_gusts_31, sX11_gusts_32, sX11_gusts_33, sX11_gusts_34, sX11_gusts_37, sX11_gusts_40, sX11_gusts_43, sX11_gusts_45, sX11_gusts_46, sX11_gusts_47, sX11_gusts_48, sX11_gusts_51, sX11_gusts_54, sX11_gusts_55, sX11_gusts_56, sX11_gusts_57, sX11_gusts_58, sX11_gusts_61, sX11_gusts_62, sX11_gusts_65, sX11_gusts_66, sX11_gusts_68, sX11_gusts_69, sX11_gusts_71, sX11_gusts_72, sX11_gusts_75, sX11_gusts_76, sX11_gusts_80, sX11_gusts_81, sX11_gusts_84, sX11_gusts_85, sX11_gusts_89, sX11_gusts_90, sX11_gusts_93, sX11_gusts_94, sX11_gusts_96, sX11_gusts_99, sX11_gusts_100, sX11_gusts_103, sX11_gusts_104, sX11_gusts_107, sX11_gusts_108, sX11_gusts_109, sX11_gusts_112, sX11_gusts_113, sX11_gusts_117, sX11_gusts_120, sX11_gusts_123, sX11_gusts_126, sX11_gusts_128, sX11_gusts_129, sX11_gusts_130, sX11_gusts_133, sX11_gusts_136, sX11_gusts_137, sX11_gusts_139, sX11_gusts_141, sX11_gusts_142, sX11_gusts_145, sX11_gusts_146, sX11_gusts_148, sX11_gusts_149, sX11_gusts_152, sX11_gusts_155, sX11_gusts_158, sX11_gusts_160, sX11_gusts_163, sX11_gusts_165, sX11_gusts_168, sX11_gusts_170, ↓hk103, ↓hf103_20, ↓hg113, Int.reduceToNat, hG, ↓bndi_at d1, ↓bndv_at bl, ↓if_pos, ↓if_neg]
        · refine sdr_at (g := gsw G x) h.2.1 (by omega) (fun j hj => fup_n (by omega)) (fun j hj => fup_n (by omega)) ?_
          simp (disch := omega) only [fup_s, fup_n]
          exact ⟨by trivial, sg.2⟩
      · rw [if_neg z3] at on ⊢
        have bl : cl mX11_blows [vr 103] (HP A (aup F 103 (fup (F 103) 36 (drx x))) E) = some (vn, HP A (aup F 103 (fup (F 103) 36 (drx (drx (drx x))))) E) := by
          simp (disch := omega) only [eX11_blows, sX11_blows_0, sX11_blows_1, sX11_blows_2, sX11_blows_5, sX11_blows_6, sX11_blows_7, sX11_blows_10, sX11_blows_11, sX11_blows_12, sX11_blows_13, sX11_blows_16, sX11_blows_17, sX11_blows_18, sX11_blows_19, sX11_blows_22, sX11_blows_25, sX11_blows_26, sX11_blows_29, sX11_blows_31, sX11_blows_33, sX11_blows_34, sX11_blows_35, sX11_blows_36, sX11_blows_37, sX11_blows_38, sX11_blows_39, sX11_blows_40, ↓hk103, ↓hf103_20, ↓hg113, Int.reduceToNat, hG, ↓bndi_at d2, ↓bndi_at d3, ↓bndi_at on, ↓if_pos, ↓if_neg]
        refine ⟨A, aup F 103 (fup (F 103) 36 (drx (drx (drx x)))), fun m n w y5 y6 y7 y8 => ?_, fr _, h3, by rw [aup_s, fup_s]⟩
        simp (disch := omega) only [eX11_gusts, sX11_gusts_0, sX11_gusts_1, sX11_gusts_4, sX11_gusts_7, sX11_gusts_8, sX11_gusts_9, sX11_gusts_10, sX11_gusts_13, sX11_gusts_16, sX11_gusts_19, sX11_gusts_20, sX11_gusts_21, sX11_gusts_22, sX11_gusts_25, sX11_gusts_28, sX11_gusts_31, sX11_gusts_32, sX11_gusts_33, sX11_gusts_34, sX11_gusts_37, sX11_gusts_40, sX11_gusts_43, sX11_gusts_45, sX11_gusts_46, sX11_gusts_47, sX11_gusts_48, sX11_gusts_51, sX11_gusts_54, sX11_gusts_55, sX11_gusts_56, sX11_gusts_57, sX11_gusts_58, sX11_gusts_61, sX11_gusts_62, sX11_gusts_65, sX11_gusts_66, sX11_gusts_68, sX11_gusts_69, sX11_gusts_71, sX11_gusts_72, sX11_gusts_75, sX11_gusts_76, sX11_gusts_80, sX11_gusts_81, sX11_gusts_84, sX11_gusts_85, sX11_gusts_89, sX11_gusts_90, sX11_gusts_93, sX11_gusts_94, sX11_gusts_96, sX11_gusts_99, sX11_gusts_100, sX11_gusts_103, sX11_gusts_104, sX11_gusts_107, sX11_gusts_108, sX11_gusts_109, sX11_gusts_112, sX11_gusts_113, sX11_gusts_117, sX11_gusts_120, sX11_gusts_123, sX11_gusts_126, sX11_gusts_128, sX11_gusts_129, sX11_gusts_130, sX11_gusts_133, sX11_gusts_136, sX11_gusts_137, sX11_gusts_139, sX11_gusts_141, sX11_gusts_142, sX11_gusts_145, sX11_gusts_146, sX11_gusts_148, sX11_gusts_149, sX11_gusts_152, sX11_gusts_155, sX11_gusts_158, sX11_gusts_160, sX11_gusts_163, sX11_gusts_165, sX11_gusts_168, sX11_gusts_170, ↓hk103, ↓hf103_20, ↓hg113, Int.reduceToNat, hG, ↓bndi_at d1, ↓bndv_at bl, ↓if_pos, ↓if_neg]
    · have e : gst pp G (f, x) = (f, drx x) := if_neg (fun q => z2 q.2)
      rw [e]
      refine ⟨A, aup F 103 (fup (F 103) 36 (drx x)), fun m n w y5 y6 y7 y8 => ?_, fr (drx x), mw_fld h (by rw [aup_s, fup_n (by omega)]), by rw [aup_s, fup_s]⟩
      simp (disch := omega) only [eX11_gusts, sX11_gusts_0, sX11_gusts_1, sX11_gusts_4, sX11_gusts_7, sX11_gusts_8, sX11_gusts_9, sX11_gusts_10, sX11_gusts_13, sX11_gusts_16, sX11_gusts_19, sX11_gusts_20, sX11_gusts_21, sX11_gusts_22, sX11_gusts_25, sX11_gusts_28, sX11_gusts_31, sX11_gusts_32, sX11_gusts_33, sX11_gusts_34, sX11_gusts_37, sX11_gusts_40, sX11_gusts_43, sX11_gusts_45, sX11_gusts_46, sX11_gusts_47, sX11_gusts_48, sX11_gusts_51, sX11_gusts_54, sX11_gusts_55, sX11_gusts_56, sX11_gusts_57, sX11_gusts_58, sX11_gusts_61, sX11_gusts_62, sX11_gusts_65, sX11_gusts_66, sX11_gusts_68, sX11_gusts_69, sX11_gusts_71, sX11_gusts_72, sX11_gusts_75, sX11_gusts_76, sX11_gusts_80, sX11_gusts_81, sX11_gusts_84, sX11_gusts_85, sX11_gusts_89, sX11_gusts_90, sX11_gusts_93, sX11_gusts_94, sX11_gusts_96, sX11_gusts_99, sX11_gusts_100, sX11_gusts_103, sX11_gusts_104, sX11_gusts_107, sX11_gusts_108, sX11_gusts_109, sX11_gusts_112, sX11_gusts_113, sX11_gusts_117, sX11_gusts_120, sX11_gusts_123, sX11_gusts_126, sX11_gusts_128, sX11_gusts_129, sX11_gusts_130, sX11_gusts_133, sX11_gusts_136, sX11_gusts_137, sX11_gusts_139, sX11_gusts_141, sX11_gusts_142, sX11_gusts_145, sX11_gusts_146, sX11_gusts_148, sX11_gusts_149, sX11_gusts_152, sX11_gusts_155, sX11_gusts_158, sX11_gusts_160, sX11_gusts_163, sX11_gusts_165, sX11_gusts_168, sX11_gusts_170, ↓hk103, ↓hf103_20, ↓hg113, Int.reduceToNat, hG, ↓bndi_at d1, ↓if_pos, ↓if_neg]
  · have e : gst pp G (f, x) = (f, drx x) := if_neg (fun q => z1 q.1)
    rw [e]
    refine ⟨A, aup F 103 (fup (F 103) 36 (drx x)), fun m n w y5 y6 y7 y8 => ?_, fr (drx x), mw_fld h (by rw [aup_s, fup_n (by omega)]), by rw [aup_s, fup_s]⟩
    simp (disch := omega) only [eX11_gusts, sX11_gusts_0, sX11_gusts_1, sX11_gusts_4, sX11_gusts_7, sX11_gusts_8, sX11_gusts_9, sX11_gusts_10, sX11_gusts_13, sX11_gusts_16, sX11_gusts_19, sX11_gusts_20, sX11_gusts_21, sX11_gusts_22, sX11_gusts_25, sX11_gusts_28, sX11_gusts_31, sX11_gusts_32, sX11_gusts_33, sX11_gusts_34, sX11_gusts_37, sX11_gusts_40, sX11_gusts_43, sX11_gusts_45, sX11_gusts_46, sX11_gusts_47, sX11_gusts_48, sX11_gusts_51, sX11_gusts_54, sX11_gusts_55, sX11_gusts_56, sX11_gusts_57, sX11_gusts_58, sX11_gusts_61, sX11_gusts_62, sX11_gusts_65, sX11_gusts_66, sX11_gusts_68, sX11_gusts_69, sX11_gusts_71, sX11_gusts_72, sX11_gusts_75, sX11_gusts_76, sX11_gusts_80, sX11_gusts_81, sX11_gusts_84, sX11_gusts_85, sX11_gusts_89, sX11_gusts_90, sX11_gusts_93, sX11_gusts_94, sX11_gusts_96, sX11_gusts_99, sX11_gusts_100, sX11_gusts_103, sX11_gusts_104, sX11_gusts_107, sX11_gusts_108, sX11_gusts_109, sX11_gusts_112, sX11_gusts_113, sX11_gusts_117, sX11_gusts_120, sX11_gusts_123, sX11_gusts_126, sX11_gusts_128, sX11_gusts_129, sX11_gusts_130, sX11_gusts_133, sX11_gusts_136, sX11_gusts_137, sX11_gusts_139, sX11_gusts_141, sX11_gusts_142, sX11_gusts_145, sX11_gusts_146, sX11_gusts_148, sX11_gusts_149, sX11_gusts_152, sX11_gusts_155, sX11_gusts_158, sX11_gusts_160, sX11_gusts_163, sX11_gusts_165, sX11_gusts_168, sX11_gusts_170, ↓hk103, ↓bndi_at d1, ↓if_pos, ↓if_neg]
theorem c_gs_in {A0 F0 : Nat → Nat → Int} {m w x5 : Int} {al k : Int} {N : Nat} (h0 : inv A0 F0 E) (hG : A0 13 1 = (G : Int)) (p0 : 0 ≤ pp) (p1 : pp ≤ 100) (hN : N < 100000) : ∀ (q i : Nat) (A F : Nat → Nat → Int), i + q = N → cfr A0 F0 A F → cw A F E G Q (rad (F0 1 5)) → 0 ≤ F 63 0 → F 63 0 < 2147483648 → ∃ A' F', rn mX10_gusts 91 [vr 1, vi m, vi (N : Int), vi pp, vi w, vi x5, vi al, vi k, vi (i : Int)] [] (HP A F E) = rn mX10_gusts 119 [vr 1, vi m, vi (N : Int), vi pp, vi w, vi x5, vi al, vi k, vi (N : Int)] [] (HP A' F' E) ∧ A' 15 = (gsN Q pp G q (A 15, F 63 0)).1 ∧ F' 63 0 = (gsN Q pp G q (A 15, F 63 0)).2 ∧ cfr A0 F0 A' F' ∧ cw A' F' E G Q (rad (F0 1 5)) ∧ 0 ≤ F' 63 0 ∧ F' 63 0 < 2147483648 := by
  intro q
  induction q with
  | zero =>
    intro i A F hi c h y0 y1
    have : i = N := by omega
    subst this
    refine ⟨A, F, ?_, rfl, rfl, c, h, y0, y1⟩
    rw [sX10_gusts_91]
    simp (disch := omega) only [eX10_gusts, sX10_gusts_0, sX10_gusts_1, sX10_gusts_2, sX10_gusts_4, sX10_gusts_7, sX10_gusts_10, sX10_gusts_11, sX10_gusts_12, sX10_gusts_14, sX10_gusts_17, sX10_gusts_20, sX10_gusts_21, sX10_gusts_22, sX10_gusts_24, sX10_gusts_27, sX10_gusts_30, sX10_gusts_31, sX10_gusts_34, sX10_gusts_35, sX10_gusts_37, sX10_gusts_38, sX10_gusts_41, sX10_gusts_44, sX10_gusts_46, sX10_gusts_49, sX10_gusts_51, sX10_gusts_52, sX10_gusts_53, sX10_gusts_56, sX10_gusts_59, sX10_gusts_60, sX10_gusts_61, sX10_gusts_62, sX10_gusts_65, sX10_gusts_66, sX10_gusts_69, sX10_gusts_72, sX10_gusts_73, sX10_gusts_75, sX10_gusts_76, sX10_gusts_80, sX10_gusts_81, sX10_gusts_84, sX10_gusts_85, sX10_gusts_88, sX10_gusts_89, sX10_gusts_93, sX10_gusts_94, sX10_gusts_97, sX10_gusts_98, sX10_gusts_99, sX10_gusts_102, sX10_gusts_103, sX10_gusts_106, sX10_gusts_107, sX10_gusts_110, sX10_gusts_113, sX10_gusts_116, sX10_gusts_121, sX10_gusts_123, sX10_gusts_126, sX10_gusts_127, sX10_gusts_130, sX10_gusts_131, sX10_gusts_134, sX10_gusts_137, sX10_gusts_140, sX10_gusts_141, sX10_gusts_144, sX10_gusts_147, sX10_gusts_148, sX10_gusts_150, sX10_gusts_153, sX10_gusts_156, sX10_gusts_158, ↓if_pos]
  | succ q ih =>
    intro i A F hi c h y0 y1
    obtain ⟨A1, F1, g1, g2, g3, g4, g5⟩ := c_gust (pp := pp) h (by rw [cfr_13 c]; exact hG) y0 y1 p0 p1
    obtain ⟨A2, F2, v1, v2, v3, v4, _, v5, _⟩ := c_pass g5
    have f63 : F2 63 0 = F1 63 0 := by rw [v5 63 (by omega)]
    have gx := gst_x (pp := pp) (G := G) (y := (A 15, F 63 0))
    obtain ⟨A3, F3, u1, u2, u3, u4, u5, u6⟩ := ih (i + 1) A2 F2 (by omega) (cfr_t (cfr_t c g4) v3) v4 (by rw [f63, g3]; exact gx.1) (by rw [f63, g3]; exact gx.2)
    rw [f63, g3, v2, g2] at u2 u3
    refine ⟨A3, F3, ?_, by rw [gsN]; exact u2, by rw [gsN]; exact u3, u4, u5, u6⟩
    rw [← u1, sX10_gusts_91]
    simp (disch := omega) only [eX10_gusts, sX10_gusts_0, sX10_gusts_1, sX10_gusts_2, sX10_gusts_4, sX10_gusts_7, sX10_gusts_10, sX10_gusts_11, sX10_gusts_12, sX10_gusts_14, sX10_gusts_17, sX10_gusts_20, sX10_gusts_21, sX10_gusts_22, sX10_gusts_24, sX10_gusts_27, sX10_gusts_30, sX10_gusts_31, sX10_gusts_34, sX10_gusts_35, sX10_gusts_37, sX10_gusts_38, sX10_gusts_41, sX10_gusts_44, sX10_gusts_46, sX10_gusts_49, sX10_gusts_51, sX10_gusts_52, sX10_gusts_53, sX10_gusts_56, sX10_gusts_59, sX10_gusts_60, sX10_gusts_61, sX10_gusts_62, sX10_gusts_65, sX10_gusts_66, sX10_gusts_69, sX10_gusts_72, sX10_gusts_73, sX10_gusts_75, sX10_gusts_76, sX10_gusts_80, sX10_gusts_81, sX10_gusts_84, sX10_gusts_85, sX10_gusts_88, sX10_gusts_89, sX10_gusts_93, sX10_gusts_94, sX10_gusts_97, sX10_gusts_98, sX10_gusts_99, sX10_gusts_102, sX10_gusts_103, sX10_gusts_106, sX10_gusts_107, sX10_gusts_110, sX10_gusts_113, sX10_gusts_116, sX10_gusts_121, sX10_gusts_123, sX10_gusts_126, sX10_gusts_127, sX10_gusts_130, sX10_gusts_131, sX10_gusts_134, sX10_gusts_137, sX10_gusts_140, sX10_gusts_141, sX10_gusts_144, sX10_gusts_147, sX10_gusts_148, sX10_gusts_150, sX10_gusts_153, sX10_gusts_156, sX10_gusts_158, ↓hk1, ↓hf1_9, ↓hk14, ↓bndv_at g1, ↓bndr_at (c_force h0 (cfr_t c g4)), ↓bndv_at v1, ↓if_neg, i32_s]
end GU
