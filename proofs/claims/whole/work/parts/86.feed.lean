/-! goer, feed -/
theorem ib_v {z : Int} : ib z = z.bmod 256 := by
  unfold ib
  rw [Int8.toInt_toInt32, Int32.toInt_toInt8, Int32.toInt_ofInt]
  exact Int.bmod_bmod_of_dvd ⟨16777216, by decide⟩
theorem i8_v {z : Int} : i8 z = z.bmod 256 := ib_v
theorem sby_v {z : Int} (h : i32 z = z) : i8 (ib z) = sby (q2 (· &&& ·) z 255) := by
  rw [ib_v, i8_v, q_and255 h]
  unfold sby
  show (z.bmod 256).bmod 256 = _
  rw [Int.bmod_bmod, Int.bmod_def]
  split <;> split <;> omega
theorem q2_i {f : Int32 → Int32 → Int32} {x y : Int} : i32 (q2 f x y) = q2 f x y := by
  unfold q2 i32
  rw [Int32.ofInt_toInt]
theorem bt_v {x k : Int} : i8 (ib (q2 qshr x k)) = sby (bt x k) := sby_v q2_i
theorem bt_b {x k : Int} : 0 ≤ bt x k ∧ bt x k ≤ 255 := by
  unfold bt
  rw [q_and255 q2_i]
  omega
section FD
variable {A F : Nat → Nat → Int} {E : zE}
theorem fup5L {f : Nat → Int} {L M : Int} : fup (fup (fup (fup (fup (fup f 1 L) 1 M) 2 (fup f 1 L 2)) 3 (fup f 1 L 3)) 4 (fup f 1 L 4)) 5 (fup f 1 L 5) = fup f 1 M := by
  rw [fup5, fup_fup]
theorem h_app {B : Nat → Int} {L x : Int} (h0 : 0 ≤ L) (h1 : L ≤ 396) : cl mX8_append [vr 2, vi x] (HP (aup A 3 B) (aup F 2 (fup (F 2) 1 L)) E) = some (vn, HP (aup A 3 (ap4 B L.toNat x)) (aup F 2 (fup (F 2) 1 (L + 4))) E) := by
  rw [HP_txs]
  have e : aup F 2 (fup (F 2) 1 L) 2 1 = L := by rw [aup_s, fup_s]
  rw [e, T_append (f := B) (by rw [HP_2, aup_s]; rfl) (by omega) h0 h1]
  have z : zup (HP (aup A 3 B) (aup F 2 (fup (F 2) 1 L)) E) 3 (zar 1 400 (ap4 B L.toNat x)) = HP (aup A 3 (ap4 B L.toNat x)) (aup F 2 (fup (F 2) 1 L)) E := by
    exact (zup_HPa (g := ap4 B L.toNat x) rfl).trans (by rw [aup_aup])
  rw [z, txs_HP, aup_s, aup_aup, fup5L]
theorem h_room (h0 : 0 ≤ F 2 1) (h1 : F 2 1 ≤ 400) : cl mX8_hasRoom [vr 2, vi 20] (HP A F E) = some (vi (if 400 < F 2 1 + 20 then 0 else 1), HP A F E) := by
  rw [HP_txs, T_hasRoom (f := A 3) rfl (by omega) h0 h1 (by omega) (by omega), ← HP_txs]
def mp4 (T : Nat → Int) (L : Nat) (x : Int) : Nat → Int := fup (fup (fup (fup T L (sby (bt x 24))) (L + 1) (sby (bt x 16))) (L + 2) (sby (bt x 8))) (L + 3) (sby (bt x 0))
theorem m_four1 {T : Nat → Int} {L x k : Int} (h0 : 0 ≤ L) (h1 : L < 400) (k0 : 0 ≤ k) (k1 : k ≤ 24) : rn mX11_four 3 [vr 103, vi x, vi k] [] (HP (aup A 104 T) (aup F 103 (fup (F 103) 1 L)) E) = rn mX11_four 3 [vr 103, vi x, vi (k + -8)] [] (HP (aup A 104 (fup T L.toNat (sby (bt x k)))) (aup F 103 (fup (F 103) 1 (L + 1))) E) := by
  rw [sX11_four_3]
  simp (disch := omega) only [eX11_four, sX11_four_0, sX11_four_2, sX11_four_4, sX11_four_7, sX11_four_8, sX11_four_11, sX11_four_12, sX11_four_15, sX11_four_16, sX11_four_17, sX11_four_18, sX11_four_19, sX11_four_20, sX11_four_21, sX11_four_22, sX11_four_25, sX11_four_26, sX11_four_27, sX11_four_30, sX11_four_33, sX11_four_36, ↓hf103_0, ↓hf103_1, ↓hs104, ↓hp103_1, aup_s, fup_s, aup_aup, fup_fup, bt_v, i32_of, ↓if_neg]
theorem m_four {T : Nat → Int} {L x : Int} (h0 : 0 ≤ L) (h1 : L ≤ 396) : cl mX11_four [vr 103, vi x] (HP (aup A 104 T) (aup F 103 (fup (F 103) 1 L)) E) = some (vn, HP (aup A 104 (mp4 T L.toNat x)) (aup F 103 (fup (F 103) 1 (L + 4))) E) := by
  simp only [eX11_four, sX11_four_0, sX11_four_2, sX11_four_4, sX11_four_7, sX11_four_8, sX11_four_11, sX11_four_12, sX11_four_15, sX11_four_16, sX11_four_17, sX11_four_18, sX11_four_19, sX11_four_20, sX11_four_21, sX11_four_22, sX11_four_25, sX11_four_26, sX11_four_27, sX11_four_30, sX11_four_33, sX11_four_36]
  rw [m_four1 h0 (by omega) (by omega) (by omega), m_four1 (by omega) (by omega) (by omega) (by omega), m_four1 (by omega) (by omega) (by omega) (by omega), m_four1 (by omega) (by omega) (by omega) (by omega), sX11_four_3]
  simp (disch := omega) only [eX11_four, sX11_four_0, sX11_four_2, sX11_four_4, sX11_four_7, sX11_four_8, sX11_four_11, sX11_four_12, sX11_four_15, sX11_four_16, sX11_four_17, sX11_four_18, sX11_four_19, sX11_four_20, sX11_four_21, sX11_four_22, sX11_four_25, sX11_four_26, sX11_four_27, sX11_four_30, sX11_four_33, sX11_four_36, ↓if_pos]
  unfold mp4
  rw [show (L + 1).toNat = L.toNat + 1 by omega, show (L + 1 + 1).toNat = L.toNat + 2 by omega, show (L + 1 + 1 + 1).toNat = L.toNat + 3 by omega, show L + 1 + 1 + 1 + 1 = L + 4 by omega]
  rfl
theorem mp4_r {T B : Nat → Int} {L : Nat} {x : Int} (h : ∀ j, j < L → T j = sby (B j)) : ∀ j, j < L + 4 → mp4 T L x j = sby (ap4 B L x j) := by
  intro j hj
  unfold mp4 ap4
  by_cases q3 : j = L + 3
  · subst q3; rw [fup_s, fup_s]
  · rw [fup_n q3, fup_n q3]
    by_cases q2 : j = L + 2
    · subst q2; rw [fup_s, fup_s]
    · rw [fup_n q2, fup_n q2]
      by_cases q1 : j = L + 1
      · subst q1; rw [fup_s, fup_s]
      · rw [fup_n q1, fup_n q1]
        by_cases q0 : j = L
        · subst q0; rw [fup_s, fup_s]
        · rw [fup_n q0, fup_n q0]; exact h j (by omega)
theorem ap4_b {B : Nat → Int} {L : Nat} {x : Int} (h : ∀ j, 0 ≤ B j ∧ B j ≤ 255) : ∀ j, 0 ≤ ap4 B L x j ∧ ap4 B L x j ≤ 255 := by
  intro j
  unfold ap4 fup
  split
  · exact bt_b
  · split
    · exact bt_b
    · split
      · exact bt_b
      · split
        · exact bt_b
        · exact h j
theorem k_feed {x1 x2 x3 x4 x5 : Int} (h : inv A F E) : prs mX10_feed mX11_feed [vi x1, vi x2, vi x3, vi x4, vi x5] A F E := by
  have h' := h
  obtain ⟨hT, hR, hW, hS, hH, hI⟩ := h
  obtain ⟨t1, t2, t3, t4, t5, t6⟩ := hT
  have rm := h_room (A := A) (F := F) (E := E) t1.1 t1.2
  by_cases z : 400 < F 2 1 + 20
  · rw [if_pos z] at rm
    refine prs_0 (v := -1) h' ?_ ?_
    · simp (disch := omega) only [eX10_feed, sX10_feed_0, sX10_feed_1, sX10_feed_4, sX10_feed_6, sX10_feed_9, sX10_feed_12, sX10_feed_13, sX10_feed_14, sX10_feed_15, sX10_feed_18, sX10_feed_19, sX10_feed_22, sX10_feed_23, sX10_feed_26, sX10_feed_27, sX10_feed_30, sX10_feed_31, sX10_feed_34, sX10_feed_35, sX10_feed_38, sX10_feed_39, sX10_feed_42, sX10_feed_44, sX10_feed_47, sX10_feed_48, sX10_feed_51, sX10_feed_53, sX10_feed_56, sX10_feed_57, sX10_feed_60, sX10_feed_63, ↓hk1, ↓hf1_0, ↓hk2, ↓bndi_at rm, ↓if_pos, ↓if_neg]
    · simp (disch := omega) only [eX11_feed, sX11_feed_0, sX11_feed_1, sX11_feed_4, sX11_feed_6, sX11_feed_7, sX11_feed_10, sX11_feed_13, sX11_feed_14, sX11_feed_15, sX11_feed_16, sX11_feed_17, sX11_feed_20, sX11_feed_21, sX11_feed_22, sX11_feed_25, sX11_feed_26, sX11_feed_27, sX11_feed_30, sX11_feed_31, sX11_feed_33, sX11_feed_36, sX11_feed_37, sX11_feed_39, sX11_feed_42, sX11_feed_43, sX11_feed_46, ↓hf103_1, t2, i32_of, ↓if_pos, ↓if_neg]
  · rw [if_neg z] at rm
    obtain ⟨L, hL⟩ : ∃ L : Nat, F 2 1 = (L : Int) := ⟨(F 2 1).toNat, by omega⟩
    have id : HP A F E = HP (aup A 3 (A 3)) (aup F 2 (fup (F 2) 1 (F 2 1))) E := by rw [aup_id, fup_id, aup_id]
    have a1 := h_app (A := A) (F := F) (E := E) (B := A 3) (L := F 2 1) (x := x1) (by omega) (by omega)
    rw [← id] at a1
    have a2 := h_app (A := A) (F := F) (E := E) (B := ap4 (A 3) (F 2 1).toNat x1) (L := F 2 1 + 4) (x := x2) (by omega) (by omega)
    generalize hB2 : ap4 (ap4 (A 3) (F 2 1).toNat x1) (F 2 1 + 4).toNat x2 = B2 at a2
    have a3 := h_app (A := A) (F := F) (E := E) (B := B2) (L := F 2 1 + 4 + 4) (x := x3) (by omega) (by omega)
    generalize hB3 : ap4 B2 (F 2 1 + 4 + 4).toNat x3 = B3 at a3
    have a4 := h_app (A := A) (F := F) (E := E) (B := B3) (L := F 2 1 + 4 + 4 + 4) (x := x4) (by omega) (by omega)
    generalize hB4 : ap4 B3 (F 2 1 + 4 + 4 + 4).toNat x4 = B4 at a4
    have a5 := h_app (A := A) (F := F) (E := E) (B := B4) (L := F 2 1 + 4 + 4 + 4 + 4) (x := x5) (by omega) (by omega)
    generalize hB5 : ap4 B4 (F 2 1 + 4 + 4 + 4 + 4).toNat x5 = B5 at a5
    have ln := h_len (A := aup A 3 B5) (F := aup F 2 (fup (F 2) 1 (F 2 1 + 4 + 4 + 4 + 4 + 4))) (E := E)
    rw [aup_s, fup_s] at ln
    have id2 : HP (aup A 3 B5) (aup F 2 (fup (F 2) 1 (F 2 1 + 4 + 4 + 4 + 4 + 4))) E = HP (aup (aup A 3 B5) 104 (A 104)) (aup (aup F 2 (fup (F 2) 1 (F 2 1 + 4 + 4 + 4 + 4 + 4))) 103 (fup (F 103) 1 (F 2 1))) E := by
      have e1 : aup (aup A 3 B5) 104 (A 104) = aup A 3 B5 := by
        have := aup_id (A := aup A 3 B5) (j := 104)
        rw [aup_n (by omega)] at this
        exact this
      have e2 : aup (aup F 2 (fup (F 2) 1 (F 2 1 + 4 + 4 + 4 + 4 + 4))) 103 (fup (F 103) 1 (F 2 1)) = aup F 2 (fup (F 2) 1 (F 2 1 + 4 + 4 + 4 + 4 + 4)) := by
        have := aup_id (A := aup F 2 (fup (F 2) 1 (F 2 1 + 4 + 4 + 4 + 4 + 4))) (j := 103)
        rw [aup_n (by omega)] at this
        rw [← t2, fup_id]
        rw [← t2] at this
        exact this
      rw [e1, e2]
    generalize hA1 : aup A 3 B5 = A1 at *
    generalize hF1 : aup F 2 (fup (F 2) 1 (F 2 1 + 4 + 4 + 4 + 4 + 4)) = F1 at *
    have f103 : F1 103 = F 103 := by rw [← hF1]; exact aup_n (by omega)
    rw [← f103] at id2
    have b1 := m_four (A := A1) (F := F1) (E := E) (T := A 104) (L := F 2 1) (x := x1) (by omega) (by omega)
    rw [← id2] at b1
    generalize hT1 : mp4 (A 104) (F 2 1).toNat x1 = T1 at b1
    have b2 := m_four (A := A1) (F := F1) (E := E) (T := T1) (L := F 2 1 + 4) (x := x2) (by omega) (by omega)
    generalize hT2 : mp4 T1 (F 2 1 + 4).toNat x2 = T2 at b2
    have b3 := m_four (A := A1) (F := F1) (E := E) (T := T2) (L := F 2 1 + 4 + 4) (x := x3) (by omega) (by omega)
    generalize hT3 : mp4 T2 (F 2 1 + 4 + 4).toNat x3 = T3 at b3
    have b4 := m_four (A := A1) (F := F1) (E := E) (T := T3) (L := F 2 1 + 4 + 4 + 4) (x := x4) (by omega) (by omega)
    generalize hT4 : mp4 T3 (F 2 1 + 4 + 4 + 4).toNat x4 = T4 at b4
    have b5 := m_four (A := A1) (F := F1) (E := E) (T := T4) (L := F 2 1 + 4 + 4 + 4 + 4) (x := x5) (by omega) (by omega)
    generalize hT5 : mp4 T4 (F 2 1 + 4 + 4 + 4 + 4).toNat x5 = T5 at b5
    refine ⟨F 2 1 + 4 + 4 + 4 + 4 + 4, A1, F1, E, aup A1 104 T5, aup F1 103 (fup (F1 103) 1 (F 2 1 + 4 + 4 + 4 + 4 + 4)), E, ?_, ?_, ⟨?_, ?_, ?_, ?_, ?_, ?_⟩, rfl⟩
    · simp (disch := omega) only [eX10_feed, sX10_feed_0, sX10_feed_1, sX10_feed_4, sX10_feed_6, sX10_feed_9, sX10_feed_12, sX10_feed_13, sX10_feed_14, sX10_feed_15, sX10_feed_18, sX10_feed_19, sX10_feed_22, sX10_feed_23, sX10_feed_26, sX10_feed_27, sX10_feed_30, sX10_feed_31, sX10_feed_34, sX10_feed_35, sX10_feed_38, sX10_feed_39, sX10_feed_42, sX10_feed_44, sX10_feed_47, sX10_feed_48, sX10_feed_51, sX10_feed_53, sX10_feed_56, sX10_feed_57, sX10_feed_60, sX10_feed_63, ↓hk1, ↓hf1_0, ↓hk2, ↓bndi_at rm, ↓bndv_at a1, ↓bndv_at a2, ↓bndv_at a3, ↓bndv_at a4, ↓bndv_at a5, hB2, ↓bndi_at ln, ↓if_pos, ↓if_neg]
    · have m1 : F1 103 1 = F 2 1 := by rw [f103]; exact t2
      simp (disch := omega) only [eX11_feed, sX11_feed_0, sX11_feed_1, sX11_feed_4, sX11_feed_6, sX11_feed_7, sX11_feed_10, sX11_feed_13, sX11_feed_14, sX11_feed_15, sX11_feed_16, sX11_feed_17, sX11_feed_20, sX11_feed_21, sX11_feed_22, sX11_feed_25, sX11_feed_26, sX11_feed_27, sX11_feed_30, sX11_feed_31, sX11_feed_33, sX11_feed_36, sX11_feed_37, sX11_feed_39, sX11_feed_42, sX11_feed_43, sX11_feed_46, ↓hk103, ↓hf103_1, m1, i32_of, ↓bndv_at b1, ↓bndv_at b2, ↓bndv_at b3, ↓bndv_at b4, ↓bndv_at b5, aup_s, fup_s, ↓if_pos, ↓if_neg]
    · have c3 : A1 3 = B5 := by rw [← hA1]; exact aup_s
      have cF : F1 2 = fup (F 2) 1 (F 2 1 + 4 + 4 + 4 + 4 + 4) := by rw [← hF1]; exact aup_s
      unfold iT
      simp (disch := omega) only [aup_s, aup_n, fup_s, fup_n, c3, cF]
      have k1 := mp4_r (T := A 104) (B := A 3) (L := L) (x := x1) (fun j hj => t4 j (by omega))
      have k2 := mp4_r (x := x2) k1
      have k3 := mp4_r (x := x3) k2
      have k4 := mp4_r (x := x4) k3
      have k5 := mp4_r (x := x5) k4
      rw [hL] at hB2 hB3 hB4 hB5 hT1 hT2 hT3 hT4 hT5
      rw [show ((L : Int)).toNat = L by omega] at hB2 hT1
      rw [show ((L : Int) + 4).toNat = L + 4 by omega] at hB2 hT2
      rw [show ((L : Int) + 4 + 4).toNat = L + 4 + 4 by omega] at hB3 hT3
      rw [show ((L : Int) + 4 + 4 + 4).toNat = L + 4 + 4 + 4 by omega] at hB4 hT4
      rw [show ((L : Int) + 4 + 4 + 4 + 4).toNat = L + 4 + 4 + 4 + 4 by omega] at hB5 hT5
      rw [hT1, hT2, hB2, hT3, hB3, hT4, hB4, hT5, hB5] at k5
      refine ⟨by omega, by trivial, ?_, fun j hj => k5 j (by omega), t5, t6⟩
      rw [← hB5, ← hB4, ← hB3, ← hB2]
      exact ap4_b (ap4_b (ap4_b (ap4_b (ap4_b t3))))
    · obtain ⟨r1, r2, r3, r4, r5, r6, r7, r8, r9⟩ := hR
      refine ⟨r1, r2, ?_, ?_, ?_, ?_, ?_, ?_, fun i hi => RU_f (r9 i hi) (by rw [aup_n (by omega), ← hA1, aup_n (by omega)]) (by rw [← hA1]; exact (by first | rfl | (simp (disch := omega) only [aup_s, aup_n, fup_s, fup_n]))) (by rw [← hA1]; exact (by first | rfl | (simp (disch := omega) only [aup_s, aup_n, fup_s, fup_n]))) (by rw [← hA1]; exact (by first | rfl | (simp (disch := omega) only [aup_s, aup_n, fup_s, fup_n])))⟩ <;> rw [← hF1] <;> simp (disch := omega) only [aup_s, aup_n, fup_s, fup_n] <;> first | assumption | omega
    · refine iW_f hW (fun j h0 h1 h2 => ?_) ?_
      · rw [aup_n (by omega), ← hA1, aup_n (by omega)]
      · rw [aup_n (by omega), ← hA1, aup_n (by omega)]; exact hW.1 14 wad_14
    · unfold iS
      rw [← hA1, ← hF1]
      simp (disch := omega) only [aup_s, aup_n]
      exact hS
    · exact iH_f hH (fun j hj => by rw [aup_n (by omega), ← hA1, aup_n (by omega)]) (by rw [aup_n (by omega), ← hF1, aup_n (by omega)]) (by rw [aup_s, fup_n (by omega), f103])
    · exact iI_f hI (fun j hj => by rw [aup_n (by omega), ← hA1, aup_n (by omega)]) (fun j _ _ => by rw [aup_n (by omega), ← hF1, aup_n (by omega)])
end FD
