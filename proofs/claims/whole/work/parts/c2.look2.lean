/-! look: class and model alike -/
section LK2
variable {A F : Nat → Nat → Int} {E : zE}
theorem k_look {n w : Int} (h : inv A F E) : prs mX10_look mX11_look [vi n, vi w] A F E := by
  have b := iS_b h.2.2.2.1
  have hs := E_hasSheet (A := A) (F := F) (E := E)
  have ms := fun A1 F1 => m_isSheet (A := A1) (F := F1) (E := E)
  have wi := E_within (v := n) (lo := 0) (hi := 60) (h := HP A F E)
  have mi := fun H => m_in (v := n) (lo := 0) (hi := 60) (h := H)
  have wi2 := E_within (v := w) (lo := 0) (hi := 1) (h := HP A F E)
  have mi2 := fun H => m_in (v := w) (lo := 0) (hi := 1) (h := H)
  by_cases z : 0 < A 13 0
  · rw [if_pos z] at hs
    by_cases z1 : 0 ≤ n ∧ n ≤ 60
    · rw [if_pos z1] at wi
      by_cases z2 : 0 ≤ w ∧ w ≤ 1
      · rw [if_pos z2] at wi2
        have hw : w = 0 ∨ w = 1 := by omega
        obtain ⟨G, r⟩ := b.2.2.2.2.2.2.mp z
        have hG5 := r.1.2.1
        have hn : A 13 1 = (G : Int) := r.1.1
        have zb := r.2.2.2.2.2.2.2.1
        obtain ⟨Z, hZ⟩ : ∃ Z : Nat, F 16 3 = (Z : Int) := ⟨(F 16 3).toNat, by omega⟩
        have hR := h.2.1
        have h6 := hR.1
        obtain ⟨Qf, hQf⟩ := iR_Qf hR
        obtain ⟨m, rfl⟩ : ∃ m : Nat, n = (m : Int) := ⟨n.toNat, by omega⟩
        obtain ⟨A1, F1, t1, t2, t3, t4⟩ := c_tf_l (Qf := Qf) (m := m) (by omega) h r hZ (fun k hk => (hQf k hk).1) (E.2.1 + 1) 0 A F vn vn (by omega) cfr_r (h.2.2.1.1 14 wad_14) (fun j hj => by rw [fitN] at hj; omega)
        obtain ⟨A2, F2, u1, u2, u3⟩ := m_fills (Qf := Qf) (th := (m : Int)) (Z := Z) h r hZ t2 hQf
        generalize hP : (fun k => alS (Qf k) G Z (A 17) (A 18) (A 19) 61 0 (A 11)) = P at *
        have hP' : ∀ k, k ≤ E.2.1 → A2 121 k = if P k then 1 else 0 := fun k hk => by rw [(u3 k hk).1, ← hP]
        have fb := fitN_b (P := P) (E.2.1 + 1)
        have hA : A1 113 = A 113 := cfr_113 t2
        have hA2 : A2 113 = A 113 := by rw [u2.1 113 (by omega) (by omega) (by omega), hA]
        have hG2 : A2 113 2 = (G : Int) := by rw [hA2, b.2.2.2.1]; exact hn
        have f2 : F2 103 2 = (E.2.1 : Int) := by
          rw [u2.2.2 2 (by omega) (by omega) (by omega) (by omega) (by omega), t2.2 103 (by omega) (by omega)]; exact hR.2.2.2.1
        have hn1 : A1 13 1 = (G : Int) := by rw [cfr_13 t2]; exact hn
        have go := E_goers (A := A1) (F := F1) (E := E)
        rw [hn1] at go
        have tf : cl mX10_trackFitting [vr 1, vi (m : Int)] (HP A F E) = some (vi ((fitN P (E.2.1 + 1) : Nat) : Int), HP A1 F1 E) := by
          rw [← t1]
          simp only [eX10_trackFitting, sX10_trackFitting_0, sX10_trackFitting_1, sX10_trackFitting_2, sX10_trackFitting_3, sX10_trackFitting_5, sX10_trackFitting_6, sX10_trackFitting_9, sX10_trackFitting_12, sX10_trackFitting_13, sX10_trackFitting_15, sX10_trackFitting_18, sX10_trackFitting_19, sX10_trackFitting_20, sX10_trackFitting_23, sX10_trackFitting_25, sX10_trackFitting_26, sX10_trackFitting_29, sX10_trackFitting_30, sX10_trackFitting_33, sX10_trackFitting_36, sX10_trackFitting_37, sX10_trackFitting_40, sX10_trackFitting_41, sX10_trackFitting_44, sX10_trackFitting_46, sX10_trackFitting_49, sX10_trackFitting_52, sX10_trackFitting_53, sX10_trackFitting_56, sX10_trackFitting_57, sX10_trackFitting_60, sX10_trackFitting_63, sX10_trackFitting_64, sX10_trackFitting_65, sX10_trackFitting_67, sX10_trackFitting_70, sX10_trackFitting_71, sX10_trackFitting_75, sX10_trackFitting_76, sX10_trackFitting_79, sX10_trackFitting_80, sX10_trackFitting_83, sX10_trackFitting_84, sX10_trackFitting_85, sX10_trackFitting_86, sX10_trackFitting_88, sX10_trackFitting_89, sX10_trackFitting_90, sX10_trackFitting_93, sX10_trackFitting_95, sX10_trackFitting_96, sX10_trackFitting_99, sX10_trackFitting_100, sX10_trackFitting_103, sX10_trackFitting_106, sX10_trackFitting_109, sX10_trackFitting_112, sX10_trackFitting_115, sX10_trackFitting_116]
          rfl
        -- both count alike
        have mal : ∀ g, g < G → cl mX11_alikeAt [vr 103, vi (g : Int)] (HP A2 F2 E) = some (vi (mxN (alM P (A2 122) g E.2.1) (E.2.1 + 1)), HP A2 F2 E) := fun g hg => m_alikeAt (by omega) h6 f2 hP'
        have cal : ∀ g, g < G → cl mX10_mostAlike [vr 1, vi (g : Int), vi ((fitN P (E.2.1 + 1) : Nat) : Int)] (HP A1 F1 E) = some (vi (mxN (alM P (A2 122) g E.2.1) (E.2.1 + 1)), HP A1 F1 E) := fun g hg => by
          rw [E_mostAlike (by omega) (by omega)]
          have e := pk_al (P := P) (v := fun k g => psN (Qf k) G m (A 11) (47 + 7 * g)) (V := A2 122) (g := g) (R := E.2.1) (by omega) (fun k hk => by
            have q := (hQf k hk).1
            rw [(u3 k hk).2 g (by omega) (by omega) (by omega), show ((m : Int)).toNat = m by omega, con_w (psN_ok q.1 m _ r.2.1) hg])
          rw [← e]
          congr 2
          congr 1
          refine mxN_c _ (fun k hk => ?_)
          rw [t4 _ (by omega)]
          exact sumN_c _ (fun i hi => by unfold alC; rw [t4 _ (by omega)])
        have ms' := ms A1 F1
        rw [hA, if_pos (b.2.2.2.2.1.mpr z)] at ms'
        have mi' := mi (HP A1 F1 E)
        rw [if_pos z1] at mi'
        have mi2' := mi2 (HP A1 F1 E)
        rw [if_pos z2] at mi2'
        by_cases f0 : fitN P (E.2.1 + 1) = 0
        · refine prs_q h (v := -2) ?_ t2 t3 ?_ u2
          · simp (disch := omega) only [eX10_look, sX10_look_0, sX10_look_1, sX10_look_4, sX10_look_7, sX10_look_8, sX10_look_9, sX10_look_11, sX10_look_14, sX10_look_17, sX10_look_18, sX10_look_19, sX10_look_20, sX10_look_23, sX10_look_26, sX10_look_27, sX10_look_28, sX10_look_29, sX10_look_30, sX10_look_33, sX10_look_34, sX10_look_35, sX10_look_38, sX10_look_39, sX10_look_42, sX10_look_45, sX10_look_47, sX10_look_48, sX10_look_49, sX10_look_51, sX10_look_52, sX10_look_53, sX10_look_54, sX10_look_57, sX10_look_59, sX10_look_60, sX10_look_64, sX10_look_65, sX10_look_68, sX10_look_71, sX10_look_72, sX10_look_74, sX10_look_75, sX10_look_78, sX10_look_80, sX10_look_82, sX10_look_84, sX10_look_87, sX10_look_89, sX10_look_91, sX10_look_93, sX10_look_95, sX10_look_98, sX10_look_101, sX10_look_102, sX10_look_105, sX10_look_107, sX10_look_110, sX10_look_112, ↓hk1, ↓bndi_at hs, ↓bndi_at wi, ↓bndi_at wi2, ↓bndi_at tf, ↓if_pos, ↓if_neg]
          · have k := m_lk_0 (A := A2) (F := F2) (E := E) (m := (m : Int)) (w := w) hG2 hG5 hw (fun g hg => by rw [mal g hg, mxN_z _ (fun a ha => by unfold alM; rw [if_neg (fitN_0 _ f0 a ha)])]) G 0 vn (by omega)
            have k' : rn mX11_look 46 [vr 103, vi (m : Int), vi w, vi (-2), vi (-2), vi 0, vn] [] (HP A2 F2 E) = _ := k
            rw [← k']
            simp (disch := omega) only [eX11_look, sX11_look_0, sX11_look_1, sX11_look_4, sX11_look_7, sX11_look_8, sX11_look_9, sX11_look_10, sX11_look_13, sX11_look_16, sX11_look_19, sX11_look_20, sX11_look_21, sX11_look_22, sX11_look_23, sX11_look_26, sX11_look_29, sX11_look_30, sX11_look_31, sX11_look_32, sX11_look_33, sX11_look_36, sX11_look_38, sX11_look_39, sX11_look_41, sX11_look_43, sX11_look_44, sX11_look_48, sX11_look_49, sX11_look_52, sX11_look_53, sX11_look_54, sX11_look_57, sX11_look_58, sX11_look_60, sX11_look_63, sX11_look_65, sX11_look_67, sX11_look_70, sX11_look_71, sX11_look_74, sX11_look_76, sX11_look_78, sX11_look_81, sX11_look_84, sX11_look_86, sX11_look_87, sX11_look_89, sX11_look_91, sX11_look_94, sX11_look_97, sX11_look_98, sX11_look_101, sX11_look_102, sX11_look_105, sX11_look_107, ↓hk103, ↓bndi_at ms', ↓bndi_at mi', ↓bndi_at mi2', ↓bndv_at u1, ↓if_pos, ↓if_neg]
        · by_cases g0 : G = 0
          · refine prs_q h (v := -2) ?_ t2 t3 ?_ u2
            · simp (disch := omega) only [eX10_look, sX10_look_0, sX10_look_1, sX10_look_4, sX10_look_7, sX10_look_8, sX10_look_9, sX10_look_11, sX10_look_14, sX10_look_17, sX10_look_18, sX10_look_19, sX10_look_20, sX10_look_23, sX10_look_26, sX10_look_27, sX10_look_28, sX10_look_29, sX10_look_30, sX10_look_33, sX10_look_34, sX10_look_35, sX10_look_38, sX10_look_39, sX10_look_42, sX10_look_45, sX10_look_47, sX10_look_48, sX10_look_49, sX10_look_51, sX10_look_52, sX10_look_53, sX10_look_54, sX10_look_57, sX10_look_59, sX10_look_60, sX10_look_64, sX10_look_65, sX10_look_68, sX10_look_71, sX10_look_72, sX10_look_74, sX10_look_75, sX10_look_78, sX10_look_80, sX10_look_82, sX10_look_84, sX10_look_87, sX10_look_89, sX10_look_91, sX10_look_93, sX10_look_95, sX10_look_98, sX10_look_101, sX10_look_102, sX10_look_105, sX10_look_107, sX10_look_110, sX10_look_112, ↓hk1, ↓bndi_at hs, ↓bndi_at wi, ↓bndi_at wi2, ↓bndi_at tf, ↓bndi_at go, ↓if_pos, ↓if_neg]
            · have k := m_lk_0 (A := A2) (F := F2) (E := E) (m := (m : Int)) (w := w) hG2 hG5 hw (fun g hg => by omega) G 0 vn (by omega)
              have k' : rn mX11_look 46 [vr 103, vi (m : Int), vi w, vi (-2), vi (-2), vi 0, vn] [] (HP A2 F2 E) = _ := k
              rw [← k']
              simp (disch := omega) only [eX11_look, sX11_look_0, sX11_look_1, sX11_look_4, sX11_look_7, sX11_look_8, sX11_look_9, sX11_look_10, sX11_look_13, sX11_look_16, sX11_look_19, sX11_look_20, sX11_look_21, sX11_look_22, sX11_look_23, sX11_look_26, sX11_look_29, sX11_look_30, sX11_look_31, sX11_look_32, sX11_look_33, sX11_look_36, sX11_look_38, sX11_look_39, sX11_look_41, sX11_look_43, sX11_look_44, sX11_look_48, sX11_look_49, sX11_look_52, sX11_look_53, sX11_look_54, sX11_look_57, sX11_look_58, sX11_look_60, sX11_look_63, sX11_look_65, sX11_look_67, sX11_look_70, sX11_look_71, sX11_look_74, sX11_look_76, sX11_look_78, sX11_look_81, sX11_look_84, sX11_look_86, sX11_look_87, sX11_look_89, sX11_look_91, sX11_look_94, sX11_look_97, sX11_look_98, sX11_look_101, sX11_look_102, sX11_look_105, sX11_look_107, ↓hk103, ↓bndi_at ms', ↓bndi_at mi', ↓bndi_at mi2', ↓bndv_at u1, ↓if_pos, ↓if_neg]
          · obtain ⟨a, a1, a2⟩ := fitN_p (P := P) (E.2.1 + 1) (by omega)
            have pos : ∀ g, g < G → 0 < mxN (alM P (A2 122) g E.2.1) (E.2.1 + 1) := fun g hg => by
              have k1 := mxN_ge (h := alM P (A2 122) g E.2.1) (k := a) (E.2.1 + 1) a1
              have k2 := sumN_ge (g := alF P (A2 122) g (A2 122 (5 * a + g))) (k := a) (E.2.1 + 1) a1 (fun j => (alF_b j).1)
              have k3 : alF P (A2 122) g (A2 122 (5 * a + g)) a = 1 := by unfold alF; rw [if_pos ⟨a2, rfl⟩]
              have k4 : alM P (A2 122) g E.2.1 a = sumN (alF P (A2 122) g (A2 122 (5 * a + g))) (E.2.1 + 1) := by unfold alM; rw [if_pos a2]
              omega
            have cf := c_lk_f (A := A1) (F := F1) (E := E) (m := (m : Int)) (w := w) (ft := fitN P (E.2.1 + 1)) (T := fun g => mxN (alM P (A2 122) g E.2.1) (E.2.1 + 1)) hn1 hG5 hw cal (G - 1) 1 (0, mxN (alM P (A2 122) 0 E.2.1) (E.2.1 + 1)) vn (by omega)
            have cf' : rn mX10_look 62 [vr 1, vi (m : Int), vi w, vi ((fitN P (E.2.1 + 1) : Nat) : Int), vi 0, vi (mxN (alM P (A2 122) 0 E.2.1) (E.2.1 + 1)), vi 1, vn] [] (HP A1 F1 E) = _ := cf
            have mf := m_lk_f (A := A2) (F := F2) (E := E) (m := (m : Int)) (w := w) (T := fun g => mxN (alM P (A2 122) g E.2.1) (E.2.1 + 1)) hG2 hG5 hw mal pos (G - 1) 1 (0, mxN (alM P (A2 122) 0 E.2.1) (E.2.1 + 1)) (vi (mxN (alM P (A2 122) 0 E.2.1) (E.2.1 + 1))) (by omega)
            have mf' : rn mX11_look 46 [vr 103, vi (m : Int), vi w, vi 0, vi (mxN (alM P (A2 122) 0 E.2.1) (E.2.1 + 1)), vi 1, vi (mxN (alM P (A2 122) 0 E.2.1) (E.2.1 + 1))] [] (HP A2 F2 E) = _ := mf
            have c0 := cal 0 (by omega)
            have c0' : cl mX10_mostAlike [vr 1, vi 0, vi ((fitN P (E.2.1 + 1) : Nat) : Int)] (HP A1 F1 E) = _ := c0
            have m0 := mal 0 (by omega)
            have m0' : cl mX11_alikeAt [vr 103, vi 0] (HP A2 F2 E) = _ := m0
            have p0 := pos 0 (by omega)
            refine prs_q h (v := if w = 0 then ((mnN (fun g => mxN (alM P (A2 122) g E.2.1) (E.2.1 + 1)) (G - 1) 1 (0, mxN (alM P (A2 122) 0 E.2.1) (E.2.1 + 1))).1 : Int) else (mnN (fun g => mxN (alM P (A2 122) g E.2.1) (E.2.1 + 1)) (G - 1) 1 (0, mxN (alM P (A2 122) 0 E.2.1) (E.2.1 + 1))).2) ?_ t2 t3 ?_ u2
            · rw [← cf']
              simp (disch := omega) only [eX10_look, sX10_look_0, sX10_look_1, sX10_look_4, sX10_look_7, sX10_look_8, sX10_look_9, sX10_look_11, sX10_look_14, sX10_look_17, sX10_look_18, sX10_look_19, sX10_look_20, sX10_look_23, sX10_look_26, sX10_look_27, sX10_look_28, sX10_look_29, sX10_look_30, sX10_look_33, sX10_look_34, sX10_look_35, sX10_look_38, sX10_look_39, sX10_look_42, sX10_look_45, sX10_look_47, sX10_look_48, sX10_look_49, sX10_look_51, sX10_look_52, sX10_look_53, sX10_look_54, sX10_look_57, sX10_look_59, sX10_look_60, sX10_look_64, sX10_look_65, sX10_look_68, sX10_look_71, sX10_look_72, sX10_look_74, sX10_look_75, sX10_look_78, sX10_look_80, sX10_look_82, sX10_look_84, sX10_look_87, sX10_look_89, sX10_look_91, sX10_look_93, sX10_look_95, sX10_look_98, sX10_look_101, sX10_look_102, sX10_look_105, sX10_look_107, sX10_look_110, sX10_look_112, ↓hk1, ↓bndi_at hs, ↓bndi_at wi, ↓bndi_at wi2, ↓bndi_at tf, ↓bndi_at go, ↓bndi_at c0', ↓if_pos, ↓if_neg]
            · rw [← mf']
              simp (disch := omega) only [eX11_look, sX11_look_0, sX11_look_1, sX11_look_4, sX11_look_7, sX11_look_8, sX11_look_9, sX11_look_10, sX11_look_13, sX11_look_16, sX11_look_19, sX11_look_20, sX11_look_21, sX11_look_22, sX11_look_23, sX11_look_26, sX11_look_29, sX11_look_30, sX11_look_31, sX11_look_32, sX11_look_33, sX11_look_36, sX11_look_38, sX11_look_39, sX11_look_41, sX11_look_43, sX11_look_44, sX11_look_48, sX11_look_49, sX11_look_52, sX11_look_53, sX11_look_54, sX11_look_57, sX11_look_58, sX11_look_60, sX11_look_63, sX11_look_65, sX11_look_67, sX11_look_70, sX11_look_71, sX11_look_74, sX11_look_76, sX11_look_78, sX11_look_81, sX11_look_84, sX11_look_86, sX11_look_87, sX11_look_89, sX11_look_91, sX11_look_94, sX11_look_97, sX11_look_98, sX11_look_101, sX11_look_102, sX11_look_105, sX11_look_107, ↓hk103, ↓bndi_at ms', ↓bndi_at mi', ↓bndi_at mi2', ↓bndv_at u1, ↓if_pos, ↓if_neg]
              rw [sX11_look_46]
              simp (disch := omega) only [eX11_look, sX11_look_0, sX11_look_1, sX11_look_4, sX11_look_7, sX11_look_8, sX11_look_9, sX11_look_10, sX11_look_13, sX11_look_16, sX11_look_19, sX11_look_20, sX11_look_21, sX11_look_22, sX11_look_23, sX11_look_26, sX11_look_29, sX11_look_30, sX11_look_31, sX11_look_32, sX11_look_33, sX11_look_36, sX11_look_38, sX11_look_39, sX11_look_41, sX11_look_43, sX11_look_44, sX11_look_48, sX11_look_49, sX11_look_52, sX11_look_53, sX11_look_54, sX11_look_57, sX11_look_58, sX11_look_60, sX11_look_63, sX11_look_65, sX11_look_67, sX11_look_70, sX11_look_71, sX11_look_74, sX11_look_76, sX11_look_78, sX11_look_81, sX11_look_84, sX11_look_86, sX11_look_87, sX11_look_89, sX11_look_91, sX11_look_94, sX11_look_97, sX11_look_98, sX11_look_101, sX11_look_102, sX11_look_105, sX11_look_107, ↓hk103, ↓hf103_20, ↓hg113, Int.reduceToNat, hG2, ↓bndi_at m0', ↓if_pos, ↓if_neg, i32_of, Int.reduceAdd]
      · have ms' := ms A F
        have mi' := mi (HP A F E)
        have mi2' := mi2 (HP A F E)
        rw [if_pos z1] at mi'
        rw [if_neg z2] at mi2' wi2
        rw [if_pos (b.2.2.2.2.1.mpr z)] at ms'
        refine prs_0 (v := -1) h ?_ ?_
        · simp (disch := omega) only [eX10_look, sX10_look_0, sX10_look_1, sX10_look_4, sX10_look_7, sX10_look_8, sX10_look_9, sX10_look_11, sX10_look_14, sX10_look_17, sX10_look_18, sX10_look_19, sX10_look_20, sX10_look_23, sX10_look_26, sX10_look_27, sX10_look_28, sX10_look_29, sX10_look_30, sX10_look_33, sX10_look_34, sX10_look_35, sX10_look_38, sX10_look_39, sX10_look_42, sX10_look_45, sX10_look_47, sX10_look_48, sX10_look_49, sX10_look_51, sX10_look_52, sX10_look_53, sX10_look_54, sX10_look_57, sX10_look_59, sX10_look_60, sX10_look_64, sX10_look_65, sX10_look_68, sX10_look_71, sX10_look_72, sX10_look_74, sX10_look_75, sX10_look_78, sX10_look_80, sX10_look_82, sX10_look_84, sX10_look_87, sX10_look_89, sX10_look_91, sX10_look_93, sX10_look_95, sX10_look_98, sX10_look_101, sX10_look_102, sX10_look_105, sX10_look_107, sX10_look_110, sX10_look_112, ↓hk1, ↓bndi_at hs, ↓bndi_at wi, ↓bndi_at wi2, ↓if_pos, ↓if_neg]
        · simp (disch := omega) only [eX11_look, sX11_look_0, sX11_look_1, sX11_look_4, sX11_look_7, sX11_look_8, sX11_look_9, sX11_look_10, sX11_look_13, sX11_look_16, sX11_look_19, sX11_look_20, sX11_look_21, sX11_look_22, sX11_look_23, sX11_look_26, sX11_look_29, sX11_look_30, sX11_look_31, sX11_look_32, sX11_look_33, sX11_look_36, sX11_look_38, sX11_look_39, sX11_look_41, sX11_look_43, sX11_look_44, sX11_look_48, sX11_look_49, sX11_look_52, sX11_look_53, sX11_look_54, sX11_look_57, sX11_look_58, sX11_look_60, sX11_look_63, sX11_look_65, sX11_look_67, sX11_look_70, sX11_look_71, sX11_look_74, sX11_look_76, sX11_look_78, sX11_look_81, sX11_look_84, sX11_look_86, sX11_look_87, sX11_look_89, sX11_look_91, sX11_look_94, sX11_look_97, sX11_look_98, sX11_look_101, sX11_look_102, sX11_look_105, sX11_look_107, ↓hk103, ↓bndi_at ms', ↓bndi_at mi', ↓bndi_at mi2', ↓if_pos, ↓if_neg]
    · have ms' := ms A F
      have mi' := mi (HP A F E)
      rw [if_neg z1] at mi' wi
      rw [if_pos (b.2.2.2.2.1.mpr z)] at ms'
      refine prs_0 (v := -1) h ?_ ?_
      · simp (disch := omega) only [eX10_look, sX10_look_0, sX10_look_1, sX10_look_4, sX10_look_7, sX10_look_8, sX10_look_9, sX10_look_11, sX10_look_14, sX10_look_17, sX10_look_18, sX10_look_19, sX10_look_20, sX10_look_23, sX10_look_26, sX10_look_27, sX10_look_28, sX10_look_29, sX10_look_30, sX10_look_33, sX10_look_34, sX10_look_35, sX10_look_38, sX10_look_39, sX10_look_42, sX10_look_45, sX10_look_47, sX10_look_48, sX10_look_49, sX10_look_51, sX10_look_52, sX10_look_53, sX10_look_54, sX10_look_57, sX10_look_59, sX10_look_60, sX10_look_64, sX10_look_65, sX10_look_68, sX10_look_71, sX10_look_72, sX10_look_74, sX10_look_75, sX10_look_78, sX10_look_80, sX10_look_82, sX10_look_84, sX10_look_87, sX10_look_89, sX10_look_91, sX10_look_93, sX10_look_95, sX10_look_98, sX10_look_101, sX10_look_102, sX10_look_105, sX10_look_107, sX10_look_110, sX10_look_112, ↓hk1, ↓bndi_at hs, ↓bndi_at wi, ↓if_pos, ↓if_neg]
      · simp (disch := omega) only [eX11_look, sX11_look_0, sX11_look_1, sX11_look_4, sX11_look_7, sX11_look_8, sX11_look_9, sX11_look_10, sX11_look_13, sX11_look_16, sX11_look_19, sX11_look_20, sX11_look_21, sX11_look_22, sX11_look_23, sX11_look_26, sX11_look_29, sX11_look_30, sX11_look_31, sX11_look_32, sX11_look_33, sX11_look_36, sX11_look_38, sX11_look_39, sX11_look_41, sX11_look_43, sX11_look_44, sX11_look_48, sX11_look_49, sX11_look_52, sX11_look_53, sX11_look_54, sX11_look_57, sX11_look_58, sX11_look_60, sX11_look_63, sX11_look_65, sX11_look_67, sX11_look_70, sX11_look_71, sX11_look_74, sX11_look_76, sX11_look_78, sX11_look_81, sX11_look_84, sX11_look_86, sX11_look_87, sX11_look_89, sX11_look_91, sX11_look_94, sX11_look_97, sX11_look_98, sX11_look_101, sX11_look_102, sX11_look_105, sX11_look_107, ↓hk103, ↓bndi_at ms', ↓bndi_at mi', ↓if_pos, ↓if_neg]
  · have ms' := ms A F
    rw [if_neg z] at hs
    rw [if_neg (fun q => z (b.2.2.2.2.1.mp q))] at ms'
    refine prs_0 (v := -1) h ?_ ?_
    · simp (disch := omega) only [eX10_look, sX10_look_0, sX10_look_1, sX10_look_4, sX10_look_7, sX10_look_8, sX10_look_9, sX10_look_11, sX10_look_14, sX10_look_17, sX10_look_18, sX10_look_19, sX10_look_20, sX10_look_23, sX10_look_26, sX10_look_27, sX10_look_28, sX10_look_29, sX10_look_30, sX10_look_33, sX10_look_34, sX10_look_35, sX10_look_38, sX10_look_39, sX10_look_42, sX10_look_45, sX10_look_47, sX10_look_48, sX10_look_49, sX10_look_51, sX10_look_52, sX10_look_53, sX10_look_54, sX10_look_57, sX10_look_59, sX10_look_60, sX10_look_64, sX10_look_65, sX10_look_68, sX10_look_71, sX10_look_72, sX10_look_74, sX10_look_75, sX10_look_78, sX10_look_80, sX10_look_82, sX10_look_84, sX10_look_87, sX10_look_89, sX10_look_91, sX10_look_93, sX10_look_95, sX10_look_98, sX10_look_101, sX10_look_102, sX10_look_105, sX10_look_107, sX10_look_110, sX10_look_112, ↓hk1, ↓bndi_at hs, ↓if_pos, ↓if_neg]
    · simp (disch := omega) only [eX11_look, sX11_look_0, sX11_look_1, sX11_look_4, sX11_look_7, sX11_look_8, sX11_look_9, sX11_look_10, sX11_look_13, sX11_look_16, sX11_look_19, sX11_look_20, sX11_look_21, sX11_look_22, sX11_look_23, sX11_look_26, sX11_look_29, sX11_look_30, sX11_look_31, sX11_look_32, sX11_look_33, sX11_look_36, sX11_look_38, sX11_look_39, sX11_look_41, sX11_look_43, sX11_look_44, sX11_look_48, sX11_look_49, sX11_look_52, sX11_look_53, sX11_look_54, sX11_look_57, sX11_look_58, sX11_look_60, sX11_look_63, sX11_look_65, sX11_look_67, sX11_look_70, sX11_look_71, sX11_look_74, sX11_look_76, sX11_look_78, sX11_look_81, sX11_look_84, sX11_look_86, sX11_look_87, sX11_look_89, sX11_look_91, sX11_look_94, sX11_look_97, sX11_look_98, sX11_look_101, sX11_look_102, sX11_look_105, sX11_look_107, ↓hk103, ↓bndi_at ms', ↓if_pos, ↓if_neg]
end LK2
