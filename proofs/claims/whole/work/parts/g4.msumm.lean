/-! a rule's clauses reckoned by the model -/
section MS
variable {A F : Nat → Nat → Int} {E : zE} {i : Nat}
theorem m_rk_l {e g : Int} (hi : i < 6) : ∀ (M : List Int) (x : Nat) (A F : Nat → Nat → Int) (st st' : List Int) (x5 x6 x7 x8 x9 x10 : zV), x + M.length ≤ 400 → ((x + M.length : Nat) : Int) ≤ e → (∀ o, o ∈ M → (0 ≤ o ∧ o ≤ 10) ∨ (20 ≤ o ∧ o ≤ 32) ∨ (100 ≤ o ∧ o ≤ 100099)) → (∀ j, j < M.length → A 105 (400 * i + (x + j)) = enc (wat M j)) → SK (A 111) st → st.length ≤ 61 → F 103 18 = (st.length : Int) → ev (fun w => A 112 w.toNat) M st = some st' → ∃ A' F' y5 y6 y7 y8 y9 y10, rn mX11_reckons 8 [vr 103, vi (i : Int), vi g, vi e, vi (x : Int), x5, x6, x7, x8, x9, x10] [] (HP A F E) = rn mX11_reckons 8 [vr 103, vi (i : Int), vi g, vi e, vi ((x + M.length : Nat) : Int), y5, y6, y7, y8, y9, y10] [] (HP A' F' E) ∧ msf A F A' F' ∧ SK (A' 111) st' ∧ F' 103 18 = (st'.length : Int) ∧ st'.length ≤ 61
  | [], x, A, F, st, st', x5, x6, x7, x8, x9, x10, _, _, _, _, h, hl, h18, he => by
    rw [ev] at he
    injection he with he
    rw [← he]
    exact ⟨A, F, x5, x6, x7, x8, x9, x10, rfl, msf_r, h, h18, hl⟩
  | o :: M, x, A, F, st, st', x5, x6, x7, x8, x9, x10, hx, hxe, ho, hj, h, hl, h18, he => by
    rw [List.length_cons] at hx hxe
    rw [ev] at he
    cases e1 : ev (fun w => A 112 w.toNat) M st with
    | none => rw [e1] at he; cases he
    | some s1 =>
      rw [e1, Option.bind_some] at he
      obtain ⟨A1, F1, y5, y6, y7, y8, y9, y10, r1, r2, r3, r4, r5⟩ := m_rk_l (e := e) (g := g) hi M x A F st s1 x5 x6 x7 x8 x9 x10 (by omega) (by omega) (fun p hp => ho p (List.mem_cons_of_mem _ hp)) (fun j hj' => by rw [hj j (by rw [List.length_cons]; omega), wat_up hj']) h hl h18 e1
      obtain ⟨A2, F2, z5, z6, z7, z8, z9, z10, s1', s2, s3, s4, s5⟩ := m_rk_1 (A := A1) (F := F1) (E := E) (g := g) (x := x + M.length) (e := e) (st := s1) (st' := st') (o := o) (x5 := y5) (x6 := y6) (x7 := y7) (x8 := y8) (x9 := y9) (x10 := y10) hi (by omega) (by omega) (ho o (List.mem_cons_self ..)) (by rw [r2.1 105 (by omega), hj M.length (by rw [List.length_cons]; omega), wat_top]) r3 r5 r4 (by rw [r2.1 112 (by omega)]; exact he)
      exact ⟨A2, F2, z5, z6, z7, z8, z9, z10, by rw [r1, s1']; rfl, msf_t r2 s2, s3, s4, s5⟩
theorem m_reckons {g n : Nat} {e : Int} {M : List Int} {z : Int} (hi : i < 6) (hn : M.length = n) (he : e = (g : Int) + (n : Int)) (hg : g + n ≤ 400) (ho : ∀ o, o ∈ M → (0 ≤ o ∧ o ≤ 10) ∨ (20 ≤ o ∧ o ≤ 32) ∨ (100 ≤ o ∧ o ≤ 100099)) (hj : ∀ j, j < M.length → A 105 (400 * i + (g + j)) = enc (wat M j)) (ev' : ev (fun w => A 112 w.toNat) M [] = some [z]) : ∃ A' F', cl mX11_reckons [vr 103, vi (i : Int), vi (g : Int), vi e] (HP A F E) = some (vl z, HP A' F' E) ∧ msf A F A' F' := by
  have fpo : ∀ (A F : Nat → Nat → Int) (w : Int), msf A F A (fF F 18 w) := fun A F w => ⟨fun _ _ => rfl, fun j a => fF_o a, fun k a => fF_n a⟩
  have st0 : SK (A 111) [] := fun k hk => by simp at hk
  obtain ⟨A1, F1, y5, y6, y7, y8, y9, y10, r1, r2, r3, r4, r5⟩ := m_rk_l (E := E) (e := e) (g := (g : Int)) hi M g A (fF F 18 0) [] [z] vn vn vn vn vn vn (by omega) (by omega) ho hj st0 (by rw [List.length_nil]; omega) (by rw [fF_s]; rfl) ev'
  have q : ∀ L st, rn mX11_reckons 5 L st (HP A (aup F 103 (fup (F 103) 18 0)) E) = rn mX11_reckons 5 L st (HP A (fF F 18 0) E) := fun _ _ => rfl
  have po := m_pop (A := A1) (F := F1) (E := E) (n := 0) (by omega) r4
  have r30 : A1 111 0 = z := r3 0 (by rw [List.length_cons]; omega)
  rw [r30] at po
  refine ⟨A1, fF F1 18 0, ?_, msf_t (fpo A F 0) (msf_t r2 (fpo A1 F1 0))⟩
  simp (disch := omega) only [eX11_reckons, sX11_reckons_0, sX11_reckons_1, sX11_reckons_2, sX11_reckons_6, sX11_reckons_10, sX11_reckons_11, sX11_reckons_14, sX11_reckons_15, sX11_reckons_18, sX11_reckons_21, sX11_reckons_22, sX11_reckons_23, sX11_reckons_25, sX11_reckons_26, sX11_reckons_27, sX11_reckons_29, sX11_reckons_30, sX11_reckons_32, sX11_reckons_33, sX11_reckons_36, sX11_reckons_39, sX11_reckons_40, sX11_reckons_41, sX11_reckons_43, sX11_reckons_44, sX11_reckons_45, sX11_reckons_46, sX11_reckons_47, sX11_reckons_49, sX11_reckons_51, sX11_reckons_54, sX11_reckons_55, sX11_reckons_57, sX11_reckons_58, sX11_reckons_61, sX11_reckons_64, sX11_reckons_66, sX11_reckons_67, sX11_reckons_70, sX11_reckons_71, sX11_reckons_72, sX11_reckons_75, sX11_reckons_77, sX11_reckons_78, sX11_reckons_81, sX11_reckons_84, sX11_reckons_86, sX11_reckons_88, sX11_reckons_91, sX11_reckons_92, sX11_reckons_93, sX11_reckons_94, sX11_reckons_97, sX11_reckons_98, sX11_reckons_101, sX11_reckons_104, sX11_reckons_105, sX11_reckons_108, sX11_reckons_110, sX11_reckons_111, sX11_reckons_114, sX11_reckons_116, sX11_reckons_117, sX11_reckons_119, sX11_reckons_121, sX11_reckons_123, sX11_reckons_126, sX11_reckons_129, sX11_reckons_132, sX11_reckons_135, sX11_reckons_136, sX11_reckons_139, ↓hp103_18]
  rw [q, sX11_reckons_5, sX11_reckons_6, r1, sX11_reckons_8]
  have ee : ((g + M.length : Nat) : Int) = e := by omega
  rw [ee]
  have po' : cl mX11_pop [vr 103] (HP A1 F1 E) = some (vl z, HP A1 (fF F1 18 0) E) := po
  simp (disch := omega) only [eX11_reckons, sX11_reckons_0, sX11_reckons_1, sX11_reckons_2, sX11_reckons_5, sX11_reckons_6, sX11_reckons_10, sX11_reckons_11, sX11_reckons_14, sX11_reckons_15, sX11_reckons_18, sX11_reckons_21, sX11_reckons_22, sX11_reckons_23, sX11_reckons_25, sX11_reckons_26, sX11_reckons_27, sX11_reckons_29, sX11_reckons_30, sX11_reckons_32, sX11_reckons_33, sX11_reckons_36, sX11_reckons_39, sX11_reckons_40, sX11_reckons_41, sX11_reckons_43, sX11_reckons_44, sX11_reckons_45, sX11_reckons_46, sX11_reckons_47, sX11_reckons_49, sX11_reckons_51, sX11_reckons_54, sX11_reckons_55, sX11_reckons_57, sX11_reckons_58, sX11_reckons_61, sX11_reckons_64, sX11_reckons_66, sX11_reckons_67, sX11_reckons_70, sX11_reckons_71, sX11_reckons_72, sX11_reckons_75, sX11_reckons_77, sX11_reckons_78, sX11_reckons_81, sX11_reckons_84, sX11_reckons_86, sX11_reckons_88, sX11_reckons_91, sX11_reckons_92, sX11_reckons_93, sX11_reckons_94, sX11_reckons_97, sX11_reckons_98, sX11_reckons_101, sX11_reckons_104, sX11_reckons_105, sX11_reckons_108, sX11_reckons_110, sX11_reckons_111, sX11_reckons_114, sX11_reckons_116, sX11_reckons_117, sX11_reckons_119, sX11_reckons_121, sX11_reckons_123, sX11_reckons_126, sX11_reckons_129, sX11_reckons_132, sX11_reckons_135, sX11_reckons_136, sX11_reckons_139, ↓hk103, ↓bndl_at po', ↓if_pos, ↓if_neg]
theorem m_sum_K {N : Nat} (hi : i < 6) (hN : N ≤ 12) : ∀ (K : zK) (A F : Nat → Nat → Int) (x3 : zV), A 108 i = (N : Int) → K.length ≤ N → (Mfl K).length ≤ 400 → tab (fun j => A 107 (48 * i + j)) K → (∀ j, j < (Mfl K).length → A 105 (400 * i + j) = enc (wat (Mfl K) j)) → (∀ c, c ∈ K → kgd c) → ∃ A2 F2, msf A F A2 F2 ∧ ((∃ v, rn mX11_summedBy 2 [vr 103, vi (i : Int), vi 0, x3] [] (HP A F E) = some (vl v, HP A2 F2 E) ∧ ∀ d, qK (fun w => A 112 w.toNat) K d = v % 4) ∨ (∃ x3', rn mX11_summedBy 2 [vr 103, vi (i : Int), vi 0, x3] [] (HP A F E) = rn mX11_summedBy 2 [vr 103, vi (i : Int), vi (K.length : Int), x3'] [] (HP A2 F2 E) ∧ ∀ d, qK (fun w => A 112 w.toNat) K d = d))
  | [], A, F, x3, _, _, _, _, _, _ => ⟨A, F, msf_r, Or.inr ⟨x3, rfl, fun _ => rfl⟩⟩
  | c :: K, A, F, x3, h8, hl, hm, tb, sg, kg => by
    rw [List.length_cons] at hl
    have ml : (Mfl (c :: K)).length = (mof c).length + (Mfl K).length := by rw [Mfl, List.length_append]
    obtain ⟨⟨w0, w1, w2, w3⟩, tb'⟩ := tb
    obtain ⟨A2, F2, f1, ⟨v, i1, i2⟩ | ⟨x3', i1, i2⟩⟩ := m_sum_K hi hN K A F x3 h8 (by omega) (by omega) tb' (fun j hj => by rw [sg j (by omega), Mfl]; rw [(wat_app _ _ _).1 hj]) (fun d hd => kg d (List.mem_cons_of_mem _ hd))
    · exact ⟨A2, F2, f1, Or.inl ⟨v, i1, fun d => by rw [qK]; exact i2 _⟩⟩
    · have kc := kg c (List.mem_cons_self ..)
      have sg2 : ∀ j, j < (mof c).length → A2 105 (400 * i + ((Mfl K).length + j)) = enc (wat (mof c) j) := fun j hj => by
        rw [f1.1 105 (by omega), sg _ (by omega), Mfl, (wat_app _ _ _).2 hj]
      have h8' : A2 108 i = (N : Int) := by rw [f1.1 108 (by omega)]; exact h8
      have a7 : A2 107 = A 107 := f1.1 107 (by omega)
      have a12 : A2 112 = A 112 := f1.1 112 (by omega)
      have y0 : A2 107 (48 * i + 4 * K.length) = ((Mfl K).length : Int) := by rw [a7]; exact w0
      have y1 : A2 107 (48 * i + 4 * K.length + 1) = ((Mfl K).length : Int) + (c.1.length : Int) := by rw [a7, show 48 * i + 4 * K.length + 1 = 48 * i + (4 * K.length + 1) by omega]; exact w1
      have y2 : A2 107 (48 * i + 4 * K.length + 2) = (match c.2 with | none => -1 | some _ => ((Mfl K).length : Int) + (c.1.length : Int)) := by rw [a7, show 48 * i + 4 * K.length + 2 = 48 * i + (4 * K.length + 2) by omega]; exact w2
      have y3 : A2 107 (48 * i + 4 * K.length + 3) = ((Mfl K).length : Int) + ((mof c).length : Int) := by rw [a7, show 48 * i + 4 * K.length + 3 = 48 * i + (4 * K.length + 3) by omega]; exact w3
      have t1 : i32 (48 * (i : Int)) = 48 * (i : Int) := i32_of (by omega) (by omega)
      have t2 : i32 (4 * (K.length : Int)) = 4 * (K.length : Int) := i32_of (by omega) (by omega)
      have t3 : i32 (48 * (i : Int) + 4 * (K.length : Int)) = ((48 * i + 4 * K.length : Nat) : Int) := by rw [i32_of (by omega) (by omega)]; omega
      have x1 : (((48 * i + 4 * K.length : Nat) : Int) + 1).toNat = 48 * i + 4 * K.length + 1 := by omega
      have x2 : (((48 * i + 4 * K.length : Nat) : Int) + 2).toNat = 48 * i + 4 * K.length + 2 := by omega
      have x3'' : (((48 * i + 4 * K.length : Nat) : Int) + 3).toNat = 48 * i + 4 * K.length + 3 := by omega
      have is : i32 ((K.length : Int) + 1) = ((K.length + 1 : Nat) : Int) := i32_s K.length (by omega)
      obtain ⟨S, ot⟩ := c
      cases ot with
      | none =>
        obtain ⟨_, z, e1⟩ := c_sum (u := fun w => A2 112 w.toNat) kc
        obtain ⟨A3, F3, r1, r2⟩ := m_reckons (A := A2) (F := F2) (E := E) (g := (Mfl K).length) (n := S.length) (e := ((Mfl K).length : Int) + (S.length : Int)) (M := S) hi rfl rfl (by have : (mof (S, none)).length = S.length := rfl; omega) kc.2.2 sg2 e1
        refine ⟨A3, F3, msf_t f1 r2, Or.inl ⟨z, ?_, fun d => ?_⟩⟩
        · dsimp only at y1 y2
          rw [i1, sX11_summedBy_2]
          simp (disch := omega) only [eX11_summedBy, sX11_summedBy_0, sX11_summedBy_1, sX11_summedBy_3, sX11_summedBy_4, sX11_summedBy_7, sX11_summedBy_8, sX11_summedBy_9, sX11_summedBy_12, sX11_summedBy_14, sX11_summedBy_15, sX11_summedBy_16, sX11_summedBy_17, sX11_summedBy_18, sX11_summedBy_19, sX11_summedBy_20, sX11_summedBy_21, sX11_summedBy_22, sX11_summedBy_25, sX11_summedBy_26, sX11_summedBy_27, sX11_summedBy_28, sX11_summedBy_29, sX11_summedBy_32, sX11_summedBy_33, sX11_summedBy_34, sX11_summedBy_35, sX11_summedBy_38, sX11_summedBy_39, sX11_summedBy_40, sX11_summedBy_41, sX11_summedBy_42, sX11_summedBy_43, sX11_summedBy_46, sX11_summedBy_47, sX11_summedBy_48, sX11_summedBy_49, sX11_summedBy_50, sX11_summedBy_53, sX11_summedBy_54, sX11_summedBy_55, sX11_summedBy_58, sX11_summedBy_59, sX11_summedBy_60, sX11_summedBy_61, sX11_summedBy_64, sX11_summedBy_65, sX11_summedBy_66, sX11_summedBy_67, sX11_summedBy_70, sX11_summedBy_71, sX11_summedBy_72, sX11_summedBy_73, sX11_summedBy_74, sX11_summedBy_77, sX11_summedBy_78, sX11_summedBy_81, sX11_summedBy_84, sX11_summedBy_85, ↓hk103, ↓hf103_5, ↓hf103_6, ↓hg107, ↓hg108, h8', Int.toNat_natCast, t1, t2, t3, x1, x2, i32_of, y0, y1, y2, ↓bndl_at r1, ↓if_pos, ↓if_neg]
        · rw [qK, i2]
          unfold ckv
          dsimp only at e1 ⊢
          rw [a12] at e1
          rw [e1]
          rfl
      | some T =>
        obtain ⟨f, z, f01, e1, e2, e3⟩ := c_test (u := fun w => A2 112 w.toNat) kc
        have mo : mof (S, some T) = T ++ S := rfl
        have ml2 : (mof (S, some T)).length = T.length + S.length := by rw [mo, List.length_append]
        have sgS : ∀ j, j < S.length → A2 105 (400 * i + ((Mfl K).length + j)) = enc (wat S j) := fun j hj => by
          rw [sg2 j (by omega), mo, (wat_app _ _ _).1 hj]
        have sgT : ∀ j, j < T.length → A2 105 (400 * i + ((Mfl K).length + S.length + j)) = enc (wat T j) := fun j hj => by
          rw [Nat.add_assoc, sg2 _ (by omega), mo, (wat_app _ _ _).2 hj]
        obtain ⟨A3, F3, r1, r2⟩ := m_reckons (A := A2) (F := F2) (E := E) (g := (Mfl K).length + S.length) (n := T.length) (e := ((Mfl K).length : Int) + ((mof (S, some T)).length : Int)) (M := T) hi rfl (by omega) (by omega) (fun o ho => kc.2.2 o (by rw [mo]; exact List.mem_append_left _ ho)) sgT e2
        have r1' : cl mX11_reckons [vr 103, vi (i : Int), vi (((Mfl K).length : Int) + (S.length : Int)), vi (((Mfl K).length : Int) + ((mof (S, some T)).length : Int))] (HP A2 F2 E) = some (vl f, HP A3 F3 E) := by
          rw [← r1, show (((Mfl K).length + S.length : Nat) : Int) = ((Mfl K).length : Int) + (S.length : Int) by omega]
        have b7 : A3 107 = A2 107 := r2.1 107 (by omega)
        have b12 : A3 112 = A2 112 := r2.1 112 (by omega)
        dsimp only at y1 y2
        by_cases q : f = 0
        · refine ⟨A3, F3, msf_t f1 r2, Or.inr ⟨vi ((48 * i + 4 * K.length : Nat) : Int), ?_, fun d => ?_⟩⟩
          · rw [i1, sX11_summedBy_2]
            rw [q] at r1'
            simp (disch := omega) only [eX11_summedBy, sX11_summedBy_0, sX11_summedBy_1, sX11_summedBy_3, sX11_summedBy_4, sX11_summedBy_7, sX11_summedBy_8, sX11_summedBy_9, sX11_summedBy_12, sX11_summedBy_14, sX11_summedBy_15, sX11_summedBy_16, sX11_summedBy_17, sX11_summedBy_18, sX11_summedBy_19, sX11_summedBy_20, sX11_summedBy_21, sX11_summedBy_22, sX11_summedBy_25, sX11_summedBy_26, sX11_summedBy_27, sX11_summedBy_28, sX11_summedBy_29, sX11_summedBy_32, sX11_summedBy_33, sX11_summedBy_34, sX11_summedBy_35, sX11_summedBy_38, sX11_summedBy_39, sX11_summedBy_40, sX11_summedBy_41, sX11_summedBy_42, sX11_summedBy_43, sX11_summedBy_46, sX11_summedBy_47, sX11_summedBy_48, sX11_summedBy_49, sX11_summedBy_50, sX11_summedBy_53, sX11_summedBy_54, sX11_summedBy_55, sX11_summedBy_58, sX11_summedBy_59, sX11_summedBy_60, sX11_summedBy_61, sX11_summedBy_64, sX11_summedBy_65, sX11_summedBy_66, sX11_summedBy_67, sX11_summedBy_70, sX11_summedBy_71, sX11_summedBy_72, sX11_summedBy_73, sX11_summedBy_74, sX11_summedBy_77, sX11_summedBy_78, sX11_summedBy_81, sX11_summedBy_84, sX11_summedBy_85, ↓hk103, ↓hf103_5, ↓hf103_6, ↓hg107, ↓hg108, h8', Int.toNat_natCast, t1, t2, t3, x1, x2, x3'', i32_of, y0, y1, y2, y3, ↓bndl_at r1', lcm_eq, ↓if_pos, ↓if_neg]
            rfl
          · rw [qK, i2]
            unfold ckv
            dsimp only
            rw [a12] at e2
            rw [e2]
            show (if f = 0 then d else _) = d
            rw [if_pos q]
        · obtain ⟨A4, F4, s1, s2⟩ := m_reckons (A := A3) (F := F3) (E := E) (g := (Mfl K).length) (n := S.length) (e := ((Mfl K).length : Int) + (S.length : Int)) (M := S) (z := z) hi rfl rfl (by omega) (fun o ho => kc.2.2 o (by rw [mo]; exact List.mem_append_right _ ho)) (fun j hj => by rw [r2.1 105 (by omega)]; exact sgS j hj) (by rw [b12]; exact e1)
          have f1' : f = 1 := by omega
          have nn : ¬ (((Mfl K).length : Int) + (S.length : Int) < 0) := by omega
          refine ⟨A4, F4, msf_t f1 (msf_t r2 s2), Or.inl ⟨z, ?_, fun d => ?_⟩⟩
          · rw [i1, sX11_summedBy_2]
            rw [f1'] at r1'
            simp (disch := omega) only [eX11_summedBy, sX11_summedBy_0, sX11_summedBy_1, sX11_summedBy_3, sX11_summedBy_4, sX11_summedBy_7, sX11_summedBy_8, sX11_summedBy_9, sX11_summedBy_12, sX11_summedBy_14, sX11_summedBy_15, sX11_summedBy_16, sX11_summedBy_17, sX11_summedBy_18, sX11_summedBy_19, sX11_summedBy_20, sX11_summedBy_21, sX11_summedBy_22, sX11_summedBy_25, sX11_summedBy_26, sX11_summedBy_27, sX11_summedBy_28, sX11_summedBy_29, sX11_summedBy_32, sX11_summedBy_33, sX11_summedBy_34, sX11_summedBy_35, sX11_summedBy_38, sX11_summedBy_39, sX11_summedBy_40, sX11_summedBy_41, sX11_summedBy_42, sX11_summedBy_43, sX11_summedBy_46, sX11_summedBy_47, sX11_summedBy_48, sX11_summedBy_49, sX11_summedBy_50, sX11_summedBy_53, sX11_summedBy_54, sX11_summedBy_55, sX11_summedBy_58, sX11_summedBy_59, sX11_summedBy_60, sX11_summedBy_61, sX11_summedBy_64, sX11_summedBy_65, sX11_summedBy_66, sX11_summedBy_67, sX11_summedBy_70, sX11_summedBy_71, sX11_summedBy_72, sX11_summedBy_73, sX11_summedBy_74, sX11_summedBy_77, sX11_summedBy_78, sX11_summedBy_81, sX11_summedBy_84, sX11_summedBy_85, ↓hk103, ↓hf103_5, ↓hf103_6, ↓hg107, ↓hg108, h8', Int.toNat_natCast, t1, t2, t3, x1, x2, x3'', i32_of, b7, y0, y1, y2, y3, ↓bndl_at r1', ↓bndl_at s1, lcm_eq, ↓if_pos, ↓if_neg]
            rw [if_neg (fun q : ¬ True => q trivial)]
          · rw [qK, i2]
            unfold ckv
            dsimp only
            rw [a12] at e1 e2
            rw [e1, e2]
            show (if f = 0 then d else z % 4) = _
            rw [if_neg q]
end MS
