/-! a rule read is a rule in both -/
theorem stepE_cg {u v : Int → Int} {o : Int} {st : List Int} (h : ∀ w, 0 ≤ w → w ≤ 10 → u w = v w) (ho : 0 ≤ o) : stepE u o st = stepE v o st := by
  unfold stepE
  by_cases c1 : 100 ≤ o
  · rw [if_pos c1, if_pos c1]
  · rw [if_neg c1, if_neg c1]
    by_cases c2 : o ≤ 10
    · rw [if_pos c2, if_pos c2, h o ho c2]
    · rw [if_neg c2, if_neg c2]
theorem ev_cg {u v : Int → Int} (h : ∀ w, 0 ≤ w → w ≤ 10 → u w = v w) : ∀ (M st : List Int), (∀ o, o ∈ M → (0 : Int) ≤ o) → ev u M st = ev v M st
  | [], _, _ => rfl
  | o :: M, st, ho => by
    rw [ev, ev, ev_cg h M st (fun p hp => ho p (List.mem_cons_of_mem _ hp))]
    congr 1
    funext x
    exact stepE_cg h (ho o (List.mem_cons_self ..))
theorem ckv_cg {u v : Int → Int} {c : List Int × Option (List Int)} {d : Int} (h : ∀ w, 0 ≤ w → w ≤ 10 → u w = v w) (k : kgd c) : ckv u c d = ckv v c d := by
  have h0 : ∀ o, o ∈ mof c → (0 : Int) ≤ o := fun o ho => by have := k.2.2 o ho; omega
  obtain ⟨S, ot⟩ := c
  cases ot with
  | none =>
    unfold ckv
    dsimp only
    rw [ev_cg h S [] h0]
  | some T =>
    have e1 := ev_cg h S [] (fun o ho => h0 o (List.mem_append_right T ho))
    have e2 := ev_cg h T [] (fun o ho => h0 o (List.mem_append_left S ho))
    unfold ckv
    dsimp only
    rw [e1, e2]
theorem qK_cg {u v : Int → Int} (h : ∀ w, 0 ≤ w → w ≤ 10 → u w = v w) : ∀ (K : zK) (d : Int), (∀ c, c ∈ K → kgd c) → qK u K d = qK v K d
  | [], _, _ => rfl
  | c :: K, d, k => by
    rw [qK, qK, ckv_cg h (k c (List.mem_cons_self ..)), qK_cg h K _ (fun e he => k e (List.mem_cons_of_mem _ he))]
theorem wat_mem : ∀ (M : List Int) (j : Nat), j < M.length → wat M j ∈ M
  | [], j, h => by simp at h
  | o :: M, j, h => by
    rw [List.length_cons] at h
    rw [wat]
    by_cases q : j = M.length
    · rw [if_pos q]; exact List.mem_cons_self ..
    · rw [if_neg q]; exact List.mem_cons_of_mem _ (wat_mem M j (by omega))
/-- what a rule read has *)-/
def rgd (K : zK) : Prop := K.length ≤ 12 ∧ (Ofl K).length ≤ 400 ∧ (∀ c, c ∈ K → kgd c) ∧ ∀ o, o ∈ Ofl K → okO o
theorem pvn_K : ∀ (K : zK) (c : List Int × Option (List Int)), c ∈ K → pvn (mof c) ≤ pvn (Ofl K) ∧ ∀ o, o ∈ mof c → o ∈ Ofl K
  | [], c, h => by cases h
  | d :: K, c, h => by
    have e : pvn (Ofl (d :: K)) = pvn (mof d) + pvn (Ofl K) := by
      rw [Ofl, pvn, pvn_app, if_neg (by split <;> omega), Nat.add_zero]
    rcases List.mem_cons.mp h with y | y
    · rw [y]
      exact ⟨by omega, fun o ho => by rw [Ofl]; exact List.mem_cons_of_mem _ (List.mem_append_left _ ho)⟩
    · have i := pvn_K K c y
      exact ⟨by omega, fun o ho => by rw [Ofl]; exact List.mem_cons_of_mem _ (List.mem_append_right _ (i.2 o ho))⟩
theorem rgd_of {A : Nat → Nat → Int} {t : Nat} {K : zK} {v : Nat → Int} (rt : RT A t K) (h12 : K.length ≤ 12) (hl : (Ofl K).length ≤ 400) (hv : vO (Ofl K) v) (v6 : v 6 ≤ 60) (hm : mks (Ofl K) v) (v4 : v 4 = 0) (v5 : v 5 = (K.length : Int)) : rgd K := by
  refine ⟨h12, hl, fun c hc => ?_, hv.2⟩
  unfold mks at hm
  rw [if_pos v4, v5, Int.add_zero] at hm
  have m0 := mkn_0 _ ((mkn_K K).2 hm c hc)
  have pk := pvn_K K c hc
  have := hv.1
  refine ⟨rt.2.2.2.2 c hc, by omega, fun o ho => ?_⟩
  have a := hv.2 o (pk.2 o ho)
  have b := m0 o ho
  unfold okO at a
  omega
theorem RU_of {A : Nat → Nat → Int} {E : zE} {i : Nat} {K : zK} (hi : i < 6) (rt : RT A i K) (rg : rgd K) (hE : E.1 i = (Ofl K).length) (hA : ∀ j, j < (Ofl K).length → A (129 + 3 * i) j = wat (Ofl K) j) : RU A E i := by
  obtain ⟨g1, g2, g3, g4⟩ := rg
  obtain ⟨t1, t2, t3, t4, t5⟩ := rt
  have ol := OM_len K
  refine ⟨fun u => qK u K 0, fun u v h => qK_cg h K 0 g3, fun u => qK_b K 0 (by omega), ⟨by omega, fun j hj => ?_⟩, fun u sk => ?_, ?_⟩
  · rw [hE] at hj
    rw [hA j hj]
    exact g4 _ (wat_mem _ _ hj)
  · obtain ⟨sk', e⟩ := q_K (u := u) (od := A (129 + 3 * i)) K 0 sk g3 hA
    rw [Nat.zero_add] at e
    rw [hE, e]
    rfl
  · intro A' F' E' a1 a2 a3
    obtain ⟨A2, F2, f1, r⟩ := m_sum_K (E := E') (i := i) (N := K.length) hi g1 K A' F' vn (by rw [a3]; exact t4) (Nat.le_refl _) (by omega) (tab_c K (fun j hj => a2 _ (by omega) (by omega)) t3) (fun j hj => by rw [a1 _ (by omega) (by omega)]; exact t2 j hj) g3
    have st : cl mX11_summedBy [vr 103, vi (i : Int)] (HP A' F' E') = rn mX11_summedBy 2 [vr 103, vi (i : Int), vi 0, vn] [] (HP A' F' E') := by
      simp (disch := omega) only [eX11_summedBy, sX11_summedBy_0, sX11_summedBy_1, sX11_summedBy_3, sX11_summedBy_4, sX11_summedBy_7, sX11_summedBy_8, sX11_summedBy_9, sX11_summedBy_12, sX11_summedBy_14, sX11_summedBy_15, sX11_summedBy_16, sX11_summedBy_17, sX11_summedBy_18, sX11_summedBy_19, sX11_summedBy_20, sX11_summedBy_21, sX11_summedBy_22, sX11_summedBy_25, sX11_summedBy_26, sX11_summedBy_27, sX11_summedBy_28, sX11_summedBy_29, sX11_summedBy_32, sX11_summedBy_33, sX11_summedBy_34, sX11_summedBy_35, sX11_summedBy_38, sX11_summedBy_39, sX11_summedBy_40, sX11_summedBy_41, sX11_summedBy_42, sX11_summedBy_43, sX11_summedBy_46, sX11_summedBy_47, sX11_summedBy_48, sX11_summedBy_49, sX11_summedBy_50, sX11_summedBy_53, sX11_summedBy_54, sX11_summedBy_55, sX11_summedBy_58, sX11_summedBy_59, sX11_summedBy_60, sX11_summedBy_61, sX11_summedBy_64, sX11_summedBy_65, sX11_summedBy_66, sX11_summedBy_67, sX11_summedBy_70, sX11_summedBy_71, sX11_summedBy_72, sX11_summedBy_73, sX11_summedBy_74, sX11_summedBy_77, sX11_summedBy_78, sX11_summedBy_81, sX11_summedBy_84, sX11_summedBy_85]
    have mf : mfr A' F' A2 F2 := ⟨fun j b _ _ => f1.1 j b, f1.2.1, f1.2.2, fun j _ => by rw [f1.1 113 (by omega)]⟩
    rcases r with ⟨v, r1, r2⟩ | ⟨x3, r1, r2⟩
    · exact ⟨A2, F2, v, by rw [st]; exact r1, mf, f1.1 113 (by omega), (r2 0).symm⟩
    · refine ⟨A2, F2, 0, ?_, mf, f1.1 113 (by omega), (r2 0).symm⟩
      have h8 : A2 108 i = (K.length : Int) := by rw [f1.1 108 (by omega), a3]; exact t4
      rw [st, r1, sX11_summedBy_2]
      simp (disch := omega) only [eX11_summedBy, sX11_summedBy_0, sX11_summedBy_1, sX11_summedBy_3, sX11_summedBy_4, sX11_summedBy_7, sX11_summedBy_8, sX11_summedBy_9, sX11_summedBy_12, sX11_summedBy_14, sX11_summedBy_15, sX11_summedBy_16, sX11_summedBy_17, sX11_summedBy_18, sX11_summedBy_19, sX11_summedBy_20, sX11_summedBy_21, sX11_summedBy_22, sX11_summedBy_25, sX11_summedBy_26, sX11_summedBy_27, sX11_summedBy_28, sX11_summedBy_29, sX11_summedBy_32, sX11_summedBy_33, sX11_summedBy_34, sX11_summedBy_35, sX11_summedBy_38, sX11_summedBy_39, sX11_summedBy_40, sX11_summedBy_41, sX11_summedBy_42, sX11_summedBy_43, sX11_summedBy_46, sX11_summedBy_47, sX11_summedBy_48, sX11_summedBy_49, sX11_summedBy_50, sX11_summedBy_53, sX11_summedBy_54, sX11_summedBy_55, sX11_summedBy_58, sX11_summedBy_59, sX11_summedBy_60, sX11_summedBy_61, sX11_summedBy_64, sX11_summedBy_65, sX11_summedBy_66, sX11_summedBy_67, sX11_summedBy_70, sX11_summedBy_71, sX11_summedBy_72, sX11_summedBy_73, sX11_summedBy_74, sX11_summedBy_77, sX11_summedBy_78, sX11_summedBy_81, sX11_summedBy_84, sX11_summedBy_85, ↓hf103_6, ↓hg108, Int.toNat_natCast, h8, ↓if_pos, ↓if_neg]
