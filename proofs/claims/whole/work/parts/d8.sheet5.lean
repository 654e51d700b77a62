/-! a sheet read by the model, all clauses -/
theorem wz_cn : cn 82 wz := fun j hj => by unfold wz; rw [if_neg (by omega)]
section RA
variable {b : Nat → Int} {L p va : Int}
theorem tok_k {k : Int} (hb : ∀ j, 0 ≤ b j ∧ b j ≤ 255) (h0 : 0 ≤ p) (h1 : p ≤ L) (k0 : 0 ≤ k ∧ k < 256) (k1 : k ≠ 60 ∧ k ≠ 62) (kd : dgt k = false) (kl : ltr k = false) : ((tnx b L p va).2.2.1 = k ↔ byt b L (sk b L p) = k) ∧ (byt b L (sk b L p) = k → (tnx b L p va).1 = sk b L p + 1) := by
  have kb := sk_b (b := b) h1
  obtain ⟨t1, ⟨u1, u2, u3, u4, u5⟩ | ⟨u1, u2, u3, u4⟩ | ⟨u1, u2, u3, u4⟩ | ⟨u1, u2, u3, u5, u4⟩⟩ := tnx_c (va := va) hb h0 h1
  · rw [u2, u5]; dsimp only; omega
  · rw [u4]; dsimp only
    refine ⟨⟨fun q => by omega, fun q => ?_⟩, fun q => ?_⟩
    · rw [q, kd] at u2; cases u2
    · rw [q, kd] at u2; cases u2
  · rw [u4]; dsimp only
    refine ⟨⟨fun q => by omega, fun q => ?_⟩, fun q => ?_⟩
    · rw [q, kl] at u3; cases u3
    · rw [q, kl] at u3; cases u3
  · rw [u4, u5]; dsimp only
    unfold rsg
    by_cases y : (b (sk b L p).toNat = 60 ∨ b (sk b L p).toNat = 62) ∧ byt b L (sk b L p + 1) = 61
    · rw [if_pos y]; dsimp only
      split <;> omega
    · rw [if_neg y]; dsimp only; omega
theorem tok_e (hb : ∀ j, 0 ≤ b j ∧ b j ≤ 255) (h0 : 0 ≤ p) (h1 : p ≤ L) : (tnx b L p va).2.2.1 = -1 ↔ byt b L (sk b L p) = -1 := by
  have kb := sk_b (b := b) h1
  have bb := hb (sk b L p).toNat
  obtain ⟨t1, ⟨u1, u2, u3, u4, u5⟩ | ⟨u1, u2, u3, u4⟩ | ⟨u1, u2, u3, u4⟩ | ⟨u1, u2, u3, u5, u4⟩⟩ := tnx_c (va := va) hb h0 h1
  · rw [u2, u5]
  · rw [u4, byt_in (by omega) u1]; dsimp only; omega
  · rw [u4, byt_in (by omega) u1]; dsimp only; omega
  · have rk := rsg_k (b := b) (L := L) (s := sk b L p) (x := b (sk b L p).toNat) bb.1
    rw [u4, u5]; dsimp only; omega
variable {W nf : Nat → Int} {n : Int} {X : Int × Int × Int × Int}
theorem srd_e {m : Nat} (hb : ∀ j, 0 ≤ b j ∧ b j ≤ 255) (hX : t4k L X) : srd b cCl 21 L (m + 1) n W X nf = (if (scl b L n W X nf (cwd b L (sk b L X.1))).1 = 0 then (if (tnx b L (scl b L n W X nf (cwd b L (sk b L X.1))).2.2.1.1 (scl b L n W X nf (cwd b L (sk b L X.1))).2.2.1.2.2.2).2.2.1 = -1 then (0, (scl b L n W X nf (cwd b L (sk b L X.1))).2.1, tnx b L (scl b L n W X nf (cwd b L (sk b L X.1))).2.2.1.1 (scl b L n W X nf (cwd b L (sk b L X.1))).2.2.1.2.2.2, (scl b L n W X nf (cwd b L (sk b L X.1))).2.2.2) else if (tnx b L (scl b L n W X nf (cwd b L (sk b L X.1))).2.2.1.1 (scl b L n W X nf (cwd b L (sk b L X.1))).2.2.1.2.2.2).2.2.1 = 59 then srd b cCl 21 L m (n + 1) (scl b L n W X nf (cwd b L (sk b L X.1))).2.1 (tnx b L (scl b L n W X nf (cwd b L (sk b L X.1))).2.2.1.1 (scl b L n W X nf (cwd b L (sk b L X.1))).2.2.1.2.2.2) (scl b L n W X nf (cwd b L (sk b L X.1))).2.2.2 else (1 + 8 * (tnx b L (scl b L n W X nf (cwd b L (sk b L X.1))).2.2.1.1 (scl b L n W X nf (cwd b L (sk b L X.1))).2.2.1.2.2.2).2.1 + 0, (scl b L n W X nf (cwd b L (sk b L X.1))).2.1, tnx b L (scl b L n W X nf (cwd b L (sk b L X.1))).2.2.1.1 (scl b L n W X nf (cwd b L (sk b L X.1))).2.2.1.2.2.2, (scl b L n W X nf (cwd b L (sk b L X.1))).2.2.2)) else scl b L n W X nf (cwd b L (sk b L X.1))) := by
  obtain ⟨⟨x1, x2⟩, x3, x4, x5⟩ := id hX
  have kb := sk_b (b := b) x3
  have tc := (tnx_c (va := X.2.2.2) hb x2 x3).1
  have tb := t_pl (b := b) (L := L) (p := X.1) (va := X.2.2.2) ⟨x2, x3⟩ ⟨x4, x5⟩
  have e : (if (tnx b L X.1 X.2.2.2).2.2.1 = -3 then wrd cCl b 21 (tnx b L X.1 X.2.2.2).2.1 (tnx b L X.1 X.2.2.2).1 (21 + 1) 0 0 0 else -1) = cwd b L (sk b L X.1) := cl_wd hb ⟨x2, x3⟩
  rw [srd]
  dsimp only
  rw [e]
  unfold scl
  generalize cwd b L (sk b L X.1) = c at *
  generalize tnx b L X.1 X.2.2.2 = X1 at *
  have sb := sfc_b (G := W 1) (c := c) (b := n)
  by_cases z : sfc (W 1) c n = -1
  · rw [if_pos z, if_pos z]
    have rw' := rnu_w (f := b) (W := W) (L := L) (c := c) (smn c) 0 X1 nf
    have rt := rnu_t (f := b) (W := W) (L := L) (c := c) hb (smn c) 0 X1 nf ⟨⟨by omega, tb.1.1⟩, tb.1.2, tb.2⟩
    generalize rnu b W L c (smn c) 0 X1 nf = R at *
    by_cases y : R.1 = -1
    · rw [if_pos y, if_pos y]; dsimp only; rw [if_pos rfl]
    · have := rt.1.1
      rw [if_neg y, if_neg y]; dsimp only; rw [if_neg (by omega)]
  · rw [if_neg z, if_neg z]; dsimp only; rw [if_neg (by omega)]
theorem scl_t (hb : ∀ j, 0 ≤ b j ∧ b j ≤ 255) (hL : L ≤ 400) (hX : t4k L X) {c : Int} : t4k L (scl b L n W X nf c).2.2.1 ∧ (scl b L n W X nf c).2.2.1.2.1 ≤ 400 := by
  obtain ⟨⟨x1, x2⟩, x3, x4, x5⟩ := id hX
  have kb := sk_b (b := b) x3
  have tc := (tnx_c (va := X.2.2.2) hb x2 x3).1
  have tb := t_pl (b := b) (L := L) (p := X.1) (va := X.2.2.2) ⟨x2, x3⟩ ⟨x4, x5⟩
  have t1 : t4k L (tnx b L X.1 X.2.2.2) := ⟨⟨by omega, tb.1.1⟩, tb.1.2, tb.2⟩
  have rt := rnu_t (f := b) (W := W) (L := L) (c := c) hb (smn c) 0 (tnx b L X.1 X.2.2.2) nf t1
  have rs := rnu_s (f := b) (W := W) (L := L) (c := c) hL (smn c) 0 (tnx b L X.1 X.2.2.2) nf t1 (by omega)
  unfold scl
  split
  · split
    · exact ⟨rt, rs⟩
    · exact ⟨rt, rs⟩
  · exact ⟨t1, by dsimp only; omega⟩
/-- what the class's reading leaves of the text -/
theorem srd_t (hb : ∀ j, 0 ≤ b j ∧ b j ≤ 255) (hL : L ≤ 400) : ∀ (m : Nat) (n : Int) (W : Nat → Int) (X : Int × Int × Int × Int) (nf : Nat → Int), t4k L X → X.2.1 ≤ 400 → t4k L (srd b cCl 21 L m n W X nf).2.2.1 ∧ (srd b cCl 21 L m n W X nf).2.2.1.2.1 ≤ 400
  | 0, _, _, _, _, h, k => ⟨h, k⟩
  | m + 1, n, W, X, nf, h, k => by
    rw [srd_e hb h]
    have st := scl_t (n := n) (W := W) (nf := nf) (c := cwd b L (sk b L X.1)) hb hL h
    generalize scl b L n W X nf (cwd b L (sk b L X.1)) = S at *
    obtain ⟨⟨x1, x2⟩, x3, x4, x5⟩ := st.1
    have kb := sk_b (b := b) x3
    have tc := (tnx_c (va := S.2.2.1.2.2.2) hb x2 x3).1
    have tb := t_pl (b := b) (L := L) (p := S.2.2.1.1) (va := S.2.2.1.2.2.2) ⟨x2, x3⟩ ⟨x4, x5⟩
    have t1 : t4k L (tnx b L S.2.2.1.1 S.2.2.1.2.2.2) := ⟨⟨by omega, tb.1.1⟩, tb.1.2, tb.2⟩
    split
    · split
      · exact ⟨t1, by dsimp only; omega⟩
      · split
        · exact srd_t hb hL m (n + 1) _ _ _ t1 (by omega)
        · exact ⟨t1, by dsimp only; omega⟩
    · exact st
theorem shR_1 {R : Nat → Int} (h : shR R W n) (hn : n ≠ 0) : shR R W 1 := ⟨by rw [h.1, if_neg hn, if_neg (by omega)], h.2⟩
theorem swo_1 (h : swo W n) (hn : n ≠ 0) : swo W 1 := ⟨h.1, fun q => by omega, fun _ => h.2.2 hn⟩
variable {A F : Nat → Nat → Int} {E : zE}
theorem m_rsh_l : ∀ (m : Nat) (n : Int) (W : Nat → Int) (X : Int × Int × Int × Int) (nf : Nat → Int) (A F : Nat → Nat → Int), n + m = 41 → (0 ≤ n ∧ n ≤ 40) → TM A F b L → F 103 9 = 0 → F 103 11 = 6 → F 103 14 = n → t4k L X → plc F b L X.1 → shR (A 109) W n → swo W n → ∃ z H A' F' z', cl mX11_clauseHere [vr 103] (HP A F E) = some (vi z, H) ∧ rn mX11_readsAll 35 [vr 103, vi z] [] H = rn mX11_readsAll 88 [vr 103, vi z'] [] (HP A' F' E) ∧ sfr A F A' F' ∧ F' 103 9 = (srd b cCl 21 L m n W X nf).1 ∧ ((srd b cCl 21 L m n W X nf).1 = 0 → shR (A' 109) (srd b cCl 21 L m n W X nf).2.1 1 ∧ swo (srd b cCl 21 L m n W X nf).2.1 1) := by
  intro m
  induction m with
  | zero => intro n W X nf A F hm hn; omega
  | succ m ih =>
    intro n W X nf A F hm hn tm h9 h11 h14 hX pc hr hw
    have hb := tm.2.2.1
    have L4 := tm.2.1
    obtain ⟨⟨x1, x2⟩, x3, x4, x5⟩ := id hX
    obtain ⟨A', F', f1, ⟨g1, g2, g3, g4, g5, g6, g7, g8⟩ | ⟨g1, g2, g3⟩⟩ := m_clause (E := E) (nf := nf) tm h9 h11 h14 hn ⟨x2, x3⟩ ⟨x4, x5⟩ pc hr hw
    · have st := scl_t (n := n) (W := W) (nf := nf) (c := cwd b L (sk b L X.1)) hb L4.2 hX
      rw [srd_e hb hX, if_pos g1]
      generalize scl b L n W X nf (cwd b L (sk b L X.1)) = S at *
      obtain ⟨⟨y1, y2⟩, y3, y4, y5⟩ := id st.1
      have kb := sk_b (b := b) y3
      have tc := (tnx_c (va := S.2.2.1.2.2.2) hb y2 y3).1
      have tb := t_pl (b := b) (L := L) (p := S.2.2.1.1) (va := S.2.2.1.2.2.2) ⟨y2, y3⟩ ⟨y4, y5⟩
      have t1 : t4k L (tnx b L S.2.2.1.1 S.2.2.1.2.2.2) := ⟨⟨by omega, tb.1.1⟩, tb.1.2, tb.2⟩
      have k59 := tok_k (k := 59) (va := S.2.2.1.2.2.2) hb y2 y3 (by omega) (by omega) (by decide) (by decide)
      have ke := tok_e (va := S.2.2.1.2.2.2) hb y2 y3
      have tm' : TM A' F' b L := TM_a ⟨by rw [f1.2.2 1 (by omega) (by omega) (by omega) (by omega)]; exact tm.1, tm.2⟩ (f1.1 104 (by omega))
      have se := m_see (E := E) tm' rfl g5.1.1 g5.1.2
      rw [g5.2] at se
      have si := sk_id (b := b) (L := L) y2 y3
      have tm1 : TM A' (fF F' 8 (sk b L S.2.2.1.1)) b L := TM_f tm' (by omega)
      have se2 := m_see (E := E) (p := sk b L S.2.2.1.1) tm1 fF_s (by omega) kb.2
      rw [si, fF_fF] at se2
      generalize tnx b L S.2.2.1.1 S.2.2.1.2.2.2 = X2 at *
      generalize hs : sk b L S.2.2.1.1 = s at *
      have e8 : fF F' 8 s 103 8 = s := fF_s
      have e9 : fF F' 8 s 103 9 = 0 := by rw [fF_n (by omega)]; exact g3
      by_cases c1 : byt b L s = -1
      · rw [if_pos (ke.mpr c1)]
        rw [c1] at se se2
        refine ⟨1, _, A', fF F' 8 s, 1, g2, ?_, sfr_t f1 (sfr_f (Or.inl rfl)), e9, fun _ => ⟨shR_1 g6 (by omega), swo_1 g7 (by omega)⟩⟩
        rw [sX11_readsAll_35]
        simp (disch := omega) only [eX11_readsAll, sX11_readsAll_0, sX11_readsAll_1, sX11_readsAll_4, sX11_readsAll_5, sX11_readsAll_8, sX11_readsAll_9, sX11_readsAll_10, sX11_readsAll_11, sX11_readsAll_12, sX11_readsAll_15, sX11_readsAll_16, sX11_readsAll_17, sX11_readsAll_20, sX11_readsAll_21, sX11_readsAll_22, sX11_readsAll_25, sX11_readsAll_26, sX11_readsAll_27, sX11_readsAll_30, sX11_readsAll_31, sX11_readsAll_34, sX11_readsAll_36, sX11_readsAll_39, sX11_readsAll_40, sX11_readsAll_43, sX11_readsAll_45, sX11_readsAll_48, sX11_readsAll_49, sX11_readsAll_50, sX11_readsAll_53, sX11_readsAll_54, sX11_readsAll_55, sX11_readsAll_58, sX11_readsAll_59, sX11_readsAll_62, sX11_readsAll_63, sX11_readsAll_66, sX11_readsAll_67, sX11_readsAll_70, sX11_readsAll_71, sX11_readsAll_74, sX11_readsAll_75, sX11_readsAll_78, sX11_readsAll_79, sX11_readsAll_80, sX11_readsAll_81, sX11_readsAll_84, sX11_readsAll_87, sX11_readsAll_89, sX11_readsAll_90, sX11_readsAll_93, sX11_readsAll_94, sX11_readsAll_97, sX11_readsAll_100, sX11_readsAll_101, sX11_readsAll_104, sX11_readsAll_105, ↓hk103, ↓bndi_at se, ↓bndi_at se2, ↓if_pos, ↓if_neg]
      · rw [if_neg (fun q => c1 (ke.mp q))]
        by_cases c2 : byt b L s = 59
        · rw [if_pos (k59.1.mpr c2)]
          have xp := k59.2 c2
          rw [c2] at se
          have tm2 : TM A' (fF F' 8 (s + 1)) b L := TM_f tm' (by omega)
          obtain ⟨z, H, A2, F2, z', u1, u2, u3, u4, u5⟩ := ih (n + 1) S.2.1 X2 S.2.2.2 A' (fF F' 8 (s + 1)) (by omega) (by omega) tm2 (by rw [fF_n (by omega)]; exact g3) (by rw [fF_n (by omega), f1.2.2 11 (by omega) (by omega) (by omega) (by omega)]; exact h11) (by rw [fF_n (by omega)]; exact g4) t1 (plc_i (by rw [fF_s, xp]) tb.1) g6 g7
          refine ⟨1, _, A2, F2, z', g2, ?_, sfr_t (sfr_t f1 (sfr_f (Or.inl rfl))) u3, u4, u5⟩
          have pt : aup (fF F' 8 s) 103 (fup (fF F' 8 s 103) 8 (s + 1)) = fF F' 8 (s + 1) := by
            show fF (fF F' 8 s) 8 (s + 1) = _
            rw [fF_fF]
          rw [sX11_readsAll_35, ← u2]
          simp (disch := omega) only [eX11_readsAll, sX11_readsAll_0, sX11_readsAll_1, sX11_readsAll_4, sX11_readsAll_5, sX11_readsAll_8, sX11_readsAll_9, sX11_readsAll_10, sX11_readsAll_11, sX11_readsAll_12, sX11_readsAll_15, sX11_readsAll_16, sX11_readsAll_17, sX11_readsAll_20, sX11_readsAll_21, sX11_readsAll_22, sX11_readsAll_25, sX11_readsAll_26, sX11_readsAll_27, sX11_readsAll_30, sX11_readsAll_31, sX11_readsAll_34, sX11_readsAll_36, sX11_readsAll_39, sX11_readsAll_40, sX11_readsAll_43, sX11_readsAll_45, sX11_readsAll_48, sX11_readsAll_49, sX11_readsAll_50, sX11_readsAll_53, sX11_readsAll_54, sX11_readsAll_55, sX11_readsAll_58, sX11_readsAll_59, sX11_readsAll_62, sX11_readsAll_63, sX11_readsAll_66, sX11_readsAll_67, sX11_readsAll_70, sX11_readsAll_71, sX11_readsAll_74, sX11_readsAll_75, sX11_readsAll_78, sX11_readsAll_79, sX11_readsAll_80, sX11_readsAll_81, sX11_readsAll_84, sX11_readsAll_87, sX11_readsAll_89, sX11_readsAll_90, sX11_readsAll_93, sX11_readsAll_94, sX11_readsAll_97, sX11_readsAll_100, sX11_readsAll_101, sX11_readsAll_104, sX11_readsAll_105, ↓hk103, ↓hf103_8, ↓hp103_8, ↓bndi_at se, e8, i32_of, pt, ↓bndi_at u1, ↓if_pos, ↓if_neg]
        · rw [if_neg (fun q => c2 (k59.1.mp q))]
          have fl := m_fails (A := A') (E := E) (k := 0) (at' := s) e9 (by omega) (by omega)
          refine ⟨1, _, A', fF (fF F' 8 s) 9 (1 + 8 * s + 0), 1, g2, ?_, sfr_t (sfr_t f1 (sfr_f (Or.inl rfl))) (sfr_f (Or.inr (Or.inl rfl))), ?_, fun q => ?_⟩
          · rw [sX11_readsAll_35]
            simp (disch := omega) only [eX11_readsAll, sX11_readsAll_0, sX11_readsAll_1, sX11_readsAll_4, sX11_readsAll_5, sX11_readsAll_8, sX11_readsAll_9, sX11_readsAll_10, sX11_readsAll_11, sX11_readsAll_12, sX11_readsAll_15, sX11_readsAll_16, sX11_readsAll_17, sX11_readsAll_20, sX11_readsAll_21, sX11_readsAll_22, sX11_readsAll_25, sX11_readsAll_26, sX11_readsAll_27, sX11_readsAll_30, sX11_readsAll_31, sX11_readsAll_34, sX11_readsAll_36, sX11_readsAll_39, sX11_readsAll_40, sX11_readsAll_43, sX11_readsAll_45, sX11_readsAll_48, sX11_readsAll_49, sX11_readsAll_50, sX11_readsAll_53, sX11_readsAll_54, sX11_readsAll_55, sX11_readsAll_58, sX11_readsAll_59, sX11_readsAll_62, sX11_readsAll_63, sX11_readsAll_66, sX11_readsAll_67, sX11_readsAll_70, sX11_readsAll_71, sX11_readsAll_74, sX11_readsAll_75, sX11_readsAll_78, sX11_readsAll_79, sX11_readsAll_80, sX11_readsAll_81, sX11_readsAll_84, sX11_readsAll_87, sX11_readsAll_89, sX11_readsAll_90, sX11_readsAll_93, sX11_readsAll_94, sX11_readsAll_97, sX11_readsAll_100, sX11_readsAll_101, sX11_readsAll_104, sX11_readsAll_105, ↓hk103, ↓hf103_8, ↓bndi_at se, ↓bndi_at se2, e8, ↓bndi_at fl, ↓if_pos c1, ↓if_pos c2, ↓if_neg c1, ↓if_pos, ↓if_neg]
          · rw [fF_s]; dsimp only; rw [tc]
          · dsimp only at q; omega
    · rw [srd_e hb hX, if_neg g1]
      refine ⟨0, _, A', F', 0, g2, ?_, f1, g3, fun q => absurd q g1⟩
      rw [sX11_readsAll_35]
      simp (disch := omega) only [eX11_readsAll, sX11_readsAll_0, sX11_readsAll_1, sX11_readsAll_4, sX11_readsAll_5, sX11_readsAll_8, sX11_readsAll_9, sX11_readsAll_10, sX11_readsAll_11, sX11_readsAll_12, sX11_readsAll_15, sX11_readsAll_16, sX11_readsAll_17, sX11_readsAll_20, sX11_readsAll_21, sX11_readsAll_22, sX11_readsAll_25, sX11_readsAll_26, sX11_readsAll_27, sX11_readsAll_30, sX11_readsAll_31, sX11_readsAll_34, sX11_readsAll_36, sX11_readsAll_39, sX11_readsAll_40, sX11_readsAll_43, sX11_readsAll_45, sX11_readsAll_48, sX11_readsAll_49, sX11_readsAll_50, sX11_readsAll_53, sX11_readsAll_54, sX11_readsAll_55, sX11_readsAll_58, sX11_readsAll_59, sX11_readsAll_62, sX11_readsAll_63, sX11_readsAll_66, sX11_readsAll_67, sX11_readsAll_70, sX11_readsAll_71, sX11_readsAll_74, sX11_readsAll_75, sX11_readsAll_78, sX11_readsAll_79, sX11_readsAll_80, sX11_readsAll_81, sX11_readsAll_84, sX11_readsAll_87, sX11_readsAll_89, sX11_readsAll_90, sX11_readsAll_93, sX11_readsAll_94, sX11_readsAll_97, sX11_readsAll_100, sX11_readsAll_101, sX11_readsAll_104, sX11_readsAll_105, ↓if_pos, ↓if_neg]
theorem m_readsAll_s {nf : Nat → Int} {s kd va : Int} (tm : TM A F b L) (h11 : F 103 11 = 6) (hr : shR (A 109) wz 0) (s0 : 0 ≤ s ∧ s ≤ 400) (v0 : -1 ≤ va ∧ va ≤ 99999) : ∃ A' F', cl mX11_readsAll [vr 103] (HP A F E) = some (vi (if (srd b cCl 21 L 41 0 wz (0, s, kd, va) nf).1 = 0 then 1 else 0), HP A' F' E) ∧ (∀ j, j ≠ 106 → j ≠ 109 → A' j = A j) ∧ (∀ j, j ≠ 103 → F' j = F j) ∧ (∀ k, k ≠ 1 → k ≠ 8 → k ≠ 9 → k ≠ 10 → k ≠ 12 → k ≠ 14 → F' 103 k = F 103 k) ∧ F' 103 1 = 0 ∧ F' 103 9 = (srd b cCl 21 L 41 0 wz (0, s, kd, va) nf).1 ∧ ((srd b cCl 21 L 41 0 wz (0, s, kd, va) nf).1 = 0 → shR (A' 109) (srd b cCl 21 L 41 0 wz (0, s, kd, va) nf).2.1 1 ∧ swo (srd b cCl 21 L 41 0 wz (0, s, kd, va) nf).2.1 1) := by
  have L4 := tm.2.1
  generalize hF0 : fF (fF (fF (fF F 14 0) 8 0) 9 0) 12 0 = F0
  have k0 : ∀ k, k ≠ 8 → k ≠ 9 → k ≠ 12 → k ≠ 14 → F0 103 k = F 103 k := fun k a c d e => by rw [← hF0, fF_n d, fF_n c, fF_n a, fF_n e]
  have tm0 : TM (aup A 106 (fup (A 106) 6 0)) F0 b L := ⟨by rw [k0 1 (by omega) (by omega) (by omega) (by omega)]; exact tm.1, tm.2.1, tm.2.2.1, fun j hj => by rw [aup_n (by omega)]; exact tm.2.2.2 j hj⟩
  have f8 : F0 103 8 = 0 := by rw [← hF0, fF_n (by omega), fF_n (by omega), fF_s]
  obtain ⟨z, H, A', F', z', u1, u2, u3, u4, u5⟩ := m_rsh_l (E := E) 41 0 wz (0, s, kd, va) nf (aup A 106 (fup (A 106) 6 0)) F0 (by omega) (by omega) tm0 (by rw [← hF0, fF_n (by omega), fF_s]) (by rw [k0 11 (by omega) (by omega) (by omega) (by omega)]; exact h11) (by rw [← hF0, fF_n (by omega), fF_n (by omega), fF_n (by omega), fF_s]) ⟨⟨s0.1, by show (0 : Int) ≤ 0; omega⟩, L4.1, v0⟩ (plc_i f8 ⟨by show (0 : Int) ≤ 0; omega, L4.1⟩) (by rw [aup_n (by omega)]; exact hr) ⟨wz_cn, fun _ => rfl, fun q => absurd rfl q⟩
  generalize srd b cCl 21 L 41 0 wz (0, s, kd, va) nf = S at *
  have pt : fF (fF (fF (fF F 14 0) 8 0) 9 0) 12 0 = aup F 103 (fup (fup (fup (fup (F 103) 14 0) 8 0) 9 0) 12 0) := by
    unfold fF; rw [aup_aup, aup_aup, aup_aup, aup_s, aup_s, aup_s]
  rw [hF0] at pt
  refine ⟨A', fF F' 1 0, ?_, fun j a c => ?_, fun j a => ?_, fun k a c d e f g => ?_, fF_s, ?_, u5⟩
  · simp (disch := omega) only [eX11_readsAll, sX11_readsAll_0, sX11_readsAll_1, sX11_readsAll_4, sX11_readsAll_5, sX11_readsAll_8, sX11_readsAll_9, sX11_readsAll_10, sX11_readsAll_11, sX11_readsAll_12, sX11_readsAll_15, sX11_readsAll_16, sX11_readsAll_17, sX11_readsAll_20, sX11_readsAll_21, sX11_readsAll_22, sX11_readsAll_25, sX11_readsAll_26, sX11_readsAll_27, sX11_readsAll_30, sX11_readsAll_31, sX11_readsAll_34, sX11_readsAll_36, sX11_readsAll_39, sX11_readsAll_40, sX11_readsAll_43, sX11_readsAll_45, sX11_readsAll_48, sX11_readsAll_49, sX11_readsAll_50, sX11_readsAll_53, sX11_readsAll_54, sX11_readsAll_55, sX11_readsAll_58, sX11_readsAll_59, sX11_readsAll_62, sX11_readsAll_63, sX11_readsAll_66, sX11_readsAll_67, sX11_readsAll_70, sX11_readsAll_71, sX11_readsAll_74, sX11_readsAll_75, sX11_readsAll_78, sX11_readsAll_79, sX11_readsAll_80, sX11_readsAll_81, sX11_readsAll_84, sX11_readsAll_87, sX11_readsAll_88, sX11_readsAll_89, sX11_readsAll_90, sX11_readsAll_93, sX11_readsAll_94, sX11_readsAll_97, sX11_readsAll_100, sX11_readsAll_101, sX11_readsAll_104, sX11_readsAll_105, ↓hk103, ↓hf103_4, ↓hf103_11, ↓hs106, ↓hp103_14, ↓hp103_8, ↓hp103_9, ↓hp103_12, h11, Int.reduceToNat, aup_s, aup_aup]
    rw [← pt]
    simp (disch := omega) only [↓bndi_at u1]
    rw [u2]
    by_cases y : S.1 = 0
    · rw [if_pos y]
      have e9 : fF F' 1 0 103 9 = 0 := by rw [fF_n (by omega), u4]; exact y
      have q : ∀ L st, rn mX11_readsAll 93 L st (HP A' (aup F' 103 (fup (F' 103) 1 0)) E) = rn mX11_readsAll 93 L st (HP A' (fF F' 1 0) E) := fun _ _ => rfl
      simp (disch := omega) only [eX11_readsAll, sX11_readsAll_0, sX11_readsAll_1, sX11_readsAll_4, sX11_readsAll_5, sX11_readsAll_8, sX11_readsAll_9, sX11_readsAll_10, sX11_readsAll_11, sX11_readsAll_12, sX11_readsAll_15, sX11_readsAll_16, sX11_readsAll_17, sX11_readsAll_20, sX11_readsAll_21, sX11_readsAll_22, sX11_readsAll_25, sX11_readsAll_26, sX11_readsAll_27, sX11_readsAll_30, sX11_readsAll_31, sX11_readsAll_34, sX11_readsAll_36, sX11_readsAll_39, sX11_readsAll_40, sX11_readsAll_43, sX11_readsAll_45, sX11_readsAll_48, sX11_readsAll_49, sX11_readsAll_50, sX11_readsAll_53, sX11_readsAll_54, sX11_readsAll_55, sX11_readsAll_58, sX11_readsAll_59, sX11_readsAll_62, sX11_readsAll_63, sX11_readsAll_66, sX11_readsAll_67, sX11_readsAll_70, sX11_readsAll_71, sX11_readsAll_74, sX11_readsAll_75, sX11_readsAll_78, sX11_readsAll_79, sX11_readsAll_80, sX11_readsAll_81, sX11_readsAll_84, sX11_readsAll_87, sX11_readsAll_88, sX11_readsAll_89, sX11_readsAll_90, sX11_readsAll_94, sX11_readsAll_97, sX11_readsAll_100, sX11_readsAll_101, sX11_readsAll_104, sX11_readsAll_105, ↓hp103_1]
      rw [q]
      simp (disch := omega) only [eX11_readsAll, sX11_readsAll_0, sX11_readsAll_1, sX11_readsAll_4, sX11_readsAll_5, sX11_readsAll_8, sX11_readsAll_9, sX11_readsAll_10, sX11_readsAll_11, sX11_readsAll_12, sX11_readsAll_15, sX11_readsAll_16, sX11_readsAll_17, sX11_readsAll_20, sX11_readsAll_21, sX11_readsAll_22, sX11_readsAll_25, sX11_readsAll_26, sX11_readsAll_27, sX11_readsAll_30, sX11_readsAll_31, sX11_readsAll_34, sX11_readsAll_36, sX11_readsAll_39, sX11_readsAll_40, sX11_readsAll_43, sX11_readsAll_45, sX11_readsAll_48, sX11_readsAll_49, sX11_readsAll_50, sX11_readsAll_53, sX11_readsAll_54, sX11_readsAll_55, sX11_readsAll_58, sX11_readsAll_59, sX11_readsAll_62, sX11_readsAll_63, sX11_readsAll_66, sX11_readsAll_67, sX11_readsAll_70, sX11_readsAll_71, sX11_readsAll_74, sX11_readsAll_75, sX11_readsAll_78, sX11_readsAll_79, sX11_readsAll_80, sX11_readsAll_81, sX11_readsAll_84, sX11_readsAll_87, sX11_readsAll_88, sX11_readsAll_89, sX11_readsAll_90, sX11_readsAll_93, sX11_readsAll_94, sX11_readsAll_97, sX11_readsAll_100, sX11_readsAll_101, sX11_readsAll_104, sX11_readsAll_105, ↓hf103_9, e9, ↓if_pos, ↓if_neg, ↓reduceIte, or_true, not_true_eq_false]
    · rw [if_neg y]
      have e9 : ¬ fF F' 1 0 103 9 = 0 := by rw [fF_n (by omega), u4]; exact y
      have q : ∀ L st, rn mX11_readsAll 93 L st (HP A' (aup F' 103 (fup (F' 103) 1 0)) E) = rn mX11_readsAll 93 L st (HP A' (fF F' 1 0) E) := fun _ _ => rfl
      simp (disch := omega) only [eX11_readsAll, sX11_readsAll_0, sX11_readsAll_1, sX11_readsAll_4, sX11_readsAll_5, sX11_readsAll_8, sX11_readsAll_9, sX11_readsAll_10, sX11_readsAll_11, sX11_readsAll_12, sX11_readsAll_15, sX11_readsAll_16, sX11_readsAll_17, sX11_readsAll_20, sX11_readsAll_21, sX11_readsAll_22, sX11_readsAll_25, sX11_readsAll_26, sX11_readsAll_27, sX11_readsAll_30, sX11_readsAll_31, sX11_readsAll_34, sX11_readsAll_36, sX11_readsAll_39, sX11_readsAll_40, sX11_readsAll_43, sX11_readsAll_45, sX11_readsAll_48, sX11_readsAll_49, sX11_readsAll_50, sX11_readsAll_53, sX11_readsAll_54, sX11_readsAll_55, sX11_readsAll_58, sX11_readsAll_59, sX11_readsAll_62, sX11_readsAll_63, sX11_readsAll_66, sX11_readsAll_67, sX11_readsAll_70, sX11_readsAll_71, sX11_readsAll_74, sX11_readsAll_75, sX11_readsAll_78, sX11_readsAll_79, sX11_readsAll_80, sX11_readsAll_81, sX11_readsAll_84, sX11_readsAll_87, sX11_readsAll_88, sX11_readsAll_89, sX11_readsAll_90, sX11_readsAll_94, sX11_readsAll_97, sX11_readsAll_100, sX11_readsAll_101, sX11_readsAll_104, sX11_readsAll_105, ↓hp103_1]
      rw [q]
      simp (disch := omega) only [eX11_readsAll, sX11_readsAll_0, sX11_readsAll_1, sX11_readsAll_4, sX11_readsAll_5, sX11_readsAll_8, sX11_readsAll_9, sX11_readsAll_10, sX11_readsAll_11, sX11_readsAll_12, sX11_readsAll_15, sX11_readsAll_16, sX11_readsAll_17, sX11_readsAll_20, sX11_readsAll_21, sX11_readsAll_22, sX11_readsAll_25, sX11_readsAll_26, sX11_readsAll_27, sX11_readsAll_30, sX11_readsAll_31, sX11_readsAll_34, sX11_readsAll_36, sX11_readsAll_39, sX11_readsAll_40, sX11_readsAll_43, sX11_readsAll_45, sX11_readsAll_48, sX11_readsAll_49, sX11_readsAll_50, sX11_readsAll_53, sX11_readsAll_54, sX11_readsAll_55, sX11_readsAll_58, sX11_readsAll_59, sX11_readsAll_62, sX11_readsAll_63, sX11_readsAll_66, sX11_readsAll_67, sX11_readsAll_70, sX11_readsAll_71, sX11_readsAll_74, sX11_readsAll_75, sX11_readsAll_78, sX11_readsAll_79, sX11_readsAll_80, sX11_readsAll_81, sX11_readsAll_84, sX11_readsAll_87, sX11_readsAll_88, sX11_readsAll_89, sX11_readsAll_90, sX11_readsAll_93, sX11_readsAll_94, sX11_readsAll_97, sX11_readsAll_100, sX11_readsAll_101, sX11_readsAll_104, sX11_readsAll_105, ↓hf103_9, ↓if_pos e9, ↓if_neg, ↓reduceIte, true_or]
  · rw [u3.1 j c, aup_n a]
  · rw [fF_o a, u3.2.1 j a, ← hF0, fF_o a, fF_o a, fF_o a, fF_o a]
  · rw [fF_n a, u3.2.2 k c d e g, k0 k c d f g]
  · rw [fF_n (by omega), u4]
end RA
