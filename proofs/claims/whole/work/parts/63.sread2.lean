/-! SheetReader.read: the loop -/
section SR
variable {h : zH} {t y a q n N : Nat} {L : Int} {f cw : Nat → Int}
/-- the heap while a sheet is read -/
def shp (h : zH) (t y a n : Nat) (L : Int) (W : Nat → Int) (X : Int × Int × Int × Int) (nf : Nat → Int) : zH := tx4 (zup (wst h a W) n (zar 1 3 nf)) t y L X
theorem shp_w {W nf : Nat → Int} {X : Int × Int × Int × Int} (hw : isW h a) (d3 : a ≠ t) (d4 : a ≠ n) (d5 : wr h a ≠ t) (d6 : wr h a ≠ n) : isW (shp h t y a n L W X nf) a ∧ wr (shp h t y a n L W X nf) a = wr h a ∧ wf (shp h t y a n L W X nf) a = W := by
  have w1 := isW_st (f := W) hw
  obtain ⟨v1, v2, -, v4⟩ := isW_off (c := zar 1 3 nf) w1 d4 (by rw [wr_st hw]; exact d6)
  obtain ⟨u1, u2, -, u4⟩ := tx4_w (t := t) (y := y) (L := L) (X := X) v1 d3 (by rw [v2, wr_st hw]; exact d5)
  exact ⟨u1, by rw [shp, u2, v2, wr_st hw], by rw [shp, u4, v4, wf_st hw]⟩
theorem shp_st {W W' nf : Nat → Int} {X : Int × Int × Int × Int} (hw : isW h a) (d3 : a ≠ t) (d4 : a ≠ n) (d5 : wr h a ≠ t) (d6 : wr h a ≠ n) : wst (shp h t y a n L W X nf) a W' = shp h t y a n L W' X nf := by
  have e := (shp_w (y := y) (L := L) (W := W) (nf := nf) (X := X) hw d3 d4 d5 d6).2.1
  rw [wst, e, shp, tx4_z (Ne.symm d5), shp, wst, zup_comm (h := zup h (wr h a) (zar 1 82 W)) (Ne.symm d6), zup_zup]
  rfl
set_option maxHeartbeats 2000000 in
theorem S_read_l (hy : h.2 y = zar 1 400 f) (hf : ∀ j, 0 ≤ f j ∧ f j ≤ 255) (hL : L ≤ 400) (hw : isW h a) (hq : h.2 q = zob 6 [vr n]) (hS : isS (zsa 0) N cw) (hc : ∀ s p, -1 ≤ wrd cw f N s p (N + 1) 0 0 0 ∧ wrd cw f N s p (N + 1) 0 0 0 ≤ 3) (d1 : y ≠ t) (d2 : y ≠ n) (d3 : a ≠ t) (d4 : a ≠ n) (d5 : wr h a ≠ t) (d6 : wr h a ≠ n) (d7 : q ≠ t) (d8 : q ≠ n) (d9 : n ≠ t) (d10 : y ≠ wr h a) (d11 : q ≠ wr h a) (d12 : n ≠ a) : ∀ (m : Nat) (b : Int) (W : Nat → Int) (X : Int × Int × Int × Int) (nf : Nat → Int) (x4 x5 : zV), b + m = 41 → 0 ≤ b → t4k L X → X.2.1 ≤ 400 → swk W → rn mX7_read 10 [vr q, vr t, vr a, vi b, x4, x5] [] (shp h t y a n L W X nf) = some (vi (srd f cw N L m b W X nf).1, shp h t y a n L (srd f cw N L m b W X nf).2.1 (srd f cw N L m b W X nf).2.2.1 (srd f cw N L m b W X nf).2.2.2) := by
  have tc : ∀ {W nf : Nat → Int} {X : Int × Int × Int × Int} {x : Option (zV × zH)}, cki ((shp h t y a n L W X nf).2 t) 7 x = x := t4_c
  have qc : ∀ (W nf : Nat → Int) (X : Int × Int × Int × Int), (shp h t y a n L W X nf).2 q = zob 6 [vr n] := fun W nf X => by rw [shp, tx4_o d7, zup_n d8, wst, zup_n d11]; exact hq
  have nc : ∀ (W nf : Nat → Int) (X : Int × Int × Int × Int), (shp h t y a n L W X nf).2 n = zar 1 3 nf := fun W nf X => by rw [shp, tx4_o d9]; exact zup_s
  have yb : ∀ (W nf : Nat → Int), (zup (wst h a W) n (zar 1 3 nf)).2 y = zar 1 400 f := fun W nf => by rw [zup_n d2, wst, zup_n d10]; exact hy
  have FA : ∀ (W nf : Nat → Int) (X : Int × Int × Int × Int) (w : Int), 0 ≤ X.2.1 → X.2.1 ≤ 400 → 0 ≤ w → w ≤ 7 → cl mX8_faultOf [vr t, vi w] (shp h t y a n L W X nf) = some (vi (1 + 8 * X.2.1 + w), shp h t y a n L W X nf) := fun W nf X w h0 h1 h2 h3 => T_faultOf h0 h1 h2 h3
  have KI : ∀ (W nf : Nat → Int) (X : Int × Int × Int × Int), cl mX8_kind [vr t] (shp h t y a n L W X nf) = some (vi X.2.2.1, shp h t y a n L W X nf) := fun W nf X => T_kind
  intro m
  induction m with
  | zero =>
    intro b W X nf x4 x5 hb b0 hX hs hk
    have g : 40 < b := by omega
    have F := FA W nf X 4 hX.1.1 hs (by omega) (by omega)
    rw [sX7_read_10]
    simp only [eX7_read, sX7_read_0, sX7_read_1, sX7_read_4, sX7_read_5, sX7_read_8, sX7_read_9, sX7_read_11, sX7_read_13, sX7_read_16, sX7_read_17, sX7_read_20, sX7_read_21, sX7_read_23, sX7_read_26, sX7_read_28, sX7_read_30, sX7_read_31, sX7_read_32, sX7_read_35, sX7_read_37, sX7_read_39, sX7_read_40, sX7_read_43, sX7_read_44, sX7_read_46, sX7_read_47, sX7_read_48, sX7_read_51, sX7_read_53, sX7_read_55, sX7_read_56, sX7_read_59, sX7_read_60, sX7_read_62, sX7_read_65, sX7_read_66, sX7_read_67, sX7_read_69, sX7_read_70, sX7_read_73, sX7_read_74, sX7_read_77, sX7_read_78, sX7_read_81, sX7_read_82, sX7_read_85, sX7_read_86, sX7_read_87, sX7_read_88, sX7_read_91, sX7_read_93, sX7_read_96, sX7_read_97, sX7_read_98, sX7_read_101, sX7_read_102, sX7_read_105, sX7_read_108, sX7_read_109, sX7_read_110, sX7_read_113, ↓if_pos g, ↓tc, ↓bndi_at F, srd]
  | succ m ih =>
    intro b W X nf x4 x5 hb b0 hX hs hk
    have g : ¬ 40 < b := by omega
    obtain ⟨N1, k1, s1⟩ := t4_next (t := t) (X := X) (yb W nf) d1 hL hX hf
    have N1' : cl mX8_next [vr t] (shp h t y a n L W X nf) = some (vn, shp h t y a n L W (tnx f L X.1 X.2.2.2) nf) := N1
    rw [sX7_read_10, srd]
    simp only []
    generalize tnx f L X.1 X.2.2.2 = X1 at *
    have x400 : X1.2.1 ≤ 400 := by have := k1.2.1; omega
    have WI : cl mX8_wordIn [vr t, vr (zsa 0)] (shp h t y a n L W X1 nf) = some (vi (if X1.2.2.1 = -3 then wrd cw f N X1.2.1 X1.1 (N + 1) 0 0 0 else -1), shp h t y a n L W X1 nf) := T_wordIn (yb W nf) d1 hS k1.1.1 s1 (by have := k1.2.1; omega)
    have cb : -1 ≤ (if X1.2.2.1 = -3 then wrd cw f N X1.2.1 X1.1 (N + 1) 0 0 0 else -1) ∧ (if X1.2.2.1 = -3 then wrd cw f N X1.2.1 X1.1 (N + 1) 0 0 0 else -1) ≤ 3 := by
      split
      · exact hc _ _
      · omega
    generalize (if X1.2.2.1 = -3 then wrd cw f N X1.2.1 X1.1 (N + 1) 0 0 0 else -1) = c at *
    obtain ⟨u1, u2, u3⟩ := shp_w (y := y) (L := L) (W := W) (nf := nf) (X := X1) hw d3 d4 d5 d6
    have SF := S_fault (c := c) (b := b) u1
    rw [u3] at SF
    have sb := sfc_b (G := W 1) (c := c) (b := b)
    by_cases z : sfc (W 1) c b = -1
    · rw [if_pos z]
      rw [z] at SF
      obtain ⟨cn1, cg⟩ := sfc_in z
      have RN : cl mX7_readNumbers [vr q, vi c, vr t, vr a] (shp h t y a n L W X1 nf) = some (vi (rnu f W L c (smn c) 0 X1 nf).1, shp h t y a n L W (rnu f W L c (smn c) 0 X1 nf).2.1 (rnu f W L c (smn c) 0 X1 nf).2.2) := by
        have w1 := isW_st (f := W) hw
        have r := S_readNumbers (h := wst h a W) (t := t) (y := y) (a := a) (q := q) (n := n) (L := L) (c := c) (f := f) (nf := nf) (X := X1) (by rw [wst, zup_n d10]; exact hy) hf hL w1 (by rw [wf_st hw]; exact hk.1.1) (by rw [wf_st hw]; exact hk.1.2) (by rw [wst, zup_n d11]; exact hq) (by omega) (by omega) d1 d2 d3 d4 (by rw [wr_st hw]; exact d5) (by rw [wr_st hw]; exact d6) d7 d8 d9 k1
        rw [wf_st hw] at r
        exact r
      have rt := rnu_t (f := f) (W := W) (L := L) (c := c) hf (smn c) 0 X1 nf k1
      have rs := rnu_s (f := f) (W := W) (L := L) (c := c) hL (smn c) 0 X1 nf k1 x400
      have rn' := (rnu_n (f := f) (W := W) (L := L) (c := c) (smn c) 0 X1 nf).2
      have rw' := rnu_w (f := f) (W := W) (L := L) (c := c) (smn c) 0 X1 nf
      generalize rnu f W L c (smn c) 0 X1 nf = R at *
      by_cases z2 : R.1 = -1
      · rw [if_pos z2]
        rw [z2] at RN
        have nb := rn' z2 0 (by omega) (by unfold smn; split <;> omega)
        have sq := sq_b hk.1.1 hk.1.2
        have n0 : 0 ≤ R.2.2 0 ∧ R.2.2 0 ≤ 35 ∧ (c = 2 → R.2.2 0 ≤ 3) ∧ (c = 0 → 2 ≤ R.2.2 0 ∧ R.2.2 0 ≤ 6) := by
          have cc : c = 0 ∨ c = 1 ∨ c = 2 ∨ c = 3 := by omega
          unfold smo at nb
          rcases cc with e | e | e | e <;> subst e <;> simp at nb <;> omega
        obtain ⟨v1, v2, v3⟩ := shp_w (y := y) (L := L) (W := W) (nf := R.2.2) (X := R.2.1) hw d3 d4 d5 d6
        have TK := S_take (c := c) v1 (qc W R.2.2 R.2.1) (nc W R.2.2 R.2.1) (by rw [v2]; exact d11) (by rw [v2]; exact Ne.symm d6) (by omega) (by omega) n0.1 n0.2.1 n0.2.2.1 (by rw [v3]; exact hk.2.1) (by rw [v3]; intro e; have := cg e; omega)
        rw [v3, shp_st hw d3 d4 d5 d6] at TK
        have W'k := stk_ok (nf := R.2.2) hk (show 0 ≤ c by omega) (by omega) cg n0.2.2.2 n0.1
        generalize stk W c R.2.2 = W' at *
        obtain ⟨N2, k2, s2⟩ := t4_next (t := t) (X := R.2.1) (yb W' R.2.2) d1 hL rt hf
        have N2' : cl mX8_next [vr t] (shp h t y a n L W' R.2.1 R.2.2) = some (vn, shp h t y a n L W' (tnx f L R.2.1.1 R.2.1.2.2.2) R.2.2) := N2
        generalize tnx f L R.2.1.1 R.2.1.2.2.2 = X2 at *
        have x2b : X2.2.1 ≤ 400 := by have := k2.2.1; omega
        have K2 := KI W' R.2.2 X2
        by_cases e1 : X2.2.2.1 = -1
        · rw [if_pos e1]
          rw [e1] at K2
          simp only [eX7_read, sX7_read_0, sX7_read_1, sX7_read_4, sX7_read_5, sX7_read_8, sX7_read_9, sX7_read_11, sX7_read_13, sX7_read_16, sX7_read_17, sX7_read_20, sX7_read_21, sX7_read_23, sX7_read_26, sX7_read_28, sX7_read_30, sX7_read_31, sX7_read_32, sX7_read_35, sX7_read_37, sX7_read_39, sX7_read_40, sX7_read_43, sX7_read_44, sX7_read_46, sX7_read_47, sX7_read_48, sX7_read_51, sX7_read_53, sX7_read_55, sX7_read_56, sX7_read_59, sX7_read_60, sX7_read_62, sX7_read_65, sX7_read_66, sX7_read_67, sX7_read_69, sX7_read_70, sX7_read_73, sX7_read_74, sX7_read_77, sX7_read_78, sX7_read_81, sX7_read_82, sX7_read_85, sX7_read_86, sX7_read_87, sX7_read_88, sX7_read_91, sX7_read_93, sX7_read_96, sX7_read_97, sX7_read_98, sX7_read_101, sX7_read_102, sX7_read_105, sX7_read_108, sX7_read_109, sX7_read_110, sX7_read_113, ↓if_neg g, ↓tc, ↓bndv_at N1', ↓bndi_at WI, ↓bndi_at SF, not_true_eq_false, ↓reduceIte, ↓cki_at (qc W nf X1), ↓bndi_at RN, ↓cki_at (qc W R.2.2 R.2.1), ↓bndv_at TK, ↓bndv_at N2', ↓bndi_at K2]
        · rw [if_neg e1]
          by_cases e2 : X2.2.2.1 = 59
          · rw [if_pos e2]
            have I := ih (b + 1) W' X2 R.2.2 (vi c) (vi (-1)) (by omega) (by omega) k2 x2b W'k
            have ib : i32 (b + 1) = b + 1 := i32_of (by omega) (by omega)
            simp only [eX7_read, sX7_read_0, sX7_read_1, sX7_read_4, sX7_read_5, sX7_read_8, sX7_read_9, sX7_read_11, sX7_read_13, sX7_read_16, sX7_read_17, sX7_read_20, sX7_read_21, sX7_read_23, sX7_read_26, sX7_read_28, sX7_read_30, sX7_read_31, sX7_read_32, sX7_read_35, sX7_read_37, sX7_read_39, sX7_read_40, sX7_read_43, sX7_read_44, sX7_read_46, sX7_read_47, sX7_read_48, sX7_read_51, sX7_read_53, sX7_read_55, sX7_read_56, sX7_read_59, sX7_read_60, sX7_read_62, sX7_read_65, sX7_read_66, sX7_read_67, sX7_read_69, sX7_read_70, sX7_read_73, sX7_read_74, sX7_read_77, sX7_read_78, sX7_read_81, sX7_read_82, sX7_read_85, sX7_read_86, sX7_read_87, sX7_read_88, sX7_read_91, sX7_read_93, sX7_read_96, sX7_read_97, sX7_read_98, sX7_read_101, sX7_read_102, sX7_read_105, sX7_read_108, sX7_read_109, sX7_read_110, sX7_read_113, ↓if_neg g, ↓tc, ↓bndv_at N1', ↓bndi_at WI, ↓bndi_at SF, not_true_eq_false, ↓reduceIte, ↓cki_at (qc W nf X1), ↓bndi_at RN, ↓cki_at (qc W R.2.2 R.2.1), ↓bndv_at TK, ↓bndv_at N2', ↓bndi_at K2, ↓if_pos e1, ↓if_pos e2, ib]
            exact I
          · rw [if_neg e2]
            have F := FA W' R.2.2 X2 0 k2.1.1 x2b (by omega) (by omega)
            simp only [eX7_read, sX7_read_0, sX7_read_1, sX7_read_4, sX7_read_5, sX7_read_8, sX7_read_9, sX7_read_11, sX7_read_13, sX7_read_16, sX7_read_17, sX7_read_20, sX7_read_21, sX7_read_23, sX7_read_26, sX7_read_28, sX7_read_30, sX7_read_31, sX7_read_32, sX7_read_35, sX7_read_37, sX7_read_39, sX7_read_40, sX7_read_43, sX7_read_44, sX7_read_46, sX7_read_47, sX7_read_48, sX7_read_51, sX7_read_53, sX7_read_55, sX7_read_56, sX7_read_59, sX7_read_60, sX7_read_62, sX7_read_65, sX7_read_66, sX7_read_67, sX7_read_69, sX7_read_70, sX7_read_73, sX7_read_74, sX7_read_77, sX7_read_78, sX7_read_81, sX7_read_82, sX7_read_85, sX7_read_86, sX7_read_87, sX7_read_88, sX7_read_91, sX7_read_93, sX7_read_96, sX7_read_97, sX7_read_98, sX7_read_101, sX7_read_102, sX7_read_105, sX7_read_108, sX7_read_109, sX7_read_110, sX7_read_113, ↓if_neg g, ↓tc, ↓bndv_at N1', ↓bndi_at WI, ↓bndi_at SF, not_true_eq_false, ↓reduceIte, ↓cki_at (qc W nf X1), ↓bndi_at RN, ↓cki_at (qc W R.2.2 R.2.1), ↓bndv_at TK, ↓bndv_at N2', ↓bndi_at K2, ↓if_pos e1, ↓if_neg e2, ↓bndi_at F]
      · rw [if_neg z2]
        have F := FA W R.2.2 R.2.1 R.1 rt.1.1 rs (by omega) (by omega)
        simp only [eX7_read, sX7_read_0, sX7_read_1, sX7_read_4, sX7_read_5, sX7_read_8, sX7_read_9, sX7_read_11, sX7_read_13, sX7_read_16, sX7_read_17, sX7_read_20, sX7_read_21, sX7_read_23, sX7_read_26, sX7_read_28, sX7_read_30, sX7_read_31, sX7_read_32, sX7_read_35, sX7_read_37, sX7_read_39, sX7_read_40, sX7_read_43, sX7_read_44, sX7_read_46, sX7_read_47, sX7_read_48, sX7_read_51, sX7_read_53, sX7_read_55, sX7_read_56, sX7_read_59, sX7_read_60, sX7_read_62, sX7_read_65, sX7_read_66, sX7_read_67, sX7_read_69, sX7_read_70, sX7_read_73, sX7_read_74, sX7_read_77, sX7_read_78, sX7_read_81, sX7_read_82, sX7_read_85, sX7_read_86, sX7_read_87, sX7_read_88, sX7_read_91, sX7_read_93, sX7_read_96, sX7_read_97, sX7_read_98, sX7_read_101, sX7_read_102, sX7_read_105, sX7_read_108, sX7_read_109, sX7_read_110, sX7_read_113, ↓if_neg g, ↓tc, ↓bndv_at N1', ↓bndi_at WI, ↓bndi_at SF, not_true_eq_false, ↓reduceIte, ↓cki_at (qc W nf X1), ↓bndi_at RN, ↓if_neg z2, ↓bndi_at F]
    · rw [if_neg z]
      have F := FA W nf X1 (sfc (W 1) c b) k1.1.1 x400 (by omega) (by omega)
      simp only [eX7_read, sX7_read_0, sX7_read_1, sX7_read_4, sX7_read_5, sX7_read_8, sX7_read_9, sX7_read_11, sX7_read_13, sX7_read_16, sX7_read_17, sX7_read_20, sX7_read_21, sX7_read_23, sX7_read_26, sX7_read_28, sX7_read_30, sX7_read_31, sX7_read_32, sX7_read_35, sX7_read_37, sX7_read_39, sX7_read_40, sX7_read_43, sX7_read_44, sX7_read_46, sX7_read_47, sX7_read_48, sX7_read_51, sX7_read_53, sX7_read_55, sX7_read_56, sX7_read_59, sX7_read_60, sX7_read_62, sX7_read_65, sX7_read_66, sX7_read_67, sX7_read_69, sX7_read_70, sX7_read_73, sX7_read_74, sX7_read_77, sX7_read_78, sX7_read_81, sX7_read_82, sX7_read_85, sX7_read_86, sX7_read_87, sX7_read_88, sX7_read_91, sX7_read_93, sX7_read_96, sX7_read_97, sX7_read_98, sX7_read_101, sX7_read_102, sX7_read_105, sX7_read_108, sX7_read_109, sX7_read_110, sX7_read_113, ↓if_neg g, ↓tc, ↓bndv_at N1', ↓bndi_at WI, ↓bndi_at SF, ↓if_pos z, ↓if_neg z, ↓bndi_at F]
end SR
