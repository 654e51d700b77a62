/-! SheetReader.readNumbers -/
def rnu (f W : Nat → Int) (L c : Int) : Nat → Nat → Int × Int × Int × Int → (Nat → Int) → Int × (Int × Int × Int × Int) × (Nat → Int)
  | 0, _, X, nf => (-1, X, nf)
  | m + 1, k, X, nf => if (tnx f L X.1 X.2.2.2).2.2.1 = -2 then (if (if c = 0 then 2 else 0) ≤ (tnx f L X.1 X.2.2.2).2.2.2 ∧ (tnx f L X.1 X.2.2.2).2.2.2 ≤ smo W c (k : Int) then rnu f W L c m (k + 1) (tnx f L X.1 X.2.2.2) (fup nf k (tnx f L X.1 X.2.2.2).2.2.2) else (1, tnx f L X.1 X.2.2.2, nf)) else (0, tnx f L X.1 X.2.2.2, nf)
section RN
variable {h : zH} {t y a q n : Nat} {L c : Int} {f : Nat → Int}
theorem tx4_w {X : Int × Int × Int × Int} (hw : isW h a) (h1 : a ≠ t) (h2 : wr h a ≠ t) : isW (tx4 h t y L X) a ∧ wr (tx4 h t y L X) a = wr h a ∧ wl (tx4 h t y L X) a = wl h a ∧ wf (tx4 h t y L X) a = wf h a := isW_off hw h1 h2
theorem tx4_o {X : Int × Int × Int × Int} {j : Nat} (h1 : j ≠ t) : (tx4 h t y L X).2 j = h.2 j := zup_n h1
theorem tx4_z {X : Int × Int × Int × Int} {j : Nat} {d : zC} (h1 : t ≠ j) : zup (tx4 h t y L X) j d = tx4 (zup h j d) t y L X := zup_comm h1
theorem t4_c {α : Type} {X : Int × Int × Int × Int} {x : Option α} : cki ((tx4 h t y L X).2 t) 7 x = x := t_c
set_option maxHeartbeats 1000000 in
theorem S_rnu_l {many : Nat} (hy : h.2 y = zar 1 400 f) (hf : ∀ j, 0 ≤ f j ∧ f j ≤ 255) (hL : L ≤ 400) (hw : isW h a) (w0 : 0 ≤ wf h a 0) (w6 : wf h a 0 ≤ 6) (hq : h.2 q = zob 6 [vr n]) (c0 : 0 ≤ c) (c3 : c ≤ 3) (hm : many ≤ 3) (d1 : y ≠ t) (d2 : y ≠ n) (d3 : a ≠ t) (d4 : a ≠ n) (d5 : wr h a ≠ t) (d6 : wr h a ≠ n) (d7 : q ≠ t) (d8 : q ≠ n) (d9 : n ≠ t) : ∀ (m k : Nat) (X : Int × Int × Int × Int) (nf : Nat → Int) (x6 : zV), k + m = many → t4k L X → rn mX7_readNumbers 20 [vr q, vi c, vr t, vr a, vi (many : Int), vi (k : Int), x6] [] (tx4 (zup h n (zar 1 3 nf)) t y L X) = some (vi (rnu f (wf h a) L c m k X nf).1, tx4 (zup h n (zar 1 3 (rnu f (wf h a) L c m k X nf).2.2)) t y L (rnu f (wf h a) L c m k X nf).2.1) := by
  intro m
  induction m with
  | zero =>
    intro k X nf x6 hk hX
    have g : (many : Int) ≤ (k : Int) := by omega
    rw [sX7_readNumbers_20]
    simp only [eX7_readNumbers, sX7_readNumbers_0, sX7_readNumbers_1, sX7_readNumbers_2, sX7_readNumbers_5, sX7_readNumbers_6, sX7_readNumbers_7, sX7_readNumbers_10, sX7_readNumbers_11, sX7_readNumbers_14, sX7_readNumbers_15, sX7_readNumbers_17, sX7_readNumbers_18, sX7_readNumbers_22, sX7_readNumbers_24, sX7_readNumbers_27, sX7_readNumbers_28, sX7_readNumbers_31, sX7_readNumbers_32, sX7_readNumbers_35, sX7_readNumbers_37, sX7_readNumbers_40, sX7_readNumbers_41, sX7_readNumbers_42, sX7_readNumbers_43, sX7_readNumbers_46, sX7_readNumbers_47, sX7_readNumbers_50, sX7_readNumbers_51, sX7_readNumbers_53, sX7_readNumbers_54, sX7_readNumbers_57, sX7_readNumbers_59, sX7_readNumbers_60, sX7_readNumbers_62, sX7_readNumbers_63, sX7_readNumbers_66, sX7_readNumbers_69, sX7_readNumbers_72, sX7_readNumbers_73, sX7_readNumbers_74, sX7_readNumbers_75, sX7_readNumbers_78, sX7_readNumbers_80, sX7_readNumbers_81, sX7_readNumbers_84, sX7_readNumbers_85, sX7_readNumbers_88, sX7_readNumbers_91, sX7_readNumbers_92, ↓if_pos g, rnu]
  | succ m ih =>
    intro k X nf x6 hk hX
    have g : ¬ (many : Int) ≤ (k : Int) := by omega
    have y1 : (zup h n (zar 1 3 nf)).2 y = zar 1 400 f := by rw [zup_n d2]; exact hy
    obtain ⟨v1, v2, -, v4⟩ := isW_off (c := zar 1 3 nf) hw d4 d6
    obtain ⟨N, Yk, -⟩ := t4_next (t := t) (X := X) y1 d1 hL hX hf
    rw [sX7_readNumbers_20, rnu]
    generalize tnx f L X.1 X.2.2.2 = Y at *
    obtain ⟨u1, u2, -, u4⟩ := tx4_w (t := t) (y := y) (L := L) (X := Y) v1 d3 (by rw [v2]; exact d5)
    rw [v4] at u4
    have KI : cl mX8_kind [vr t] (tx4 (zup h n (zar 1 3 nf)) t y L Y) = some (vi Y.2.2.1, tx4 (zup h n (zar 1 3 nf)) t y L Y) := T_kind
    have VA : cl mX8_value [vr t] (tx4 (zup h n (zar 1 3 nf)) t y L Y) = some (vi Y.2.2.2, tx4 (zup h n (zar 1 3 nf)) t y L Y) := T_value
    have MO := S_mostOf (c := c) (k := (k : Int)) u1 (by rw [u4]; exact w0) (by rw [u4]; exact w6) c0 c3
    rw [u4] at MO
    have q1 : (tx4 (zup h n (zar 1 3 nf)) t y L Y).2 q = zob 6 [vr n] := by rw [tx4_o d7, zup_n d8]; exact hq
    have n1 : (tx4 (zup h n (zar 1 3 nf)) t y L Y).2 n = zar 1 3 nf := by rw [tx4_o d9]; exact zup_s
    have zz : ∀ d, zup (tx4 (zup h n (zar 1 3 nf)) t y L Y) n d = tx4 (zup h n d) t y L Y := fun d => by rw [tx4_z (Ne.symm d9), zup_zup]
    have e0 : Int.toNat (k : Int) = k := Int.toNat_natCast k
    have is : i32 ((k : Int) + 1) = ((k + 1 : Nat) : Int) := i32_s k (by omega)
    have cX : ∀ {x : Option (zV × zH)}, cki ((tx4 (zup h n (zar 1 3 nf)) t y L X).2 t) 7 x = x := t4_c
    have cY : ∀ {x : Option (zV × zH)}, cki ((tx4 (zup h n (zar 1 3 nf)) t y L Y).2 t) 7 x = x := t4_c
    have o1 : ¬ ((1 : Int) = 0) := by omega
    by_cases k2 : Y.2.2.1 = -2
    · rw [if_pos k2]
      rw [k2] at KI
      have fin : ∀ le : Int, (if c = 0 then 2 else 0) = le → rn mX7_readNumbers 51 [vr q, vi c, vr t, vr a, vi (many : Int), vi (k : Int), x6] [vi le] (tx4 (zup h n (zar 1 3 nf)) t y L Y) = some (vi (if le ≤ Y.2.2.2 ∧ Y.2.2.2 ≤ smo (wf h a) c (k : Int) then rnu f (wf h a) L c m (k + 1) Y (fup nf k Y.2.2.2) else (1, Y, nf)).1, tx4 (zup h n (zar 1 3 (if le ≤ Y.2.2.2 ∧ Y.2.2.2 ≤ smo (wf h a) c (k : Int) then rnu f (wf h a) L c m (k + 1) Y (fup nf k Y.2.2.2) else (1, Y, nf)).2.2)) t y L (if le ≤ Y.2.2.2 ∧ Y.2.2.2 ≤ smo (wf h a) c (k : Int) then rnu f (wf h a) L c m (k + 1) Y (fup nf k Y.2.2.2) else (1, Y, nf)).2.1) := by
        intro le _
        have WI := E_within (h := tx4 (zup h n (zar 1 3 nf)) t y L Y) (v := Y.2.2.2) (lo := le) (hi := smo (wf h a) c (k : Int))
        have I := ih (k + 1) Y (fup nf k Y.2.2.2) (vi le) (by omega) Yk
        by_cases w : le ≤ Y.2.2.2 ∧ Y.2.2.2 ≤ smo (wf h a) c (k : Int)
        · simp only [if_pos w] at WI ⊢
          generalize hK : tx4 (zup h n (zar 1 3 nf)) t y L Y = K at *
          simp (disch := omega) only [eX7_readNumbers, sX7_readNumbers_0, sX7_readNumbers_1, sX7_readNumbers_2, sX7_readNumbers_5, sX7_readNumbers_6, sX7_readNumbers_7, sX7_readNumbers_10, sX7_readNumbers_11, sX7_readNumbers_14, sX7_readNumbers_15, sX7_readNumbers_17, sX7_readNumbers_18, sX7_readNumbers_22, sX7_readNumbers_24, sX7_readNumbers_27, sX7_readNumbers_28, sX7_readNumbers_31, sX7_readNumbers_32, sX7_readNumbers_35, sX7_readNumbers_37, sX7_readNumbers_40, sX7_readNumbers_41, sX7_readNumbers_42, sX7_readNumbers_43, sX7_readNumbers_46, sX7_readNumbers_47, sX7_readNumbers_50, sX7_readNumbers_51, sX7_readNumbers_53, sX7_readNumbers_54, sX7_readNumbers_57, sX7_readNumbers_59, sX7_readNumbers_60, sX7_readNumbers_62, sX7_readNumbers_63, sX7_readNumbers_66, sX7_readNumbers_69, sX7_readNumbers_72, sX7_readNumbers_73, sX7_readNumbers_74, sX7_readNumbers_75, sX7_readNumbers_78, sX7_readNumbers_80, sX7_readNumbers_81, sX7_readNumbers_84, sX7_readNumbers_85, sX7_readNumbers_88, sX7_readNumbers_91, sX7_readNumbers_92, ↓cY, ↓bndi_at VA, ↓bndi_at MO, ↓bndi_at WI, ↓if_pos o1, ↓gfr_at (k := 0) q1 rfl, ↓sel_at n1, e0, zz, is]
          exact I
        · simp only [if_neg w] at WI ⊢
          generalize hK : tx4 (zup h n (zar 1 3 nf)) t y L Y = K at *
          simp (disch := omega) only [eX7_readNumbers, sX7_readNumbers_0, sX7_readNumbers_1, sX7_readNumbers_2, sX7_readNumbers_5, sX7_readNumbers_6, sX7_readNumbers_7, sX7_readNumbers_10, sX7_readNumbers_11, sX7_readNumbers_14, sX7_readNumbers_15, sX7_readNumbers_17, sX7_readNumbers_18, sX7_readNumbers_22, sX7_readNumbers_24, sX7_readNumbers_27, sX7_readNumbers_28, sX7_readNumbers_31, sX7_readNumbers_32, sX7_readNumbers_35, sX7_readNumbers_37, sX7_readNumbers_40, sX7_readNumbers_41, sX7_readNumbers_42, sX7_readNumbers_43, sX7_readNumbers_46, sX7_readNumbers_47, sX7_readNumbers_50, sX7_readNumbers_51, sX7_readNumbers_53, sX7_readNumbers_54, sX7_readNumbers_57, sX7_readNumbers_59, sX7_readNumbers_60, sX7_readNumbers_62, sX7_readNumbers_63, sX7_readNumbers_66, sX7_readNumbers_69, sX7_readNumbers_72, sX7_readNumbers_73, sX7_readNumbers_74, sX7_readNumbers_75, sX7_readNumbers_78, sX7_readNumbers_80, sX7_readNumbers_81, sX7_readNumbers_84, sX7_readNumbers_85, sX7_readNumbers_88, sX7_readNumbers_91, sX7_readNumbers_92, ↓cY, ↓bndi_at VA, ↓bndi_at MO, ↓bndi_at WI, not_true_eq_false, ↓reduceIte]
      by_cases cc : c = 0
      · subst cc
        have F := fin 2 rfl
        simp only [↓reduceIte] at F ⊢
        rw [← F]
        simp only [eX7_readNumbers, sX7_readNumbers_0, sX7_readNumbers_1, sX7_readNumbers_2, sX7_readNumbers_5, sX7_readNumbers_6, sX7_readNumbers_7, sX7_readNumbers_10, sX7_readNumbers_11, sX7_readNumbers_14, sX7_readNumbers_15, sX7_readNumbers_17, sX7_readNumbers_18, sX7_readNumbers_22, sX7_readNumbers_24, sX7_readNumbers_27, sX7_readNumbers_28, sX7_readNumbers_31, sX7_readNumbers_32, sX7_readNumbers_35, sX7_readNumbers_37, sX7_readNumbers_40, sX7_readNumbers_41, sX7_readNumbers_42, sX7_readNumbers_43, sX7_readNumbers_46, sX7_readNumbers_47, sX7_readNumbers_50, sX7_readNumbers_53, sX7_readNumbers_54, sX7_readNumbers_57, sX7_readNumbers_59, sX7_readNumbers_60, sX7_readNumbers_62, sX7_readNumbers_63, sX7_readNumbers_66, sX7_readNumbers_69, sX7_readNumbers_72, sX7_readNumbers_73, sX7_readNumbers_74, sX7_readNumbers_75, sX7_readNumbers_78, sX7_readNumbers_80, sX7_readNumbers_81, sX7_readNumbers_84, sX7_readNumbers_85, sX7_readNumbers_88, sX7_readNumbers_91, sX7_readNumbers_92, ↓if_neg g, ↓cX, ↓bndv_at N, ↓cY, ↓bndi_at KI, not_true_eq_false, ↓reduceIte]
      · have F := fin 0 (if_neg cc)
        simp only [if_neg cc] at F ⊢
        rw [← F]
        simp only [eX7_readNumbers, sX7_readNumbers_0, sX7_readNumbers_1, sX7_readNumbers_2, sX7_readNumbers_5, sX7_readNumbers_6, sX7_readNumbers_7, sX7_readNumbers_10, sX7_readNumbers_11, sX7_readNumbers_14, sX7_readNumbers_15, sX7_readNumbers_17, sX7_readNumbers_18, sX7_readNumbers_22, sX7_readNumbers_24, sX7_readNumbers_27, sX7_readNumbers_28, sX7_readNumbers_31, sX7_readNumbers_32, sX7_readNumbers_35, sX7_readNumbers_37, sX7_readNumbers_40, sX7_readNumbers_41, sX7_readNumbers_42, sX7_readNumbers_43, sX7_readNumbers_46, sX7_readNumbers_47, sX7_readNumbers_50, sX7_readNumbers_53, sX7_readNumbers_54, sX7_readNumbers_57, sX7_readNumbers_59, sX7_readNumbers_60, sX7_readNumbers_62, sX7_readNumbers_63, sX7_readNumbers_66, sX7_readNumbers_69, sX7_readNumbers_72, sX7_readNumbers_73, sX7_readNumbers_74, sX7_readNumbers_75, sX7_readNumbers_78, sX7_readNumbers_80, sX7_readNumbers_81, sX7_readNumbers_84, sX7_readNumbers_85, sX7_readNumbers_88, sX7_readNumbers_91, sX7_readNumbers_92, ↓if_neg g, ↓cX, ↓bndv_at N, ↓cY, ↓bndi_at KI, ↓reduceIte, ↓if_pos cc]
    · rw [if_neg k2]
      simp only [eX7_readNumbers, sX7_readNumbers_0, sX7_readNumbers_1, sX7_readNumbers_2, sX7_readNumbers_5, sX7_readNumbers_6, sX7_readNumbers_7, sX7_readNumbers_10, sX7_readNumbers_11, sX7_readNumbers_14, sX7_readNumbers_15, sX7_readNumbers_17, sX7_readNumbers_18, sX7_readNumbers_22, sX7_readNumbers_24, sX7_readNumbers_27, sX7_readNumbers_28, sX7_readNumbers_31, sX7_readNumbers_32, sX7_readNumbers_35, sX7_readNumbers_37, sX7_readNumbers_40, sX7_readNumbers_41, sX7_readNumbers_42, sX7_readNumbers_43, sX7_readNumbers_46, sX7_readNumbers_47, sX7_readNumbers_50, sX7_readNumbers_51, sX7_readNumbers_53, sX7_readNumbers_54, sX7_readNumbers_57, sX7_readNumbers_59, sX7_readNumbers_60, sX7_readNumbers_62, sX7_readNumbers_63, sX7_readNumbers_66, sX7_readNumbers_69, sX7_readNumbers_72, sX7_readNumbers_73, sX7_readNumbers_74, sX7_readNumbers_75, sX7_readNumbers_78, sX7_readNumbers_80, sX7_readNumbers_81, sX7_readNumbers_84, sX7_readNumbers_85, sX7_readNumbers_88, sX7_readNumbers_91, sX7_readNumbers_92, ↓if_neg g, ↓cX, ↓bndv_at N, ↓cY, ↓bndi_at KI, ↓if_neg k2]
end RN
