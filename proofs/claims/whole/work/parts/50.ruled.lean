/-! World.pass with or without a rule, as one thing -/
def rlO (H : zH) (a b o k : Nat) (ru : Option (Nat × (Nat → Int))) (sk : Nat → Int) : Prop := match ru with
  | none => b = 0
  | some r => b ≠ 0 ∧ odok r.1 r.2 ∧ rul H a b o k r.1 r.2 sk
def pbs (H : zH) (k : Nat) (ru : Option (Nat × (Nat → Int))) (sk : Nat → Int) : zH := match ru with
  | none => H
  | some _ => zup H k (zar 2 62 sk)
def pst (H : zH) (a k : Nat) (ru : Option (Nat × (Nat → Int))) (X : (Nat → Int) × Int × (Nat → Int)) : zH := wlu (wst (pbs H k ru X.2.2) a X.1) a X.2.1
section PST
variable {H : zH} {a b o k G : Nat} {ru : Option (Nat × (Nat → Int))} {sk : Nat → Int} {X Y : (Nat → Int) × Int × (Nat → Int)}
theorem pbs_all {s : Nat → Int} (hw : isW H a) (hr : rlO H a b o k ru sk) : (isW (pbs H k ru s) a ∧ wr (pbs H k ru s) a = wr H a ∧ wl (pbs H k ru s) a = wl H a ∧ wf (pbs H k ru s) a = wf H a) ∧ rlO (pbs H k ru s) a b o k ru s := by
  cases ru with
  | none => exact ⟨⟨hw, rfl, rfl, rfl⟩, hr⟩
  | some r =>
    obtain ⟨b0, od, r1⟩ := hr
    exact ⟨isW_off hw r1.2.2.2.1.2.2.1 r1.2.2.2.1.2.2.2, b0, od, rul_sk hw r1⟩
theorem rlO_st {f : Nat → Int} (hw : isW H a) (hr : rlO H a b o k ru sk) : rlO (wst H a f) a b o k ru sk := by
  cases ru with
  | none => exact hr
  | some r => exact ⟨hr.1, hr.2.1, rul_st hw hr.2.2⟩
theorem rlO_lu {l : Int} (hw : isW H a) (hr : rlO H a b o k ru sk) : rlO (wlu H a l) a b o k ru sk := by
  cases ru with
  | none => exact hr
  | some r => exact ⟨hr.1, hr.2.1, rul_lu hw hr.2.2⟩
theorem pst_w (hw : isW H a) (hr : rlO H a b o k ru sk) : isW (pst H a k ru X) a := isW_lu (isW_st (pbs_all hw hr).1.1)
theorem pst_f (hw : isW H a) (hr : rlO H a b o k ru sk) : wf (pst H a k ru X) a = X.1 := by
  have q := (pbs_all (s := X.2.2) hw hr).1.1
  rw [pst, wf_lu (isW_st q), wf_st q]
theorem pst_l (hw : isW H a) (hr : rlO H a b o k ru sk) : wl (pst H a k ru X) a = X.2.1 := by
  have q := (pbs_all (s := X.2.2) hw hr).1.1
  rw [pst, wl_lu (isW_st q)]
theorem pst_r (hw : isW H a) (hr : rlO H a b o k ru sk) : wr (pst H a k ru X) a = wr H a := by
  have q := (pbs_all (s := X.2.2) hw hr).1
  rw [pst, wr_lu (isW_st q.1), wr_st q.1, q.2.1]
theorem pst_ru (hw : isW H a) (hr : rlO H a b o k ru sk) : rlO (pst H a k ru X) a b o k ru X.2.2 := by
  have q := pbs_all (s := X.2.2) hw hr
  exact rlO_lu (isW_st q.1.1) (rlO_st q.1.1 q.2)
theorem pst_off {j : Nat} (hw : isW H a) (hr : rlO H a b o k ru sk) (h1 : j ≠ a) (h2 : j ≠ wr H a) (h3 : j ≠ k) : (pst H a k ru X).2 j = H.2 j := by
  have q := (pbs_all (s := X.2.2) hw hr).1
  rw [pst, wlu, zup_n h1, wst, zup_n (by rw [q.2.1]; exact h2)]
  cases ru with
  | none => rfl
  | some r => exact zup_n h3
theorem pst_1 : (pst H a k ru X).1 = H.1 := by
  cases ru <;> rfl
theorem pst_pst (hw : isW H a) (hr : rlO H a b o k ru sk) : pst (pst H a k ru X) a k ru Y = pst H a k ru Y := by
  have e : pbs (pst H a k ru X) k ru Y.2.2 = wlu (wst (pbs H k ru Y.2.2) a X.1) a X.2.1 := by
    cases ru with
    | none => rfl
    | some r =>
      obtain ⟨b0, od, r1⟩ := hr
      have k3 := r1.2.2.2.1.2.2.1
      have k4 := r1.2.2.2.1.2.2.2
      have q := isW_off (c := zar 2 62 X.2.2) hw k3 k4
      show zup (wlu (wst (zup H k (zar 2 62 X.2.2)) a X.1) a X.2.1) k (zar 2 62 Y.2.2) = _
      rw [zup_wlu (isW_st q.1) k3 (by rw [wr_st q.1, q.2.1]; exact k4), zup_wst q.1 k3 (by rw [q.2.1]; exact k4), zup_zup]
      rfl
  have q := (pbs_all (s := Y.2.2) hw hr).1.1
  rw [pst, e, wst_lu (isW_st q), wst_st q, wlu_lu (isW_st q), pst]
theorem pst_id (hw : isW H a) (hr : rlO H a b o k ru sk) : pst H a k ru (wf H a, wl H a, sk) = H := by
  have e : pbs H k ru sk = H := by
    cases ru with
    | none => rfl
    | some r => exact zup_id hr.2.2.2.2.1
  show wlu (wst (pbs H k ru sk) a (wf H a)) a (wl H a) = H
  rw [e, wst_id hw, wlu_id hw]
theorem p_pass (hw : isW H a) (ho : wok (wf H a) G) (hr : rlO H a b o k ru sk) : cl mX9_pass [vr a, vr b] H = some (vn, pst H a k ru (wpa ru G (wf H a, wl H a, sk))) := by
  cases ru with
  | none =>
    have : b = 0 := hr
    subst this
    exact w_pass0 hw ho
  | some r =>
    obtain ⟨b0, od, r1⟩ := hr
    exact w_passr hw ho r1 b0 od
theorem wpR_ok {x : (Nat → Int) × Int × (Nat → Int)} : ∀ (n i : Nat) (x : (Nat → Int) × Int × (Nat → Int)), i + n ≤ G → wok x.1 G → wok (wpR ru G n i x).1 G := by
  intro n
  induction n with
  | zero => intro i x _ h; exact h
  | succ n ih => intro i x hi h; exact ih (i + 1) _ (by omega) (wp1_ok h (by omega))
theorem wpa_ok {x : (Nat → Int) × Int × (Nat → Int)} (h : wok x.1 G) : wok (wpa ru G x).1 G := by
  have q := wpR_ok (ru := ru) (x := x) G 0 x (by omega) h
  obtain ⟨h1, h2, h3, h4, h5, h6, h7⟩ := q
  have d : ∀ (j : Nat), j ≠ 2 → (wpa ru G x).1 j = (wpR ru G G 0 x).1 j := fun j hj => fup_n hj
  refine ⟨by rw [d 1 (by omega)]; exact h1, h2, by rw [d 0 (by omega)]; exact h3, fun e he => by rw [d (3 + e) (by omega)]; exact h4 e he, fun e he => by rw [d (7 + e) (by omega)]; exact h5 e he, fun c hc => by rw [d (11 + c) (by omega)]; exact h6 c hc, fun g hg => ?_⟩
  have := h7 g hg
  unfold gok at this ⊢
  rw [d (48 + 7 * g) (by omega), d (49 + 7 * g) (by omega), d (50 + 7 * g) (by omega), d (51 + 7 * g) (by omega), d (53 + 7 * g) (by omega), d (47 + 7 * g) (by omega), d 0 (by omega)]
  exact this
end PST
/-! Notes: add, holdAt -/
/-- Notes in the heap -/
def isN (h : zH) (p s g c : Nat) (fs fg fc : Nat → Int) (z : Int) : Prop := h.2 p = zob 3 [vr s, vr g, vr c, vi z] ∧ h.2 s = zar 1 10 fs ∧ h.2 g = zar 1 10 fg ∧ h.2 c = zar 1 10 fc
def nst (h : zH) (p s g c : Nat) (fs fg fc : Nat → Int) (z : Int) : zH := zup (zup (zup (zup h s (zar 1 10 fs)) g (zar 1 10 fg)) c (zar 1 10 fc)) p (zob 3 [vr s, vr g, vr c, vi z])
/-- all told of step st is so, from note k on -/
def hat (st : Int) (fs fg fc f : Nat → Int) : Nat → Nat → Bool
  | 0, _ => true
  | n + 1, k => if fs k = st ∧ f (47 + 7 * (fg k).toNat) ≠ fc k then false else hat st fs fg fc f n (k + 1)
section HA
variable {h : zH} {p s g c a : Nat} {fs fg fc : Nat → Int} {Z : Nat}
theorem N_add {n go ce : Int} (hn : isN h p s g c fs fg fc (Z : Int)) (hz : Z < 10) (d1 : p ≠ s) (d2 : p ≠ g) (d3 : p ≠ c) (d4 : s ≠ g) (d5 : s ≠ c) (d6 : g ≠ c) : cl mX4_add [vr p, vi n, vi go, vi ce] h = some (vn, nst h p s g c (fup fs Z n) (fup fg Z go) (fup fc Z ce) ((Z + 1 : Nat) : Int)) := by
  obtain ⟨h1, h2, h3, h4⟩ := hn
  have e0 : Int.toNat (Z : Int) = Z := Int.toNat_natCast Z
  have is : i32 ((Z : Int) + 1) = ((Z + 1 : Nat) : Int) := i32_s Z (by omega)
  have H1 : zup h s (zar 1 10 (fup fs Z n)) = zup h s (zar 1 10 (fup fs Z n)) := rfl
  have p1 : (zup h s (zar 1 10 (fup fs Z n))).2 p = zob 3 [vr s, vr g, vr c, vi (Z : Int)] := by rw [zup_n d1]; exact h1
  have g1 : (zup h s (zar 1 10 (fup fs Z n))).2 g = zar 1 10 fg := by rw [zup_n (Ne.symm d4)]; exact h3
  have c1 : (zup h s (zar 1 10 (fup fs Z n))).2 c = zar 1 10 fc := by rw [zup_n (Ne.symm d5)]; exact h4
  have p2 : (zup (zup h s (zar 1 10 (fup fs Z n))) g (zar 1 10 (fup fg Z go))).2 p = zob 3 [vr s, vr g, vr c, vi (Z : Int)] := by rw [zup_n d2]; exact p1
  have c2 : (zup (zup h s (zar 1 10 (fup fs Z n))) g (zar 1 10 (fup fg Z go))).2 c = zar 1 10 fc := by rw [zup_n (Ne.symm d6)]; exact c1
  have p3 : (zup (zup (zup h s (zar 1 10 (fup fs Z n))) g (zar 1 10 (fup fg Z go))) c (zar 1 10 (fup fc Z ce))).2 p = zob 3 [vr s, vr g, vr c, vi (Z : Int)] := by rw [zup_n d3]; exact p2
  unfold nst
  generalize hH1 : zup h s (zar 1 10 (fup fs Z n)) = K1 at *
  generalize hH2 : zup K1 g (zar 1 10 (fup fg Z go)) = K2 at *
  generalize hH3 : zup K2 c (zar 1 10 (fup fc Z ce)) = K3 at *
  simp (disch := first | omega | simp) only [eX4_add, sX4_add_0, sX4_add_1, sX4_add_4, sX4_add_7, sX4_add_8, sX4_add_11, sX4_add_13, sX4_add_16, sX4_add_17, sX4_add_20, sX4_add_21, sX4_add_24, sX4_add_25, sX4_add_26, sX4_add_27, sX4_add_30, sX4_add_31, sX4_add_34, sX4_add_35, sX4_add_36, sX4_add_37, sX4_add_40, sX4_add_41, sX4_add_44, sX4_add_45, sX4_add_46, sX4_add_47, sX4_add_48, sX4_add_51, sX4_add_52, sX4_add_53, sX4_add_56, ↓if_pos, ↓if_neg, ↓gfi_at (k := 3) h1 rfl, ↓gfr_at (k := 0) h1 rfl, ↓sel_at h2, e0, hH1, ↓gfr_at (k := 1) p1 rfl, ↓gfi_at (k := 3) p1 rfl, ↓sel_at g1, hH2, ↓gfr_at (k := 2) p2 rfl, ↓gfi_at (k := 3) p2 rfl, ↓sel_at c2, hH3, ↓gfi_at (k := 3) p3 rfl, ↓pfv_at p3, is]
  rfl
theorem N_holdAt_l {st : Int} (hw : isW h a) (hn : isN h p s g c fs fg fc (Z : Int)) (hz : Z ≤ 10) (hg : ∀ k, k < Z → 0 ≤ fg k ∧ fg k ≤ 4) : ∀ (n k : Nat), k + n = Z → rn mX4_holdAt 2 [vr p, vi st, vr a, vi (k : Int)] [] h = some (vi (if hat st fs fg fc (wf h a) n k then 1 else 0), h) := by
  obtain ⟨h1, h2, h3, h4⟩ := hn
  intro n
  induction n with
  | zero =>
    intro k hk
    have e : k = Z := by omega
    subst e
    rw [sX4_holdAt_2]
    simp (disch := omega) only [eX4_holdAt, sX4_holdAt_0, sX4_holdAt_1, sX4_holdAt_3, sX4_holdAt_4, sX4_holdAt_7, sX4_holdAt_10, sX4_holdAt_11, sX4_holdAt_14, sX4_holdAt_15, sX4_holdAt_16, sX4_holdAt_17, sX4_holdAt_20, sX4_holdAt_21, sX4_holdAt_22, sX4_holdAt_25, sX4_holdAt_26, sX4_holdAt_27, sX4_holdAt_28, sX4_holdAt_31, sX4_holdAt_32, sX4_holdAt_35, sX4_holdAt_36, sX4_holdAt_37, sX4_holdAt_40, sX4_holdAt_41, sX4_holdAt_42, sX4_holdAt_45, sX4_holdAt_48, sX4_holdAt_49, gfi_0, gfi_s, gfr_0, gfr_s, gfl_0, gfl_s, cki_k, bndi_k, bndl_k, bndr_k, bndv_k, zup_2, zup_1, ↓reduceIte, if_true, if_false, true_or, or_true, not_true_eq_false, not_false_eq_true, ↓if_pos, ↓if_neg, ↓gfi_at (k := 3) h1 rfl, hat]
  | succ n ih =>
    intro k hk
    have I := ih (k + 1) (by omega)
    have is : i32 ((k : Int) + 1) = ((k + 1 : Nat) : Int) := i32_s k (by omega)
    have e0 : Int.toNat (k : Int) = k := Int.toNat_natCast k
    have gk := hg k (by omega)
    have ge : fg k = (((fg k).toNat : Nat) : Int) := by omega
    have o0 := w_of0 (g := (fg k).toNat) hw (by omega)
    rw [← ge] at o0
    rw [sX4_holdAt_2]
    by_cases q1 : fs k = st
    · by_cases q2 : wf h a (47 + 7 * (fg k).toNat) = fc k
      · have eh : (hat st fs fg fc (wf h a) (n + 1) k) = hat st fs fg fc (wf h a) n (k + 1) := by
          rw [hat, if_neg (fun t => t.2 q2)]
        simp only [eh]
        simp (disch := omega) only [eX4_holdAt, sX4_holdAt_0, sX4_holdAt_1, sX4_holdAt_3, sX4_holdAt_4, sX4_holdAt_7, sX4_holdAt_10, sX4_holdAt_11, sX4_holdAt_14, sX4_holdAt_15, sX4_holdAt_16, sX4_holdAt_17, sX4_holdAt_20, sX4_holdAt_21, sX4_holdAt_22, sX4_holdAt_25, sX4_holdAt_26, sX4_holdAt_27, sX4_holdAt_28, sX4_holdAt_31, sX4_holdAt_32, sX4_holdAt_35, sX4_holdAt_36, sX4_holdAt_37, sX4_holdAt_40, sX4_holdAt_41, sX4_holdAt_42, sX4_holdAt_45, sX4_holdAt_48, sX4_holdAt_49, ↓if_pos, ↓if_neg, ↓gfi_at (k := 3) h1 rfl, ↓gfr_at (k := 0) h1 rfl, ↓gfr_at (k := 1) h1 rfl, ↓gfr_at (k := 2) h1 rfl, ↓gel_at h2, ↓gel_at h3, ↓gel_at h4, e0, ↓isW_cell hw, ↓bndi_at o0, is]
        exact I
      · have eh : (hat st fs fg fc (wf h a) (n + 1) k) = false := by
          rw [hat, if_pos ⟨q1, q2⟩]
        simp only [eh, Bool.false_eq_true, if_false]
        simp (disch := omega) only [eX4_holdAt, sX4_holdAt_0, sX4_holdAt_1, sX4_holdAt_3, sX4_holdAt_4, sX4_holdAt_7, sX4_holdAt_10, sX4_holdAt_11, sX4_holdAt_14, sX4_holdAt_15, sX4_holdAt_16, sX4_holdAt_17, sX4_holdAt_20, sX4_holdAt_21, sX4_holdAt_22, sX4_holdAt_25, sX4_holdAt_26, sX4_holdAt_27, sX4_holdAt_28, sX4_holdAt_31, sX4_holdAt_32, sX4_holdAt_35, sX4_holdAt_36, sX4_holdAt_37, sX4_holdAt_40, sX4_holdAt_41, sX4_holdAt_42, sX4_holdAt_45, sX4_holdAt_48, sX4_holdAt_49, gfi_0, gfi_s, gfr_0, gfr_s, gfl_0, gfl_s, cki_k, bndi_k, bndl_k, bndr_k, bndv_k, zup_2, zup_1, ↓reduceIte, if_true, if_false, true_or, or_true, not_true_eq_false, not_false_eq_true, ↓if_pos, ↓if_neg, ↓gfi_at (k := 3) h1 rfl, ↓gfr_at (k := 0) h1 rfl, ↓gfr_at (k := 1) h1 rfl, ↓gfr_at (k := 2) h1 rfl, ↓gel_at h2, ↓gel_at h3, ↓gel_at h4, e0, ↓isW_cell hw, ↓bndi_at o0, is]
    · have eh : (hat st fs fg fc (wf h a) (n + 1) k) = hat st fs fg fc (wf h a) n (k + 1) := by
        rw [hat, if_neg (fun t => q1 t.1)]
      simp only [eh]
      simp (disch := omega) only [eX4_holdAt, sX4_holdAt_0, sX4_holdAt_1, sX4_holdAt_3, sX4_holdAt_4, sX4_holdAt_7, sX4_holdAt_10, sX4_holdAt_11, sX4_holdAt_14, sX4_holdAt_15, sX4_holdAt_16, sX4_holdAt_17, sX4_holdAt_20, sX4_holdAt_21, sX4_holdAt_22, sX4_holdAt_25, sX4_holdAt_26, sX4_holdAt_27, sX4_holdAt_28, sX4_holdAt_31, sX4_holdAt_32, sX4_holdAt_35, sX4_holdAt_36, sX4_holdAt_37, sX4_holdAt_40, sX4_holdAt_41, sX4_holdAt_42, sX4_holdAt_45, sX4_holdAt_48, sX4_holdAt_49, ↓if_pos, ↓if_neg, ↓gfi_at (k := 3) h1 rfl, ↓gfr_at (k := 0) h1 rfl, ↓gel_at h2, e0, is]
      exact I
theorem N_holdAt {st : Int} (hw : isW h a) (hn : isN h p s g c fs fg fc (Z : Int)) (hz : Z ≤ 10) (hg : ∀ k, k < Z → 0 ≤ fg k ∧ fg k ≤ 4) : cl mX4_holdAt [vr p, vi st, vr a] h = some (vi (if hat st fs fg fc (wf h a) Z 0 then 1 else 0), h) := by
  have l := N_holdAt_l (st := st) hw hn hz hg Z 0 (by omega)
  simp only [eX4_holdAt, sX4_holdAt_0, sX4_holdAt_1, sX4_holdAt_3, sX4_holdAt_4, sX4_holdAt_7, sX4_holdAt_10, sX4_holdAt_11, sX4_holdAt_14, sX4_holdAt_15, sX4_holdAt_16, sX4_holdAt_17, sX4_holdAt_20, sX4_holdAt_21, sX4_holdAt_22, sX4_holdAt_25, sX4_holdAt_26, sX4_holdAt_27, sX4_holdAt_28, sX4_holdAt_31, sX4_holdAt_32, sX4_holdAt_35, sX4_holdAt_36, sX4_holdAt_37, sX4_holdAt_40, sX4_holdAt_41, sX4_holdAt_42, sX4_holdAt_45, sX4_holdAt_48, sX4_holdAt_49, gfi_0, gfi_s, gfr_0, gfr_s, gfl_0, gfl_s, cki_k, bndi_k, bndl_k, bndr_k, bndv_k, zup_2, zup_1, ↓reduceIte, if_true, if_false, true_or, or_true, not_true_eq_false, not_false_eq_true]
  exact l
end HA
