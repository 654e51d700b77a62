/-! World.pass with a rule; World.clear -/
theorem qrn_b {wv : Int → Int} {od : Nat → Int} : ∀ (m i : Nat) (top : Int) (sk : Nat → Int), 0 ≤ (qrn wv od m i top sk).1 ∧ (qrn wv od m i top sk).1 ≤ 3 := by
  intro m
  induction m with
  | zero => intro i top sk; exact ⟨by simp [qrn], by simp [qrn]⟩
  | succ m ih =>
    intro i top sk
    rw [qrn]
    split
    · exact ⟨by omega, by omega⟩
    · split
      · split
        · exact ih _ _ _
        · exact ⟨by omega, by omega⟩
      · split
        · exact ih _ _ _
        · split
          · exact ih _ _ _
          · split
            · exact ih _ _ _
            · exact ih _ _ _
/-- a rule apart from a World -/
def rul (H : zH) (a b o k n : Nat) (od sk : Nat → Int) : Prop := H.2 b = zob 4 [vr o, vr k] ∧ H.2 o = zar 1 n od ∧ H.2 k = zar 2 62 sk ∧ (b ≠ k ∧ o ≠ k ∧ a ≠ k ∧ wr H a ≠ k) ∧ b ≠ a ∧ b ≠ wr H a ∧ o ≠ a ∧ o ≠ wr H a
section RU
variable {H : zH} {a b o k n G : Nat} {od sk : Nat → Int}
theorem rul_st {f : Nat → Int} (hw : isW H a) (r : rul H a b o k n od sk) : rul (wst H a f) a b o k n od sk := by
  obtain ⟨r1, r2, r3, ⟨k1, k2, k3, k4⟩, n1, n2, n3, n4⟩ := r
  refine ⟨?_, ?_, ?_, ⟨k1, k2, k3, by rw [wr_st hw]; exact k4⟩, n1, by rw [wr_st hw]; exact n2, n3, by rw [wr_st hw]; exact n4⟩
  · rw [wst, zup_n n2]; exact r1
  · rw [wst, zup_n n4]; exact r2
  · rw [wst, zup_n (Ne.symm k4)]; exact r3
theorem rul_lu {l : Int} (hw : isW H a) (r : rul H a b o k n od sk) : rul (wlu H a l) a b o k n od sk := by
  obtain ⟨r1, r2, r3, ⟨k1, k2, k3, k4⟩, n1, n2, n3, n4⟩ := r
  refine ⟨?_, ?_, ?_, ⟨k1, k2, k3, by rw [wr_lu hw]; exact k4⟩, n1, by rw [wr_lu hw]; exact n2, n3, by rw [wr_lu hw]; exact n4⟩
  · rw [wlu, zup_n n1]; exact r1
  · rw [wlu, zup_n n3]; exact r2
  · rw [wlu, zup_n (Ne.symm k3)]; exact r3
theorem rul_sk {sk' : Nat → Int} (hw : isW H a) (r : rul H a b o k n od sk) : rul (zup H k (zar 2 62 sk')) a b o k n od sk' := by
  obtain ⟨r1, r2, r3, ⟨k1, k2, k3, k4⟩, n1, n2, n3, n4⟩ := r
  have e := (isW_off (c := zar 2 62 sk') hw k3 k4).2.1
  refine ⟨?_, ?_, zup_s, ⟨k1, k2, k3, by rw [e]; exact k4⟩, n1, by rw [e]; exact n2, n3, by rw [e]; exact n4⟩
  · rw [zup_n k1]; exact r1
  · rw [zup_n k2]; exact r2
theorem zup_wst {f : Nat → Int} {c : zC} (hw : isW H a) (k3 : a ≠ k) (k4 : wr H a ≠ k) : zup (wst H a f) k c = wst (zup H k c) a f := by
  rw [wst, wst, (isW_off hw k3 k4).2.1]
  exact zup_comm k4
theorem zup_wlu {l : Int} {c : zC} (hw : isW H a) (k3 : a ≠ k) (k4 : wr H a ≠ k) : zup (wlu H a l) k c = wlu (zup H k c) a l := by
  rw [wlu, wlu, (isW_off hw k3 k4).2.1]
  exact zup_comm k3
theorem wok_gon {f : Nat → Int} {g : Nat} (h : wok f G) (hg : g < G) (ho : f (50 + 7 * g) = 0) : gon f G g := by
  obtain ⟨h1, h2, h3, h4, h5, h6, h7⟩ := id h
  obtain ⟨a1, a2, a3, a4, a5, a6, a7, a8⟩ := h7 g hg
  exact ⟨by omega, h1, h2, h3.1, h3.2, (a6 ho).1, (a6 ho).2, a1.1, a1.2⟩
set_option maxHeartbeats 2000000 in
theorem w_passr_l (b0 : b ≠ 0) (hod : odok n od) : ∀ (m i : Nat) (H : zH) (sk : Nat → Int) (x3 x4 : zV), i + m = G → isW H a → wok (wf H a) G → rul H a b o k n od sk → rn mX9_pass 2 [vr a, vr b, vi (i : Int), x3, x4] [] H = some (vn, wlu (wst (zup H k (zar 2 62 (wpR (some (n, od)) G m i (wf H a, wl H a, sk)).2.2)) a (fup (wpR (some (n, od)) G m i (wf H a, wl H a, sk)).1 2 (i32 ((wpR (some (n, od)) G m i (wf H a, wl H a, sk)).1 2 + 1)))) a (wpR (some (n, od)) G m i (wf H a, wl H a, sk)).2.1) := by
  intro m
  induction m with
  | zero =>
    intro i H sk x3 x4 hk hw ho hr
    have e : i = G := by omega
    subst e
    have e1 : wf H a (Int.toNat 1) = (i : Int) := ho.1
    have e2 : Int.toNat 2 = 2 := rfl
    rw [sX9_pass_2]
    simp (disch := first | omega | assumption) only [eX9_pass, sX9_pass_0, sX9_pass_1, sX9_pass_3, sX9_pass_4, sX9_pass_7, sX9_pass_8, sX9_pass_9, sX9_pass_12, sX9_pass_13, sX9_pass_14, sX9_pass_15, sX9_pass_18, sX9_pass_19, sX9_pass_20, sX9_pass_23, sX9_pass_24, sX9_pass_27, sX9_pass_28, sX9_pass_31, sX9_pass_32, sX9_pass_33, sX9_pass_34, sX9_pass_37, sX9_pass_39, sX9_pass_40, sX9_pass_41, sX9_pass_42, sX9_pass_43, sX9_pass_44, sX9_pass_45, sX9_pass_48, sX9_pass_50, sX9_pass_51, sX9_pass_52, sX9_pass_53, sX9_pass_56, sX9_pass_57, sX9_pass_58, sX9_pass_61, sX9_pass_64, sX9_pass_65, sX9_pass_66, sX9_pass_69, sX9_pass_70, sX9_pass_71, sX9_pass_74, sX9_pass_77, sX9_pass_80, sX9_pass_81, sX9_pass_82, sX9_pass_83, sX9_pass_84, sX9_pass_87, sX9_pass_88, sX9_pass_89, sX9_pass_92, gfi_0, gfi_s, gfr_0, gfr_s, gfl_0, gfl_s, cki_k, bndi_k, bndl_k, bndr_k, bndv_k, zup_2, zup_1, ↓reduceIte, if_true, if_false, true_or, or_true, not_true_eq_false, not_false_eq_true, ↓if_pos, ↓if_neg, ↓isW_row, ↓isW_gel, e1, ↓isW_cell hw, ↓bndi_at (w_get (i := 2) hw (by omega) (by omega)), e2, w_set, wpR]
    rw [zup_id hr.2.2.1, ← wl_st (f := fup (wf H a) 2 (i32 (wf H a 2 + 1))) hw, wlu_id (isW_st hw)]
  | succ m ih =>
    intro i H sk x3 x4 hk hw ho hr
    have hkG : i < G := by omega
    have e1 : wf H a (Int.toNat 1) = (G : Int) := ho.1
    obtain ⟨-, h2, h3, h4, h5, h6, h7⟩ := id ho
    obtain ⟨a1, a2, a3, a4, a5, a6, a7, a8⟩ := h7 i hkG
    obtain ⟨r1, r2, r3, ⟨k1, k2, k3, k4⟩, n1, n2, n3, n4⟩ := id hr
    have is : i32 ((i : Int) + 1) = ((i + 1 : Nat) : Int) := i32_s i (by omega)
    rw [sX9_pass_2]
    rw [wpR, wp1]
    by_cases z : wf H a (50 + 7 * i) = 0
    · simp only [z, if_true]
      have Q := R_quarters hw (wok_gon ho hkG z) r1 r2 r3 hod k1 k2 k3 k4
      have qb := qrn_b (wv := wwd (wf H a) G i) (od := od) n 0 0 sk
      generalize hQ : qrn (wwd (wf H a) G i) od n 0 0 sk = Q0 at *
      obtain ⟨w1, w2, w3, w4⟩ := isW_off (c := zar 2 62 Q0.2) hw k3 k4
      have rr := rul_sk (sk' := Q0.2) hw hr
      have q3 : q2 (· &&& ·) (wf H a (48 + 7 * i) + Q0.1) 3 = (wf H a (48 + 7 * i) + Q0.1) % 4 := q_and3 (i32_of (by omega) (by omega))
      have f0 : i32 (wf H a (48 + 7 * i) + Q0.1) = wf H a (48 + 7 * i) + Q0.1 := i32_of (by omega) (by omega)
      have k1' : wok (fup (wf H a) (48 + 7 * i) ((wf H a (48 + 7 * i) + Q0.1) % 4)) G := wturn_ok ho hkG (by omega)
      have o3 := w_of3 hw (show i ≤ 4 by omega)
      rw [z] at o3
      have zz : ∀ c, zup (zup H k (zar 2 62 Q0.2)) k c = zup H k c := fun c => zup_zup
      generalize hK : zup H k (zar 2 62 Q0.2) = K at *
      have o1 := w_of1 w1 (show i ≤ 4 by omega)
      have p1 := w_put1 (v := (wf H a (48 + 7 * i) + Q0.1) % 4) w1 (show i ≤ 4 by omega)
      rw [w4] at o1 p1
      generalize hF : fup (wf H a) (48 + 7 * i) ((wf H a (48 + 7 * i) + Q0.1) % 4) = F at *
      have zF : F (50 + 7 * i) = 0 := by rw [← hF, fup_n (by omega)]; exact z
      have t1 := isW_st (f := F) w1
      have go := w_go (H := wst K a F) (g := i) t1 (by rw [wf_st w1]; exact k1') hkG (by rw [wf_st w1]; exact zF)
      rw [wf_st w1, wst_st w1] at go
      have t2 := isW_st (f := wgo F i) w1
      have I := ih (i + 1) (wst K a (wgo F i)) Q0.2 (vi 0) (vi Q0.1) (by omega) t2 (by rw [wf_st w1]; exact wgo_ok k1' hkG zF) (rul_st w1 rr)
      rw [wf_st w1, wl_st w1, w3, zup_wst w1 k3 (by rw [w2]; exact k4), zz, wst_st (isW_off hw k3 k4).1] at I
      simp (disch := first | omega | assumption) only [eX9_pass, sX9_pass_0, sX9_pass_1, sX9_pass_3, sX9_pass_4, sX9_pass_7, sX9_pass_8, sX9_pass_9, sX9_pass_12, sX9_pass_13, sX9_pass_14, sX9_pass_15, sX9_pass_18, sX9_pass_19, sX9_pass_20, sX9_pass_23, sX9_pass_24, sX9_pass_27, sX9_pass_28, sX9_pass_31, sX9_pass_32, sX9_pass_33, sX9_pass_34, sX9_pass_37, sX9_pass_39, sX9_pass_40, sX9_pass_41, sX9_pass_42, sX9_pass_43, sX9_pass_44, sX9_pass_45, sX9_pass_48, sX9_pass_50, sX9_pass_51, sX9_pass_52, sX9_pass_53, sX9_pass_56, sX9_pass_57, sX9_pass_58, sX9_pass_61, sX9_pass_64, sX9_pass_65, sX9_pass_66, sX9_pass_69, sX9_pass_70, sX9_pass_71, sX9_pass_74, sX9_pass_77, sX9_pass_80, sX9_pass_81, sX9_pass_82, sX9_pass_83, sX9_pass_84, sX9_pass_87, sX9_pass_88, sX9_pass_89, sX9_pass_92, gfi_0, gfi_s, gfr_0, gfr_s, gfl_0, gfl_s, cki_k, bndi_k, bndl_k, bndr_k, bndv_k, zup_2, zup_1, ↓reduceIte, if_true, if_false, true_or, or_true, not_true_eq_false, not_false_eq_true, ↓if_pos, ↓if_neg, ↓isW_row, ↓isW_gel, e1, ↓isW_cell hw, ↓isW_cell w1, ↓isW_cell t1, ↓cki_at r1, ↓bndi_at o3, ↓bndi_at Q, ↓bndi_at o1, f0, q3, ↓bndv_at p1, ↓bndv_at go, is]
      exact I
    · simp only [z, if_false]
      have o3 := w_of3 hw (show i ≤ 4 by omega)
      by_cases z1 : wf H a (50 + 7 * i) = 1
      · simp only [z1, if_true]
        have bo := w_bo (g := i) hw ho hkG z1
        have t2 := isW_lu (l := wbl (wl H a) (wf H a) i) (isW_st (f := wbo (wf H a) i) hw)
        have I := ih (i + 1) (wlu (wst H a (wbo (wf H a) i)) a (wbl (wl H a) (wf H a) i)) sk (vi 1) x4 (by omega) t2 (by rw [wf_lu (isW_st hw), wf_st hw]; exact wbo_ok ho hkG z1) (rul_lu (isW_st hw) (rul_st hw hr))
        have W1 : ∀ c, isW (zup H k c) a := fun c => (isW_off hw k3 k4).1
        rw [wf_lu (isW_st hw), wf_st hw, wl_lu (isW_st hw), zup_wlu (isW_st hw) k3 (by rw [wr_st hw]; exact k4), zup_wst hw k3 k4, wst_lu (isW_st (W1 _)), wst_st (W1 _), wlu_lu (isW_st (W1 _))] at I
        rw [z1] at o3
        simp (disch := first | omega | assumption) only [eX9_pass, sX9_pass_0, sX9_pass_1, sX9_pass_3, sX9_pass_4, sX9_pass_7, sX9_pass_8, sX9_pass_9, sX9_pass_12, sX9_pass_13, sX9_pass_14, sX9_pass_15, sX9_pass_18, sX9_pass_19, sX9_pass_20, sX9_pass_23, sX9_pass_24, sX9_pass_27, sX9_pass_28, sX9_pass_31, sX9_pass_32, sX9_pass_33, sX9_pass_34, sX9_pass_37, sX9_pass_39, sX9_pass_40, sX9_pass_41, sX9_pass_42, sX9_pass_43, sX9_pass_44, sX9_pass_45, sX9_pass_48, sX9_pass_50, sX9_pass_51, sX9_pass_52, sX9_pass_53, sX9_pass_56, sX9_pass_57, sX9_pass_58, sX9_pass_61, sX9_pass_64, sX9_pass_65, sX9_pass_66, sX9_pass_69, sX9_pass_70, sX9_pass_71, sX9_pass_74, sX9_pass_77, sX9_pass_80, sX9_pass_81, sX9_pass_82, sX9_pass_83, sX9_pass_84, sX9_pass_87, sX9_pass_88, sX9_pass_89, sX9_pass_92, gfi_0, gfi_s, gfr_0, gfr_s, gfl_0, gfl_s, cki_k, bndi_k, bndl_k, bndr_k, bndv_k, zup_2, zup_1, ↓reduceIte, if_true, if_false, true_or, or_true, not_true_eq_false, not_false_eq_true, ↓if_pos, ↓if_neg, ↓isW_row, ↓isW_gel, e1, ↓isW_cell hw, ↓bndi_at o3, ↓bndv_at bo, is]
        exact I
      · simp only [z1, if_false]
        have I := ih (i + 1) H sk (vi (wf H a (50 + 7 * i))) x4 (by omega) hw ho hr
        simp (disch := first | omega | assumption) only [eX9_pass, sX9_pass_0, sX9_pass_1, sX9_pass_3, sX9_pass_4, sX9_pass_7, sX9_pass_8, sX9_pass_9, sX9_pass_12, sX9_pass_13, sX9_pass_14, sX9_pass_15, sX9_pass_18, sX9_pass_19, sX9_pass_20, sX9_pass_23, sX9_pass_24, sX9_pass_27, sX9_pass_28, sX9_pass_31, sX9_pass_32, sX9_pass_33, sX9_pass_34, sX9_pass_37, sX9_pass_39, sX9_pass_40, sX9_pass_41, sX9_pass_42, sX9_pass_43, sX9_pass_44, sX9_pass_45, sX9_pass_48, sX9_pass_50, sX9_pass_51, sX9_pass_52, sX9_pass_53, sX9_pass_56, sX9_pass_57, sX9_pass_58, sX9_pass_61, sX9_pass_64, sX9_pass_65, sX9_pass_66, sX9_pass_69, sX9_pass_70, sX9_pass_71, sX9_pass_74, sX9_pass_77, sX9_pass_80, sX9_pass_81, sX9_pass_82, sX9_pass_83, sX9_pass_84, sX9_pass_87, sX9_pass_88, sX9_pass_89, sX9_pass_92, gfi_0, gfi_s, gfr_0, gfr_s, gfl_0, gfl_s, cki_k, bndi_k, bndl_k, bndr_k, bndv_k, zup_2, zup_1, ↓reduceIte, if_true, if_false, true_or, or_true, not_true_eq_false, not_false_eq_true, ↓if_pos, ↓if_neg, ↓isW_row, ↓isW_gel, e1, ↓isW_cell hw, ↓bndi_at o3, z, z1, is]
        exact I
theorem w_passr (hw : isW H a) (ho : wok (wf H a) G) (hr : rul H a b o k n od sk) (b0 : b ≠ 0) (hod : odok n od) : cl mX9_pass [vr a, vr b] H = some (vn, wlu (wst (zup H k (zar 2 62 (wpa (some (n, od)) G (wf H a, wl H a, sk)).2.2)) a (wpa (some (n, od)) G (wf H a, wl H a, sk)).1) a (wpa (some (n, od)) G (wf H a, wl H a, sk)).2.1) := by
  have l := w_passr_l b0 hod G 0 H sk vn vn (by omega) hw ho hr
  simp only [eX9_pass, sX9_pass_0, sX9_pass_1, sX9_pass_3, sX9_pass_4, sX9_pass_7, sX9_pass_8, sX9_pass_9, sX9_pass_12, sX9_pass_13, sX9_pass_14, sX9_pass_15, sX9_pass_18, sX9_pass_19, sX9_pass_20, sX9_pass_23, sX9_pass_24, sX9_pass_27, sX9_pass_28, sX9_pass_31, sX9_pass_32, sX9_pass_33, sX9_pass_34, sX9_pass_37, sX9_pass_39, sX9_pass_40, sX9_pass_41, sX9_pass_42, sX9_pass_43, sX9_pass_44, sX9_pass_45, sX9_pass_48, sX9_pass_50, sX9_pass_51, sX9_pass_52, sX9_pass_53, sX9_pass_56, sX9_pass_57, sX9_pass_58, sX9_pass_61, sX9_pass_64, sX9_pass_65, sX9_pass_66, sX9_pass_69, sX9_pass_70, sX9_pass_71, sX9_pass_74, sX9_pass_77, sX9_pass_80, sX9_pass_81, sX9_pass_82, sX9_pass_83, sX9_pass_84, sX9_pass_87, sX9_pass_88, sX9_pass_89, sX9_pass_92, gfi_0, gfi_s, gfr_0, gfr_s, gfl_0, gfl_s, cki_k, bndi_k, bndl_k, bndr_k, bndv_k, zup_2, zup_1, ↓reduceIte, if_true, if_false, true_or, or_true, not_true_eq_false, not_false_eq_true]
  exact l
end RU
