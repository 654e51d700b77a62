/-! Notes: holdFrom, copyFrom -/
/-- the last step told of, from note k on -/
def nlast (fs : Nat → Int) : Nat → Nat → Int → Int
  | 0, _, l => l
  | n + 1, k, l => nlast fs n (k + 1) (if l < fs k then fs k else l)
theorem nlast_b {fs : Nat → Int} : ∀ (n k : Nat) (l : Int), (-1 ≤ l ∧ l ≤ 1000) → (∀ j, j < k + n → 0 ≤ fs j ∧ fs j ≤ 1000) → -1 ≤ nlast fs n k l ∧ nlast fs n k l ≤ 1000
  | 0, _, _, h, _ => h
  | n + 1, k, l, h, hf => nlast_b n (k + 1) _ (by have := hf k (by omega); split <;> omega) (fun j hj => hf j (by omega))
/-- steps st.. as far as last (n left): are all so? and where the world stands -/
def hfr (ru : Option (Nat × (Nat → Int))) (G Z : Nat) (fs fg fc : Nat → Int) : Nat → Int → (Nat → Int) × Int × (Nat → Int) → Int × ((Nat → Int) × Int × (Nat → Int))
  | 0, _, x => (1, x)
  | n + 1, st, x => if hat st fs fg fc x.1 Z 0 then (if n = 0 then (1, x) else hfr ru G Z fs fg fc n (st + 1) (wpa ru G x)) else (0, x)
section HF
variable {a b o k p s g c G Z : Nat} {fs fg fc : Nat → Int} {ru : Option (Nat × (Nat → Int))}
theorem N_hf1 {H : zH} (hn : isN H p s g c fs fg fc (Z : Int)) (hz : Z ≤ 10) : ∀ (n i : Nat) (l : Int), i + n = Z → rn mX4_holdFrom 5 [vr p, vr a, vr b, vi l, vi (i : Int)] [] H = rn mX4_holdFrom 32 [vr p, vr a, vr b, vi (nlast fs n i l), vi (Z : Int)] [] H := by
  obtain ⟨h1, h2, h3, h4⟩ := hn
  intro n
  induction n with
  | zero =>
    intro i l hi
    have e : i = Z := by omega
    subst e
    rw [sX4_holdFrom_5]
    simp (disch := omega) only [sX4_holdFrom_7, sX4_holdFrom_8, sX4_holdFrom_11, ↓if_pos, ↓gfi_at (k := 3) h1 rfl, nlast]
  | succ n ih =>
    intro i l hi
    have is : i32 ((i : Int) + 1) = ((i + 1 : Nat) : Int) := i32_s i (by omega)
    have e0 : Int.toNat (i : Int) = i := Int.toNat_natCast i
    have I := ih (i + 1) (if l < fs i then fs i else l) (by omega)
    rw [sX4_holdFrom_5]
    rw [nlast]
    generalize hl : (if l < fs i then fs i else l) = l2 at *
    simp (disch := omega) only [sX4_holdFrom_7, sX4_holdFrom_8, sX4_holdFrom_11, sX4_holdFrom_14, sX4_holdFrom_15, sX4_holdFrom_16, sX4_holdFrom_19, sX4_holdFrom_21, sX4_holdFrom_22, sX4_holdFrom_25, sX4_holdFrom_26, sX4_holdFrom_29, ↓if_neg, ↓gfi_at (k := 3) h1 rfl, ↓gfr_at (k := 0) h1 rfl, ↓gel_at h2, e0, hl, is]
    exact I
/-- Notes apart from a World and a rule's stack -/
def nap (H : zH) (a k p s g c : Nat) : Prop := (p ≠ a ∧ p ≠ wr H a ∧ p ≠ k) ∧ (s ≠ a ∧ s ≠ wr H a ∧ s ≠ k) ∧ (g ≠ a ∧ g ≠ wr H a ∧ g ≠ k) ∧ (c ≠ a ∧ c ≠ wr H a ∧ c ≠ k)
theorem nap_p {H : zH} {sk : Nat → Int} {X : (Nat → Int) × Int × (Nat → Int)} (hw : isW H a) (hr : rlO H a b o k ru sk) (h : nap H a k p s g c) : nap (pst H a k ru X) a k p s g c := by
  unfold nap
  rw [pst_r hw hr]
  exact h
theorem isN_p {H : zH} {sk : Nat → Int} {z : Int} {X : (Nat → Int) × Int × (Nat → Int)} (hw : isW H a) (hr : rlO H a b o k ru sk) (h : nap H a k p s g c) (hn : isN H p s g c fs fg fc z) : isN (pst H a k ru X) p s g c fs fg fc z := by
  obtain ⟨⟨p1, p2, p3⟩, ⟨s1, s2, s3⟩, ⟨g1, g2, g3⟩, c1, c2, c3⟩ := h
  obtain ⟨h1, h2, h3, h4⟩ := hn
  exact ⟨by rw [pst_off hw hr p1 p2 p3]; exact h1, by rw [pst_off hw hr s1 s2 s3]; exact h2, by rw [pst_off hw hr g1 g2 g3]; exact h3, by rw [pst_off hw hr c1 c2 c3]; exact h4⟩
theorem N_hf2 {l : Int} (hz : Z ≤ 10) (hg : ∀ k, k < Z → 0 ≤ fg k ∧ fg k ≤ 4) (hl : -1 ≤ l ∧ l ≤ 1000) : ∀ (n : Nat) (st : Int) (H : zH) (sk : Nat → Int), st + n = l + 1 → 0 ≤ st → isW H a → wok (wf H a) G → rlO H a b o k ru sk → nap H a k p s g c → isN H p s g c fs fg fc (Z : Int) → rn mX4_holdFrom 35 [vr p, vr a, vr b, vi l, vi st] [] H = some (vi (hfr ru G Z fs fg fc n st (wf H a, wl H a, sk)).1, pst H a k ru (hfr ru G Z fs fg fc n st (wf H a, wl H a, sk)).2) := by
  intro n
  induction n with
  | zero =>
    intro st H sk hs h0 hw ho hr ha hn
    rw [sX4_holdFrom_35]
    simp (disch := omega) only [eX4_holdFrom, sX4_holdFrom_0, sX4_holdFrom_1, sX4_holdFrom_2, sX4_holdFrom_3, sX4_holdFrom_7, sX4_holdFrom_8, sX4_holdFrom_11, sX4_holdFrom_14, sX4_holdFrom_15, sX4_holdFrom_16, sX4_holdFrom_19, sX4_holdFrom_21, sX4_holdFrom_22, sX4_holdFrom_25, sX4_holdFrom_26, sX4_holdFrom_29, sX4_holdFrom_32, sX4_holdFrom_33, sX4_holdFrom_37, sX4_holdFrom_38, sX4_holdFrom_41, sX4_holdFrom_42, sX4_holdFrom_44, sX4_holdFrom_45, sX4_holdFrom_48, sX4_holdFrom_51, sX4_holdFrom_52, sX4_holdFrom_53, sX4_holdFrom_55, sX4_holdFrom_56, sX4_holdFrom_59, sX4_holdFrom_60, sX4_holdFrom_61, sX4_holdFrom_64, sX4_holdFrom_67, sX4_holdFrom_70, sX4_holdFrom_71, gfi_0, gfi_s, gfr_0, gfr_s, gfl_0, gfl_s, cki_k, bndi_k, bndl_k, bndr_k, bndv_k, zup_2, zup_1, ↓reduceIte, if_true, if_false, true_or, or_true, not_true_eq_false, not_false_eq_true, ↓if_pos, hfr]
    rw [pst_id hw hr]
  | succ n ih =>
    intro st H sk hs h0 hw ho hr ha hn
    have hA := N_holdAt (st := st) hw hn hz hg
    have is : i32 (st + 1) = st + 1 := i32_of (by omega) (by omega)
    obtain ⟨h1, -, -, -⟩ := id hn
    rw [sX4_holdFrom_35]
    rw [hfr]
    by_cases q : hat st fs fg fc (wf H a) Z 0 = true
    · rw [if_pos q] at hA
      rw [if_pos q]
      by_cases n0 : n = 0
      · subst n0
        have I := ih (st + 1) H sk (by omega) (by omega) hw ho hr ha hn
        rw [if_pos rfl]
        simp only [hfr] at I
        simp (disch := omega) only [eX4_holdFrom, sX4_holdFrom_0, sX4_holdFrom_1, sX4_holdFrom_2, sX4_holdFrom_3, sX4_holdFrom_7, sX4_holdFrom_8, sX4_holdFrom_11, sX4_holdFrom_14, sX4_holdFrom_15, sX4_holdFrom_16, sX4_holdFrom_19, sX4_holdFrom_21, sX4_holdFrom_22, sX4_holdFrom_25, sX4_holdFrom_26, sX4_holdFrom_29, sX4_holdFrom_32, sX4_holdFrom_33, sX4_holdFrom_37, sX4_holdFrom_38, sX4_holdFrom_41, sX4_holdFrom_42, sX4_holdFrom_44, sX4_holdFrom_45, sX4_holdFrom_48, sX4_holdFrom_51, sX4_holdFrom_52, sX4_holdFrom_53, sX4_holdFrom_55, sX4_holdFrom_56, sX4_holdFrom_59, sX4_holdFrom_60, sX4_holdFrom_61, sX4_holdFrom_64, sX4_holdFrom_67, sX4_holdFrom_70, sX4_holdFrom_71, ↓if_pos, ↓if_neg, ↓cki_at h1, ↓bndi_at hA, is]
        exact I
      · rw [if_neg n0]
        have P := p_pass hw ho hr
        have w1 := pst_w (X := wpa ru G (wf H a, wl H a, sk)) hw hr
        have I := ih (st + 1) (pst H a k ru (wpa ru G (wf H a, wl H a, sk))) (wpa ru G (wf H a, wl H a, sk)).2.2 (by omega) (by omega) w1 (by rw [pst_f hw hr]; exact wpa_ok ho) (pst_ru hw hr) (nap_p hw hr ha) (isN_p hw hr ha hn)
        rw [pst_f hw hr, pst_l hw hr, pst_pst hw hr] at I
        simp (disch := omega) only [eX4_holdFrom, sX4_holdFrom_0, sX4_holdFrom_1, sX4_holdFrom_2, sX4_holdFrom_3, sX4_holdFrom_7, sX4_holdFrom_8, sX4_holdFrom_11, sX4_holdFrom_14, sX4_holdFrom_15, sX4_holdFrom_16, sX4_holdFrom_19, sX4_holdFrom_21, sX4_holdFrom_22, sX4_holdFrom_25, sX4_holdFrom_26, sX4_holdFrom_29, sX4_holdFrom_32, sX4_holdFrom_33, sX4_holdFrom_37, sX4_holdFrom_38, sX4_holdFrom_41, sX4_holdFrom_42, sX4_holdFrom_44, sX4_holdFrom_45, sX4_holdFrom_48, sX4_holdFrom_51, sX4_holdFrom_52, sX4_holdFrom_53, sX4_holdFrom_55, sX4_holdFrom_56, sX4_holdFrom_59, sX4_holdFrom_60, sX4_holdFrom_61, sX4_holdFrom_64, sX4_holdFrom_67, sX4_holdFrom_70, sX4_holdFrom_71, ↓if_pos, ↓if_neg, ↓cki_at h1, ↓bndi_at hA, ↓isW_cell hw, ↓bndv_at P, is]
        exact I
    · rw [if_neg q] at hA
      rw [if_neg q]
      simp (disch := omega) only [eX4_holdFrom, sX4_holdFrom_0, sX4_holdFrom_1, sX4_holdFrom_2, sX4_holdFrom_3, sX4_holdFrom_7, sX4_holdFrom_8, sX4_holdFrom_11, sX4_holdFrom_14, sX4_holdFrom_15, sX4_holdFrom_16, sX4_holdFrom_19, sX4_holdFrom_21, sX4_holdFrom_22, sX4_holdFrom_25, sX4_holdFrom_26, sX4_holdFrom_29, sX4_holdFrom_32, sX4_holdFrom_33, sX4_holdFrom_37, sX4_holdFrom_38, sX4_holdFrom_41, sX4_holdFrom_42, sX4_holdFrom_44, sX4_holdFrom_45, sX4_holdFrom_48, sX4_holdFrom_51, sX4_holdFrom_52, sX4_holdFrom_53, sX4_holdFrom_55, sX4_holdFrom_56, sX4_holdFrom_59, sX4_holdFrom_60, sX4_holdFrom_61, sX4_holdFrom_64, sX4_holdFrom_67, sX4_holdFrom_70, sX4_holdFrom_71, gfi_0, gfi_s, gfr_0, gfr_s, gfl_0, gfl_s, cki_k, bndi_k, bndl_k, bndr_k, bndv_k, zup_2, zup_1, ↓reduceIte, if_true, if_false, true_or, or_true, not_true_eq_false, not_false_eq_true, ↓if_pos, ↓if_neg, ↓cki_at h1, ↓bndi_at hA]
      rw [pst_id hw hr]
theorem N_holdFrom {H : zH} {sk : Nat → Int} (hz : Z ≤ 10) (hg : ∀ k, k < Z → 0 ≤ fg k ∧ fg k ≤ 4) (hs : ∀ k, k < Z → 0 ≤ fs k ∧ fs k ≤ 1000) (hw : isW H a) (ho : wok (wf H a) G) (hr : rlO H a b o k ru sk) (ha : nap H a k p s g c) (hn : isN H p s g c fs fg fc (Z : Int)) : cl mX4_holdFrom [vr p, vr a, vr b] H = some (vi (hfr ru G Z fs fg fc (nlast fs Z 0 (-1) + 1).toNat 0 (wf H a, wl H a, sk)).1, pst H a k ru (hfr ru G Z fs fg fc (nlast fs Z 0 (-1) + 1).toNat 0 (wf H a, wl H a, sk)).2) := by
  have lb := nlast_b (fs := fs) Z 0 (-1) (by omega) (fun j hj => hs j (by omega))
  have l1 := N_hf1 (a := a) (b := b) hn hz Z 0 (-1) (by omega)
  have l2 := N_hf2 hz hg lb (nlast fs Z 0 (-1) + 1).toNat 0 H sk (by omega) (by omega) hw ho hr ha hn
  rw [show (((0 : Nat) : Int)) = 0 from rfl] at l1
  rw [eX4_holdFrom, sX4_holdFrom_0, sX4_holdFrom_1, sX4_holdFrom_2, sX4_holdFrom_3, l1, sX4_holdFrom_32, sX4_holdFrom_33]
  exact l2
end HF
