/-! World.pass: one step of all goers -/
def gok (f : Nat → Int) (g : Nat) : Prop := (0 ≤ f (48 + 7 * g) ∧ f (48 + 7 * g) ≤ 3) ∧ (0 ≤ f (49 + 7 * g) ∧ f (49 + 7 * g) ≤ 99) ∧ (0 ≤ f (50 + 7 * g) ∧ f (50 + 7 * g) ≤ 2) ∧ (0 ≤ f (51 + 7 * g) ∧ f (51 + 7 * g) ≤ 9) ∧ (0 ≤ f (53 + 7 * g) ∧ f (53 + 7 * g) < f 0) ∧ (f (50 + 7 * g) = 0 → 0 ≤ f (47 + 7 * g) ∧ f (47 + 7 * g) < f 0 * f 0) ∧ (f (50 + 7 * g) ≠ 0 → f (47 + 7 * g) = -1) ∧ (f (50 + 7 * g) ≠ 1 → f (51 + 7 * g) = 0)
def wok (f : Nat → Int) (G : Nat) : Prop := f 1 = (G : Int) ∧ G ≤ 5 ∧ (1 ≤ f 0 ∧ f 0 ≤ 6) ∧ (∀ e, e < 4 → 0 ≤ f (3 + e) ∧ f (3 + e) ≤ 3) ∧ (∀ e, e < 4 → 0 ≤ f (7 + e) ∧ f (7 + e) ≤ 9) ∧ (∀ c, c < 36 → 0 ≤ f (11 + c) ∧ f (11 + c) ≤ 1) ∧ ∀ g, g < G → gok f g
/-- what differs only in goer g's own places, and is right there -/
theorem wok_at {f f' : Nat → Int} {G g : Nat} (h : wok f G) (hg : g < G) (hd : ∀ j, (j < 47 + 7 * g ∨ 54 + 7 * g ≤ j) → f' j = f j) (hk : gok f' g) : wok f' G := by
  obtain ⟨h1, h2, h3, h4, h5, h6, h7⟩ := h
  refine ⟨by rw [hd 1 (by omega)]; exact h1, h2, by rw [hd 0 (by omega)]; exact h3, fun e he => by rw [hd (3 + e) (by omega)]; exact h4 e he, fun e he => by rw [hd (7 + e) (by omega)]; exact h5 e he, fun c hc => by rw [hd (11 + c) (by omega)]; exact h6 c hc, fun k hk2 => ?_⟩
  by_cases q : k = g
  · subst q; exact hk
  · have := h7 k hk2
    unfold gok at this ⊢
    rw [hd (48 + 7 * k) (by omega), hd (49 + 7 * k) (by omega), hd (50 + 7 * k) (by omega), hd (51 + 7 * k) (by omega), hd (53 + 7 * k) (by omega), hd (47 + 7 * k) (by omega), hd 0 (by omega)]
    exact this
theorem fup_blk {f : Nat → Int} {k g j : Nat} {v : Int} (hk : 47 + 7 * g ≤ k ∧ k < 54 + 7 * g) (hj : j < 47 + 7 * g ∨ 54 + 7 * g ≤ j) : fup f k v j = f j := fup_n (by omega)
theorem wpl_b {s c e : Int} (h1 : 1 ≤ s) (h3 : 0 ≤ c) (h4 : c < s * s) : 0 ≤ wpl s c e ∧ wpl s c e < s := by
  have m := emb (c := c) (s := s) (by omega)
  have d := Int.ediv_lt_of_lt_mul (a := c) (b := s) (c := s) (by omega) h4
  have d0 := Int.ediv_nonneg h3 (show 0 ≤ s by omega)
  unfold wpl
  split <;> omega
theorem wgo_ok {f : Nat → Int} {G g : Nat} (h : wok f G) (hg : g < G) (ho : f (50 + 7 * g) = 0) : wok (wgo f g) G := by
  obtain ⟨h1, h2, h3, h4, h5, h6, h7⟩ := id h
  obtain ⟨a1, a2, a3, a4, a5, a6, a7, a8⟩ := h7 g hg
  have c := a6 ho
  have nb := wnx_b (s := f 0) (c := f (47 + 7 * g)) (fa := f (48 + 7 * g)) h3.1 h3.2 c.1 c.2 a1.1 a1.2
  have pb := wpl_b (s := f 0) (c := f (47 + 7 * g)) (e := f (48 + 7 * g)) h3.1 c.1 c.2
  have db := h5 (f (48 + 7 * g)).toNat (by omega)
  unfold wgo
  split
  · refine wok_at h hg (fun j hj => by rw [fup_blk (g := g) (by omega) hj, fup_blk (g := g) (by omega) hj, fup_blk (g := g) (by omega) hj, fup_blk (g := g) (by omega) hj, fup_blk (g := g) (by omega) hj]) ?_
    unfold gok
    simp (disch := omega) only [fup_s, fup_n]
    refine ⟨a1, a2, by omega, db, pb, fun q => by omega, fun _ => trivial, fun q => absurd rfl q⟩
  · split
    · exact h
    · refine wok_at h hg (fun j hj => fup_blk (g := g) (by omega) hj) ?_
      unfold gok
      simp (disch := omega) only [fup_s, fup_n]
      exact ⟨a1, a2, a3, a4, a5, fun _ => by omega, fun q => absurd ho q, a8⟩
theorem wci_ok {f : Nat → Int} {G g : Nat} (h : wok f G) (hg : g < G) (ho : f (50 + 7 * g) = 1) (hl : f (51 + 7 * g) = 0) : wok (wci f g) G := by
  obtain ⟨h1, h2, h3, h4, h5, h6, h7⟩ := id h
  obtain ⟨a1, a2, a3, a4, a5, a6, a7, a8⟩ := h7 g hg
  have lb := h4 (f (48 + 7 * g)).toNat (by omega)
  have cb := wca_b h3.1 h3.2 a5.1 a5.2 lb.1 lb.2
  unfold wci
  split
  · exact h
  · refine wok_at h hg (fun j hj => by rw [fup_blk (g := g) (by omega) hj, fup_blk (g := g) (by omega) hj, fup_blk (g := g) (by omega) hj]) ?_
    unfold gok
    simp (disch := omega) only [fup_s, fup_n]
    exact ⟨by omega, a2, by omega, a4, a5, fun _ => by omega, fun q => absurd rfl q, fun _ => hl⟩
theorem wbo_ok {f : Nat → Int} {G g : Nat} (h : wok f G) (hg : g < G) (ho : f (50 + 7 * g) = 1) : wok (wbo f g) G := by
  obtain ⟨h1, h2, h3, h4, h5, h6, h7⟩ := id h
  obtain ⟨a1, a2, a3, a4, a5, a6, a7, a8⟩ := h7 g hg
  have ac := a7 (by omega)
  unfold wbo
  split
  · refine wok_at h hg (fun j hj => by rw [fup_blk (g := g) (by omega) hj, fup_blk (g := g) (by omega) hj]) ?_
    unfold gok
    simp (disch := omega) only [fup_s, fup_n]
    exact ⟨a1, a2, by omega, by omega, a5, fun q => by omega, fun _ => ac, fun _ => trivial⟩
  · split
    · refine wok_at h hg (fun j hj => by rw [fup_blk (g := g) (by omega) hj, fup_blk (g := g) (by omega) hj]) ?_
      unfold gok
      simp (disch := omega) only [fup_s, fup_n]
      exact ⟨a1, by omega, a3, by omega, a5, fun q => by omega, fun _ => ac, fun q => absurd ho q⟩
    · have k1 : wok (fup f (49 + 7 * g) (f (49 + 7 * g) - 1)) G := by
        refine wok_at h hg (fun j hj => fup_blk (g := g) (by omega) hj) ?_
        unfold gok
        simp (disch := omega) only [fup_s, fup_n]
        exact ⟨a1, by omega, a3, a4, a5, a6, a7, a8⟩
      exact wci_ok k1 hg (by rw [fup_n (by omega)]; exact ho) (by rw [fup_n (by omega)]; omega)
theorem wturn_ok {f : Nat → Int} {G g : Nat} {q : Int} (h : wok f G) (hg : g < G) (hq : 0 ≤ q ∧ q ≤ 3) : wok (fup f (48 + 7 * g) q) G := by
  obtain ⟨h1, h2, h3, h4, h5, h6, h7⟩ := id h
  obtain ⟨a1, a2, a3, a4, a5, a6, a7, a8⟩ := h7 g hg
  refine wok_at h hg (fun j hj => fup_blk (g := g) (by omega) hj) ?_
  unfold gok
  simp (disch := omega) only [fup_s, fup_n]
  exact ⟨hq, a2, a3, a4, a5, a6, a7, a8⟩
/-- one goer's step: row, last edge, the rule's stack; 'ru': the orders, if there is a rule -/
def wp1 (ru : Option (Nat × (Nat → Int))) (G g : Nat) (x : (Nat → Int) × Int × (Nat → Int)) : (Nat → Int) × Int × (Nat → Int) :=
  if x.1 (50 + 7 * g) = 0 then
    match ru with
    | none => (wgo (fup x.1 (48 + 7 * g) (x.1 (48 + 7 * g) % 4)) g, x.2.1, x.2.2)
    | some (n, od) => (wgo (fup x.1 (48 + 7 * g) ((x.1 (48 + 7 * g) + (qrn (wwd x.1 G g) od n 0 0 x.2.2).1) % 4)) g, x.2.1, (qrn (wwd x.1 G g) od n 0 0 x.2.2).2)
  else if x.1 (50 + 7 * g) = 1 then (wbo x.1 g, wbl x.2.1 x.1 g, x.2.2)
  else x
def wpN (ru : Option (Nat × (Nat → Int))) (G : Nat) (x : (Nat → Int) × Int × (Nat → Int)) : Nat → (Nat → Int) × Int × (Nat → Int)
  | 0 => x
  | n + 1 => wp1 ru G n (wpN ru G x n)
theorem wp1_ok {ru : Option (Nat × (Nat → Int))} {G g : Nat} {x : (Nat → Int) × Int × (Nat → Int)} (h : wok x.1 G) (hg : g < G) : wok (wp1 ru G g x).1 G := by
  unfold wp1
  split
  · rename_i ho
    cases ru with
    | none => exact wgo_ok (wturn_ok h hg (by omega)) hg (by rw [fup_n (by omega)]; exact ho)
    | some r => exact wgo_ok (wturn_ok h hg (by omega)) hg (by rw [fup_n (by omega)]; exact ho)
  · split
    · rename_i ho; exact wbo_ok h hg ho
    · exact h
theorem wpN_ok {ru : Option (Nat × (Nat → Int))} {G : Nat} {x : (Nat → Int) × Int × (Nat → Int)} (h : wok x.1 G) : ∀ n, n ≤ G → wok (wpN ru G x n).1 G
  | 0, _ => h
  | n + 1, hn => wp1_ok (wpN_ok h n (by omega)) (by omega)
/-- the goers from k on -/
def wpR (ru : Option (Nat × (Nat → Int))) (G : Nat) : Nat → Nat → (Nat → Int) × Int × (Nat → Int) → (Nat → Int) × Int × (Nat → Int)
  | 0, _, x => x
  | n + 1, k, x => wpR ru G n (k + 1) (wp1 ru G k x)
/-- a whole step -/
def wpa (ru : Option (Nat × (Nat → Int))) (G : Nat) (x : (Nat → Int) × Int × (Nat → Int)) : (Nat → Int) × Int × (Nat → Int) :=
  (fup (wpR ru G G 0 x).1 2 (i32 ((wpR ru G G 0 x).1 2 + 1)), (wpR ru G G 0 x).2.1, (wpR ru G G 0 x).2.2)
section PA
variable {a G : Nat} {sk : Nat → Int}
theorem w_bo {H : zH} {g : Nat} (hw : isW H a) (hk : wok (wf H a) G) (hg : g < G) (ho : wf H a (50 + 7 * g) = 1) : cl mX9_bideOut [vr a, vi (g : Int)] H = some (vn, wlu (wst H a (wbo (wf H a) g)) a (wbl (wl H a) (wf H a) g)) := by
  obtain ⟨h1, h2, h3, h4, h5, h6, h7⟩ := hk
  obtain ⟨a1, a2, a3, a4, a5, a6, a7, a8⟩ := h7 g hg
  have lb := h4 (wf H a (48 + 7 * g)).toNat (by omega)
  exact w_bideOut hw (by omega) h3.1 h3.2 a5.1 a5.2 a1.1 a1.2 lb.1 lb.2 a2.1 a2.2 a4.1 a4.2
theorem w_go {H : zH} {g : Nat} (hw : isW H a) (hk : wok (wf H a) G) (hg : g < G) (ho : wf H a (50 + 7 * g) = 0) : cl mX9_goOn [vr a, vi (g : Int)] H = some (vn, wst H a (wgo (wf H a) g)) := by
  obtain ⟨h1, h2, h3, h4, h5, h6, h7⟩ := hk
  obtain ⟨a1, a2, a3, a4, a5, a6, a7, a8⟩ := h7 g hg
  have c := a6 ho
  exact w_goOn hw (by omega) h3.1 h3.2 c.1 c.2 a1.1 a1.2
theorem w_pass0_l : ∀ (n k : Nat) (H : zH) (x3 x4 : zV), k + n = G → isW H a → wok (wf H a) G → rn mX9_pass 2 [vr a, vr 0, vi (k : Int), x3, x4] [] H = some (vn, wlu (wst H a (fup (wpR none G n k (wf H a, wl H a, sk)).1 2 (i32 ((wpR none G n k (wf H a, wl H a, sk)).1 2 + 1)))) a (wpR none G n k (wf H a, wl H a, sk)).2.1) := by
  intro n
  induction n with
  | zero =>
    intro k H x3 x4 hk hw ho
    have e : k = G := by omega
    subst e
    have e1 : wf H a (Int.toNat 1) = (k : Int) := ho.1
    have e2 : Int.toNat 2 = 2 := rfl
    rw [sX9_pass_2]
    simp (disch := first | omega | assumption) only [eX9_pass, sX9_pass_0, sX9_pass_1, sX9_pass_3, sX9_pass_4, sX9_pass_7, sX9_pass_8, sX9_pass_9, sX9_pass_12, sX9_pass_13, sX9_pass_14, sX9_pass_15, sX9_pass_18, sX9_pass_19, sX9_pass_20, sX9_pass_23, sX9_pass_24, sX9_pass_27, sX9_pass_28, sX9_pass_31, sX9_pass_32, sX9_pass_33, sX9_pass_34, sX9_pass_37, sX9_pass_39, sX9_pass_40, sX9_pass_41, sX9_pass_42, sX9_pass_43, sX9_pass_44, sX9_pass_45, sX9_pass_48, sX9_pass_50, sX9_pass_51, sX9_pass_52, sX9_pass_53, sX9_pass_56, sX9_pass_57, sX9_pass_58, sX9_pass_61, sX9_pass_64, sX9_pass_65, sX9_pass_66, sX9_pass_69, sX9_pass_70, sX9_pass_71, sX9_pass_74, sX9_pass_77, sX9_pass_80, sX9_pass_81, sX9_pass_82, sX9_pass_83, sX9_pass_84, sX9_pass_87, sX9_pass_88, sX9_pass_89, sX9_pass_92, gfi_0, gfi_s, gfr_0, gfr_s, gfl_0, gfl_s, cki_k, bndi_k, bndl_k, bndr_k, bndv_k, zup_2, zup_1, ↓reduceIte, if_true, if_false, true_or, or_true, not_true_eq_false, not_false_eq_true, ↓if_pos, ↓if_neg, ↓isW_row, ↓isW_gel, e1, ↓isW_cell hw, ↓bndi_at (w_get (i := 2) hw (by omega) (by omega)), e2, w_set, wpR]
    rw [← wl_st (f := fup (wf H a) 2 (i32 (wf H a 2 + 1))) hw, wlu_id (isW_st hw)]
  | succ n ih =>
    intro k H x3 x4 hk hw ho
    have hkG : k < G := by omega
    have e1 : wf H a (Int.toNat 1) = (G : Int) := ho.1
    obtain ⟨-, h2, h3, h4, h5, h6, h7⟩ := id ho
    obtain ⟨a1, a2, a3, a4, a5, a6, a7, a8⟩ := h7 k hkG
    have is : i32 ((k : Int) + 1) = ((k + 1 : Nat) : Int) := i32_s k (by omega)
    rw [sX9_pass_2]
    rw [wpR, wp1]
    by_cases z : wf H a (50 + 7 * k) = 0
    · simp only [z, if_true]
      have q3 : q2 (· &&& ·) (wf H a (48 + 7 * k)) 3 = wf H a (48 + 7 * k) % 4 := q_and3 (i32_of (by omega) (by omega))
      have t1 := isW_st (f := fup (wf H a) (48 + 7 * k) (wf H a (48 + 7 * k) % 4)) hw
      have k1 : wok (fup (wf H a) (48 + 7 * k) (wf H a (48 + 7 * k) % 4)) G := wturn_ok ho hkG (by omega)
      have go := w_go (H := wst H a (fup (wf H a) (48 + 7 * k) (wf H a (48 + 7 * k) % 4))) (g := k) t1 (by rw [wf_st hw]; exact k1) hkG (by rw [wf_st hw, fup_n (by omega)]; exact z)
      rw [wf_st hw, wst_st hw] at go
      have t2 := isW_st (f := wgo (fup (wf H a) (48 + 7 * k) (wf H a (48 + 7 * k) % 4)) k) hw
      have I := ih (k + 1) (wst H a (wgo (fup (wf H a) (48 + 7 * k) (wf H a (48 + 7 * k) % 4)) k)) (vi 0) (vi 0) (by omega) t2 (by rw [wf_st hw]; exact wgo_ok k1 hkG (by rw [fup_n (by omega)]; exact z))
      rw [wf_st hw, wl_st hw, wst_st hw] at I
      have o3 := w_of3 hw (show k ≤ 4 by omega)
      rw [z] at o3
      have o1 := w_of1 hw (show k ≤ 4 by omega)
      have p1 := w_put1 (v := wf H a (48 + 7 * k) % 4) hw (show k ≤ 4 by omega)
      have f0 : i32 (wf H a (48 + 7 * k) + 0) = wf H a (48 + 7 * k) := by rw [Int.add_zero]; exact i32_of (by omega) (by omega)
      simp (disch := first | omega | assumption) only [eX9_pass, sX9_pass_0, sX9_pass_1, sX9_pass_3, sX9_pass_4, sX9_pass_7, sX9_pass_8, sX9_pass_9, sX9_pass_12, sX9_pass_13, sX9_pass_14, sX9_pass_15, sX9_pass_18, sX9_pass_19, sX9_pass_20, sX9_pass_23, sX9_pass_24, sX9_pass_27, sX9_pass_28, sX9_pass_31, sX9_pass_32, sX9_pass_33, sX9_pass_34, sX9_pass_37, sX9_pass_39, sX9_pass_40, sX9_pass_41, sX9_pass_42, sX9_pass_43, sX9_pass_44, sX9_pass_45, sX9_pass_48, sX9_pass_50, sX9_pass_51, sX9_pass_52, sX9_pass_53, sX9_pass_56, sX9_pass_57, sX9_pass_58, sX9_pass_61, sX9_pass_64, sX9_pass_65, sX9_pass_66, sX9_pass_69, sX9_pass_70, sX9_pass_71, sX9_pass_74, sX9_pass_77, sX9_pass_80, sX9_pass_81, sX9_pass_82, sX9_pass_83, sX9_pass_84, sX9_pass_87, sX9_pass_88, sX9_pass_89, sX9_pass_92, gfi_0, gfi_s, gfr_0, gfr_s, gfl_0, gfl_s, cki_k, bndi_k, bndl_k, bndr_k, bndv_k, zup_2, zup_1, ↓reduceIte, if_true, if_false, true_or, or_true, not_true_eq_false, not_false_eq_true, ↓if_pos, ↓if_neg, ↓isW_row, ↓isW_gel, e1, ↓isW_cell hw, ↓isW_cell t1, ↓bndi_at o3, ↓bndi_at o1, f0, q3, ↓bndv_at p1, ↓bndv_at go, is]
      exact I
    · simp only [z, if_false]
      have o3 := w_of3 hw (show k ≤ 4 by omega)
      by_cases z1 : wf H a (50 + 7 * k) = 1
      · simp only [z1, if_true]
        have bo := w_bo (g := k) hw ho hkG z1
        have t2 := isW_lu (l := wbl (wl H a) (wf H a) k) (isW_st (f := wbo (wf H a) k) hw)
        have I := ih (k + 1) (wlu (wst H a (wbo (wf H a) k)) a (wbl (wl H a) (wf H a) k)) (vi 1) x4 (by omega) t2 (by rw [wf_lu (isW_st hw), wf_st hw]; exact wbo_ok ho hkG z1)
        rw [wf_lu (isW_st hw), wf_st hw, wl_lu (isW_st hw), wst_lu (isW_st hw), wst_st hw, wlu_lu (isW_st hw)] at I
        rw [z1] at o3
        simp (disch := first | omega | assumption) only [eX9_pass, sX9_pass_0, sX9_pass_1, sX9_pass_3, sX9_pass_4, sX9_pass_7, sX9_pass_8, sX9_pass_9, sX9_pass_12, sX9_pass_13, sX9_pass_14, sX9_pass_15, sX9_pass_18, sX9_pass_19, sX9_pass_20, sX9_pass_23, sX9_pass_24, sX9_pass_27, sX9_pass_28, sX9_pass_31, sX9_pass_32, sX9_pass_33, sX9_pass_34, sX9_pass_37, sX9_pass_39, sX9_pass_40, sX9_pass_41, sX9_pass_42, sX9_pass_43, sX9_pass_44, sX9_pass_45, sX9_pass_48, sX9_pass_50, sX9_pass_51, sX9_pass_52, sX9_pass_53, sX9_pass_56, sX9_pass_57, sX9_pass_58, sX9_pass_61, sX9_pass_64, sX9_pass_65, sX9_pass_66, sX9_pass_69, sX9_pass_70, sX9_pass_71, sX9_pass_74, sX9_pass_77, sX9_pass_80, sX9_pass_81, sX9_pass_82, sX9_pass_83, sX9_pass_84, sX9_pass_87, sX9_pass_88, sX9_pass_89, sX9_pass_92, gfi_0, gfi_s, gfr_0, gfr_s, gfl_0, gfl_s, cki_k, bndi_k, bndl_k, bndr_k, bndv_k, zup_2, zup_1, ↓reduceIte, if_true, if_false, true_or, or_true, not_true_eq_false, not_false_eq_true, ↓if_pos, ↓if_neg, ↓isW_row, ↓isW_gel, e1, ↓isW_cell hw, ↓bndi_at o3, ↓bndv_at bo, is]
        exact I
      · simp only [z1, if_false]
        have I := ih (k + 1) H (vi (wf H a (50 + 7 * k))) x4 (by omega) hw ho
        simp (disch := first | omega | assumption) only [eX9_pass, sX9_pass_0, sX9_pass_1, sX9_pass_3, sX9_pass_4, sX9_pass_7, sX9_pass_8, sX9_pass_9, sX9_pass_12, sX9_pass_13, sX9_pass_14, sX9_pass_15, sX9_pass_18, sX9_pass_19, sX9_pass_20, sX9_pass_23, sX9_pass_24, sX9_pass_27, sX9_pass_28, sX9_pass_31, sX9_pass_32, sX9_pass_33, sX9_pass_34, sX9_pass_37, sX9_pass_39, sX9_pass_40, sX9_pass_41, sX9_pass_42, sX9_pass_43, sX9_pass_44, sX9_pass_45, sX9_pass_48, sX9_pass_50, sX9_pass_51, sX9_pass_52, sX9_pass_53, sX9_pass_56, sX9_pass_57, sX9_pass_58, sX9_pass_61, sX9_pass_64, sX9_pass_65, sX9_pass_66, sX9_pass_69, sX9_pass_70, sX9_pass_71, sX9_pass_74, sX9_pass_77, sX9_pass_80, sX9_pass_81, sX9_pass_82, sX9_pass_83, sX9_pass_84, sX9_pass_87, sX9_pass_88, sX9_pass_89, sX9_pass_92, gfi_0, gfi_s, gfr_0, gfr_s, gfl_0, gfl_s, cki_k, bndi_k, bndl_k, bndr_k, bndv_k, zup_2, zup_1, ↓reduceIte, if_true, if_false, true_or, or_true, not_true_eq_false, not_false_eq_true, ↓if_pos, ↓if_neg, ↓isW_row, ↓isW_gel, e1, ↓isW_cell hw, ↓bndi_at o3, z, z1, is]
        exact I
theorem w_pass0 {H : zH} (hw : isW H a) (ho : wok (wf H a) G) : cl mX9_pass [vr a, vr 0] H = some (vn, wlu (wst H a (wpa none G (wf H a, wl H a, sk)).1) a (wpa none G (wf H a, wl H a, sk)).2.1) := by
  have l := w_pass0_l (sk := sk) G 0 H vn vn (by omega) hw ho
  simp only [eX9_pass, sX9_pass_0, sX9_pass_1, sX9_pass_3, sX9_pass_4, sX9_pass_7, sX9_pass_8, sX9_pass_9, sX9_pass_12, sX9_pass_13, sX9_pass_14, sX9_pass_15, sX9_pass_18, sX9_pass_19, sX9_pass_20, sX9_pass_23, sX9_pass_24, sX9_pass_27, sX9_pass_28, sX9_pass_31, sX9_pass_32, sX9_pass_33, sX9_pass_34, sX9_pass_37, sX9_pass_39, sX9_pass_40, sX9_pass_41, sX9_pass_42, sX9_pass_43, sX9_pass_44, sX9_pass_45, sX9_pass_48, sX9_pass_50, sX9_pass_51, sX9_pass_52, sX9_pass_53, sX9_pass_56, sX9_pass_57, sX9_pass_58, sX9_pass_61, sX9_pass_64, sX9_pass_65, sX9_pass_66, sX9_pass_69, sX9_pass_70, sX9_pass_71, sX9_pass_74, sX9_pass_77, sX9_pass_80, sX9_pass_81, sX9_pass_82, sX9_pass_83, sX9_pass_84, sX9_pass_87, sX9_pass_88, sX9_pass_89, sX9_pass_92, gfi_0, gfi_s, gfr_0, gfr_s, gfl_0, gfl_s, cki_k, bndi_k, bndl_k, bndr_k, bndv_k, zup_2, zup_1, ↓reduceIte, if_true, if_false, true_or, or_true, not_true_eq_false, not_false_eq_true]
  exact l
end PA
