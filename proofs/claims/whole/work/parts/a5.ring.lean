/-! ring: where all are, step by step -/
theorem psN_add {Q : (Int → Int) → Int} {G : Nat} : ∀ (a b : Nat) (f : Nat → Int), psN Q G (a + b) f = psN Q G b (psN Q G a f)
  | 0, b, f => by rw [Nat.zero_add]; rfl
  | a + 1, b, f => by rw [Nat.add_right_comm, psN, psN_add a b, psN]
theorem psN_s {Q : (Int → Int) → Int} {G : Nat} (a : Nat) (f : Nat → Int) : psN Q G (a + 1) f = psa Q G (psN Q G a f) := by rw [psN_add]; rfl
def mwv (f : Nat → Int) (g : Nat) : Int := 4 * (3 * (if f (50 + 7 * g) = 0 then f (47 + 7 * g) else if f (50 + 7 * g) = 1 then 10 * f (53 + 7 * g) + f (51 + 7 * g) else 0) + f (50 + 7 * g)) + f (48 + 7 * g)
/-- two times of one goer are alike in both ways, or in neither -/
theorem whe {Q : (Int → Int) → Int} {G g n : Nat} {f : Nat → Int} (hQ : ∀ u, 0 ≤ Q u ∧ Q u ≤ 3) (h : wok f G) (hg : g < G) : (wwh f g = wwh (psN Q G n f) g) ↔ (mwv f g = mwv (psN Q G n f) g) := by
  have h1 := psN_ok hQ n f h
  have a := h.2.2.2.2.2.2 g hg
  have b := h1.2.2.2.2.2.2 g hg
  have sq := sq_b (s := f 0) (by have := h.2.2.1; omega) h.2.2.1.2
  have sq1 := sq_b (s := psN Q G n f 0) (by have := h1.2.2.1; omega) h1.2.2.1.2
  have s6 := h.2.2.1
  have s61 := h1.2.2.1
  unfold gok at a b
  by_cases z : f (50 + 7 * g) = 2
  · have e : ∀ j, 47 + 7 * g ≤ j → j < 54 + 7 * g → psN Q G n f j = f j := fun j j1 j2 => psN_lost ⟨j1, j2⟩ n f z
    unfold wwh mwv
    rw [e (50 + 7 * g) (by omega) (by omega), e (48 + 7 * g) (by omega) (by omega), e (47 + 7 * g) (by omega) (by omega), e (53 + 7 * g) (by omega) (by omega), e (51 + 7 * g) (by omega) (by omega)]
    exact ⟨fun _ => rfl, fun _ => rfl⟩
  · obtain ⟨a1, a2, a3, a4, a5, a6, a7, a8⟩ := a
    obtain ⟨b1, b2, b3, b4, b5, b6, b7, b8⟩ := b
    unfold wwh mwv
    generalize psN Q G n f = f' at *
    by_cases y0 : f (50 + 7 * g) = 0
    · have c1 := a6 y0
      have c2 := a8 (by omega)
      rw [if_pos y0, if_pos y0]
      by_cases x0 : f' (50 + 7 * g) = 0
      · have d1 := b6 x0
        have d2 := b8 (by omega)
        rw [if_pos x0, if_pos x0]
        omega
      · rw [if_neg x0, if_neg x0]
        by_cases x1 : f' (50 + 7 * g) = 1
        · rw [if_pos x1]; omega
        · rw [if_neg x1]; omega
    · have y1 : f (50 + 7 * g) = 1 := by omega
      rw [if_neg y0, if_neg y0, if_pos y1]
      by_cases x0 : f' (50 + 7 * g) = 0
      · have d1 := b6 x0
        have d2 := b8 (by omega)
        rw [if_pos x0, if_pos x0]
        omega
      · rw [if_neg x0, if_neg x0]
        by_cases x1 : f' (50 + 7 * g) = 1
        · rw [if_pos x1]; omega
        · rw [if_neg x1]; omega
/-- alike at two times, goer by goer -/
def alN (T : Nat → Int) (a b : Nat) : Nat → Nat → Bool
  | 0, _ => true
  | n + 1, g => if T (5 * a + g) = T (5 * b + g) then alN T a b n (g + 1) else false
theorem alN_iff {T : Nat → Int} {a b : Nat} : ∀ (n g : Nat), alN T a b n g = true ↔ ∀ j, g ≤ j → j < g + n → T (5 * a + j) = T (5 * b + j)
  | 0, g => by rw [alN]; exact ⟨fun _ j h1 h2 => by omega, fun _ => rfl⟩
  | n + 1, g => by
    rw [alN]
    by_cases z : T (5 * a + g) = T (5 * b + g)
    · rw [if_pos z, alN_iff n (g + 1)]
      constructor
      · intro h j j1 j2
        by_cases q : j = g
        · rw [q]; exact z
        · exact h j (by omega) (by omega)
      · intro h j j1 j2
        exact h j (by omega) (by omega)
    · rw [if_neg z]
      constructor
      · intro h; cases h
      · intro h; exact absurd (h g (by omega) (by omega)) z
def rgI (P : Nat → Nat → Bool) (a : Nat) : Nat → Nat → Option Nat
  | 0, _ => none
  | n + 1, b => if P a b then some b else rgI P a n (b + 1)
def rgO (P : Nat → Nat → Bool) : Nat → Nat → Option (Nat × Nat)
  | 0, _ => none
  | n + 1, a => match rgI P a (60 - a) (a + 1) with
    | some b => some (a, b)
    | none => rgO P n (a + 1)
def rgA (w st : Int) : Option (Nat × Nat) → Int
  | none => -2
  | some x => if w = 0 then i32 (st + (x.1 : Int)) else i32 ((x.2 : Int) - (x.1 : Int))
theorem rgI_c {P P' : Nat → Nat → Bool} {a : Nat} : ∀ (n b : Nat), a < b → b + n ≤ 61 → (∀ b, a < b → b ≤ 60 → P a b = P' a b) → rgI P a n b = rgI P' a n b
  | 0, _, _, _, _ => rfl
  | n + 1, b, h1, h2, h => by rw [rgI, rgI, h b h1 (by omega), rgI_c n (b + 1) (by omega) (by omega) h]
theorem rgO_c {P P' : Nat → Nat → Bool} : ∀ (n a : Nat), a + n ≤ 60 → (∀ a b, a < b → b ≤ 60 → P a b = P' a b) → rgO P n a = rgO P' n a
  | 0, _, _, _ => rfl
  | n + 1, a, h2, h => by rw [rgO, rgO, rgI_c (60 - a) (a + 1) (by omega) (by omega) (fun b => h a b), rgO_c n (a + 1) (by omega) h]
section RG
variable {A F : Nat → Nat → Int} {E : zE} {G : Nat} {Q : (Int → Int) → Int} {f s0 f0 : Nat → Int}
theorem E_same_l {a b : Nat} (ha : a ≤ 60) (hb : b ≤ 60) : ∀ (n g : Nat), g + n = 5 → rn mX10_sameTrack 2 [vr 1, vi (a : Int), vi (b : Int), vi (g : Int)] [] (HP A F E) = some (vi (if alN (A 64) a b n g then 1 else 0), HP A F E) := by
  intro n
  induction n with
  | zero =>
    intro g hg
    have : g = 5 := by omega
    subst this
    rw [sX10_sameTrack_2, alN, if_pos rfl]
    simp (disch := omega) only [eX10_sameTrack, sX10_sameTrack_0, sX10_sameTrack_1, sX10_sameTrack_3, sX10_sameTrack_4, sX10_sameTrack_7, sX10_sameTrack_8, sX10_sameTrack_11, sX10_sameTrack_12, sX10_sameTrack_13, sX10_sameTrack_14, sX10_sameTrack_15, sX10_sameTrack_16, sX10_sameTrack_17, sX10_sameTrack_18, sX10_sameTrack_21, sX10_sameTrack_22, sX10_sameTrack_23, sX10_sameTrack_24, sX10_sameTrack_25, sX10_sameTrack_26, sX10_sameTrack_27, sX10_sameTrack_30, sX10_sameTrack_31, sX10_sameTrack_32, sX10_sameTrack_35, sX10_sameTrack_38, sX10_sameTrack_39, ↓if_pos, or_true, ↓reduceIte]
  | succ n ih =>
    intro g hg
    have i := ih (g + 1) (by omega)
    have e1 : ((a : Int) * 5 + (g : Int)).toNat = 5 * a + g := by omega
    have e2 : ((b : Int) * 5 + (g : Int)).toNat = 5 * b + g := by omega
    rw [alN, sX10_sameTrack_2]
    by_cases z : A 64 (5 * a + g) = A 64 (5 * b + g)
    · rw [if_pos z, ← i]
      simp (disch := omega) only [eX10_sameTrack, sX10_sameTrack_0, sX10_sameTrack_1, sX10_sameTrack_3, sX10_sameTrack_4, sX10_sameTrack_7, sX10_sameTrack_8, sX10_sameTrack_11, sX10_sameTrack_12, sX10_sameTrack_13, sX10_sameTrack_14, sX10_sameTrack_15, sX10_sameTrack_16, sX10_sameTrack_17, sX10_sameTrack_18, sX10_sameTrack_21, sX10_sameTrack_22, sX10_sameTrack_23, sX10_sameTrack_24, sX10_sameTrack_25, sX10_sameTrack_26, sX10_sameTrack_27, sX10_sameTrack_30, sX10_sameTrack_31, sX10_sameTrack_32, sX10_sameTrack_35, sX10_sameTrack_38, sX10_sameTrack_39, ↓hf1_14, ↓hg64, i32_of, e1, e2, z, ↓if_pos, ↓if_neg, ↓reduceIte]
      rfl
    · rw [if_neg z]
      simp (disch := omega) only [eX10_sameTrack, sX10_sameTrack_0, sX10_sameTrack_1, sX10_sameTrack_3, sX10_sameTrack_4, sX10_sameTrack_7, sX10_sameTrack_8, sX10_sameTrack_11, sX10_sameTrack_12, sX10_sameTrack_13, sX10_sameTrack_14, sX10_sameTrack_15, sX10_sameTrack_16, sX10_sameTrack_17, sX10_sameTrack_18, sX10_sameTrack_21, sX10_sameTrack_22, sX10_sameTrack_23, sX10_sameTrack_24, sX10_sameTrack_25, sX10_sameTrack_26, sX10_sameTrack_27, sX10_sameTrack_30, sX10_sameTrack_31, sX10_sameTrack_32, sX10_sameTrack_35, sX10_sameTrack_38, sX10_sameTrack_39, ↓hf1_14, ↓hg64, i32_of, e1, e2, z, ↓if_pos, ↓if_neg, ↓reduceIte, true_or, Bool.false_eq_true]
theorem E_same {a b : Nat} (ha : a ≤ 60) (hb : b ≤ 60) : cl mX10_sameTrack [vr 1, vi (a : Int), vi (b : Int)] (HP A F E) = some (vi (if alN (A 64) a b 5 0 then 1 else 0), HP A F E) := by
  rw [← E_same_l ha hb 5 0 (by omega)]
  simp only [eX10_sameTrack, sX10_sameTrack_0, sX10_sameTrack_1, sX10_sameTrack_3, sX10_sameTrack_4, sX10_sameTrack_7, sX10_sameTrack_8, sX10_sameTrack_11, sX10_sameTrack_12, sX10_sameTrack_13, sX10_sameTrack_14, sX10_sameTrack_15, sX10_sameTrack_16, sX10_sameTrack_17, sX10_sameTrack_18, sX10_sameTrack_21, sX10_sameTrack_22, sX10_sameTrack_23, sX10_sameTrack_24, sX10_sameTrack_25, sX10_sameTrack_26, sX10_sameTrack_27, sX10_sameTrack_30, sX10_sameTrack_31, sX10_sameTrack_32, sX10_sameTrack_35, sX10_sameTrack_38, sX10_sameTrack_39]
  rfl
theorem m_alike_l {a b : Nat} (hG : A 113 2 = (G : Int)) (hG5 : G ≤ 5) (ha : a ≤ 60) (hb : b ≤ 60) : ∀ (n g : Nat), g + n = G → rn mX11_areAlike 2 [vr 103, vi (a : Int), vi (b : Int), vi (g : Int)] [] (HP A F E) = some (vi (if alN (A 120) a b n g then 1 else 0), HP A F E) := by
  intro n
  induction n with
  | zero =>
    intro g hg
    have : g = G := by omega
    subst this
    rw [sX11_areAlike_2, alN, if_pos rfl]
    simp (disch := omega) only [eX11_areAlike, sX11_areAlike_0, sX11_areAlike_1, sX11_areAlike_3, sX11_areAlike_4, sX11_areAlike_7, sX11_areAlike_8, sX11_areAlike_9, sX11_areAlike_12, sX11_areAlike_13, sX11_areAlike_16, sX11_areAlike_17, sX11_areAlike_18, sX11_areAlike_19, sX11_areAlike_20, sX11_areAlike_21, sX11_areAlike_22, sX11_areAlike_23, sX11_areAlike_26, sX11_areAlike_27, sX11_areAlike_28, sX11_areAlike_29, sX11_areAlike_30, sX11_areAlike_31, sX11_areAlike_32, sX11_areAlike_35, sX11_areAlike_36, sX11_areAlike_37, sX11_areAlike_40, sX11_areAlike_43, sX11_areAlike_44, ↓hf103_20, ↓hg113, Int.reduceToNat, hG, ↓if_pos, or_true, ↓reduceIte]
  | succ n ih =>
    intro g hg
    have i := ih (g + 1) (by omega)
    have e1 : (5 * (a : Int) + (g : Int)).toNat = 5 * a + g := by omega
    have e2 : (5 * (b : Int) + (g : Int)).toNat = 5 * b + g := by omega
    rw [alN, sX11_areAlike_2]
    by_cases z : A 120 (5 * a + g) = A 120 (5 * b + g)
    · rw [if_pos z, ← i]
      simp (disch := omega) only [eX11_areAlike, sX11_areAlike_0, sX11_areAlike_1, sX11_areAlike_3, sX11_areAlike_4, sX11_areAlike_7, sX11_areAlike_8, sX11_areAlike_9, sX11_areAlike_12, sX11_areAlike_13, sX11_areAlike_16, sX11_areAlike_17, sX11_areAlike_18, sX11_areAlike_19, sX11_areAlike_20, sX11_areAlike_21, sX11_areAlike_22, sX11_areAlike_23, sX11_areAlike_26, sX11_areAlike_27, sX11_areAlike_28, sX11_areAlike_29, sX11_areAlike_30, sX11_areAlike_31, sX11_areAlike_32, sX11_areAlike_35, sX11_areAlike_36, sX11_areAlike_37, sX11_areAlike_40, sX11_areAlike_43, sX11_areAlike_44, ↓hf103_20, ↓hf103_33, ↓hg113, ↓hg120, Int.reduceToNat, hG, i32_of, e1, e2, z, ↓if_pos, ↓if_neg, ↓reduceIte]
      rfl
    · rw [if_neg z]
      simp (disch := omega) only [eX11_areAlike, sX11_areAlike_0, sX11_areAlike_1, sX11_areAlike_3, sX11_areAlike_4, sX11_areAlike_7, sX11_areAlike_8, sX11_areAlike_9, sX11_areAlike_12, sX11_areAlike_13, sX11_areAlike_16, sX11_areAlike_17, sX11_areAlike_18, sX11_areAlike_19, sX11_areAlike_20, sX11_areAlike_21, sX11_areAlike_22, sX11_areAlike_23, sX11_areAlike_26, sX11_areAlike_27, sX11_areAlike_28, sX11_areAlike_29, sX11_areAlike_30, sX11_areAlike_31, sX11_areAlike_32, sX11_areAlike_35, sX11_areAlike_36, sX11_areAlike_37, sX11_areAlike_40, sX11_areAlike_43, sX11_areAlike_44, ↓hf103_20, ↓hf103_33, ↓hg113, ↓hg120, Int.reduceToNat, hG, i32_of, e1, e2, z, ↓if_pos, ↓if_neg, ↓reduceIte, true_or, Bool.false_eq_true]
theorem m_alike {a b : Nat} (hG : A 113 2 = (G : Int)) (hG5 : G ≤ 5) (ha : a ≤ 60) (hb : b ≤ 60) : cl mX11_areAlike [vr 103, vi (a : Int), vi (b : Int)] (HP A F E) = some (vi (if alN (A 120) a b G 0 then 1 else 0), HP A F E) := by
  rw [← m_alike_l (F := F) (E := E) hG hG5 ha hb G 0 (by omega)]
  simp only [eX11_areAlike, sX11_areAlike_0, sX11_areAlike_1, sX11_areAlike_3, sX11_areAlike_4, sX11_areAlike_7, sX11_areAlike_8, sX11_areAlike_9, sX11_areAlike_12, sX11_areAlike_13, sX11_areAlike_16, sX11_areAlike_17, sX11_areAlike_18, sX11_areAlike_19, sX11_areAlike_20, sX11_areAlike_21, sX11_areAlike_22, sX11_areAlike_23, sX11_areAlike_26, sX11_areAlike_27, sX11_areAlike_28, sX11_areAlike_29, sX11_areAlike_30, sX11_areAlike_31, sX11_areAlike_32, sX11_areAlike_35, sX11_areAlike_36, sX11_areAlike_37, sX11_areAlike_40, sX11_areAlike_43, sX11_areAlike_44]
  rfl
theorem c_rgI {w : Int} {a : Nat} (ha : a < 60) : ∀ (n b : Nat), b + n = 61 → a < b → rn mX10_ring 34 [vr 1, vi w, vi (a : Int), vi (b : Int)] [] (HP A F E) = match rgI (fun a b => alN (A 64) a b 5 0) a n b with
    | some b => rn mX10_ring 49 [vr 1, vi w, vi (a : Int), vi (b : Int)] [] (HP A F E)
    | none => rn mX10_ring 76 [vr 1, vi w, vi (a : Int), vi 61] [] (HP A F E) := by
  intro n
  induction n with
  | zero =>
    intro b hb hab
    have : b = 61 := by omega
    subst this
    rw [sX10_ring_34, rgI]
    simp (disch := omega) only [eX10_ring, sX10_ring_0, sX10_ring_1, sX10_ring_4, sX10_ring_7, sX10_ring_8, sX10_ring_9, sX10_ring_10, sX10_ring_13, sX10_ring_16, sX10_ring_17, sX10_ring_18, sX10_ring_19, sX10_ring_22, sX10_ring_23, sX10_ring_25, sX10_ring_27, sX10_ring_30, sX10_ring_31, sX10_ring_32, sX10_ring_33, sX10_ring_35, sX10_ring_37, sX10_ring_40, sX10_ring_41, sX10_ring_42, sX10_ring_43, sX10_ring_46, sX10_ring_50, sX10_ring_53, sX10_ring_54, sX10_ring_57, sX10_ring_58, sX10_ring_61, sX10_ring_62, sX10_ring_63, sX10_ring_66, sX10_ring_67, sX10_ring_68, sX10_ring_69, sX10_ring_70, sX10_ring_73, sX10_ring_79, sX10_ring_82, sX10_ring_84, ↓if_pos]
    rfl
  | succ n ih =>
    intro b hb hab
    have i := ih (b + 1) (by omega) (by omega)
    have sm := E_same (A := A) (F := F) (E := E) (a := a) (b := b) (by omega) (by omega)
    rw [sX10_ring_34, rgI]
    by_cases z : alN (A 64) a b 5 0 = true
    · rw [if_pos z] at sm ⊢
      simp (disch := omega) only [eX10_ring, sX10_ring_0, sX10_ring_1, sX10_ring_4, sX10_ring_7, sX10_ring_8, sX10_ring_9, sX10_ring_10, sX10_ring_13, sX10_ring_16, sX10_ring_17, sX10_ring_18, sX10_ring_19, sX10_ring_22, sX10_ring_23, sX10_ring_25, sX10_ring_27, sX10_ring_30, sX10_ring_31, sX10_ring_32, sX10_ring_33, sX10_ring_35, sX10_ring_37, sX10_ring_40, sX10_ring_41, sX10_ring_42, sX10_ring_43, sX10_ring_46, sX10_ring_50, sX10_ring_53, sX10_ring_54, sX10_ring_57, sX10_ring_58, sX10_ring_61, sX10_ring_62, sX10_ring_63, sX10_ring_66, sX10_ring_67, sX10_ring_68, sX10_ring_69, sX10_ring_70, sX10_ring_73, sX10_ring_79, sX10_ring_82, sX10_ring_84, ↓hk1, ↓bndi_at sm, ↓if_pos, ↓if_neg]
    · rw [if_neg z] at sm ⊢
      rw [← i]
      simp (disch := omega) only [eX10_ring, sX10_ring_0, sX10_ring_1, sX10_ring_4, sX10_ring_7, sX10_ring_8, sX10_ring_9, sX10_ring_10, sX10_ring_13, sX10_ring_16, sX10_ring_17, sX10_ring_18, sX10_ring_19, sX10_ring_22, sX10_ring_23, sX10_ring_25, sX10_ring_27, sX10_ring_30, sX10_ring_31, sX10_ring_32, sX10_ring_33, sX10_ring_35, sX10_ring_37, sX10_ring_40, sX10_ring_41, sX10_ring_42, sX10_ring_43, sX10_ring_46, sX10_ring_50, sX10_ring_53, sX10_ring_54, sX10_ring_57, sX10_ring_58, sX10_ring_61, sX10_ring_62, sX10_ring_63, sX10_ring_66, sX10_ring_67, sX10_ring_68, sX10_ring_69, sX10_ring_70, sX10_ring_73, sX10_ring_79, sX10_ring_82, sX10_ring_84, ↓hk1, ↓bndi_at sm, ↓if_pos, ↓if_neg, i32_s]
theorem c_rgO {w : Int} (hw : w = 0 ∨ w = 1) : ∀ (n a : Nat) (x3 : zV), a + n = 60 → rn mX10_ring 24 [vr 1, vi w, vi (a : Int), x3] [] (HP A F E) = some (vi (rgA w (A 13 2) (rgO (fun a b => alN (A 64) a b 5 0) n a)), HP A F E) := by
  intro n
  induction n with
  | zero =>
    intro a x3 ha
    have : a = 60 := by omega
    subst this
    rw [sX10_ring_24, rgO, rgA]
    simp (disch := omega) only [eX10_ring, sX10_ring_0, sX10_ring_1, sX10_ring_4, sX10_ring_7, sX10_ring_8, sX10_ring_9, sX10_ring_10, sX10_ring_13, sX10_ring_16, sX10_ring_17, sX10_ring_18, sX10_ring_19, sX10_ring_22, sX10_ring_23, sX10_ring_25, sX10_ring_27, sX10_ring_30, sX10_ring_31, sX10_ring_32, sX10_ring_33, sX10_ring_35, sX10_ring_37, sX10_ring_40, sX10_ring_41, sX10_ring_42, sX10_ring_43, sX10_ring_46, sX10_ring_50, sX10_ring_53, sX10_ring_54, sX10_ring_57, sX10_ring_58, sX10_ring_61, sX10_ring_62, sX10_ring_63, sX10_ring_66, sX10_ring_67, sX10_ring_68, sX10_ring_69, sX10_ring_70, sX10_ring_73, sX10_ring_79, sX10_ring_82, sX10_ring_84, ↓if_pos]
  | succ n ih =>
    intro a x3 ha
    have i := c_rgI (A := A) (F := F) (E := E) (w := w) (a := a) (by omega) (60 - a) (a + 1) (by omega) (by omega)
    have gt : cl mX9_get [vr 12, vi 2] (HP A F E) = some (vi (A 13 2), HP A F E) := h_get wad_12 (by omega) (by omega)
    rw [sX10_ring_24, rgO]
    simp (disch := omega) only [eX10_ring, sX10_ring_0, sX10_ring_1, sX10_ring_4, sX10_ring_7, sX10_ring_8, sX10_ring_9, sX10_ring_10, sX10_ring_13, sX10_ring_16, sX10_ring_17, sX10_ring_18, sX10_ring_19, sX10_ring_22, sX10_ring_23, sX10_ring_25, sX10_ring_27, sX10_ring_30, sX10_ring_31, sX10_ring_32, sX10_ring_33, sX10_ring_35, sX10_ring_37, sX10_ring_40, sX10_ring_41, sX10_ring_42, sX10_ring_43, sX10_ring_46, sX10_ring_50, sX10_ring_53, sX10_ring_54, sX10_ring_57, sX10_ring_58, sX10_ring_61, sX10_ring_62, sX10_ring_63, sX10_ring_66, sX10_ring_67, sX10_ring_68, sX10_ring_69, sX10_ring_70, sX10_ring_73, sX10_ring_79, sX10_ring_82, sX10_ring_84, ↓if_neg, i32_s]
    rw [i]
    cases q : rgI (fun a b => alN (A 64) a b 5 0) a (60 - a) (a + 1) with
    | none =>
      simp only
      rw [← ih (a + 1) (vi 61) (by omega)]
      simp (disch := omega) only [eX10_ring, sX10_ring_0, sX10_ring_1, sX10_ring_4, sX10_ring_7, sX10_ring_8, sX10_ring_9, sX10_ring_10, sX10_ring_13, sX10_ring_16, sX10_ring_17, sX10_ring_18, sX10_ring_19, sX10_ring_22, sX10_ring_23, sX10_ring_25, sX10_ring_27, sX10_ring_30, sX10_ring_31, sX10_ring_32, sX10_ring_33, sX10_ring_35, sX10_ring_37, sX10_ring_40, sX10_ring_41, sX10_ring_42, sX10_ring_43, sX10_ring_46, sX10_ring_49, sX10_ring_50, sX10_ring_53, sX10_ring_54, sX10_ring_57, sX10_ring_58, sX10_ring_61, sX10_ring_62, sX10_ring_63, sX10_ring_66, sX10_ring_67, sX10_ring_68, sX10_ring_69, sX10_ring_70, sX10_ring_73, sX10_ring_76, sX10_ring_79, sX10_ring_82, sX10_ring_84, i32_s]
    | some b =>
      simp only [rgA]
      rcases hw with rfl | rfl
      · simp (disch := omega) only [eX10_ring, sX10_ring_0, sX10_ring_1, sX10_ring_4, sX10_ring_7, sX10_ring_8, sX10_ring_9, sX10_ring_10, sX10_ring_13, sX10_ring_16, sX10_ring_17, sX10_ring_18, sX10_ring_19, sX10_ring_22, sX10_ring_23, sX10_ring_25, sX10_ring_27, sX10_ring_30, sX10_ring_31, sX10_ring_32, sX10_ring_33, sX10_ring_35, sX10_ring_37, sX10_ring_40, sX10_ring_41, sX10_ring_42, sX10_ring_43, sX10_ring_46, sX10_ring_49, sX10_ring_50, sX10_ring_53, sX10_ring_54, sX10_ring_57, sX10_ring_58, sX10_ring_61, sX10_ring_62, sX10_ring_63, sX10_ring_66, sX10_ring_67, sX10_ring_68, sX10_ring_69, sX10_ring_70, sX10_ring_73, sX10_ring_76, sX10_ring_79, sX10_ring_82, sX10_ring_84, ↓hf1_8, ↓hk12, ↓bndi_at gt, ↓if_pos, ↓if_neg, ↓reduceIte]
      · simp (disch := omega) only [eX10_ring, sX10_ring_0, sX10_ring_1, sX10_ring_4, sX10_ring_7, sX10_ring_8, sX10_ring_9, sX10_ring_10, sX10_ring_13, sX10_ring_16, sX10_ring_17, sX10_ring_18, sX10_ring_19, sX10_ring_22, sX10_ring_23, sX10_ring_25, sX10_ring_27, sX10_ring_30, sX10_ring_31, sX10_ring_32, sX10_ring_33, sX10_ring_35, sX10_ring_37, sX10_ring_40, sX10_ring_41, sX10_ring_42, sX10_ring_43, sX10_ring_46, sX10_ring_49, sX10_ring_50, sX10_ring_53, sX10_ring_54, sX10_ring_57, sX10_ring_58, sX10_ring_61, sX10_ring_62, sX10_ring_63, sX10_ring_66, sX10_ring_67, sX10_ring_68, sX10_ring_69, sX10_ring_70, sX10_ring_73, sX10_ring_76, sX10_ring_79, sX10_ring_82, sX10_ring_84, ↓if_pos, ↓if_neg, ↓reduceIte]
theorem m_rgI {w : Int} {a : Nat} (hG : A 113 2 = (G : Int)) (hG5 : G ≤ 5) (ha : a < 60) : ∀ (n b : Nat), b + n = 61 → a < b → rn mX11_ring 90 [vr 103, vi w, vi (a : Int), vi (b : Int)] [] (HP A F E) = match rgI (fun a b => alN (A 120) a b G 0) a n b with
    | some b => rn mX11_ring 105 [vr 103, vi w, vi (a : Int), vi (b : Int)] [] (HP A F E)
    | none => rn mX11_ring 131 [vr 103, vi w, vi (a : Int), vi 61] [] (HP A F E) := by
  intro n
  induction n with
  | zero =>
    intro b hb hab
    have : b = 61 := by omega
    subst this
    rw [sX11_ring_90, rgI]
    simp (disch := omega) only [eX11_ring, sX11_ring_0, sX11_ring_1, sX11_ring_4, sX11_ring_7, sX11_ring_8, sX11_ring_9, sX11_ring_10, sX11_ring_11, sX11_ring_14, sX11_ring_17, sX11_ring_18, sX11_ring_19, sX11_ring_20, sX11_ring_23, sX11_ring_24, sX11_ring_26, sX11_ring_28, sX11_ring_31, sX11_ring_32, sX11_ring_34, sX11_ring_35, sX11_ring_38, sX11_ring_39, sX11_ring_40, sX11_ring_43, sX11_ring_44, sX11_ring_47, sX11_ring_48, sX11_ring_49, sX11_ring_50, sX11_ring_51, sX11_ring_52, sX11_ring_53, sX11_ring_54, sX11_ring_57, sX11_ring_58, sX11_ring_61, sX11_ring_64, sX11_ring_65, sX11_ring_68, sX11_ring_71, sX11_ring_74, sX11_ring_75, sX11_ring_78, sX11_ring_79, sX11_ring_81, sX11_ring_83, sX11_ring_86, sX11_ring_87, sX11_ring_88, sX11_ring_89, sX11_ring_91, sX11_ring_93, sX11_ring_96, sX11_ring_97, sX11_ring_98, sX11_ring_99, sX11_ring_102, sX11_ring_106, sX11_ring_109, sX11_ring_110, sX11_ring_113, sX11_ring_115, sX11_ring_116, sX11_ring_117, sX11_ring_118, sX11_ring_121, sX11_ring_122, sX11_ring_123, sX11_ring_124, sX11_ring_125, sX11_ring_128, sX11_ring_134, sX11_ring_137, sX11_ring_139, ↓if_pos]
    rfl
  | succ n ih =>
    intro b hb hab
    have i := ih (b + 1) (by omega) (by omega)
    have sm := m_alike (A := A) (F := F) (E := E) (a := a) (b := b) hG hG5 (by omega) (by omega)
    rw [sX11_ring_90, rgI]
    by_cases z : alN (A 120) a b G 0 = true
    · rw [if_pos z] at sm ⊢
      simp (disch := omega) only [eX11_ring, sX11_ring_0, sX11_ring_1, sX11_ring_4, sX11_ring_7, sX11_ring_8, sX11_ring_9, sX11_ring_10, sX11_ring_11, sX11_ring_14, sX11_ring_17, sX11_ring_18, sX11_ring_19, sX11_ring_20, sX11_ring_23, sX11_ring_24, sX11_ring_26, sX11_ring_28, sX11_ring_31, sX11_ring_32, sX11_ring_34, sX11_ring_35, sX11_ring_38, sX11_ring_39, sX11_ring_40, sX11_ring_43, sX11_ring_44, sX11_ring_47, sX11_ring_48, sX11_ring_49, sX11_ring_50, sX11_ring_51, sX11_ring_52, sX11_ring_53, sX11_ring_54, sX11_ring_57, sX11_ring_58, sX11_ring_61, sX11_ring_64, sX11_ring_65, sX11_ring_68, sX11_ring_71, sX11_ring_74, sX11_ring_75, sX11_ring_78, sX11_ring_79, sX11_ring_81, sX11_ring_83, sX11_ring_86, sX11_ring_87, sX11_ring_88, sX11_ring_89, sX11_ring_91, sX11_ring_93, sX11_ring_96, sX11_ring_97, sX11_ring_98, sX11_ring_99, sX11_ring_102, sX11_ring_106, sX11_ring_109, sX11_ring_110, sX11_ring_113, sX11_ring_115, sX11_ring_116, sX11_ring_117, sX11_ring_118, sX11_ring_121, sX11_ring_122, sX11_ring_123, sX11_ring_124, sX11_ring_125, sX11_ring_128, sX11_ring_134, sX11_ring_137, sX11_ring_139, ↓hk103, ↓bndi_at sm, ↓if_pos, ↓if_neg]
    · rw [if_neg z] at sm ⊢
      rw [← i]
      simp (disch := omega) only [eX11_ring, sX11_ring_0, sX11_ring_1, sX11_ring_4, sX11_ring_7, sX11_ring_8, sX11_ring_9, sX11_ring_10, sX11_ring_11, sX11_ring_14, sX11_ring_17, sX11_ring_18, sX11_ring_19, sX11_ring_20, sX11_ring_23, sX11_ring_24, sX11_ring_26, sX11_ring_28, sX11_ring_31, sX11_ring_32, sX11_ring_34, sX11_ring_35, sX11_ring_38, sX11_ring_39, sX11_ring_40, sX11_ring_43, sX11_ring_44, sX11_ring_47, sX11_ring_48, sX11_ring_49, sX11_ring_50, sX11_ring_51, sX11_ring_52, sX11_ring_53, sX11_ring_54, sX11_ring_57, sX11_ring_58, sX11_ring_61, sX11_ring_64, sX11_ring_65, sX11_ring_68, sX11_ring_71, sX11_ring_74, sX11_ring_75, sX11_ring_78, sX11_ring_79, sX11_ring_81, sX11_ring_83, sX11_ring_86, sX11_ring_87, sX11_ring_88, sX11_ring_89, sX11_ring_91, sX11_ring_93, sX11_ring_96, sX11_ring_97, sX11_ring_98, sX11_ring_99, sX11_ring_102, sX11_ring_106, sX11_ring_109, sX11_ring_110, sX11_ring_113, sX11_ring_115, sX11_ring_116, sX11_ring_117, sX11_ring_118, sX11_ring_121, sX11_ring_122, sX11_ring_123, sX11_ring_124, sX11_ring_125, sX11_ring_128, sX11_ring_134, sX11_ring_137, sX11_ring_139, ↓hk103, ↓bndi_at sm, ↓if_pos, ↓if_neg, i32_s]
theorem m_rgO {w : Int} (hG : A 113 2 = (G : Int)) (hG5 : G ≤ 5) (hw : w = 0 ∨ w = 1) : ∀ (n a : Nat) (x3 : zV), a + n = 60 → rn mX11_ring 80 [vr 103, vi w, vi (a : Int), x3] [] (HP A F E) = some (vi (rgA w (A 113 10) (rgO (fun a b => alN (A 120) a b G 0) n a)), HP A F E) := by
  intro n
  induction n with
  | zero =>
    intro a x3 ha
    have : a = 60 := by omega
    subst this
    rw [sX11_ring_80, rgO, rgA]
    simp (disch := omega) only [eX11_ring, sX11_ring_0, sX11_ring_1, sX11_ring_4, sX11_ring_7, sX11_ring_8, sX11_ring_9, sX11_ring_10, sX11_ring_11, sX11_ring_14, sX11_ring_17, sX11_ring_18, sX11_ring_19, sX11_ring_20, sX11_ring_23, sX11_ring_24, sX11_ring_26, sX11_ring_28, sX11_ring_31, sX11_ring_32, sX11_ring_34, sX11_ring_35, sX11_ring_38, sX11_ring_39, sX11_ring_40, sX11_ring_43, sX11_ring_44, sX11_ring_47, sX11_ring_48, sX11_ring_49, sX11_ring_50, sX11_ring_51, sX11_ring_52, sX11_ring_53, sX11_ring_54, sX11_ring_57, sX11_ring_58, sX11_ring_61, sX11_ring_64, sX11_ring_65, sX11_ring_68, sX11_ring_71, sX11_ring_74, sX11_ring_75, sX11_ring_78, sX11_ring_79, sX11_ring_81, sX11_ring_83, sX11_ring_86, sX11_ring_87, sX11_ring_88, sX11_ring_89, sX11_ring_91, sX11_ring_93, sX11_ring_96, sX11_ring_97, sX11_ring_98, sX11_ring_99, sX11_ring_102, sX11_ring_106, sX11_ring_109, sX11_ring_110, sX11_ring_113, sX11_ring_115, sX11_ring_116, sX11_ring_117, sX11_ring_118, sX11_ring_121, sX11_ring_122, sX11_ring_123, sX11_ring_124, sX11_ring_125, sX11_ring_128, sX11_ring_134, sX11_ring_137, sX11_ring_139, ↓if_pos]
  | succ n ih =>
    intro a x3 ha
    have i := m_rgI (A := A) (F := F) (E := E) (w := w) (a := a) hG hG5 (by omega) (60 - a) (a + 1) (by omega) (by omega)
    rw [sX11_ring_80, rgO]
    simp (disch := omega) only [eX11_ring, sX11_ring_0, sX11_ring_1, sX11_ring_4, sX11_ring_7, sX11_ring_8, sX11_ring_9, sX11_ring_10, sX11_ring_11, sX11_ring_14, sX11_ring_17, sX11_ring_18, sX11_ring_19, sX11_ring_20, sX11_ring_23, sX11_ring_24, sX11_ring_26, sX11_ring_28, sX11_ring_31, sX11_ring_32, sX11_ring_34, sX11_ring_35, sX11_ring_38, sX11_ring_39, sX11_ring_40, sX11_ring_43, sX11_ring_44, sX11_ring_47, sX11_ring_48, sX11_ring_49, sX11_ring_50, sX11_ring_51, sX11_ring_52, sX11_ring_53, sX11_ring_54, sX11_ring_57, sX11_ring_58, sX11_ring_61, sX11_ring_64, sX11_ring_65, sX11_ring_68, sX11_ring_71, sX11_ring_74, sX11_ring_75, sX11_ring_78, sX11_ring_79, sX11_ring_81, sX11_ring_83, sX11_ring_86, sX11_ring_87, sX11_ring_88, sX11_ring_89, sX11_ring_91, sX11_ring_93, sX11_ring_96, sX11_ring_97, sX11_ring_98, sX11_ring_99, sX11_ring_102, sX11_ring_106, sX11_ring_109, sX11_ring_110, sX11_ring_113, sX11_ring_115, sX11_ring_116, sX11_ring_117, sX11_ring_118, sX11_ring_121, sX11_ring_122, sX11_ring_123, sX11_ring_124, sX11_ring_125, sX11_ring_128, sX11_ring_134, sX11_ring_137, sX11_ring_139, ↓if_neg, i32_s]
    rw [i]
    cases q : rgI (fun a b => alN (A 120) a b G 0) a (60 - a) (a + 1) with
    | none =>
      simp only
      rw [← ih (a + 1) (vi 61) (by omega)]
      simp (disch := omega) only [eX11_ring, sX11_ring_0, sX11_ring_1, sX11_ring_4, sX11_ring_7, sX11_ring_8, sX11_ring_9, sX11_ring_10, sX11_ring_11, sX11_ring_14, sX11_ring_17, sX11_ring_18, sX11_ring_19, sX11_ring_20, sX11_ring_23, sX11_ring_24, sX11_ring_26, sX11_ring_28, sX11_ring_31, sX11_ring_32, sX11_ring_34, sX11_ring_35, sX11_ring_38, sX11_ring_39, sX11_ring_40, sX11_ring_43, sX11_ring_44, sX11_ring_47, sX11_ring_48, sX11_ring_49, sX11_ring_50, sX11_ring_51, sX11_ring_52, sX11_ring_53, sX11_ring_54, sX11_ring_57, sX11_ring_58, sX11_ring_61, sX11_ring_64, sX11_ring_65, sX11_ring_68, sX11_ring_71, sX11_ring_74, sX11_ring_75, sX11_ring_78, sX11_ring_79, sX11_ring_81, sX11_ring_83, sX11_ring_86, sX11_ring_87, sX11_ring_88, sX11_ring_89, sX11_ring_91, sX11_ring_93, sX11_ring_96, sX11_ring_97, sX11_ring_98, sX11_ring_99, sX11_ring_102, sX11_ring_105, sX11_ring_106, sX11_ring_109, sX11_ring_110, sX11_ring_113, sX11_ring_115, sX11_ring_116, sX11_ring_117, sX11_ring_118, sX11_ring_121, sX11_ring_122, sX11_ring_123, sX11_ring_124, sX11_ring_125, sX11_ring_128, sX11_ring_131, sX11_ring_134, sX11_ring_137, sX11_ring_139, i32_s]
    | some b =>
      simp only [rgA]
      rcases hw with rfl | rfl
      · simp (disch := omega) only [eX11_ring, sX11_ring_0, sX11_ring_1, sX11_ring_4, sX11_ring_7, sX11_ring_8, sX11_ring_9, sX11_ring_10, sX11_ring_11, sX11_ring_14, sX11_ring_17, sX11_ring_18, sX11_ring_19, sX11_ring_20, sX11_ring_23, sX11_ring_24, sX11_ring_26, sX11_ring_28, sX11_ring_31, sX11_ring_32, sX11_ring_34, sX11_ring_35, sX11_ring_38, sX11_ring_39, sX11_ring_40, sX11_ring_43, sX11_ring_44, sX11_ring_47, sX11_ring_48, sX11_ring_49, sX11_ring_50, sX11_ring_51, sX11_ring_52, sX11_ring_53, sX11_ring_54, sX11_ring_57, sX11_ring_58, sX11_ring_61, sX11_ring_64, sX11_ring_65, sX11_ring_68, sX11_ring_71, sX11_ring_74, sX11_ring_75, sX11_ring_78, sX11_ring_79, sX11_ring_81, sX11_ring_83, sX11_ring_86, sX11_ring_87, sX11_ring_88, sX11_ring_89, sX11_ring_91, sX11_ring_93, sX11_ring_96, sX11_ring_97, sX11_ring_98, sX11_ring_99, sX11_ring_102, sX11_ring_105, sX11_ring_106, sX11_ring_109, sX11_ring_110, sX11_ring_113, sX11_ring_115, sX11_ring_116, sX11_ring_117, sX11_ring_118, sX11_ring_121, sX11_ring_122, sX11_ring_123, sX11_ring_124, sX11_ring_125, sX11_ring_128, sX11_ring_131, sX11_ring_134, sX11_ring_137, sX11_ring_139, ↓hf103_20, ↓hg113, Int.reduceToNat, ↓if_pos, ↓if_neg, ↓reduceIte]
      · simp (disch := omega) only [eX11_ring, sX11_ring_0, sX11_ring_1, sX11_ring_4, sX11_ring_7, sX11_ring_8, sX11_ring_9, sX11_ring_10, sX11_ring_11, sX11_ring_14, sX11_ring_17, sX11_ring_18, sX11_ring_19, sX11_ring_20, sX11_ring_23, sX11_ring_24, sX11_ring_26, sX11_ring_28, sX11_ring_31, sX11_ring_32, sX11_ring_34, sX11_ring_35, sX11_ring_38, sX11_ring_39, sX11_ring_40, sX11_ring_43, sX11_ring_44, sX11_ring_47, sX11_ring_48, sX11_ring_49, sX11_ring_50, sX11_ring_51, sX11_ring_52, sX11_ring_53, sX11_ring_54, sX11_ring_57, sX11_ring_58, sX11_ring_61, sX11_ring_64, sX11_ring_65, sX11_ring_68, sX11_ring_71, sX11_ring_74, sX11_ring_75, sX11_ring_78, sX11_ring_79, sX11_ring_81, sX11_ring_83, sX11_ring_86, sX11_ring_87, sX11_ring_88, sX11_ring_89, sX11_ring_91, sX11_ring_93, sX11_ring_96, sX11_ring_97, sX11_ring_98, sX11_ring_99, sX11_ring_102, sX11_ring_105, sX11_ring_106, sX11_ring_109, sX11_ring_110, sX11_ring_113, sX11_ring_115, sX11_ring_116, sX11_ring_117, sX11_ring_118, sX11_ring_121, sX11_ring_122, sX11_ring_123, sX11_ring_124, sX11_ring_125, sX11_ring_128, sX11_ring_131, sX11_ring_134, sX11_ring_137, sX11_ring_139, ↓if_pos, ↓if_neg, ↓reduceIte]
end RG
