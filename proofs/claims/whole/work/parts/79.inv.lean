/-! what holds between two calls: the class's cells against the model's -/
def sby (b : Int) : Int := if b < 128 then b else b - 256
def iT (A F : Nat → Nat → Int) : Prop := (0 ≤ F 2 1 ∧ F 2 1 ≤ 400) ∧ F 103 1 = F 2 1 ∧ (∀ j, 0 ≤ A 3 j ∧ A 3 j ≤ 255) ∧ (∀ j : Nat, (j : Int) < F 2 1 → A 104 j = sby (A 3 j)) ∧ (0 ≤ F 2 3 ∧ F 2 3 ≤ 400) ∧ (-1 ≤ F 2 5 ∧ F 2 5 ≤ 99999)
/-- rule i turns by Q, in the model, whatever else there is -/
def mS (i : Nat) (A : Nat → Nat → Int) (Q : (Int → Int) → Int) : Prop := ∀ (A' F' : Nat → Nat → Int) (E' : zE), (∀ j, 400 * i ≤ j → j < 400 * i + 400 → A' 105 j = A 105 j) → (∀ j, 48 * i ≤ j → j < 48 * i + 48 → A' 107 j = A 107 j) → A' 108 i = A 108 i → ∃ (A2 F2 : Nat → Nat → Int) (v : Int), cl mX11_summedBy [vr 103, vi (i : Int)] (HP A' F' E') = some (vl v, HP A2 F2 E') ∧ mfr A' F' A2 F2 ∧ A2 113 = A' 113 ∧ v % 4 = Q (fun w => A' 112 w.toNat)
def RU (A : Nat → Nat → Int) (E : zE) (i : Nat) : Prop := ∃ Q : (Int → Int) → Int, qcg Q ∧ (∀ u, 0 ≤ Q u ∧ Q u ≤ 3) ∧ odok (E.1 i) (A (129 + 3 * i)) ∧ (∀ u sk, (qrn u (A (129 + 3 * i)) (E.1 i) 0 0 sk).1 = Q u) ∧ mS i A Q
def iR (A F : Nat → Nat → Int) (E : zE) : Prop := E.2.1 ≤ 6 ∧ E.2.2.1 ≤ 100000 + 500 * E.2.1 ∧ F 1 4 = (E.2.1 : Int) ∧ F 103 2 = (E.2.1 : Int) ∧ (-1 ≤ F 1 5 ∧ F 1 5 < (E.2.1 : Int)) ∧ F 103 21 = F 1 5 ∧ F 103 22 = F 1 6 ∧ (0 ≤ F 1 6 ∧ F 1 6 ≤ 2147483647) ∧ ∀ i, i < E.2.1 → RU A E i
def nad (j : Nat) : Prop := j = 17 ∨ j = 18 ∨ j = 19 ∨ (67 ≤ j ∧ j < 103 ∧ 6 ≤ (j - 67) % 9)
def iW (A : Nat → Nat → Int) : Prop := (∀ a, wad a → cn 82 (A (a + 1))) ∧ ∀ j, nad j → cn 10 (A j)
def tdr (s t : Nat → Int) : Prop := t 2 = 0 ∧ (∀ e, e < 4 → s (105 + e) = t (3 + e)) ∧ (∀ c, c < 36 → s (109 + c) = t (11 + c)) ∧ ∀ g, g < 5 → (s (90 + 3 * g) = t (47 + 7 * g) ∧ s (91 + 3 * g) = t (48 + 7 * g) ∧ s (92 + 3 * g) = t (49 + 7 * g) ∧ t (50 + 7 * g) = 0 ∧ t (51 + 7 * g) = 0 ∧ t (52 + 7 * g) = 0 ∧ t (53 + 7 * g) = 0)
def NR (fs fg fc s : Nat → Int) (G : Nat) (k : Nat) : Prop := (0 ≤ fs k ∧ fs k ≤ 60) ∧ (0 ≤ fg k ∧ fg k < (G : Int)) ∧ (-1 ≤ fc k ∧ fc k ≤ 35) ∧ s (145 + 3 * k) = fs k ∧ s (146 + 3 * k) = fg k ∧ s (147 + 3 * k) = fc k
/-- there is no sheet; there is one -/
def SR0 (f t : Nat → Int) (z : Int) (s : Nat → Int) : Prop := (∀ j, f j = 0) ∧ (∀ j, t j = 0) ∧ z = 0 ∧ ∀ j, j < 176 → s j = 0
def SR1 (G : Nat) (f t fs fg fc : Nat → Int) (z : Int) (s : Nat → Int) : Prop := wok f G ∧ wok t G ∧ s 0 = 1 ∧ sdr s f ∧ tdr s t ∧ f 0 = t 0 ∧ (∀ e, e < 4 → f (7 + e) = t (7 + e)) ∧ (0 ≤ z ∧ z ≤ 10) ∧ s 175 = z ∧ (∀ k : Nat, (k : Int) < z → NR fs fg fc s G k) ∧ (0 ≤ f 2 ∧ f 2 ≤ 999)
def SR (f t fs fg fc : Nat → Int) (z : Int) (s : Nat → Int) : Prop := SR0 f t z s ∨ ∃ G : Nat, SR1 G f t fs fg fc z s
def iS (A F : Nat → Nat → Int) : Prop := SR (A 13) (A 11) (A 17) (A 18) (A 19) (F 16 3) (A 113)
def hix (nx sz : Int) (u : Nat) : Nat := ((nx + 20 - sz + u) % 20).toNat
def hrel (row w f : Nat → Int) : Prop := ∃ G, wok row G ∧ row 0 = f 0 ∧ row 1 = f 1 ∧ (∀ e, e < 4 → row (7 + e) = f (7 + e)) ∧ sds w row ∧ (0 ≤ row 2 ∧ row 2 ≤ 999)
def iH (A F : Nat → Nat → Int) : Prop := (0 ≤ F 20 1 ∧ F 20 1 < 20) ∧ (0 ≤ F 20 2 ∧ F 20 2 ≤ 20) ∧ F 103 24 = F 20 2 ∧ ∀ u : Nat, (u : Int) < F 20 2 → hrel (A (23 + 2 * hix (F 20 1) (F 20 2) u)) (fun j => A 114 (76 * u + j)) (A 13)
def iI (A F : Nat → Nat → Int) (E : zE) : Prop := ∀ k : Nat, k < 4 → A 126 k = F (67 + 9 * k) 3 ∧ (F (67 + 9 * k) 3 = 0 ∨ F (67 + 9 * k) 3 = 1) ∧ (F (67 + 9 * k) 3 = 1 → SR (A (69 + 9 * k)) (A (71 + 9 * k)) (A (73 + 9 * k)) (A (74 + 9 * k)) (A (75 + 9 * k)) (F (72 + 9 * k) 3) (fun j => A 123 (176 * k + j)) ∧ A 124 k = F (67 + 9 * k) 4 ∧ (-1 ≤ F (67 + 9 * k) 4 ∧ F (67 + 9 * k) 4 < (E.2.1 : Int)) ∧ A 125 k = F (67 + 9 * k) 5 ∧ (0 ≤ F (67 + 9 * k) 5 ∧ F (67 + 9 * k) 5 ≤ 2147483647))
def inv (A F : Nat → Nat → Int) (E : zE) : Prop := iT A F ∧ iR A F E ∧ iW A ∧ iS A F ∧ iH A F ∧ iI A F E
/-- both answer alike, and it holds again -/
def prs (c m : zMd) (as : List zV) (A F : Nat → Nat → Int) (E : zE) : Prop := ∃ (v : Int) (A1 F1 : Nat → Nat → Int) (E1 : zE) (A2 F2 : Nat → Nat → Int) (E2 : zE), cl c (vr 1 :: as) (HP A F E) = some (vi v, HP A1 F1 E1) ∧ cl m (vr 103 :: as) (HP A1 F1 E1) = some (vi v, HP A2 F2 E2) ∧ inv A2 F2 E2 ∧ E2.2.2.2 = E.2.2.2
section IV
variable {A F A' F' : Nat → Nat → Int} {E : zE}
/-- a call that changes nothing -/
theorem prs_0 {c m : zMd} {as : List zV} {v : Int} (h : inv A F E) (e1 : cl c (vr 1 :: as) (HP A F E) = some (vi v, HP A F E)) (e2 : cl m (vr 103 :: as) (HP A F E) = some (vi v, HP A F E)) : prs c m as A F E := ⟨v, A, F, E, A, F, E, e1, e2, h, rfl⟩
theorem iS_b (h : iS A F) : (0 ≤ A 13 0 ∧ A 13 0 ≤ 6) ∧ (0 ≤ A 13 1 ∧ A 13 1 ≤ 5) ∧ A 113 1 = A 13 0 ∧ A 113 2 = A 13 1 ∧ (A 113 0 = 1 ↔ 0 < A 13 0) ∧ (0 < A 13 1 → 0 < A 13 0) ∧ (0 < A 13 0 ↔ ∃ G, SR1 G (A 13) (A 11) (A 17) (A 18) (A 19) (F 16 3) (A 113)) := by
  rcases h with ⟨h1, h2, h3, h4⟩ | ⟨G, h⟩
  · refine ⟨by rw [h1]; omega, by rw [h1]; omega, by rw [h1, h4 1 (by omega)], by rw [h1, h4 2 (by omega)], by rw [h1, h4 0 (by omega)]; omega, by rw [h1, h1]; omega, ?_⟩
    constructor
    · intro q; rw [h1] at q; omega
    · rintro ⟨G, hw, _⟩
      have := hw.2.2.1
      omega
  · have h' := h
    obtain ⟨h1, h2, h3, h4, h5⟩ := h
    have b := h1.2.2.1
    have g1 := h1.1
    have g2 := h1.2.1
    refine ⟨by omega, by omega, sd_0 h4, sd_1 h4, by omega, by omega, ?_⟩
    exact ⟨fun _ => ⟨G, h'⟩, fun _ => by omega⟩
/-- the pieces, when what they speak of is the same -/
theorem iT_f (h : iT A F) (a1 : A' 3 = A 3) (a2 : A' 104 = A 104) (a3 : F' 2 = F 2) (a4 : F' 103 1 = F 103 1) : iT A' F' := by
  unfold iT at *; rw [a1, a2, a3, a4]; exact h
theorem iW_f (h : iW A) (k : ∀ j, 10 ≤ j → j < 103 → j ≠ 15 → A' j = A j) (c : cn 82 (A' 15)) : iW A' := by
  refine ⟨fun a ha => ?_, fun j hj => ?_⟩
  · by_cases q : a = 14
    · subst q; exact c
    · rw [k (a + 1) (by unfold wad at ha; omega) (by have := wad_b ha; unfold wad at ha; omega) (by omega)]; exact h.1 a ha
  · rw [k j (by unfold nad at hj; omega) (by unfold nad at hj; omega) (by unfold nad at hj; omega)]; exact h.2 j hj
theorem RU_f {i : Nat} (h : RU A E i) (k : A' (129 + 3 * i) = A (129 + 3 * i)) (a1 : A' 105 = A 105) (a2 : A' 107 = A 107) (a3 : A' 108 = A 108) : RU A' E i := by
  unfold RU mS at *; rw [k, a1, a2, a3]; exact h
theorem iI_f (h : iI A F E) (k : ∀ j, (67 ≤ j ∧ j < 103 ∨ 123 ≤ j ∧ j < 127) → A' j = A j) (k2 : ∀ j, 67 ≤ j → j < 103 → F' j = F j) : iI A' F' E := by
  intro i hi
  have := h i hi
  rw [k2 (67 + 9 * i) (by omega) (by omega), k2 (72 + 9 * i) (by omega) (by omega), k (69 + 9 * i) (by omega), k (71 + 9 * i) (by omega), k (73 + 9 * i) (by omega), k (74 + 9 * i) (by omega), k (75 + 9 * i) (by omega), k 123 (by omega), k 124 (by omega), k 125 (by omega), k 126 (by omega)]
  exact this
theorem iH_f (h : iH A F) (k : ∀ j, (22 ≤ j ∧ j < 62 ∨ j = 114 ∨ j = 13) → A' j = A j) (k2 : F' 20 = F 20) (k3 : F' 103 24 = F 103 24) : iH A' F' := by
  obtain ⟨h1, h2, h3, h4⟩ := h
  refine ⟨by rw [k2]; exact h1, by rw [k2]; exact h2, by rw [k2, k3]; exact h3, fun u hu => ?_⟩
  rw [k2] at hu
  have := h4 u hu
  rw [k2, k (23 + 2 * hix (F 20 1) (F 20 2) u) (by unfold hix; omega), k 13 (by omega), k 114 (by omega)]
  exact this
/-- a rule by its number, in both -/
theorem iR_Q (h : iR A F E) {k : Int} (k0 : -1 ≤ k) (k1 : k < (E.2.1 : Int)) : ∃ Q, cR A E (rad k) Q ∧ ∀ F' : Nat → Nat → Int, F' 103 21 = k → mQ A F' Q := by
  by_cases z : k < 0
  · refine ⟨fun _ => 0, ⟨fun _ => ⟨Int.le_refl 0, (by decide : (0 : Int) ≤ 3)⟩, Or.inl ⟨if_pos z, fun _ => rfl⟩⟩, fun F' e => ⟨fun _ _ _ => rfl, fun _ => ⟨Int.le_refl 0, (by decide : (0 : Int) ≤ 3)⟩, Or.inl ⟨by omega, fun _ => rfl⟩⟩⟩
  · obtain ⟨i, rfl⟩ : ∃ i : Nat, k = (i : Int) := ⟨k.toNat, by omega⟩
    obtain ⟨Q, q1, q2, q3, q4, q5⟩ := h.2.2.2.2.2.2.2.2 i (by omega)
    refine ⟨Q, ⟨q2, Or.inr ⟨i, by omega, by have := h.1; omega, by unfold rad; rw [if_neg z, Int.toNat_natCast], q3, q4⟩⟩, fun F' e => ⟨q1, q2, Or.inr ⟨by omega, fun A2 F2 E2 a1 a2 a3 => ?_⟩⟩⟩
    rw [e]
    exact q5 A2 F2 E2 (fun j _ _ => by rw [a1]) (fun j _ _ => by rw [a2]) (by rw [a3])
end IV
