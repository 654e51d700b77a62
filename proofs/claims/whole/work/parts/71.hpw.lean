/-! the Worlds in the whole heap -/
def wad (a : Nat) : Prop := a = 10 ∨ a = 12 ∨ a = 14 ∨ (22 ≤ a ∧ a < 62 ∧ a % 2 = 0) ∨ (68 ≤ a ∧ a < 103 ∧ ((a - 67) % 9 = 1 ∨ (a - 67) % 9 = 3))
theorem wad_10 : wad 10 := Or.inl rfl
theorem wad_12 : wad 12 := Or.inr (Or.inl rfl)
theorem wad_14 : wad 14 := Or.inr (Or.inr (Or.inl rfl))
section HW
variable {A F : Nat → Nat → Int} {E : zE} {a b : Nat} {f g : Nat → Int} {l : Int}
theorem hc_w (h : wad a) : hc E a g f = zob 8 [vr (a + 1), vi (f 1)] := by
  rcases h with rfl | rfl | rfl | ⟨h1, h2, h3⟩ | ⟨h1, h2, h3⟩
  · rfl
  · rfl
  · rfl
  · unfold hc
    rw [if_neg (by omega), if_pos ⟨h1, h2⟩, if_pos h3]
  · unfold hc
    rw [if_neg (by omega), if_neg (by omega), if_pos ⟨by omega, h2⟩, if_neg (by omega), if_pos h3]
theorem hc_r (h : wad a) : hc E (a + 1) g f = zar 1 82 g := by
  rcases h with rfl | rfl | rfl | ⟨h1, h2, h3⟩ | ⟨h1, h2, h3⟩
  · rfl
  · rfl
  · rfl
  · unfold hc
    rw [if_neg (by omega), if_pos ⟨by omega, by omega⟩, if_neg (by omega)]
  · unfold hc
    rw [if_neg (by omega), if_neg (by omega), if_pos ⟨by omega, by omega⟩, if_neg (by omega), if_neg (by omega), if_pos (by omega)]
theorem hp_w (h : wad a) : isW (HP A F E) a ∧ wr (HP A F E) a = a + 1 ∧ wl (HP A F E) a = F a 1 ∧ wf (HP A F E) a = A (a + 1) :=
  isW_of (hc_w h) (hc_r h) (by omega)
theorem hp_st (h : wad a) : wst (HP A F E) a g = HP (aup A (a + 1) g) F E := by
  unfold wst
  rw [(hp_w h).2.1]
  exact zup_HPa (hc_r h)
theorem hp_lu (h : wad a) : wlu (HP A F E) a l = HP A (aup F a (fup (F a) 1 l)) E := by
  unfold wlu
  rw [(hp_w h).2.1]
  exact zup_HPf (by rw [hc_w h]; rfl)
theorem h_get {i : Int} (h : wad a) (h0 : 0 ≤ i) (h1 : i < 82) : cl mX9_get [vr a, vi i] (HP A F E) = some (vi (A (a + 1) i.toNat), HP A F E) := by
  have := w_get (i := i) (hp_w (A := A) (F := F) (E := E) h).1 h0 h1
  rw [(hp_w h).2.2.2] at this
  exact this
theorem h_set {i v : Int} (h : wad a) (h0 : 0 ≤ i) (h1 : i < 82) : cl mX9_set [vr a, vi i, vi v] (HP A F E) = some (vn, HP (aup A (a + 1) (fup (A (a + 1)) i.toNat v)) F E) := by
  have := w_set (i := i) (v := v) (hp_w (A := A) (F := F) (E := E) h).1 h0 h1
  rw [(hp_w h).2.2.2, hp_st h] at this
  exact this
theorem h_of {g p : Int} (h : wad a) (h0 : 0 ≤ g) (h1 : g ≤ 4) (h2 : 0 ≤ p) (h3 : p ≤ 6) : cl mX9_of [vr a, vi g, vi p] (HP A F E) = some (vi (A (a + 1) (47 + 7 * g + p).toNat), HP A F E) := by
  have hw := hp_w (A := A) (F := F) (E := E) h
  have := W_of (g := g) (p := p) hw.1.1 hw.1.2.1 h0 h1 h2 h3
  rw [hw.2.2.2] at this
  exact this
theorem h_put {g p v : Int} (h : wad a) (h0 : 0 ≤ g) (h1 : g ≤ 4) (h2 : 0 ≤ p) (h3 : p ≤ 6) : cl mX9_put [vr a, vi g, vi p, vi v] (HP A F E) = some (vn, HP (aup A (a + 1) (fup (A (a + 1)) (47 + 7 * g + p).toNat v)) F E) := by
  have hw := hp_w (A := A) (F := F) (E := E) h
  have := W_put (g := g) (p := p) (v := v) hw.1.1 hw.1.2.1 h0 h1 h2 h3
  rw [hw.2.2.2] at this
  exact this.trans (by rw [← hp_st h]; rfl)
theorem h_isOn {g : Int} (h : wad a) (h0 : 0 ≤ g) (h1 : g ≤ 4) : cl mX9_isOn [vr a, vi g] (HP A F E) = some (vi (if A (a + 1) (47 + 7 * g + 3).toNat = 0 then 1 else 0), HP A F E) := by
  have hw := hp_w (A := A) (F := F) (E := E) h
  have := W_isOn (g := g) hw.1.1 hw.1.2.1 h0 h1
  rw [hw.2.2.2] at this
  exact this
theorem h_cells (h : wad a) (h0 : 0 ≤ A (a + 1) 0) (h1 : A (a + 1) 0 ≤ 6) : cl mX9_cells [vr a] (HP A F E) = some (vi (A (a + 1) 0 * A (a + 1) 0), HP A F E) := by
  have hw := hp_w (A := A) (F := F) (E := E) h
  exact W_cells hw.1.1 hw.1.2.1 (by rw [hw.2.2.2]) h0 h1
theorem h_stones (h : wad a) (hs : ∀ j, j < 36 → 0 ≤ A (a + 1) (11 + j) ∧ A (a + 1) (11 + j) ≤ 1) : cl mX9_stones [vr a] (HP A F E) = some (vi (sumN (fun j => A (a + 1) (11 + j)) 36), HP A F E) := by
  have hw := hp_w (A := A) (F := F) (E := E) h
  have := W_stones (f := A (a + 1)) hw.1.1 (by rw [hw.1.2.1, hw.2.2.2]) hs
  exact this
theorem h_bits {s : Int} {G : Nat} (h : wad a) (hG : A (a + 1) 1 = (G : Int)) (hG5 : G ≤ 5) : cl mX9_bitsOf [vr a, vi s] (HP A F E) = some (vi (bitsN s (A (a + 1)) G), HP A F E) := by
  have hw := hp_w (A := A) (F := F) (E := E) h
  have := w_bitsOf (s := s) (G := G) hw.1 (by rw [hw.2.2.2]; exact hG) hG5
  rw [hw.2.2.2] at this
  exact this
theorem h_food {G : Nat} (h : wad a) (hG : A (a + 1) 1 = (G : Int)) (hG5 : G ≤ 5) : cl mX9_foodOfAll [vr a] (HP A F E) = some (vi (foodN (A (a + 1)) G), HP A F E) := by
  have hw := hp_w (A := A) (F := F) (E := E) h
  have := w_foodOfAll (G := G) hw.1 (by rw [hw.2.2.2]; exact hG) hG5
  rw [hw.2.2.2] at this
  exact this
theorem h_lastUsed (h : wad a) : cl mX9_lastUsed [vr a] (HP A F E) = some (vi (F a 1), HP A F E) := by
  have hw := hp_w (A := A) (F := F) (E := E) h
  have := w_lastUsed hw.1
  rw [hw.2.2.1] at this
  exact this
theorem h_copy (h : wad a) (hb : wad b) (c1 : cn 82 (A (a + 1))) (c2 : cn 82 (A (b + 1))) : cl mX9_copyFrom [vr a, vr b] (HP A F E) = some (vn, HP (aup A (a + 1) (A (b + 1))) (aup F a (fup (F a) 1 (-1))) E) := by
  have hw := hp_w (A := A) (F := F) (E := E) h
  have hv := hp_w (A := A) (F := F) (E := E) hb
  have := w_copyC hw.1 hv.1 (by rw [hw.2.2.2]; exact c1) (by rw [hv.2.2.2]; exact c2)
  rw [hv.2.2.2, hp_st h, hp_lu h] at this
  exact this
theorem h_turn {c : Int} (h : wad a) (c0 : 0 ≤ c) (hc : c ≤ 35) (h0 : 0 ≤ A (a + 1) (11 + c).toNat) (h1 : A (a + 1) (11 + c).toNat ≤ 1) : cl mX9_turnStone [vr a, vi c] (HP A F E) = some (vn, HP (aup A (a + 1) (fup (A (a + 1)) (11 + c).toNat (1 - A (a + 1) (11 + c).toNat))) F E) := by
  have hw := hp_w (A := A) (F := F) (E := E) h
  obtain ⟨n, rfl⟩ : ∃ n : Nat, c = (n : Int) := ⟨c.toNat, by omega⟩
  have e : (11 + (n : Int)).toNat = 11 + n := by omega
  rw [e] at *
  have := w_turn (c := n) hw.1 (by omega) (by rw [hw.2.2.2]; exact h0) (by rw [hw.2.2.2]; exact h1)
  rw [hw.2.2.2, hp_st h] at this
  exact this
theorem h_cki (h : wad a) {α : Type} {x : Option α} : cki ((HP A F E).2 a) 8 x = x := isW_cell (hp_w h).1
end HW
