/-! notes held against a walk: the class's side -/
/-- all told is so at the steps st .. (n of them) -/
def alS (Q : (Int → Int) → Int) (G Z : Nat) (fs fg fc : Nat → Int) : Nat → Int → (Nat → Int) → Bool
  | 0, _, _ => true
  | n + 1, st, f => hat st fs fg fc f Z 0 && alS Q G Z fs fg fc n (st + 1) (psa Q G f)
def hfS (Q : (Int → Int) → Int) (G Z : Nat) (fs fg fc : Nat → Int) : Nat → Int → (Nat → Int) × Int → Int × ((Nat → Int) × Int)
  | 0, _, x => (1, x)
  | n + 1, st, x => if hat st fs fg fc x.1 Z 0 then (if n = 0 then (1, x) else hfS Q G Z fs fg fc n (st + 1) (psa Q G x.1, plR Q G G 0 x.1 x.2)) else (0, x)
section HO
variable {Q : (Int → Int) → Int} {G Z : Nat} {fs fg fc : Nat → Int} {ru : Option (Nat × (Nat → Int))}
theorem hfr_S (hq : rQ ru Q) : ∀ (n : Nat) (st : Int) (x : (Nat → Int) × Int × (Nat → Int)), (hfr ru G Z fs fg fc n st x).1 = (hfS Q G Z fs fg fc n st (x.1, x.2.1)).1 ∧ (hfr ru G Z fs fg fc n st x).2.1 = (hfS Q G Z fs fg fc n st (x.1, x.2.1)).2.1 ∧ (hfr ru G Z fs fg fc n st x).2.2.1 = (hfS Q G Z fs fg fc n st (x.1, x.2.1)).2.2
  | 0, _, _ => ⟨rfl, rfl, rfl⟩
  | n + 1, st, x => by
    rw [hfr, hfS]
    by_cases z : hat st fs fg fc x.1 Z 0 = true
    · rw [if_pos z, if_pos z]
      by_cases y : n = 0
      · rw [if_pos y, if_pos y]; exact ⟨rfl, rfl, rfl⟩
      · rw [if_neg y, if_neg y]
        have i := hfr_S hq n (st + 1) (wpa ru G x)
        have w := wpa_ps (G := G) hq x
        rw [w.1, w.2] at i
        exact i
    · rw [if_neg z, if_neg z]; exact ⟨rfl, rfl, rfl⟩
theorem hfS_1 : ∀ (n : Nat) (st : Int) (x : (Nat → Int) × Int), (hfS Q G Z fs fg fc n st x).1 = if alS Q G Z fs fg fc n st x.1 then 1 else 0
  | 0, _, _ => rfl
  | n + 1, st, x => by
    rw [hfS, alS]
    by_cases z : hat st fs fg fc x.1 Z 0 = true
    · rw [if_pos z, z, Bool.true_and]
      by_cases y : n = 0
      · subst y; rw [if_pos rfl]; rfl
      · rw [if_neg y, hfS_1 n]
    · rw [if_neg z]
      have : hat st fs fg fc x.1 Z 0 = false := by cases h : hat st fs fg fc x.1 Z 0 <;> simp_all
      rw [this, Bool.false_and]
      rfl
theorem hfS_ok (hQ : ∀ u, 0 ≤ Q u ∧ Q u ≤ 3) (hG : G ≤ 5) : ∀ (n : Nat) (st : Int) (x : (Nat → Int) × Int), wok x.1 G → cn 82 x.1 → wok (hfS Q G Z fs fg fc n st x).2.1 G ∧ cn 82 (hfS Q G Z fs fg fc n st x).2.1
  | 0, _, _, h, k => ⟨h, k⟩
  | n + 1, st, x, h, k => by
    rw [hfS]
    split
    · split
      · exact ⟨h, k⟩
      · exact hfS_ok hQ hG n (st + 1) _ (psa_ok hQ h) (psa_cn hG k)
    · exact ⟨h, k⟩
/-- behind the last step told of nothing is told -/
theorem hat_t {st : Int} {f : Nat → Int} : ∀ (n k : Nat), (∀ j, k ≤ j → j < k + n → fs j ≠ st) → hat st fs fg fc f n k = true
  | 0, _, _ => rfl
  | n + 1, k, h => by
    rw [hat, if_neg (fun q => h k (by omega) (by omega) q.1)]
    exact hat_t n (k + 1) (fun j h1 h2 => h j (by omega) (by omega))
theorem alS_t : ∀ (n : Nat) (st : Int) (f : Nat → Int), (∀ j, j < Z → fs j < st) → alS Q G Z fs fg fc n st f = true
  | 0, _, _, _ => rfl
  | n + 1, st, f, h => by
    rw [alS, hat_t Z 0 (fun j _ hj => by have := h j (by omega); omega), alS_t n (st + 1) _ (fun j hj => by have := h j hj; omega)]
    rfl
theorem alS_cut : ∀ (n m : Nat) (st : Int) (f : Nat → Int), (∀ j, j < Z → fs j < st + n) → alS Q G Z fs fg fc (n + m) st f = alS Q G Z fs fg fc n st f
  | 0, m, st, f, h => by rw [Nat.zero_add, alS_t m st f (fun j hj => by have := h j hj; omega)]; rfl
  | n + 1, m, st, f, h => by rw [Nat.add_right_comm, alS, alS, alS_cut n m (st + 1) _ (fun j hj => by have := h j hj; omega)]
theorem nlast_ge : ∀ (n k : Nat) (l : Int), l ≤ nlast fs n k l ∧ ∀ j, k ≤ j → j < k + n → fs j ≤ nlast fs n k l
  | 0, _, _ => ⟨Int.le_refl _, fun j h1 h2 => by omega⟩
  | n + 1, k, l => by
    rw [nlast]
    have i := nlast_ge n (k + 1) (if l < fs k then fs k else l)
    refine ⟨?_, fun j h1 h2 => ?_⟩
    · have := i.1; split at this <;> omega
    · by_cases q : j = k
      · subst q; have := i.1; split at this <;> omega
      · exact i.2 j (by omega) (by omega)
theorem nlast_le {b : Int} : ∀ (n k : Nat) (l : Int), l ≤ b → (∀ j, k ≤ j → j < k + n → fs j ≤ b) → nlast fs n k l ≤ b
  | 0, _, _, h, _ => h
  | n + 1, k, l, h, hb => by
    rw [nlast]
    have b1 := hb k (by omega) (by omega)
    exact nlast_le n (k + 1) _ (by split <;> omega) (fun j h1 h2 => hb j (by omega) (by omega))
/-- all sixty-one steps say no more than those as far as the last told of -/
theorem alS_61 {f : Nat → Int} (hb : ∀ j, j < Z → 0 ≤ fs j ∧ fs j ≤ 60) : alS Q G Z fs fg fc (nlast fs Z 0 (-1) + 1).toNat 0 f = alS Q G Z fs fg fc 61 0 f := by
  have g := nlast_ge (fs := fs) Z 0 (-1)
  have l := nlast_le (fs := fs) (b := 60) Z 0 (-1) (by omega) (fun j _ hj => (hb j (by omega)).2)
  have e : 61 = (nlast fs Z 0 (-1) + 1).toNat + (61 - (nlast fs Z 0 (-1) + 1).toNat) := by omega
  rw [e, alS_cut _ _ _ _ (fun j hj => by have := g.2 j (by omega) (by omega); omega)]
variable {A F : Nat → Nat → Int} {E : zE} {b : Nat}
theorem c_hold (h : cw A F E G Q b) (hZ : F 16 3 = (Z : Int)) (hz : Z ≤ 10) (hn : ∀ k, k < Z → (0 ≤ A 17 k ∧ A 17 k ≤ 60) ∧ 0 ≤ A 18 k ∧ A 18 k ≤ 4) : ∃ A' F', cl mX4_holdFrom [vr 16, vr 14, vr b] (HP A F E) = some (vi (if alS Q G Z (A 17) (A 18) (A 19) 61 0 (A 15) then 1 else 0), HP A' F' E) ∧ cfr A F A' F' ∧ cn 82 (A' 15) ∧ F' 14 1 = (hfS Q G Z (A 17) (A 18) (A 19) (nlast (A 17) Z 0 (-1) + 1).toNat 0 (A 15, F 14 1)).2.2 ∧ (∀ j, j ≠ 15 → ¬ isk j → A' j = A j) ∧ ∀ j, j ≠ 14 → F' j = F j := by
  have w := hp_w (A := A) (F := F) (E := E) wad_14
  have ew : wf (HP A F E) 14 = A 15 := w.2.2.2
  have el : wl (HP A F E) 14 = F 14 1 := w.2.2.1
  have er : wr (HP A F E) 14 = 15 := w.2.1
  have n1 := hp_n (A := A) (F := F) (E := E) nob_16
  rw [hZ] at n1
  have hok := hfS_ok (Q := Q) (Z := Z) (fs := A 17) (fg := A 18) (fc := A 19) h.2.2.1 h.1.2.1 (nlast (A 17) Z 0 (-1) + 1).toNat 0 (A 15, F 14 1) h.1 h.2.1
  have e1 := hfS_1 (Q := Q) (G := G) (Z := Z) (fs := A 17) (fg := A 18) (fc := A 19) (nlast (A 17) Z 0 (-1) + 1).toNat 0 (A 15, F 14 1)
  simp only at e1
  rw [alS_61 (fun j hj => (hn j hj).1)] at e1
  obtain ⟨hQ, ⟨rfl, h2⟩ | ⟨i, h1, h1', h2, h3, h4⟩⟩ := h.2.2
  · have p := N_holdFrom (a := 14) (b := 0) (o := 0) (k := 0) (p := 16) (s := 16 + 1) (g := 16 + 2) (c := 16 + 3) (ru := none) (sk := fun _ => 0) (G := G) hz (fun k hk => (hn k hk).2) (fun k hk => ⟨(hn k hk).1.1, by have := (hn k hk).1.2; show A 17 k ≤ _; omega⟩) w.1 (by rw [ew]; exact h.1) rfl ⟨⟨by omega, by rw [er]; omega, by omega⟩, ⟨by omega, by rw [er]; omega, by omega⟩, ⟨by omega, by rw [er]; omega, by omega⟩, ⟨by omega, by rw [er]; omega, by omega⟩⟩ n1
    have s := hfr_S (ru := none) (Q := Q) (G := G) (Z := Z) (fs := A 17) (fg := A 18) (fc := A 19) h2 (nlast (A 17) Z 0 (-1) + 1).toNat 0 (A 15, F 14 1, fun _ => 0)
    simp only [Nat.reduceAdd] at p
    rw [el, ew, s.1, e1] at p
    unfold pst pbs at p
    simp only at p
    rw [s.2.1, s.2.2, hp_st wad_14, hp_lu wad_14] at p
    refine ⟨_, _, p, ⟨fun j j1 _ _ _ _ => aup_n j1, fun j j1 _ => aup_n j1⟩, by rw [aup_s]; exact hok.2, by rw [aup_s, fup_s], fun j j1 _ => aup_n j1, fun j j1 => aup_n j1⟩
  · have q := hc_rule (x := A (127 + 3 * i)) (y := F (127 + 3 * i)) h1 h1'
    have q' := hc_rule (x := A (128 + 3 * i)) (y := F (128 + 3 * i)) h1 h1'
    have q2' := hc_rule (x := A (129 + 3 * i)) (y := F (129 + 3 * i)) h1 h1'
    have p := N_holdFrom (a := 14) (b := b) (o := 129 + 3 * i) (k := 128 + 3 * i) (p := 16) (s := 16 + 1) (g := 16 + 2) (c := 16 + 3) (ru := some (E.1 i, A (129 + 3 * i))) (sk := A (128 + 3 * i)) (G := G) hz (fun k hk => (hn k hk).2) (fun k hk => ⟨(hn k hk).1.1, by have := (hn k hk).1.2; show A 17 k ≤ _; omega⟩) w.1 (by rw [ew]; exact h.1) ⟨by omega, h3, by rw [h2]; exact q.1, q2'.2.2, q'.2.1, ⟨by omega, by omega, by omega, by rw [er]; omega⟩, by omega, by rw [er]; omega, by omega, by rw [er]; omega⟩ ⟨⟨by omega, by rw [er]; omega, by omega⟩, ⟨by omega, by rw [er]; omega, by omega⟩, ⟨by omega, by rw [er]; omega, by omega⟩, ⟨by omega, by rw [er]; omega, by omega⟩⟩ n1
    have s := hfr_S (ru := some (E.1 i, A (129 + 3 * i))) (Q := Q) (G := G) (Z := Z) (fs := A 17) (fg := A 18) (fc := A 19) h4 (nlast (A 17) Z 0 (-1) + 1).toNat 0 (A 15, F 14 1, A (128 + 3 * i))
    simp only [Nat.reduceAdd] at p
    rw [el, ew, s.1, e1] at p
    unfold pst pbs at p
    simp only at p
    rw [s.2.1, s.2.2, zup_HPa (hc_rule h1 h1').2.1, hp_st wad_14, hp_lu wad_14] at p
    refine ⟨_, _, p, ⟨fun j j1 _ _ _ j5 => ?_, fun j j1 _ => aup_n j1⟩, by rw [aup_s]; exact hok.2, by rw [aup_s, fup_s], fun j j1 j5 => ?_, fun j j1 => aup_n j1⟩
    · rw [aup_n j1, aup_n (by unfold isk at j5; omega)]
    · rw [aup_n j1, aup_n (by unfold isk at j5; omega)]
end HO
