/-! the class's step in the whole heap, by the quarters' function -/
/-- the last edge used, along a step -/
def plR (Q : (Int → Int) → Int) (G : Nat) : Nat → Nat → (Nat → Int) → Int → Int
  | 0, _, _, l => l
  | n + 1, k, f, l => plR Q G n (k + 1) (ps1 Q G k f) (if f (50 + 7 * k) = 1 then wbl l f k else l)
/-- a rule as the class has it turns by Q -/
def rQ (ru : Option (Nat × (Nat → Int))) (Q : (Int → Int) → Int) : Prop := match ru with
  | none => ∀ u, Q u = 0
  | some r => ∀ u sk, (qrn u r.2 r.1 0 0 sk).1 = Q u
section CP
variable {Q : (Int → Int) → Int} {G : Nat} {ru : Option (Nat × (Nat → Int))}
theorem wp1_ps (hq : rQ ru Q) (g : Nat) (x : (Nat → Int) × Int × (Nat → Int)) : (wp1 ru G g x).1 = ps1 Q G g x.1 ∧ (wp1 ru G g x).2.1 = (if x.1 (50 + 7 * g) = 1 then wbl x.2.1 x.1 g else x.2.1) := by
  unfold wp1 ps1
  by_cases z : x.1 (50 + 7 * g) = 0
  · have z1 : ¬ x.1 (50 + 7 * g) = 1 := by omega
    rw [if_pos z, if_pos z, if_neg z1]
    cases ru with
    | none =>
      simp only
      have := hq (wwd x.1 G g)
      rw [this, Int.add_zero]
      exact ⟨by trivial, by trivial⟩
    | some r =>
      obtain ⟨n, od⟩ := r
      simp only
      have := hq (wwd x.1 G g) x.2.2
      simp only at this
      rw [this]
      exact ⟨by trivial, by trivial⟩
  · rw [if_neg z, if_neg z]
    by_cases z1 : x.1 (50 + 7 * g) = 1
    · rw [if_pos z1, if_pos z1, if_pos z1]; exact ⟨rfl, rfl⟩
    · rw [if_neg z1, if_neg z1, if_neg z1]; exact ⟨rfl, rfl⟩
theorem wpR_ps (hq : rQ ru Q) : ∀ (n k : Nat) (x : (Nat → Int) × Int × (Nat → Int)), (wpR ru G n k x).1 = psR Q G n k x.1 ∧ (wpR ru G n k x).2.1 = plR Q G n k x.1 x.2.1
  | 0, _, _ => ⟨rfl, rfl⟩
  | n + 1, k, x => by
    have h := wp1_ps (G := G) hq k x
    have i := wpR_ps hq n (k + 1) (wp1 ru G k x)
    rw [h.1, h.2] at i
    exact i
theorem wpa_ps (hq : rQ ru Q) (x : (Nat → Int) × Int × (Nat → Int)) : (wpa ru G x).1 = psa Q G x.1 ∧ (wpa ru G x).2.1 = plR Q G G 0 x.1 x.2.1 := by
  have h := wpR_ps (G := G) hq G 0 x
  unfold wpa psa
  rw [h.1]
  exact ⟨rfl, h.2⟩
theorem wgo_cn {f : Nat → Int} {g : Nat} (h : cn 82 f) (hg : g < 5) : cn 82 (wgo f g) := by
  unfold wgo
  split
  · exact cn_up (cn_up (cn_up (cn_up (cn_up h (by omega)) (by omega)) (by omega)) (by omega)) (by omega)
  · split
    · exact h
    · exact cn_up h (by omega)
theorem wci_cn {f : Nat → Int} {g : Nat} (h : cn 82 f) (hg : g < 5) : cn 82 (wci f g) := by
  unfold wci
  split
  · exact h
  · exact cn_up (cn_up (cn_up h (by omega)) (by omega)) (by omega)
theorem wbo_cn {f : Nat → Int} {g : Nat} (h : cn 82 f) (hg : g < 5) : cn 82 (wbo f g) := by
  unfold wbo
  split
  · exact cn_up (cn_up h (by omega)) (by omega)
  · split
    · exact cn_up (cn_up h (by omega)) (by omega)
    · exact wci_cn (cn_up h (by omega)) hg
theorem ps1_cn {f : Nat → Int} {g : Nat} (h : cn 82 f) (hg : g < 5) : cn 82 (ps1 Q G g f) := by
  unfold ps1
  split
  · exact wgo_cn (cn_up h (by omega)) hg
  · split
    · exact wbo_cn h hg
    · exact h
theorem psR_cn : ∀ (n k : Nat) (f : Nat → Int), k + n ≤ 5 → cn 82 f → cn 82 (psR Q G n k f)
  | 0, _, _, _, h => h
  | n + 1, k, f, hk, h => psR_cn n (k + 1) _ (by omega) (ps1_cn h (by omega))
theorem psa_cn {f : Nat → Int} (hG : G ≤ 5) (h : cn 82 f) : cn 82 (psa Q G f) := cn_up (psR_cn G 0 f (by omega) h) (by omega)
theorem psN_cn (hG : G ≤ 5) : ∀ (n : Nat) (f : Nat → Int), cn 82 f → cn 82 (psN Q G n f)
  | 0, _, h => h
  | n + 1, f, h => psN_cn hG n _ (psa_cn hG h)
end CP
/-- a rule's place in the heap, or none -/
def cR (A : Nat → Nat → Int) (E : zE) (b : Nat) (Q : (Int → Int) → Int) : Prop := (∀ u, 0 ≤ Q u ∧ Q u ≤ 3) ∧ ((b = 0 ∧ ∀ u, Q u = 0) ∨ ∃ i, i < E.2.1 ∧ i < 1000 ∧ b = 127 + 3 * i ∧ odok (E.1 i) (A (129 + 3 * i)) ∧ ∀ u sk, (qrn u (A (129 + 3 * i)) (E.1 i) 0 0 sk).1 = Q u)
/-- a rule's stack -/
def isk (j : Nat) : Prop := 127 ≤ j ∧ (j - 127) % 3 = 1
theorem cR_f {A A' : Nat → Nat → Int} {E : zE} {b : Nat} {Q : (Int → Int) → Int} (h : cR A E b Q) (k : ∀ j, 127 ≤ j → ¬ isk j → A' j = A j) : cR A' E b Q := by
  obtain ⟨h0, h1 | ⟨i, h1, h1', h2, h3, h4⟩⟩ := h
  · exact ⟨h0, Or.inl h1⟩
  · have e := k (129 + 3 * i) (by omega) (by unfold isk; omega)
    exact ⟨h0, Or.inr ⟨i, h1, h1', h2, by rw [e]; exact h3, by rw [e]; exact h4⟩⟩
section CP2
variable {A F : Nat → Nat → Int} {E : zE} {a b G : Nat} {Q : (Int → Int) → Int}
theorem hc_rule {i : Nat} {x y : Nat → Int} (h : i < E.2.1) (h2 : i < 1000) : hc E (127 + 3 * i) x y = zob 4 [vr (129 + 3 * i), vr (128 + 3 * i)] ∧ hc E (128 + 3 * i) x y = zar 2 62 x ∧ hc E (129 + 3 * i) x y = zar 1 (E.1 i) x := by
  unfold hc
  refine ⟨?_, ?_, ?_⟩
  · rw [if_pos (by omega), if_neg (by omega), if_pos (by omega), if_pos (by omega), show 127 + 3 * i + 2 = 129 + 3 * i by omega, show 127 + 3 * i + 1 = 128 + 3 * i by omega]
  · rw [if_pos (by omega), if_neg (by omega), if_pos (by omega), if_neg (by omega), if_pos (by omega)]
  · rw [if_pos (by omega), if_neg (by omega), if_pos (by omega), if_neg (by omega), if_neg (by omega), show (129 + 3 * i - 127) / 3 = i by omega]
theorem wad_b (h : wad a) : a < 103 := by unfold wad at h; omega
theorem h_pass (hw : wad a) (ho : wok (A (a + 1)) G) (hr : cR A E b Q) : ∃ A' F', cl mX9_pass [vr a, vr b] (HP A F E) = some (vn, HP A' F' E) ∧ A' (a + 1) = psa Q G (A (a + 1)) ∧ F' a 1 = plR Q G G 0 (A (a + 1)) (F a 1) ∧ (∀ j, j ≠ a + 1 → ¬ isk j → A' j = A j) ∧ ∀ j, j ≠ a → F' j = F j := by
  have w := hp_w (A := A) (F := F) (E := E) hw
  have wb := wad_b hw
  obtain ⟨h0, ⟨rfl, h2⟩ | ⟨i, h1, h1', h2, h3, h4⟩⟩ := hr
  · have p := p_pass (G := G) (ru := none) (b := 0) (o := 0) (k := 0) (sk := fun _ => 0) w.1 (by rw [w.2.2.2]; exact ho) rfl
    have e := wpa_ps (G := G) (ru := none) (Q := Q) h2 (A (a + 1), F a 1, fun _ => 0)
    rw [w.2.2.1, w.2.2.2] at p
    unfold pst pbs at p
    simp only at p
    rw [e.1, e.2, hp_st hw, hp_lu hw] at p
    refine ⟨_, _, p, aup_s, ?_, fun j h _ => aup_n h, fun j h => aup_n h⟩
    rw [aup_s, fup_s]
  · have q := hc_rule (x := A (127 + 3 * i)) (y := F (127 + 3 * i)) h1 h1'
    have q' := hc_rule (x := A (128 + 3 * i)) (y := F (128 + 3 * i)) h1 h1'
    have q2 := hc_rule (x := A (129 + 3 * i)) (y := F (129 + 3 * i)) h1 h1'
    have p := p_pass (G := G) (ru := some (E.1 i, A (129 + 3 * i))) (b := b) (o := 129 + 3 * i) (k := 128 + 3 * i) (sk := A (128 + 3 * i)) w.1 (by rw [w.2.2.2]; exact ho) ⟨by omega, h3, by rw [h2]; exact q.1, q2.2.2, q'.2.1, ⟨by omega, by omega, by omega, by rw [w.2.1]; omega⟩, by omega, by rw [w.2.1]; omega, by omega, by rw [w.2.1]; omega⟩
    have e := wpa_ps (G := G) (ru := some (E.1 i, A (129 + 3 * i))) (Q := Q) h4 (A (a + 1), F a 1, A (128 + 3 * i))
    rw [w.2.2.1, w.2.2.2] at p
    unfold pst pbs at p
    simp only at p
    rw [e.1, e.2, zup_HPa (hc_rule h1 h1').2.1, hp_st hw, hp_lu hw] at p
    refine ⟨_, _, p, aup_s, ?_, fun j h h' => ?_, fun j h => aup_n h⟩
    · rw [aup_s, fup_s]
    · rw [aup_n h, aup_n (by unfold isk at h'; omega)]
end CP2
