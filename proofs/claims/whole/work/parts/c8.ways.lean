/-! shortest: ways, their lengths, and rounds of shortening -/
/-- a way of so many parts, of a length, from s to c -/
def rcw (nx st : Nat → Nat → Nat) (ok : Nat → Bool) (N s : Nat) : Nat → Nat → Nat → Prop
  | 0, c, d => c = s ∧ d = 0
  | n + 1, c, d => ∃ c' fa d', rcw nx st ok N s n c' d' ∧ c' < N ∧ fa < 4 ∧ nx c' fa = c ∧ ok c = true ∧ d = d' + st c' fa
/-- every number below K is a way's length -/
def ach (nx st : Nat → Nat → Nat) (ok : Nat → Bool) (N s : Nat) (K : Int) (T : Nat → Int) : Prop := T s = 0 ∧ ∀ c, c < N → (0 ≤ T c ∧ T c ≤ K) ∧ (T c < K → ∃ n d : Nat, rcw nx st ok N s n c d ∧ T c = (d : Int))
/-- no way is shorter -/
def swy (nx st : Nat → Nat → Nat) (ok : Nat → Bool) (N s : Nat) (K : Int) (T : Nat → Int) (c : Nat) : Prop := ∀ n d : Nat, rcw nx st ok N s n c d → (d : Int) < K → T c ≤ (d : Int)
/-- T' comes from T by shortening, at least over all of S -/
def rpw (nx st : Nat → Nat → Nat) (ok : Nat → Bool) (N s : Nat) (K : Int) (T T' : Nat → Int) (S : Nat → Nat → Prop) : Prop := (∀ j, T' j ≤ T j) ∧ (∀ c fa, S c fa → T c < K → ok (nx c fa) = true → T' (nx c fa) ≤ T c + (st c fa : Int)) ∧ (ach nx st ok N s K T → ach nx st ok N s K T')
/-- one shortening -/
def rlx (nx st : Nat → Nat → Nat) (ok : Nat → Bool) (c fa : Nat) (T : Nat → Int) : Nat → Int := if ok (nx c fa) = true ∧ T c + (st c fa : Int) < T (nx c fa) then fup T (nx c fa) (T c + (st c fa : Int)) else T
def flg (N : Nat) (T T' : Nat → Int) (a b : Int) : Prop := (b = 0 ∧ a = 0 ∧ T' = T) ∨ (b = 1 ∧ (a = 1 ∨ sumN T' N < sumN T N))
theorem sumN_mono {g g' : Nat → Int} (h : ∀ j, g' j ≤ g j) : ∀ n, sumN g' n ≤ sumN g n
  | 0 => Int.le_refl _
  | n + 1 => by have := sumN_mono h n; have := h n; rw [sumN, sumN]; omega
theorem sumN_lt {g g' : Nat → Int} (h : ∀ j, g' j ≤ g j) {v : Nat} (hv : g' v < g v) : ∀ n, v < n → sumN g' n < sumN g n
  | 0, q => by omega
  | n + 1, q => by
    rw [sumN, sumN]
    by_cases y : v = n
    · subst y; have := sumN_mono h v; omega
    · have := sumN_lt h hv n (by omega); have := h n; omega
section WY
variable {nx st : Nat → Nat → Nat} {ok : Nat → Bool} {N s : Nat} {K : Int} {T T' T1 T2 : Nat → Int} {S S' : Nat → Nat → Prop}
theorem rpw_r (h : ∀ c fa, ¬ S c fa) : rpw nx st ok N s K T T S := ⟨fun _ => Int.le_refl _, fun c fa q => absurd q (h c fa), id⟩
theorem rpw_t {S'' : Nat → Nat → Prop} (h : rpw nx st ok N s K T T1 S) (k : rpw nx st ok N s K T1 T2 S') (hs : ∀ c fa, S'' c fa → S c fa ∨ S' c fa) : rpw nx st ok N s K T T2 S'' := by
  refine ⟨fun j => Int.le_trans (k.1 j) (h.1 j), fun c fa q hk o => ?_, fun a => k.2.2 (h.2.2 a)⟩
  rcases hs c fa q with y | y
  · exact Int.le_trans (k.1 _) (h.2.1 c fa y hk o)
  · have e := h.1 c
    have := k.2.1 c fa y (by omega) o
    omega
theorem flg_t {a b c : Int} (m : ∀ j, T1 j ≤ T j) (m' : ∀ j, T2 j ≤ T1 j) (h : flg N T T1 a b) (k : flg N T1 T2 b c) : flg N T T2 a c := by
  have s1 := sumN_mono m N
  have s2 := sumN_mono m' N
  rcases k with ⟨k1, k2, k3⟩ | ⟨k1, k2⟩
  · rcases h with ⟨h1, h2, h3⟩ | ⟨h1, h2⟩
    · exact Or.inl ⟨k1, h2, k3.trans h3⟩
    · omega
  · rcases h with ⟨h1, h2, h3⟩ | ⟨h1, h2⟩
    · rcases k2 with k2 | k2
      · omega
      · exact Or.inr ⟨k1, Or.inr (by rw [h3] at k2; exact k2)⟩
    · rcases h2 with h2 | h2
      · exact Or.inr ⟨k1, Or.inl h2⟩
      · exact Or.inr ⟨k1, Or.inr (by omega)⟩
theorem rlx_p {c fa : Nat} (hst : 1 ≤ st c fa) (hc : c < N) (hf : fa < 4) (hn : nx c fa < N) : rpw nx st ok N s K T (rlx nx st ok c fa T) (fun a b => a = c ∧ b = fa) := by
  unfold rlx
  by_cases z : ok (nx c fa) = true ∧ T c + (st c fa : Int) < T (nx c fa)
  · rw [if_pos z]
    refine ⟨fun j => ?_, fun a b q _ _ => ?_, fun h => ⟨?_, fun j hj => ?_⟩⟩
    · by_cases y : j = nx c fa
      · rw [y, fup_s]; omega
      · rw [fup_n y]; exact Int.le_refl _
    · rw [q.1, q.2, fup_s]; exact Int.le_refl _
    · by_cases y : s = nx c fa
      · have a1 := (h.2 c hc).1
        have a2 := h.1
        rw [← y] at z
        omega
      · rw [fup_n y]; exact h.1
    · by_cases y : j = nx c fa
      · have a1 := h.2 c hc
        have a2 := h.2 (nx c fa) hn
        obtain ⟨n, d, r1, r2⟩ := a1.2 (by omega)
        rw [y, fup_s]
        refine ⟨by omega, fun _ => ⟨n + 1, d + st c fa, ⟨c, fa, d, r1, hc, hf, rfl, z.1, rfl⟩, by omega⟩⟩
      · rw [fup_n y]; exact h.2 j hj
  · rw [if_neg z]
    refine ⟨fun j => Int.le_refl _, fun a b q _ o => ?_, id⟩
    rw [q.1, q.2] at o ⊢
    by_cases y : T c + (st c fa : Int) < T (nx c fa)
    · exact absurd ⟨o, y⟩ z
    · omega
/-- shortened so far that nothing shortens: no way is shorter -/
theorem fix_stl (h0 : T s ≤ 0) (h : ∀ c fa, c < N → fa < 4 → T c < K → ok (nx c fa) = true → T (nx c fa) ≤ T c + (st c fa : Int)) : ∀ (n c d : Nat), rcw nx st ok N s n c d → (d : Int) < K → T c ≤ (d : Int)
  | 0, c, d, r, _ => by obtain ⟨r1, r2⟩ := r; rw [r1, r2]; exact h0
  | n + 1, c, d, r, hk => by
    obtain ⟨c', fa, d', r1, r2, r3, r4, r5, r6⟩ := r
    have i := fix_stl h0 h n c' d' r1 (by omega)
    have j := h c' fa r2 r3 (by omega) (by rw [r4]; exact r5)
    rw [r4] at j
    omega
theorem least_of {P : Nat → Prop} : ∀ n, P n → ∃ m, P m ∧ ∀ k, k < m → ¬ P k := fun n => Nat.strongRecOn n (motive := fun n => P n → ∃ m, P m ∧ ∀ k, k < m → ¬ P k) (fun n ih h => by
  by_cases q : ∃ k, k < n ∧ P k
  · obtain ⟨k, k1, k2⟩ := q
    exact ih k k1 k2
  · exact ⟨n, h, fun k k1 k2 => q ⟨k, k1, k2⟩⟩)
/-- a whole round settles a cell that wasn't -/
theorem round_new (h0 : T s ≤ 0) (hst : ∀ c fa, c < N → fa < 4 → 1 ≤ st c fa) (hnx : ∀ c fa, c < N → fa < 4 → nx c fa < N) (p : rpw nx st ok N s K T T' (fun c fa => c < N ∧ fa < 4)) (u : ∃ v, ¬ swy nx st ok N s K T v) : ∃ v, v < N ∧ ¬ swy nx st ok N s K T v ∧ swy nx st ok N s K T' v := by
  have e : ∃ d : Nat, ∃ n v : Nat, rcw nx st ok N s n v d ∧ (d : Int) < K ∧ (d : Int) < T v := by
    obtain ⟨v, hv⟩ := u
    apply Classical.byContradiction
    intro q
    apply hv
    intro n d r hk
    apply Classical.byContradiction
    intro y
    exact q ⟨d, n, v, r, hk, by omega⟩
  obtain ⟨d1, e1⟩ := e
  obtain ⟨d, ⟨n, v, r, hk, ht⟩, mn⟩ := least_of (P := fun d : Nat => ∃ n v : Nat, rcw nx st ok N s n v d ∧ (d : Int) < K ∧ (d : Int) < T v) d1 e1
  cases n with
  | zero =>
    obtain ⟨r1, r2⟩ := r
    rw [r1] at ht
    omega
  | succ n =>
    obtain ⟨c', fa, d', r1, r2, r3, r4, r5, r6⟩ := id r
    have s1 := hst c' fa r2 r3
    have t1 : T c' ≤ (d' : Int) := by
      apply Classical.byContradiction
      intro y
      exact mn d' (by omega) ⟨n, c', r1, by omega, by omega⟩
    have t2 := p.2.1 c' fa ⟨r2, r3⟩ (by omega) (by rw [r4]; exact r5)
    rw [r4] at t2
    refine ⟨v, by rw [← r4]; exact hnx c' fa r2 r3, fun q => ?_, fun m e rm ek => ?_⟩
    · have := q (n + 1) d r hk
      omega
    · apply Classical.byContradiction
      intro y
      have mo := p.1 v
      exact mn e (by omega) ⟨m, v, rm, ek, by omega⟩
def cbN (b : Nat → Bool) : Nat → Nat
  | 0 => 0
  | n + 1 => cbN b n + (if b n then 1 else 0)
theorem cbN_le {b : Nat → Bool} : ∀ n, cbN b n ≤ n
  | 0 => Nat.le_refl _
  | n + 1 => by have := cbN_le (b := b) n; rw [cbN]; split <;> omega
theorem cbN_e {b b' : Nat → Bool} : ∀ n, (∀ j, j < n → b' j = b j) → cbN b' n = cbN b n
  | 0, _ => rfl
  | n + 1, h => by rw [cbN, cbN, cbN_e n (fun j hj => h j (by omega)), h n (by omega)]
theorem cbN_up {b b' : Nat → Bool} {v : Nat} (hb : b v = false) (hv : b' v = true) (ho : ∀ j, j ≠ v → b' j = b j) : ∀ n, v < n → cbN b' n = cbN b n + 1
  | 0, q => by omega
  | n + 1, q => by
    rw [cbN, cbN]
    by_cases y : v = n
    · subst y
      rw [cbN_e v (fun j hj => ho j (by omega)), hb, hv, if_pos rfl, if_neg (by decide)]
    · rw [cbN_up hb hv ho n (by omega), ho n (by omega)]
      omega
/-- behind k rounds more than k cells are settled, or all are -/
def ivw (nx st : Nat → Nat → Nat) (ok : Nat → Bool) (N s : Nat) (K : Int) (T : Nat → Int) (k : Nat) : Prop := (∀ v, swy nx st ok N s K T v) ∨ ∃ b : Nat → Bool, (∀ c, b c = true → swy nx st ok N s K T c) ∧ k + 1 ≤ cbN b N
theorem swy_m (h : ∀ j, T' j ≤ T j) {c : Nat} (k : swy nx st ok N s K T c) : swy nx st ok N s K T' c := fun n d r hk => Int.le_trans (h c) (k n d r hk)
theorem ivw_0 (h0 : T s ≤ 0) (hs : s < N) : ivw nx st ok N s K T 0 := by
  refine Or.inr ⟨fun j => decide (j = s), fun c hc => ?_, ?_⟩
  · have e := of_decide_eq_true hc
    intro n d _ _
    rw [e]
    omega
  · rw [cbN_up (b := fun _ => false) (v := s) rfl (decide_eq_true rfl) (fun j hj => decide_eq_false hj) N hs]
    omega
theorem ivw_s {k : Nat} (h0 : T s ≤ 0) (hst : ∀ c fa, c < N → fa < 4 → 1 ≤ st c fa) (hnx : ∀ c fa, c < N → fa < 4 → nx c fa < N) (p : rpw nx st ok N s K T T' (fun c fa => c < N ∧ fa < 4)) (h : ivw nx st ok N s K T k) : ivw nx st ok N s K T' (k + 1) := by
  by_cases u : ∃ v, ¬ swy nx st ok N s K T v
  · rcases h with h | ⟨b, b1, b2⟩
    · obtain ⟨v, hv⟩ := u
      exact absurd (h v) hv
    · obtain ⟨v, v1, v2, v3⟩ := round_new h0 hst hnx p u
      have bv : b v = false := by
        cases q : b v with
        | false => rfl
        | true => exact absurd (b1 v q) v2
      refine Or.inr ⟨fun j => if j = v then true else b j, fun c hc => ?_, ?_⟩
      · by_cases y : c = v
        · rw [y]; exact v3
        · simp only [if_neg y] at hc
          exact swy_m p.1 (b1 c hc)
      · rw [cbN_up (b := b) (v := v) bv (if_pos rfl) (fun j hj => if_neg hj) N v1]
        omega
  · refine Or.inl (fun v => swy_m p.1 ?_)
    apply Classical.byContradiction
    intro q
    exact u ⟨v, q⟩
theorem ivw_N (h : ivw nx st ok N s K T N) : ∀ v, swy nx st ok N s K T v := by
  rcases h with h | ⟨b, _, b2⟩
  · exact h
  · have := cbN_le (b := b) N
    omega
/-- the two answers -/
theorem two_ways {R : Nat → Int} {c : Nat} (hc : c < N) (a1 : ach nx st ok N s 1000 T) (a2 : ach nx st ok N s 100 R) (s1 : swy nx st ok N s 1000 T c) (s2 : swy nx st ok N s 100 R c) : (if 99 < T c then -2 else T c) = (if 99 < R c then -2 else R c) := by
  have b1 := a1.2 c hc
  have b2 := a2.2 c hc
  by_cases z : 99 < T c
  · rw [if_pos z]
    by_cases y : 99 < R c
    · rw [if_pos y]
    · obtain ⟨n, d, r1, r2⟩ := b2.2 (by omega)
      have := s1 n d r1 (by omega)
      omega
  · rw [if_neg z]
    obtain ⟨n, d, r1, r2⟩ := b1.2 (by omega)
    have i := s2 n d r1 (by omega)
    obtain ⟨m, e, r3, r4⟩ := b2.2 (by omega)
    have j := s1 m e r3 (by omega)
    rw [if_neg (by omega)]
    omega
end WY
