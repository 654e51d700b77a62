/-! what a rule's orders say, in the class -/
theorem wat_app : ∀ (M N : List Int) (j : Nat), (j < N.length → wat (M ++ N) j = wat N j) ∧ (j < M.length → wat (M ++ N) (N.length + j) = wat M j)
  | [], N, j => ⟨fun _ => rfl, fun h => by simp at h⟩
  | o :: M, N, j => by
    have i := wat_app M N
    rw [List.cons_append, wat, wat, wat, List.length_append]
    refine ⟨fun h => ?_, fun h => ?_⟩
    · rw [if_neg (by omega)]; exact (i j).1 h
    · rw [List.length_cons] at h
      by_cases q : j = M.length
      · rw [if_pos (by omega), if_pos q]
      · rw [if_neg (by omega), if_neg q]; exact (i j).2 (by omega)
theorem wat_up {o : Int} {M : List Int} {j : Nat} (h : j < M.length) : wat (o :: M) j = wat M j := by rw [wat, if_neg (by omega)]
theorem wat_top {o : Int} {M : List Int} : wat (o :: M) M.length = o := by rw [wat, if_pos rfl]
theorem stepE_f {u : Int → Int} {o : Int} {st st' x r : List Int} (h : stepE u o st = some st') (k : stepE u o (st ++ r) = some x) : x = st' ++ r := by
  unfold stepE at h k
  by_cases c1 : 100 ≤ o
  · rw [if_pos c1] at h k
    split at h
    · split at k
      · injection h with h; injection k with k; rw [← h, ← k]; rfl
      · cases k
    · cases h
  · rw [if_neg c1] at h k
    by_cases c2 : o ≤ 10
    · rw [if_pos c2] at h k
      split at h
      · split at k
        · injection h with h; injection k with k; rw [← h, ← k]; rfl
        · cases k
      · cases h
    · rw [if_neg c2] at h k
      by_cases c3 : o = 22
      · rw [if_pos c3] at h k
        cases st with
        | nil => cases h
        | cons a s =>
          rw [List.cons_append] at k
          dsimp only at h k
          split at h
          · rename_i c4
            rw [if_pos c4] at k
            injection h with h; injection k with k; rw [← h, ← k]; rfl
          · cases h
      · rw [if_neg c3] at h k
        cases st with
        | nil => cases h
        | cons a s =>
          cases s with
          | nil => cases h
          | cons a2 s =>
            rw [List.cons_append, List.cons_append] at k
            dsimp only at h k
            split at h
            · rename_i c4
              rw [if_pos c4] at k
              injection h with h; injection k with k; rw [← h, ← k]; rfl
            · rename_i c4
              rw [if_neg c4] at k
              split at h
              · rename_i c5
                rw [if_pos c5] at k
                injection h with h; injection k with k; rw [← h, ← k]; rfl
              · rename_i c5
                rw [if_neg c5] at k
                split at h
                · rename_i c6
                  rw [if_pos c6] at k
                  injection h with h; injection k with k; rw [← h, ← k]; rfl
                · cases h
theorem ev_f {u : Int → Int} {r : List Int} : ∀ (M st st' x : List Int), ev u M st = some st' → ev u M (st ++ r) = some x → x = st' ++ r
  | [], st, st', x, h, k => by
    rw [ev] at h k
    injection h with h; injection k with k; rw [← h, ← k]
  | o :: M, st, st', x, h, k => by
    rw [ev] at h k
    cases e1 : ev u M st with
    | none => rw [e1] at h; cases h
    | some s1 =>
      cases e2 : ev u M (st ++ r) with
      | none => rw [e2] at k; cases k
      | some s2 =>
        rw [e1, Option.bind_some] at h
        rw [e2, Option.bind_some] at k
        have := ev_f M st s1 s2 e1 e2
        rw [this] at k
        exact stepE_f h k
/-- a sum's value; a test's *)-/
def hdv (x : Option (List Int)) : Int := match x with
  | some (z :: _) => z
  | _ => 0
def ckv (u : Int → Int) (c : List Int × Option (List Int)) (d : Int) : Int := match c.2 with
  | none => hdv (ev u c.1 []) % 4
  | some T => if hdv (ev u T []) = 0 then d else hdv (ev u c.1 []) % 4
/-- the first clause that holds; the last of the list is said first *)-/
def qK (u : Int → Int) : zK → Int → Int
  | [], d => d
  | c :: K, d => qK u K (ckv u c d)
theorem qK_b {u : Int → Int} : ∀ (K : zK) (d : Int), 0 ≤ d ∧ d ≤ 3 → 0 ≤ qK u K d ∧ qK u K d ≤ 3
  | [], d, h => h
  | c :: K, d, h => by
    rw [qK]
    refine qK_b K _ ?_
    unfold ckv
    split
    · omega
    · split
      · exact h
      · omega
/-- what is known of the clauses *)-/
def kgd (c : List Int × Option (List Int)) : Prop := kok c ∧ pvn (mof c) ≤ 60 ∧ ∀ o, o ∈ mof c → (0 ≤ o ∧ o ≤ 10) ∨ (20 ≤ o ∧ o ≤ 32) ∨ (100 ≤ o ∧ o ≤ 100099)
theorem c_sum {u : Int → Int} {c : List Int × Option (List Int)} (h : kgd c) : pvn c.1 ≤ 60 ∧ ∃ z, ev u c.1 [] = some [z] := by
  obtain ⟨⟨h1, h2⟩, h3, h4⟩ := h
  have : pvn c.1 ≤ 60 := by
    unfold mof at h3
    split at h3
    · exact h3
    · rw [pvn_app] at h3; omega
  exact ⟨this, h1.2 u [] (by rw [List.length_nil]; omega)⟩
theorem c_test {u : Int → Int} {S T : List Int} (h : kgd (S, some T)) : ∃ f z, (f = 0 ∨ f = 1) ∧ ev u S [] = some [z] ∧ ev u T [] = some [f] ∧ ev u (T ++ S) [] = some [f, z] := by
  obtain ⟨_, z, e1⟩ := c_sum (u := u) h
  obtain ⟨⟨h1, h2⟩, h3, h4⟩ := h
  have hT := (h2 T rfl).2 u
  have h3' : pvn T + pvn S ≤ 60 := by rw [← pvn_app]; exact h3
  obtain ⟨fs, f1, f2, f3⟩ := hT [] (by rw [List.length_nil]; omega)
  obtain ⟨gs, g1, g2, g3⟩ := hT [z] (by rw [List.length_cons, List.length_nil]; omega)
  rw [List.append_nil] at f3
  have := ev_f (r := [z]) T [] fs (gs ++ [z]) f3 (by rw [List.nil_append]; exact g3)
  cases fs with
  | nil => simp at f1
  | cons f r =>
    cases r with
    | cons _ _ => simp at f1
    | nil =>
      refine ⟨f, z, f2 f (List.mem_cons_self ..), e1, f3, ?_⟩
      dsimp only at e1
      rw [ev_app, e1, Option.bind_some, g3, this]
      rfl
/-- the class's stack holds these *)-/
def SK (sk : Nat → Int) (st : List Int) : Prop := ∀ k, k < st.length → sk k = wat st k
theorem SK_push {sk : Nat → Int} {st : List Int} {z : Int} (h : SK sk st) : SK (fup sk st.length z) (z :: st) := by
  intro k hk
  rw [List.length_cons] at hk
  by_cases q : k = st.length
  · rw [q, fup_s, wat_top]
  · rw [fup_n q, wat_up (by omega)]; exact h k (by omega)
theorem SK_1 {sk : Nat → Int} {st : List Int} {y : Int} (h : SK sk (y :: st)) : SK sk st ∧ sk st.length = y := ⟨fun k hk => by rw [h k (by rw [List.length_cons]; omega), wat_up hk], by rw [h st.length (by rw [List.length_cons]; omega), wat_top]⟩
theorem i64_1 {x : Int} (h : x = 0 ∨ x = 1) : i64 (1 - x) = 1 - x := i64_of (by omega) (by omega)
/-- one order in the class *)-/
theorem q_one {od : Nat → Int} {u : Int → Int} {m i : Nat} {sk : Nat → Int} {st st' : List Int} {o : Int} (ho : (0 ≤ o ∧ o ≤ 10) ∨ (20 ≤ o ∧ o ≤ 32) ∨ (100 ≤ o ∧ o ≤ 100099)) (e : od i = o) (h : SK sk st) (hl : st.length ≤ 61) (hs : stepE u o st = some st') : st'.length ≤ 61 ∧ ∃ sk', qrn u od (m + 1) i (st.length : Int) sk = qrn u od m (i + 1) (st'.length : Int) sk' ∧ SK sk' st' := by
  rw [qrn, e, if_neg (by omega), if_neg (by omega)]
  unfold stepE at hs
  by_cases c1 : 100 ≤ o
  · rw [if_pos c1] at hs
    split at hs
    · rename_i c2
      injection hs with hs
      rw [← hs, if_neg (by omega), if_neg (by omega), if_pos (by omega), if_neg (by omega), Int.toNat_natCast, List.length_cons]
      exact ⟨by omega, _, rfl, SK_push h⟩
    · cases hs
  · rw [if_neg c1] at hs
    by_cases c2 : o ≤ 10
    · rw [if_pos c2] at hs
      split at hs
      · rename_i c3
        injection hs with hs
        rw [← hs, if_neg (by omega), if_neg (by omega), if_pos (by omega), if_pos (by omega), Int.toNat_natCast, List.length_cons]
        exact ⟨by omega, _, rfl, SK_push h⟩
      · cases hs
    · rw [if_neg c2] at hs
      by_cases c3 : o = 22
      · rw [if_pos c3] at hs
        rw [if_pos c3]
        cases st with
        | nil => cases hs
        | cons x r =>
          dsimp only at hs
          split at hs
          · rename_i c4
            injection hs with hs
            rw [List.length_cons] at hl
            obtain ⟨h1, h2⟩ := SK_1 h
            have e1 : ((x :: r).length : Int) - 1 = (r.length : Int) := by rw [List.length_cons]; omega
            have e2 : ngt (((x :: r).length : Int) - 1) sk = fup sk r.length (1 - x) := by
              unfold ngt
              rw [e1, Int.toNat_natCast, h2, i64_1 c4, if_pos (by omega)]
            rw [e2, ← hs]
            exact ⟨by rw [List.length_cons]; omega, _, rfl, SK_push h1⟩
          · cases hs
      · rw [if_neg c3] at hs
        rw [if_neg c3, if_pos (by omega)]
        cases st with
        | nil => cases hs
        | cons y r =>
          cases r with
          | nil => cases hs
          | cons x r =>
            rw [List.length_cons, List.length_cons] at hl
            obtain ⟨h1, h2⟩ := SK_1 h
            obtain ⟨h3, h4⟩ := SK_1 h1
            rw [List.length_cons] at h2
            have e1 : ((y :: x :: r).length : Int) - 1 = (((r.length + 1 : Nat)) : Int) := by rw [List.length_cons, List.length_cons]; omega
            have e3 : (((r.length + 1 : Nat)) : Int) - 1 = (r.length : Int) := by omega
            have e2 : cmb o (((y :: x :: r).length : Int) - 1) sk = fup sk r.length (if 28 ≤ o then rck o x y else jdg o x y) := by
              unfold cmb
              rw [e1, e3, Int.toNat_natCast, Int.toNat_natCast, h2, h4, if_pos (by omega)]
            dsimp only at hs
            have e4 : st' = (if 28 ≤ o then rck o x y else jdg o x y) :: r := by
              split at hs
              · rename_i c4
                injection hs with hs; rw [if_pos c4, hs]
              · rename_i c4
                rw [if_neg c4]
                split at hs
                · injection hs with hs; exact hs.symm
                · split at hs
                  · injection hs with hs; exact hs.symm
                  · cases hs
            rw [e2, e4, e1]
            exact ⟨by rw [List.length_cons]; omega, _, rfl, SK_push h3⟩
/-- a run of orders in the class *)-/
theorem q_ev {od : Nat → Int} {u : Int → Int} : ∀ (M : List Int) (m i : Nat) (sk : Nat → Int) (st st' : List Int), (∀ o, o ∈ M → (0 ≤ o ∧ o ≤ 10) ∨ (20 ≤ o ∧ o ≤ 32) ∨ (100 ≤ o ∧ o ≤ 100099)) → (∀ j, j < M.length → od (i + j) = wat M j) → SK sk st → st.length ≤ 61 → ev u M st = some st' → st'.length ≤ 61 ∧ ∃ sk', qrn u od (m + M.length) i (st.length : Int) sk = qrn u od m (i + M.length) (st'.length : Int) sk' ∧ SK sk' st'
  | [], m, i, sk, st, st', _, _, h, hl, e => by
    rw [ev] at e
    injection e with e
    rw [← e]
    exact ⟨hl, sk, rfl, h⟩
  | o :: M, m, i, sk, st, st', ho, hj, h, hl, e => by
    rw [ev] at e
    cases e1 : ev u M st with
    | none => rw [e1] at e; cases e
    | some s1 =>
      rw [e1, Option.bind_some] at e
      obtain ⟨l1, sk1, r1, r2⟩ := q_ev (od := od) M (m + 1) i sk st s1 (fun p hp => ho p (List.mem_cons_of_mem _ hp)) (fun j hj' => by rw [hj j (by rw [List.length_cons]; omega), wat_up hj']) h hl e1
      obtain ⟨l2, sk2, r3, r4⟩ := q_one (m := m) (i := i + M.length) (od := od) (ho o (List.mem_cons_self ..)) (by rw [hj M.length (by rw [List.length_cons]; omega), wat_top]) r2 l1 e
      refine ⟨l2, sk2, ?_, r4⟩
      rw [List.length_cons, show m + (M.length + 1) = m + 1 + M.length by omega, r1, r3]
      rfl
theorem q_K {od : Nat → Int} {u : Int → Int} : ∀ (K : zK) (m : Nat) (sk : Nat → Int), (∀ c, c ∈ K → kgd c) → (∀ j, j < (Ofl K).length → od j = wat (Ofl K) j) → ∃ sk', (qrn u od (m + (Ofl K).length) 0 0 sk).1 = qK u K (qrn u od m (Ofl K).length 0 sk').1
  | [], m, sk, _, _ => ⟨sk, rfl⟩
  | c :: K, m, sk, hc, hj => by
    have ol : (Ofl (c :: K)).length = (mof c).length + (Ofl K).length + 1 := by rw [Ofl, List.length_cons, List.length_append]
    have o1 : ∀ j, j < (Ofl K).length → od j = wat (Ofl K) j := fun j h => by
      rw [hj j (by omega), Ofl, wat_up (by rw [List.length_append]; omega)]; exact (wat_app _ _ _).1 h
    have o2 : ∀ j, j < (mof c).length → od ((Ofl K).length + j) = wat (mof c) j := fun j h => by
      rw [hj _ (by omega), Ofl, wat_up (by rw [List.length_append]; omega)]; exact (wat_app _ _ _).2 h
    have o3 : od ((Ofl K).length + (mof c).length) = if c.2 = none then 40 else 41 := by
      rw [hj _ (by omega), Ofl, show (Ofl K).length + (mof c).length = (mof c ++ Ofl K).length by rw [List.length_append]; omega, wat_top]
    have kc := hc c (List.mem_cons_self ..)
    obtain ⟨sk1, i1⟩ := q_K K (m + 1 + (mof c).length) sk (fun d hd => hc d (List.mem_cons_of_mem _ hd)) o1
    rw [ol, show m + ((mof c).length + (Ofl K).length + 1) = m + 1 + (mof c).length + (Ofl K).length by omega, i1]
    have s0 : SK sk1 [] := fun k hk => by simp at hk
    obtain ⟨S, ot⟩ := c
    cases ot with
    | none =>
      obtain ⟨_, z, e1⟩ := c_sum (u := u) kc
      obtain ⟨l2, sk2, r1, r2⟩ := q_ev (od := od) (u := u) (mof (S, none)) (m + 1) (Ofl K).length sk1 [] [z] kc.2.2 o2 s0 (by rw [List.length_nil]; omega) e1
      refine ⟨sk2, ?_⟩
      rw [qK]
      have r1' : qrn u od (m + 1 + (mof (S, none)).length) (Ofl K).length 0 sk1 = _ := r1
      have z0 : sk2 0 = z := r2 0 (by rw [List.length_cons]; omega)
      rw [r1', qrn, o3, if_pos rfl, if_pos rfl]
      unfold ckv
      dsimp only at e1 ⊢
      rw [e1, z0]
      rfl
    | some T =>
      obtain ⟨f, z, f1, e1, e2, e3⟩ := c_test (u := u) kc
      obtain ⟨l2, sk2, r1, r2⟩ := q_ev (od := od) (u := u) (mof (S, some T)) (m + 1) (Ofl K).length sk1 [] [f, z] kc.2.2 o2 s0 (by rw [List.length_nil]; omega) e3
      refine ⟨sk2, ?_⟩
      rw [qK]
      have r1' : qrn u od (m + 1 + (mof (S, some T)).length) (Ofl K).length 0 sk1 = _ := r1
      have z0 : sk2 0 = z := r2 0 (by rw [List.length_cons]; omega)
      have z1 : sk2 1 = f := r2 1 (by rw [List.length_cons, List.length_cons]; omega)
      rw [r1', qrn, o3, if_neg (show ¬ (some T : Option (List Int)) = none from fun q => by cases q), if_neg (by omega), if_pos rfl, z0, z1]
      unfold ckv
      dsimp only
      rw [e1, e2]
      show _ = qK u K (if f = 0 then _ else z % 4)
      by_cases q : f = 0
      · rw [if_pos q, if_pos q, show (mof (S, some T)).length + (Ofl K).length + 1 = (Ofl K).length + (mof (S, some T)).length + 1 by omega]
      · rw [if_neg q, if_neg q]
