/-! orders as a stack's program: what they do, whatever lies below; the last first -/
def stepE (u : Int → Int) (o : Int) (st : List Int) : Option (List Int) :=
  if 100 ≤ o then (if st.length < 61 then some ((o - 100) :: st) else none)
  else if o ≤ 10 then (if st.length < 61 then some (u o :: st) else none)
  else if o = 22 then (match st with
    | x :: r => if x = 0 ∨ x = 1 then some ((1 - x) :: r) else none
    | [] => none)
  else (match st with
    | y :: x :: r => if 28 ≤ o then some (rck o x y :: r) else if 23 ≤ o then some (jdg o x y :: r) else (if (x = 0 ∨ x = 1) ∧ (y = 0 ∨ y = 1) then some (jdg o x y :: r) else none)
    | _ => none)
def ev (u : Int → Int) : List Int → List Int → Option (List Int)
  | [], st => some st
  | o :: M, st => (ev u M st).bind (stepE u o)
theorem ev_app {u : Int → Int} : ∀ (M N st : List Int), ev u (M ++ N) st = (ev u N st).bind (ev u M)
  | [], N, st => by rw [List.nil_append]; cases ev u N st <;> rfl
  | o :: M, N, st => by
    rw [List.cons_append, ev, ev_app M N st]
    cases ev u N st <;> rfl
def pvn : List Int → Nat
  | [] => 0
  | o :: M => pvn M + (if 100 ≤ o ∨ o ≤ 10 then 1 else 0)
theorem pvn_app : ∀ (M N : List Int), pvn (M ++ N) = pvn M + pvn N
  | [], N => by rw [List.nil_append, pvn, Nat.zero_add]
  | o :: M, N => by rw [List.cons_append, pvn, pvn, pvn_app M N]; omega
/-- a sum's orders; k facts' orders -/
def nseg (S : List Int) : Prop := 1 ≤ pvn S ∧ ∀ (u : Int → Int) (st : List Int), st.length + pvn S ≤ 61 → ∃ z, ev u S st = some (z :: st)
def fseg (k : Nat) (T : List Int) : Prop := k ≤ pvn T ∧ ∀ (u : Int → Int) (st : List Int), st.length + pvn T ≤ 61 → ∃ fs : List Int, fs.length = k ∧ (∀ z, z ∈ fs → z = 0 ∨ z = 1) ∧ ev u T st = some (fs ++ st)
theorem jdg_01 {o l r : Int} : jdg o l r = 0 ∨ jdg o l r = 1 := by
  unfold jdg
  repeat (first | exact Or.inl rfl | exact Or.inr rfl | split)
theorem nseg_v {c : Int} (h : 100 ≤ c ∨ c ≤ 10) : nseg [c] := by
  have e : pvn [c] = 1 := by rw [pvn, pvn, if_pos h]
  refine ⟨by omega, fun u st hl => ?_⟩
  rw [e] at hl
  rw [ev, ev, Option.bind_some]
  unfold stepE
  by_cases q : 100 ≤ c
  · rw [if_pos q, if_pos (by omega)]; exact ⟨_, rfl⟩
  · rw [if_neg q, if_pos (by omega), if_pos (by omega)]; exact ⟨_, rfl⟩
theorem two_e {S1 S2 : List Int} (h1 : nseg S1) (h2 : nseg S2) (u : Int → Int) (st : List Int) (hl : st.length + (pvn S2 + pvn S1) ≤ 61) : ∃ x y, ev u (S2 ++ S1) st = some (y :: x :: st) := by
  obtain ⟨a1, a2⟩ := h1
  obtain ⟨b1, b2⟩ := h2
  obtain ⟨x, e1⟩ := a2 u st (by omega)
  obtain ⟨y, e2⟩ := b2 u (x :: st) (by rw [List.length_cons]; omega)
  exact ⟨x, y, by rw [ev_app, e1, Option.bind_some, e2]⟩
theorem nseg_o {S1 S2 : List Int} {o : Int} (h1 : nseg S1) (h2 : nseg S2) (ho : 28 ≤ o ∧ o ≤ 32) : nseg (o :: (S2 ++ S1)) := by
  have e : pvn (o :: (S2 ++ S1)) = pvn S2 + pvn S1 := by rw [pvn, pvn_app, if_neg (by omega), Nat.add_zero]
  refine ⟨by rw [e]; have := h1.1; omega, fun u st hl => ?_⟩
  rw [e] at hl
  obtain ⟨x, y, r⟩ := two_e h1 h2 u st hl
  rw [ev, r, Option.bind_some]
  unfold stepE
  rw [if_neg (by omega), if_neg (by omega), if_neg (by omega)]
  dsimp only
  rw [if_pos ho.1]
  exact ⟨_, rfl⟩
theorem fseg_0 : fseg 0 [] := ⟨Nat.zero_le _, fun u st _ => ⟨[], rfl, (fun z hz => by cases hz), rfl⟩⟩
theorem fseg_c {S1 S2 T : List Int} {o : Int} {k : Nat} (h1 : nseg S1) (h2 : nseg S2) (ho : 23 ≤ o ∧ o ≤ 27) (h : fseg k T) : fseg (k + 1) (o :: (S2 ++ S1) ++ T) := by
  have e : pvn (o :: (S2 ++ S1) ++ T) = pvn S2 + pvn S1 + pvn T := by rw [List.cons_append, pvn, pvn_app, pvn_app, if_neg (by omega), Nat.add_zero]
  obtain ⟨k1, k2⟩ := h
  have n1 := h1.1
  refine ⟨by omega, fun u st hl => ?_⟩
  rw [e] at hl
  obtain ⟨fs, f1, f2, f3⟩ := k2 u st (by omega)
  obtain ⟨x, y, r⟩ := two_e h1 h2 u (fs ++ st) (by rw [List.length_append]; omega)
  refine ⟨jdg o x y :: fs, by rw [List.length_cons, f1], fun z hz => ?_, ?_⟩
  · rcases List.mem_cons.mp hz with q | q
    · rw [q]; exact jdg_01
    · exact f2 z q
  · rw [ev_app, f3, Option.bind_some, ev, r, Option.bind_some]
    unfold stepE
    rw [if_neg (by omega), if_neg (by omega), if_neg (by omega)]
    dsimp only
    rw [if_neg (by omega), if_pos ho.1]
    rfl
theorem fseg_n {T : List Int} {k : Nat} (h : fseg (k + 1) T) : fseg (k + 1) (22 :: T) := by
  have e : pvn (22 :: T) = pvn T := by rw [pvn, if_neg (by omega), Nat.add_zero]
  obtain ⟨k1, k2⟩ := h
  refine ⟨by omega, fun u st hl => ?_⟩
  rw [e] at hl
  obtain ⟨fs, f1, f2, f3⟩ := k2 u st hl
  cases fs with
  | nil => simp at f1
  | cons x r =>
    have x1 := f2 x (List.mem_cons_self ..)
    refine ⟨(1 - x) :: r, by rw [List.length_cons] at f1 ⊢; exact f1, fun z hz => ?_, ?_⟩
    · rcases List.mem_cons.mp hz with q | q
      · rw [q]; omega
      · exact f2 z (List.mem_cons_of_mem _ q)
    · rw [ev, f3, Option.bind_some]
      unfold stepE
      rw [if_neg (by omega), if_neg (by omega), if_pos rfl, List.cons_append]
      dsimp only
      rw [if_pos x1]
      rfl
theorem fseg_b {T : List Int} {k : Nat} {o : Int} (h : fseg (k + 2) T) (ho : o = 20 ∨ o = 21) : fseg (k + 1) (o :: T) := by
  have e : pvn (o :: T) = pvn T := by rw [pvn, if_neg (by omega), Nat.add_zero]
  obtain ⟨k1, k2⟩ := h
  refine ⟨by omega, fun u st hl => ?_⟩
  rw [e] at hl
  obtain ⟨fs, f1, f2, f3⟩ := k2 u st hl
  cases fs with
  | nil => simp at f1
  | cons y r =>
    cases r with
    | nil => simp at f1
    | cons x r =>
      have y1 := f2 y (List.mem_cons_self ..)
      have x1 := f2 x (List.mem_cons_of_mem _ (List.mem_cons_self ..))
      refine ⟨jdg o x y :: r, by rw [List.length_cons] at f1 ⊢; rw [List.length_cons] at f1; omega, fun z hz => ?_, ?_⟩
      · rcases List.mem_cons.mp hz with q | q
        · rw [q]; exact jdg_01
        · exact f2 z (List.mem_cons_of_mem _ (List.mem_cons_of_mem _ q))
      · rw [ev, f3, Option.bind_some]
        unfold stepE
        rw [if_neg (by omega), if_neg (by omega), if_neg (by omega), List.cons_append, List.cons_append]
        dsimp only
        rw [if_neg (by omega), if_neg (by omega), if_pos ⟨x1, y1⟩]
        rfl
/-- the class's order as the model's sign -/
def enc (o : Int) : Int := if 100 ≤ o then 16 * (o - 100) else if o ≤ 10 then 1 + 16 * o else if o = 32 then 14 else if 28 ≤ o then o - 26 else if 23 ≤ o then o - 17 else 33 - o
