/-! the script is never written -/
def kpS (h h1 : zH) : Prop := ∀ n f, h.2 1000000000 = .inr (99, n, f) → h1.2 1000000000 = .inr (99, n, f)
def zPkp (h : zH) (y : (Nat × List zV × List zV × zH) ⊕ (zV × zH) ⊕ (zMd × List zV × Nat × List zV × List zV)) : Prop := match y with
  | .inl (_, _, _, h1) => kpS h h1
  | .inr (.inl (_, h1)) => h1 = h
  | .inr (.inr _) => True
def zKp (h : zH) (o : zO) : Prop := ∀ y, o = some y → zPkp h y
section ZKP
variable {h : zH}
theorem kp_r : kpS h h := fun _ _ e => e
theorem kp_up {a : Nat} {c : zC} (q : ∀ n f, h.2 a = .inr (99, n, f) → False) : kpS h (zup h a c) := fun n f e => by
  by_cases y : a = 1000000000
  · rw [y] at q; exact absurd (q n f e) id
  · rw [zup_n (fun z => y z.symm)]; exact e
theorem kp_pf {a ci k : Nat} {v : zV} {c : zC} (e : zpf (h.2 a) ci k v = some c) : kpS h (zup h a c) := kp_up (fun n f q => by rw [q] at e; cases e)
theorem kp_st {a kd : Nat} {z v : Int} {c : zC} (e : zst (h.2 a) kd z v = some c) (hk : kd < 99) : kpS h (zup h a c) := kp_up (fun n f q => by
  rw [q] at e
  simp only [zst] at e
  rw [if_neg (by omega)] at e
  cases e)
theorem kp_s2 {a : Nat} {z v w : Int} {c : zC} (e : (zst (h.2 a) 0 z v).or (zst (h.2 a) 3 z w) = some c) : kpS h (zup h a c) := kp_up (fun n f q => by
  rw [q] at e
  simp only [zst] at e
  rw [if_neg (by omega), if_neg (by omega)] at e
  cases e)
theorem kp_sa {a v : Nat} {z : Int} {c : zC} (e : (if zis (h.2 v) 2 then zst (h.2 a) 4 z (v : Int) else if zis (h.2 v) 4 then zst (h.2 a) 5 z (v : Int) else if zis (h.2 v) 8 then zst (h.2 a) 6 z (v : Int) else none) = some c) : kpS h (zup h a c) := by
  split at e
  · exact kp_st e (by decide)
  · split at e
    · exact kp_st e (by decide)
    · split at e
      · exact kp_st e (by decide)
      · cases e
theorem kp_cp {a b : Nat} {sp dp n : Int} {c : zC} (e : zcopy (h.2 a) (h.2 b) sp dp n = some c) : kpS h (zup h b c) := kp_up (fun m f q => by
  rw [q] at e
  unfold zcopy at e
  split at e
  · rename_i e1 e2
    cases e2
    rw [if_neg (by omega)] at e
    cases e
  · cases e)
theorem kp_pu {x : Bool} {n : Nat} {c : zC} (hb : (x && decide (h.1.1 < 999999999)) = true) : kpS h (zpu h n c) := fun m f e => by
  have : h.1.1 < 999999999 := of_decide_eq_true (Bool.and_eq_true_iff.mp hb).2
  rw [zpu_n (by omega)]; exact e
theorem zc_none : zKp h none := fun _ e => by cases e
theorem zc_go {a : Nat} {b d : List zV} {h1 : zH} (q : kpS h h1) : zKp h (zgo a b d h1) := fun _ e => by cases e; exact q
theorem zc_zg {b : Bool} {x : zO} (k : b = true → zKp h x) : zKp h (zg b x) := fun y e => k (zg_inv e).1 y (zg_inv e).2
theorem zc_zj {pc : Nat} {off : Int} {L st : List zV} : zKp h (zj pc off L st h) := zc_zg (fun _ => zc_go kp_r)
theorem zc_ar2 {st : List zV} {k : Int → Int → zO} (q : ∀ x y, zKp h (k x y)) : zKp h (ar2 st k) := fun y e => by obtain ⟨a, b, r, -, e⟩ := ar2_inv e; exact q a b y e
theorem zc_ll2 {st : List zV} {k : Int → Int → zO} (q : ∀ x y, zKp h (k x y)) : zKp h (ll2 st k) := fun y e => by obtain ⟨a, b, r, -, e⟩ := ll2_inv e; exact q a b y e
theorem zc_li2 {st : List zV} {k : Int → Int → zO} (q : ∀ x y, zKp h (k x y)) : zKp h (li2 st k) := fun y e => by obtain ⟨a, b, r, -, e⟩ := li2_inv e; exact q a b y e
theorem zc_ta2 {st : List zV} {k : Nat → Int → zO} (q : ∀ x y, zKp h (k x y)) : zKp h (ta2 st k) := fun y e => by obtain ⟨a, b, r, -, e⟩ := ta2_inv e; exact q a b y e
theorem zc_ti1 {st : List zV} {k : Int → zO} (q : ∀ x, zKp h (k x)) : zKp h (ti1 st k) := fun y e => by obtain ⟨a, r, -, e⟩ := ti1_inv e; exact q a y e
theorem zc_tl1 {st : List zV} {k : Int → zO} (q : ∀ x, zKp h (k x)) : zKp h (tl1 st k) := fun y e => by obtain ⟨a, r, -, e⟩ := tl1_inv e; exact q a y e
theorem zc_ta1 {st : List zV} {k : Nat → zO} (q : ∀ x, zKp h (k x)) : zKp h (ta1 st k) := fun y e => by obtain ⟨a, r, -, e⟩ := ta1_inv e; exact q a y e
theorem zc_ldi {L : List zV} {i : Nat} {k : Int → zO} (q : ∀ x, zKp h (k x)) : zKp h (ldi L i k) := fun y e => by obtain ⟨a, -, e⟩ := ldi_inv e; exact q a y e
theorem zc_lda {L : List zV} {i : Nat} {k : Nat → zO} (q : ∀ x, zKp h (k x)) : zKp h (lda L i k) := fun y e => by obtain ⟨a, -, e⟩ := lda_inv e; exact q a y e
theorem zc_ldl {L : List zV} {i : Nat} {k : Int → zO} (q : ∀ x, zKp h (k x)) : zKp h (ldl L i k) := fun y e => by obtain ⟨a, -, -, e⟩ := ldl_inv e; exact q a y e
theorem zc_od {α : Type} {x : Option α} {k : α → zO} (q : ∀ a, x = some a → zKp h (k a)) : zKp h (od x k) := fun y e => by obtain ⟨a, e1, e⟩ := od_inv e; exact q a e1 y e
theorem zc_ca {M Y : zMd} {as : List zV} {pc : Nat} {L st : List zV} : zKp h (zca M Y as pc L st) := zc_zg (fun _ y e => by cases e; trivial)
theorem zc_rt {r : zV} : zKp h (some (.inr (.inl (r, h)))) := fun y e => by cases e; rfl
end ZKP
theorem stp_kp (M : zMd) (I : ClassFile.Instr) (ln pc : Nat) (L st : List zV) (h : zH) : zKp h (stp M I ln pc L st h) := by
  cases I <;> first | exact zc_none | skip
  all_goals (simp only [stp, p1i, p1a, p1l, s1i, s1a, s1l])
  all_goals
    repeat' first
      | exact zc_none
      | exact zc_go kp_r
      | exact zc_go (kp_pu (by assumption))
      | exact zc_go (kp_pf (by assumption))
      | exact zc_go (kp_st (by assumption) (by decide))
      | exact zc_go (kp_s2 (by assumption))
      | exact zc_go (kp_sa (by assumption))
      | exact zc_go (kp_cp (by assumption))
      | exact zc_zj
      | exact zc_ca
      | exact zc_rt
      | (apply zc_zg; intro _)
      | (apply zc_ar2; intro _ _)
      | (apply zc_ll2; intro _ _)
      | (apply zc_li2; intro _ _)
      | (apply zc_ta2; intro _ _)
      | (apply zc_ti1; intro _)
      | (apply zc_tl1; intro _)
      | (apply zc_ta1; intro _)
      | (apply zc_ldi; intro _)
      | (apply zc_lda; intro _)
      | (apply zc_ldl; intro _)
      | (apply zc_od; intro _ _)
      | split
theorem rnF_kp : ∀ {n : Nat} {M : zMd} {pc : Nat} {L st : List zV} {h h' : zH} {r : zV}, rnF n M pc L st h = some (r, h') → kpS h h' := by
  intro n
  induction n with
  | zero => intro M pc L st h h' r e; simp [rnF] at e
  | succ n ih =>
    intro M pc L st h h' r e
    rw [rnF] at e
    cases hd : ClassFile.decode (mC M) pc with
    | error x => rw [hd] at e; cases e
    | ok x =>
      obtain ⟨I, ln⟩ := x
      rw [hd] at e
      simp only at e
      have hall := stp_kp M I ln pc L st h
      cases hs : stp M I ln pc L st h with
      | none => rw [hs] at e; cases e
      | some y =>
        have hy := hall y hs
        rw [hs] at e
        match y, e, hy with
        | .inl (pc', L', st', h1), e, hy => exact fun n f q => ih e n f (hy n f q)
        | .inr (.inl (r', h1)), e, hy =>
          cases e
          have hy : h' = h := hy
          rw [hy]
          exact kp_r
        | .inr (.inr (Y, as, pc', L', st')), e, _ =>
          simp only at e
          cases hc : rnF n Y 0 (zent as (mL Y)) [] h with
          | none => rw [hc] at e; cases e
          | some w =>
            obtain ⟨v, h1⟩ := w
            rw [hc] at e
            exact fun n f q => ih e n f (ih hc n f q)
theorem cl_kp {Y : zMd} {as : List zV} {h h' : zH} {v : zV} (e : cl Y as h = some (v, h')) : kpS h h' := by
  obtain ⟨n, e⟩ := rn_iff.mp e
  exact rnF_kp e
