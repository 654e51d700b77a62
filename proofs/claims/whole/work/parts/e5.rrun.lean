/-! RuleReader.read: runs of tokens -/
abbrev zS : Type := Int × Int × List Int × List Int × (Nat → Int)
/-- the next token, what is done with it, and the state behind -/
def tkx (b : Nat → Int) (L : Int) (σ : zS) : Int × Int × Int × Int := tnx b L σ.1 σ.2.1
def tkr (b : Nat → Int) (L : Int) (σ : zS) : Int × List Int × List Int × (Nat → Int) := tkS (tkx b L σ).2.2.1 (tkx b L σ).2.2.2 b L (tkx b L σ).2.1 σ.2.2.1 σ.2.2.2.1 σ.2.2.2.2
def nxs (b : Nat → Int) (L : Int) (σ : zS) : zS := ((tkx b L σ).1, (tkx b L σ).2.2.2, (tkr b L σ).2.1, (tkr b L σ).2.2.1, (tkr b L σ).2.2.2)
def crn (b : Nat → Int) (L : Int) : Nat → zS → zS → Prop
  | 0, σ, τ => τ = σ
  | n + 1, σ, τ => (tkr b L σ).1 = -1 ∧ (tkx b L σ).2.2.1 ≠ -1 ∧ crn b L n (nxs b L σ) τ
theorem crn_t {b : Nat → Int} {L : Int} : ∀ (n m : Nat) (σ τ ρ : zS), crn b L n σ τ → crn b L m τ ρ → crn b L (n + m) σ ρ
  | 0, m, σ, τ, ρ, h, k => by rw [Nat.zero_add]; have : τ = σ := h; rw [← this]; exact k
  | n + 1, m, σ, τ, ρ, h, k => by
    rw [Nat.add_right_comm]
    exact ⟨h.1, h.2.1, crn_t n m (nxs b L σ) τ ρ h.2.2 k⟩
theorem crn_1 {b : Nat → Int} {L : Int} {σ : zS} (h1 : (tkr b L σ).1 = -1) (h2 : (tkx b L σ).2.2.1 ≠ -1) : crn b L 1 σ (nxs b L σ) := ⟨h1, h2, rfl⟩
/-- what holds of a state of the reader -/
def cok (L : Int) (σ : zS) : Prop := CI σ.2.2.1 σ.2.2.2.1 σ.2.2.2.2 σ.1 ∧ (0 ≤ σ.1 ∧ σ.1 ≤ L) ∧ -1 ≤ σ.2.1 ∧ σ.2.1 ≤ 99999
theorem stl2_c {rk : Int} (h0 : 0 ≤ rk) : ∀ (W O : List Int), c7 (stl2 rk W O).2.1 = c7 W - (stl2 rk W O).2.2 ∧ c50 (stl2 rk W O).2.1 = c50 W ∧ ∀ o, o ∈ (stl2 rk W O).2.1 → o ∈ W
  | [], O => by rw [stl2]; exact ⟨by dsimp only; omega, rfl, fun o h => h⟩
  | o :: W, O => by
    rw [stl2]
    by_cases q : rkf o < rk
    · rw [if_pos q]; exact ⟨by dsimp only; omega, rfl, fun o h => h⟩
    · rw [if_neg q]
      dsimp only
      have i := stl2_c h0 W (o :: O)
      have no : o ≠ 50 := fun e => q (by rw [e, rkf_50]; omega)
      refine ⟨?_, ?_, fun p hp => List.mem_cons_of_mem _ (i.2.2 p hp)⟩
      · rw [i.1, c7]
        by_cases y : o = 22
        · rw [if_pos y, if_pos (Or.inl y)]; omega
        · rw [if_neg y, if_neg (by omega)]; omega
      · rw [i.2.1, c50, if_neg no]; omega
theorem stl2_h {W O : List Int} (hw : ∀ o, o ∈ W → (20 ≤ o ∧ o ≤ 32) ∨ o = 50) (h : c50 W ≠ 0) : ∃ W2, (stl2 0 W O).2.1 = 50 :: W2 := by
  induction W generalizing O with
  | nil => exact absurd rfl h
  | cons o W ih =>
    rw [stl2]
    by_cases q : rkf o < 0
    · rw [if_pos q]
      rcases hw o (List.mem_cons_self ..) with y | y
      · have := rkf_b y; omega
      · rw [y]; exact ⟨W, rfl⟩
    · rw [if_neg q]
      dsimp only
      have no : o ≠ 50 := fun e => q (by rw [e, rkf_50]; omega)
      rw [c50, if_neg no, Int.add_zero] at h
      exact ih (fun p hp => hw p (List.mem_cons_of_mem _ hp)) h
section CIP
variable {O W : List Int} {v b : Nat → Int} {L x x' kd va s : Int}
theorem end_CI (c : CI O W v x) (v4 : v 4 ≠ 0) (hx : x ≤ x') (w : (tkEnd kd O W v).1 = -1) : CI (tkEnd kd O W v).2.1 (tkEnd kd O W v).2.2.1 (tkEnd kd O W v).2.2.2 x' := by
  obtain ⟨c1, c2, c3, c4, c5, c6, c8⟩ := c
  rw [if_neg v4] at c6
  unfold tkEnd at w ⊢
  split at w
  · dsimp only at w; omega
  · rename_i z
    rw [if_neg z]
    have sn := stl2_n (rk := 0) W O
    have sc := stl2_c (rk := 0) (by omega) W O
    dsimp only
    refine ⟨fun o ho => c1 o (sc.2.2 o ho), ?_, ?_, ?_, ?_, ?_, ?_⟩
    · rw [fup_n (by omega), fup_s, sc.1]; omega
    · rw [fup_n (by omega), fup_n (by omega), sc.2.1]; exact c3
    · rw [fup_n (by omega), fup_n (by omega)]; exact c4
    · rw [fup_n (by omega), fup_n (by omega)]; exact c5
    · rw [fup_s, if_pos rfl, List.length_cons]; omega
    · rw [fup_s]; omega
/-- an operator waits behind what it settles -/
theorem op_CI {op : Int} {v' : Nat → Int} (c : CI O W v x) (v4 : v 4 ≠ 0) (hx : x + 1 ≤ x') (ho : 20 ≤ op ∧ op ≤ 32 ∧ op ≠ 22) (e7 : v' 7 = v 7 - (stl2 (rkf op) W O).2.2) (e8 : v' 8 = v 8) (e5 : v' 5 = v 5) (e6 : 0 ≤ v' 6 ∧ v' 6 ≤ 60) (e4 : 1 ≤ v' 4 ∧ v' 4 ≤ 4) : CI (stl2 (rkf op) W O).1 (op :: (stl2 (rkf op) W O).2.1) v' x' := by
  obtain ⟨c1, c2, c3, c4, c5, c6, c8⟩ := c
  rw [if_neg v4] at c6
  have rb := rkf_b (o := op) ⟨ho.1, ho.2.1⟩
  have sn := stl2_n (rk := rkf op) W O
  have sc := stl2_c (rk := rkf op) (by omega) W O
  refine ⟨fun o h => ?_, ?_, ?_, by rw [e5]; exact c4, e6, ?_, by omega⟩
  · rcases List.mem_cons.mp h with q | q
    · rw [q]; exact Or.inl ⟨ho.1, ho.2.1⟩
    · exact c1 o (sc.2.2 o q)
  · rw [e7, c7, if_neg (by omega), sc.1]; omega
  · rw [e8, c50, if_neg (by omega), sc.2.1]; omega
  · rw [if_neg (by omega), List.length_cons]; omega
theorem val_CI (c : CI O W v x) (v4 : v 4 ≠ 0) (hx : x + 1 ≤ x') (w : (tkVal kd va b L s O W v).1 = -1) : CI (tkVal kd va b L s O W v).2.1 (tkVal kd va b L s O W v).2.2.1 (tkVal kd va b L s O W v).2.2.2 x' := by
  obtain ⟨c1, c2, c3, c4, c5, c6, c8⟩ := c
  rw [if_neg v4] at c6
  unfold tkVal at w ⊢
  split at w
  · dsimp only at w; omega
  · rename_i z
    split at w
    · dsimp only at w; omega
    · rename_i z2
      rw [if_neg z, if_neg z2]
      dsimp only at w ⊢
      have p : v 6 < 60 := by
        by_cases q : v 6 < 60
        · exact q
        · rw [if_neg q] at w; omega
      refine ⟨c1, ?_, ?_, ?_, ?_, ?_, ?_⟩
      · rw [fup_n (by omega), fup_n (by omega)]; exact c2
      · rw [fup_n (by omega), fup_n (by omega)]; exact c3
      · rw [fup_n (by omega), fup_n (by omega)]; exact c4
      · rw [fup_s]; omega
      · rw [fup_n (by omega), fup_s, if_neg (show ¬ ((3 : Int) = 0) by omega), List.length_cons]; omega
      · rw [fup_n (by omega), fup_s]; omega
theorem bt_CI (c : CI O W v x) (v4 : v 4 ≠ 0) (hx : x ≤ x') (w : (tkBT kd b L s O W v).1 = -1) : CI (tkBT kd b L s O W v).2.1 (tkBT kd b L s O W v).2.2.1 (tkBT kd b L s O W v).2.2.2 x' := by
  unfold tkBT at w ⊢
  by_cases z : tkI b L s = -1
  · rw [if_pos z] at w ⊢; exact end_CI c v4 hx w
  · rw [if_neg z] at w ⊢
    obtain ⟨c1, c2, c3, c4, c5, c6, c8⟩ := c
    rw [if_neg v4] at c6
    have sn := stl2_n (rk := 0) W O
    have sc := stl2_c (rk := 0) (by omega) W O
    dsimp only
    refine ⟨fun o ho => c1 o (sc.2.2 o ho), ?_, ?_, ?_, ?_, ?_, ?_⟩
    · rw [fup_n (by omega), fup_n (by omega), fup_s, sc.1]; omega
    · rw [fup_n (by omega), fup_n (by omega), fup_n (by omega), sc.2.1]; exact c3
    · rw [fup_n (by omega), fup_n (by omega), fup_n (by omega)]; exact c4
    · rw [fup_n (by omega), fup_n (by omega), fup_n (by omega)]; exact c5
    · rw [fup_s, if_neg (by omega)]; omega
    · rw [fup_s]; omega
theorem bf_CI (c : CI O W v x) (v4 : v 4 ≠ 0) (hx : x ≤ x') (hj : tkJ b L s ≠ -1 → x + 1 ≤ x') (w : (tkBF kd b L s O W v).1 = -1) : CI (tkBF kd b L s O W v).2.1 (tkBF kd b L s O W v).2.2.1 (tkBF kd b L s O W v).2.2.2 x' := by
  unfold tkBF at w ⊢
  by_cases z : tkJ b L s = -1
  · have zz : ¬ ¬ tkJ b L s = -1 := fun q => q z
    rw [if_neg zz] at w ⊢
    by_cases y : v 8 = 0
    · rw [if_pos y] at w ⊢; exact end_CI c v4 hx w
    · rw [if_neg y] at w ⊢
      by_cases k : kd = 93
      · have kk : ¬ ¬ kd = 93 := fun q => q k
        rw [if_neg kk] at w ⊢
        obtain ⟨c1, c2, c3, c4, c5, c6, c8⟩ := c
        rw [if_neg v4] at c6
        have sn := stl2_n (rk := 0) W O
        have sc := stl2_c (rk := 0) (by omega) W O
        obtain ⟨W2, hW⟩ := stl2_h (O := O) c1 (by omega)
        dsimp only
        rw [hW] at sn sc ⊢
        rw [List.length_cons] at sn
        rw [List.tail_cons]
        have s1 := sc.1
        have s2 := sc.2.1
        rw [c7, if_pos (Or.inr rfl)] at s1
        rw [c50, if_pos rfl] at s2
        refine ⟨fun o ho => c1 o (sc.2.2 o (List.mem_cons_of_mem _ ho)), ?_, ?_, ?_, ?_, ?_, ?_⟩
        · rw [fup_n (by omega), fup_n (by omega), fup_s]; omega
        · rw [fup_n (by omega), fup_s]; omega
        · simp (disch := omega) only [fup_n]; exact c4
        · simp (disch := omega) only [fup_n]; exact c5
        · rw [fup_s, if_neg (by omega)]; omega
        · rw [fup_s]; omega
      · rw [if_pos k] at w; dsimp only at w; omega
  · rw [if_pos z]
    have jb := jop_b (b := b) (L := L) (s := s)
    dsimp only
    refine op_CI c v4 (hj z) (by omega) ?_ ?_ ?_ ?_ ?_
    · rw [fup_n (by omega), fup_s]
    · rw [fup_n (by omega), fup_n (by omega)]
    · rw [fup_n (by omega), fup_n (by omega)]
    · rw [fup_n (by omega), fup_n (by omega)]; exact c.2.2.2.2.1
    · rw [fup_s]; omega
theorem tk_CI (c : CI O W v x) (hx : x ≤ x') (hk : kd ≠ -1 → x + 1 ≤ x') (he : kd = -1 → tkT b L s = -1 ∧ tkV b L s = -1 ∧ tkN b L s = -1 ∧ tkI b L s = -1 ∧ tkJ b L s = -1) (w : (tkS kd va b L s O W v).1 = -1) : CI (tkS kd va b L s O W v).2.1 (tkS kd va b L s O W v).2.2.1 (tkS kd va b L s O W v).2.2.2 x' := by
  unfold tkS at w ⊢
  by_cases z0 : v 4 = 0
  · rw [if_pos z0] at w ⊢
    obtain ⟨c1, c2, c3, c4, c5, c6, c8⟩ := c
    rw [if_pos z0] at c6
    unfold tkTurn at w ⊢
    by_cases y : tkT b L s = -1
    · rw [if_pos y] at w; dsimp only at w; omega
    · rw [if_neg y] at w ⊢
      dsimp only at w ⊢
      have p : v 5 < 12 := by
        by_cases q : v 5 < 12
        · exact q
        · rw [if_neg q] at w; omega
      have x1 := hk (fun e => y (he e).1)
      refine ⟨c1, ?_, ?_, ?_, ?_, ?_, ?_⟩
      · simp (disch := omega) only [fup_n]; exact c2
      · simp (disch := omega) only [fup_n]; exact c3
      · simp (disch := omega) only [fup_n, fup_s]; omega
      · simp (disch := omega) only [fup_n]; exact c5
      · rw [fup_s, if_neg (by omega)]; omega
      · rw [fup_s]; omega
  · rw [if_neg z0] at w ⊢
    by_cases z1 : v 4 = 1
    · rw [if_pos z1] at w ⊢
      refine val_CI c z0 (hk (fun e => ?_)) w
      unfold tkVal at w
      rw [if_pos ⟨by omega, (he e).2.1⟩] at w
      dsimp only at w; omega
    · rw [if_neg z1] at w ⊢
      by_cases z2 : v 4 = 2
      · rw [if_pos z2] at w ⊢
        unfold tkFact at w ⊢
        by_cases y : ¬ kd = 91 ∧ tkN b L s = -1
        · rw [if_pos y] at w ⊢
          have c' : CI O W (fup v 10 0) x := by
            obtain ⟨c1, c2, c3, c4, c5, c6, c8⟩ := c
            exact ⟨c1, by rw [fup_n (by omega)]; exact c2, by rw [fup_n (by omega)]; exact c3, by rw [fup_n (by omega)]; exact c4, by rw [fup_n (by omega)]; exact c5, by rw [fup_n (by omega)]; exact c6, by rw [fup_n (by omega)]; exact c8⟩
          refine val_CI c' (by rw [fup_n (by omega)]; exact z0) (hk (fun e => ?_)) w
          unfold tkVal at w
          rw [if_pos ⟨by omega, (he e).2.1⟩] at w
          dsimp only at w; omega
        · rw [if_neg y] at w ⊢
          dsimp only at w ⊢
          obtain ⟨c1, c2, c3, c4, c5, c6, c8⟩ := c
          rw [if_neg z0] at c6
          have x1 := hk (fun e => y ⟨by omega, (he e).2.2.1⟩)
          refine ⟨fun o ho => ?_, ?_, ?_, ?_, ?_, ?_, ?_⟩
          · rcases List.mem_cons.mp ho with q | q
            · rw [q]; split; exact Or.inr rfl; exact Or.inl (by omega)
            · exact c1 o q
          · rw [fup_n (by omega), fup_s, c7, c2, if_pos (by split; exact Or.inr rfl; exact Or.inl rfl)]
          · rw [fup_s, c50, c3]
            by_cases k : kd = 91
            · rw [if_pos k, if_pos k, if_pos rfl]
            · rw [if_neg k, if_neg k, if_neg (by omega)]
          · simp (disch := omega) only [fup_n]; exact c4
          · simp (disch := omega) only [fup_n]; exact c5
          · simp (disch := omega) only [fup_n]; rw [if_neg z0, List.length_cons]; omega
          · simp (disch := omega) only [fup_n]; exact c8
      · rw [if_neg z2] at w ⊢
        have hj : tkJ b L s ≠ -1 → x + 1 ≤ x' := fun q => hk (fun e => q (he e).2.2.2.2)
        by_cases z3 : v 4 = 3
        · rw [if_pos z3] at w ⊢
          have ob := opf_b (k := kd)
          have om : opf kd ≠ -1 → x + 1 ≤ x' := fun q => hk (fun e => q (by rw [e]; rfl))
          unfold tkBV at w ⊢
          by_cases y : 28 ≤ opf kd
          · rw [if_pos y]
            dsimp only
            refine op_CI c z0 (om (by omega)) (by omega) ?_ ?_ ?_ ?_ ?_
            · rw [fup_n (by omega), fup_s]
            · rw [fup_n (by omega), fup_n (by omega)]
            · rw [fup_n (by omega), fup_n (by omega)]
            · rw [fup_n (by omega), fup_n (by omega)]; exact c.2.2.2.2.1
            · rw [fup_s]; omega
          · rw [if_neg y] at w ⊢
            by_cases k : v 9 = 0
            · rw [if_pos k] at w ⊢; exact bt_CI c z0 hx w
            · rw [if_neg k] at w ⊢
              by_cases k2 : v 10 = 0
              · have kk : ¬ ¬ v 10 = 0 := fun q => q k2
                rw [if_neg kk] at w ⊢
                by_cases o1 : opf kd = -1
                · rw [if_pos o1] at w; dsimp only at w; omega
                · rw [if_neg o1] at w ⊢
                  dsimp only at w ⊢
                  have p : v 6 < 60 := by
                    by_cases q : v 6 < 60
                    · exact q
                    · rw [if_neg q] at w; omega
                  have c5 := c.2.2.2.2.1
                  refine op_CI c z0 (om o1) (by omega) ?_ ?_ ?_ ?_ ?_
                  · simp (disch := omega) only [fup_n, fup_s]
                  · simp (disch := omega) only [fup_n]
                  · simp (disch := omega) only [fup_n]
                  · rw [fup_s]; omega
                  · simp (disch := omega) only [fup_n, fup_s]; omega
              · rw [if_pos k2] at w ⊢; exact bf_CI c z0 hx hj w
        · rw [if_neg z3] at w ⊢
          exact bf_CI c z0 hx hj w
end CIP
section RN
variable {A F : Nat → Nat → Int} {E : zE} {b : Nat → Int} {L : Int} {σ τ : zS}
theorem rdn_1 {s p v : Int} {n : Nat} (h : dgt (b p.toNat) = true) (hs : s ≤ p) (hv : nin p s v) : p + 1 ≤ (rdn b s (n + 1) p v).1 := by
  rw [rdn, if_pos h]
  exact (rdn_b n (p + 1) _ (by omega) (nin_s hs hv (of_decide_eq_true h))).1
/-- a token that is no end takes up a place -/
theorem tkx_a {x va : Int} (hb : ∀ j, 0 ≤ b j ∧ b j ≤ 255) (h0 : 0 ≤ x ∧ x ≤ L) : sk b L x ≤ (tnx b L x va).1 ∧ ((tnx b L x va).2.2.1 ≠ -1 → sk b L x + 1 ≤ (tnx b L x va).1) := by
  have kb := sk_b (b := b) h0.2
  obtain ⟨t1, ⟨u1, u2, u3, u4, u5⟩ | ⟨u1, u2, u3, u4⟩ | ⟨u1, u2, u3, u4⟩ | ⟨u1, u2, u3, u5, u4⟩⟩ := tnx_c (va := va) hb h0.1 h0.2
  · rw [u2]; dsimp only; omega
  · rw [u4]; dsimp only
    rw [byt_in (by omega) u1] at u2
    obtain ⟨n, hn⟩ : ∃ n, (L - sk b L x).toNat = n + 1 := ⟨(L - sk b L x).toNat - 1, by omega⟩
    have : sk b L x + 1 ≤ (nde b L (sk b L x)).1 := by
      unfold nde
      rw [hn]
      exact rdn_1 u2 (Int.le_refl _) ⟨by omega, by omega, fun _ => by omega, fun _ => by omega, fun _ => by omega, fun _ => by omega, fun _ => by omega⟩
    omega
  · rw [u4]; dsimp only
    rw [byt_in (by omega) u1] at u3
    obtain ⟨n, hn⟩ : ∃ n, (L - sk b L x).toNat = n + 1 := ⟨(L - sk b L x).toNat - 1, by omega⟩
    have : sk b L x + 1 ≤ wde b L (sk b L x) := by
      unfold wde
      rw [hn, rdw, if_pos u3]
      exact (rdw_b n _).1
    omega
  · rw [u4]; dsimp only
    unfold rsg
    split
    · dsimp only; omega
    · dsimp only; omega
theorem tkx_w {x va : Int} (hb : ∀ j, 0 ≤ b j ∧ b j ≤ 255) (h0 : 0 ≤ x ∧ x ≤ L) (k : (tnx b L x va).2.2.1 ≠ -3) : tkT b L (sk b L x) = -1 ∧ tkV b L (sk b L x) = -1 ∧ tkN b L (sk b L x) = -1 ∧ tkI b L (sk b L x) = -1 ∧ tkJ b L (sk b L x) = -1 := by
  refine ⟨?_, ?_, ?_, ?_, ?_⟩
  · rw [← wT_t (va := va) hb h0, if_neg k]
  · rw [← wV_t (va := va) hb h0, if_neg k]
  · rw [← wN_t (va := va) hb h0, if_neg k]
  · rw [← wI_t (va := va) hb h0, if_neg k]
  · rw [← wJ_t (va := va) hb h0, if_neg k]
theorem nxs_ok (hb : ∀ j, 0 ≤ b j ∧ b j ≤ 255) (c : cok L σ) (w : (tkr b L σ).1 = -1) : cok L (nxs b L σ) ∧ σ.1 ≤ (nxs b L σ).1 ∧ ((tkx b L σ).2.2.1 ≠ -1 → σ.1 + 1 ≤ (nxs b L σ).1) := by
  obtain ⟨c1, c2, c3⟩ := c
  have kb := sk_b (b := b) c2.2
  have ta := tkx_a (va := σ.2.1) hb c2
  have tb := t_pl (b := b) (L := L) (p := σ.1) (va := σ.2.1) c2 c3
  have ts := (tnx_c (va := σ.2.1) hb c2.1 c2.2).1
  have e : (tkx b L σ) = tnx b L σ.1 σ.2.1 := rfl
  refine ⟨⟨tk_CI c1 (x' := (tkx b L σ).1) (by rw [e]; omega) (fun q => by rw [e] at q ⊢; have := ta.2 q; omega) (fun q => ?_) w, tb.1, tb.2⟩, by show σ.1 ≤ (tkx b L σ).1; rw [e]; omega, fun q => ?_⟩
  · have := tkx_w (va := σ.2.1) hb c2 (by rw [e] at q; omega)
    rw [e, ts]
    exact this
  · show σ.1 + 1 ≤ (tkx b L σ).1
    rw [e] at q ⊢
    have := ta.2 q
    omega
theorem crn_ok (hb : ∀ j, 0 ≤ b j ∧ b j ≤ 255) : ∀ (n : Nat) (σ τ : zS), cok L σ → crn b L n σ τ → cok L τ ∧ σ.1 + n ≤ τ.1
  | 0, σ, τ, c, r => by have e : τ = σ := r; rw [e]; exact ⟨c, by omega⟩
  | n + 1, σ, τ, c, r => by
    have s := nxs_ok hb c r.1
    have i := crn_ok hb n (nxs b L σ) τ s.1 r.2.2
    exact ⟨i.1, by have := s.2.2 r.2.1; omega⟩
/-- the class's heap holds such a state *)-/
def rdS (A F : Nat → Nat → Int) (b : Nat → Int) (L : Int) (σ : zS) : Prop := RH A F σ.2.2.1 σ.2.2.2.1 σ.2.2.2.2 ∧ A 3 = b ∧ F 2 1 = L ∧ F 2 2 = σ.1 ∧ F 2 5 = σ.2.1 ∧ (0 ≤ F 2 3 ∧ F 2 3 ≤ 400)
def rdf (A F A' F' : Nat → Nat → Int) : Prop := (∀ j, j ≠ 7 → j ≠ 8 → A' j = A j) ∧ ∀ j, j ≠ 6 → j ≠ 2 → F' j = F j
theorem rdf_r : rdf A F A F := ⟨fun _ _ _ => rfl, fun _ _ _ => rfl⟩
theorem rdf_t {A1 F1 A2 F2 : Nat → Nat → Int} (h : rdf A F A1 F1) (k : rdf A1 F1 A2 F2) : rdf A F A2 F2 := ⟨fun j a c => (k.1 j a c).trans (h.1 j a c), fun j a c => (k.2 j a c).trans (h.2 j a c)⟩
theorem h_next2 (hb : ∀ j, 0 ≤ b j ∧ b j ≤ 255) (hL : L ≤ 400) (c : cok L σ) (h : rdS A F b L σ) : ∃ F', cl mX8_next [vr 2] (HP A F E) = some (vn, HP A F' E) ∧ TT A F' b L (tkx b L σ) ∧ RH A F' σ.2.2.1 σ.2.2.2.1 σ.2.2.2.2 ∧ rdf A F A F' := by
  obtain ⟨h1, h2, h3, h4, h5, h6⟩ := h
  have r := (t4_next (h := HP A F E) (t := 2) (y := 3) (L := F 2 1) (f := A 3) (X := (F 2 2, F 2 3, F 2 4, F 2 5)) rfl (by omega) (by rw [h3]; exact hL) ⟨⟨h6.1, by show 0 ≤ F 2 2; rw [h4]; exact c.2.1.1⟩, by show F 2 2 ≤ F 2 1; rw [h4, h3]; exact c.2.1.2, by show -1 ≤ F 2 5; rw [h5]; exact c.2.2.1, by show F 2 5 ≤ 99999; rw [h5]; exact c.2.2.2⟩ (by rw [h2]; exact hb)).1
  have e0 : tx4 (HP A F E) 2 3 (F 2 1) (F 2 2, F 2 3, F 2 4, F 2 5) = HP A F E := HP_txs.symm
  rw [e0] at r
  dsimp only at r
  rw [h2, h3, h4, h5] at r
  have e1 : tnx b L σ.1 σ.2.1 = tkx b L σ := rfl
  rw [e1] at r
  unfold tx4 at r
  rw [txs_HP] at r
  refine ⟨_, r, ⟨h2, ?_, ⟨?_, ?_, ?_, ?_⟩, ⟨by have := c.2.1; omega, hL⟩, hb⟩, ?_, ⟨fun _ _ _ => rfl, fun j _ a => aup_n a⟩⟩
  · rw [aup_s]; simp (disch := omega) only [fup_n, fup_s]
  · rw [aup_s]; simp (disch := omega) only [fup_n, fup_s]
  · rw [aup_s]; simp (disch := omega) only [fup_n, fup_s]
  · rw [aup_s]; simp (disch := omega) only [fup_n, fup_s]
  · rw [aup_s, fup_s]
  · unfold RH at *
    rw [aup_n (by omega)]
    exact h1
theorem tkr_b {b : Nat → Int} {L : Int} {σ : zS} : -1 ≤ (tkr b L σ).1 ∧ (tkr b L σ).1 ≤ 7 := by
  have hv : ∀ (kd va s : Int) (O W : List Int) (v : Nat → Int), -1 ≤ (tkVal kd va b L s O W v).1 ∧ (tkVal kd va b L s O W v).1 ≤ 7 := by
    intro kd va s O W v
    unfold tkVal
    split
    · dsimp only; omega
    · split
      · dsimp only; omega
      · dsimp only; split <;> omega
  have he : ∀ (kd : Int) (O W : List Int) (v : Nat → Int), -1 ≤ (tkEnd kd O W v).1 ∧ (tkEnd kd O W v).1 ≤ 7 := by
    intro kd O W v
    unfold tkEnd
    split <;> (dsimp only; omega)
  have ht : ∀ (kd s : Int) (O W : List Int) (v : Nat → Int), -1 ≤ (tkBT kd b L s O W v).1 ∧ (tkBT kd b L s O W v).1 ≤ 7 := by
    intro kd s O W v
    unfold tkBT
    split
    · exact he kd O W v
    · dsimp only; omega
  have hf : ∀ (kd s : Int) (O W : List Int) (v : Nat → Int), -1 ≤ (tkBF kd b L s O W v).1 ∧ (tkBF kd b L s O W v).1 ≤ 7 := by
    intro kd s O W v
    unfold tkBF
    split
    · dsimp only; omega
    · split
      · exact he kd O W v
      · split <;> (dsimp only; omega)
  unfold tkr tkS
  split
  · unfold tkTurn
    split
    · dsimp only; omega
    · dsimp only; split <;> omega
  · split
    · exact hv _ _ _ _ _ _
    · split
      · unfold tkFact
        split
        · exact hv _ _ _ _ _ _
        · dsimp only; split <;> omega
      · split
        · unfold tkBV
          split
          · dsimp only; omega
          · split
            · exact ht _ _ _ _ _
            · split
              · exact hf _ _ _ _ _
              · split
                · dsimp only; omega
                · dsimp only; split <;> omega
        · exact hf _ _ _ _ _
/-- one token at the head of the loop -/
theorem q_tok (hb : ∀ j, 0 ≤ b j ∧ b j ≤ 255) (hL : L ≤ 400) (c : cok L σ) (h : rdS A F b L σ) {k : Nat} (hk : k ≤ 400) {x3 : zV} : ∃ A' F', rdf A F A' F' ∧ (((tkr b L σ).1 ≠ -1 ∧ rn mX6_read 41 [vr 6, vr 2, vi (k : Int), x3] [] (HP A F E) = some (vi (1 + 8 * (tkx b L σ).2.1 + (tkr b L σ).1), HP A' F' E) ∧ rdS A' F' b L (nxs b L σ)) ∨ ((tkr b L σ).1 = -1 ∧ (tkx b L σ).2.2.1 = -1 ∧ rn mX6_read 41 [vr 6, vr 2, vi (k : Int), x3] [] (HP A F E) = some (vi 0, HP A' F' E) ∧ rdS A' F' b L (nxs b L σ)) ∨ ((tkr b L σ).1 = -1 ∧ (tkx b L σ).2.2.1 ≠ -1 ∧ rn mX6_read 41 [vr 6, vr 2, vi (k : Int), x3] [] (HP A F E) = rn mX6_read 41 [vr 6, vr 2, vi ((k + 1 : Nat) : Int), vi (-1)] [] (HP A' F' E) ∧ rdS A' F' b L (nxs b L σ))) := by
  obtain ⟨F1, n1, n2, n3, n4⟩ := h_next2 (E := E) hb hL c h
  obtain ⟨A2, F2, t1, t2, t3⟩ := q_take (E := E) n3 n2 (x := σ.1) (va0 := σ.2.1) rfl c.2.1 c.2.2 c.1
  have tt2 := TT_f n2 t3
  have kb := sk_b (b := b) c.2.1.2
  have ts : (tkx b L σ).2.1 = sk b L σ.1 := (tnx_c (va := σ.2.1) hb c.2.1.1 c.2.1.2).1
  have KI := t_kind (E := E) tt2
  have s0 := c.2.1
  have f23 : F2 2 3 = (tkx b L σ).2.1 := tt2.2.2.1.2.1
  have rd : rdS A2 F2 b L (nxs b L σ) := ⟨t2, tt2.1, tt2.2.1, tt2.2.2.1.1, tt2.2.2.1.2.2.2, by rw [f23]; omega⟩
  have e : tkS (tkx b L σ).2.2.1 (tkx b L σ).2.2.2 b L (tkx b L σ).2.1 σ.2.2.1 σ.2.2.2.1 σ.2.2.2.2 = tkr b L σ := rfl
  rw [e] at t1
  have fr : rdf A F A2 F2 := rdf_t n4 ⟨t3.1, fun j a _ => t3.2 j a⟩
  refine ⟨A2, F2, fr, ?_⟩
  by_cases y : (tkr b L σ).1 = -1
  · rw [y] at t1
    by_cases z : (tkx b L σ).2.2.1 = -1
    · refine Or.inr (Or.inl ⟨y, z, ?_, rd⟩)
      have zz : ¬ ¬ (tkx b L σ).2.2.1 = -1 := fun q => q z
      rw [sX6_read_41]
      simp (disch := omega) only [eX6_read, sX6_read_0, sX6_read_1, sX6_read_2, sX6_read_5, sX6_read_6, sX6_read_7, sX6_read_10, sX6_read_11, sX6_read_12, sX6_read_15, sX6_read_16, sX6_read_17, sX6_read_20, sX6_read_21, sX6_read_22, sX6_read_25, sX6_read_26, sX6_read_27, sX6_read_30, sX6_read_31, sX6_read_32, sX6_read_35, sX6_read_36, sX6_read_39, sX6_read_40, sX6_read_42, sX6_read_45, sX6_read_48, sX6_read_49, sX6_read_52, sX6_read_53, sX6_read_54, sX6_read_57, sX6_read_58, sX6_read_59, sX6_read_60, sX6_read_63, sX6_read_64, sX6_read_65, sX6_read_68, sX6_read_69, sX6_read_70, sX6_read_73, sX6_read_74, sX6_read_77, sX6_read_78, sX6_read_79, sX6_read_82, sX6_read_85, sX6_read_86, sX6_read_87, sX6_read_90, ↓hk2, ↓hk6, ↓bndv_at n1, ↓bndi_at t1, ↓bndi_at KI, ↓if_neg zz, ↓if_pos, ↓if_neg]
    · refine Or.inr (Or.inr ⟨y, z, ?_, rd⟩)
      rw [sX6_read_41]
      simp (disch := omega) only [eX6_read, sX6_read_0, sX6_read_1, sX6_read_2, sX6_read_5, sX6_read_6, sX6_read_7, sX6_read_10, sX6_read_11, sX6_read_12, sX6_read_15, sX6_read_16, sX6_read_17, sX6_read_20, sX6_read_21, sX6_read_22, sX6_read_25, sX6_read_26, sX6_read_27, sX6_read_30, sX6_read_31, sX6_read_32, sX6_read_35, sX6_read_36, sX6_read_39, sX6_read_40, sX6_read_42, sX6_read_45, sX6_read_48, sX6_read_49, sX6_read_52, sX6_read_53, sX6_read_54, sX6_read_57, sX6_read_58, sX6_read_59, sX6_read_60, sX6_read_63, sX6_read_64, sX6_read_65, sX6_read_68, sX6_read_69, sX6_read_70, sX6_read_73, sX6_read_74, sX6_read_77, sX6_read_78, sX6_read_79, sX6_read_82, sX6_read_85, sX6_read_86, sX6_read_87, sX6_read_90, ↓hk2, ↓hk6, ↓bndv_at n1, ↓bndi_at t1, ↓bndi_at KI, ↓if_pos z, ↓if_pos, ↓if_neg, i32_s]
  · refine Or.inl ⟨y, ?_, rd⟩
    have wb : -1 ≤ (tkr b L σ).1 ∧ (tkr b L σ).1 ≤ 7 := tkr_b
    have fo : cl mX8_faultOf [vr 2, vi (tkr b L σ).1] (HP A2 F2 E) = some (vi (1 + 8 * (tkx b L σ).2.1 + (tkr b L σ).1), HP A2 F2 E) := by
      simp (disch := omega) only [eX8_faultOf, sX8_faultOf_0, sX8_faultOf_1, sX8_faultOf_3, sX8_faultOf_4, sX8_faultOf_7, sX8_faultOf_8, sX8_faultOf_9, sX8_faultOf_10, sX8_faultOf_11, ↓hf2_3, f23, i32_of]
    rw [sX6_read_41]
    simp (disch := omega) only [eX6_read, sX6_read_0, sX6_read_1, sX6_read_2, sX6_read_5, sX6_read_6, sX6_read_7, sX6_read_10, sX6_read_11, sX6_read_12, sX6_read_15, sX6_read_16, sX6_read_17, sX6_read_20, sX6_read_21, sX6_read_22, sX6_read_25, sX6_read_26, sX6_read_27, sX6_read_30, sX6_read_31, sX6_read_32, sX6_read_35, sX6_read_36, sX6_read_39, sX6_read_40, sX6_read_42, sX6_read_45, sX6_read_48, sX6_read_49, sX6_read_52, sX6_read_53, sX6_read_54, sX6_read_57, sX6_read_58, sX6_read_59, sX6_read_60, sX6_read_63, sX6_read_64, sX6_read_65, sX6_read_68, sX6_read_69, sX6_read_70, sX6_read_73, sX6_read_74, sX6_read_77, sX6_read_78, sX6_read_79, sX6_read_82, sX6_read_85, sX6_read_86, sX6_read_87, sX6_read_90, ↓hk2, ↓hk6, ↓bndv_at n1, ↓bndi_at t1, ↓if_neg y, ↓bndi_at fo, ↓if_pos, ↓if_neg]
theorem q_run (hb : ∀ j, 0 ≤ b j ∧ b j ≤ 255) (hL : L ≤ 400) : ∀ (n : Nat) (σ τ : zS) (A F : Nat → Nat → Int) (k : Nat) (x3 : zV), crn b L n σ τ → cok L σ → rdS A F b L σ → (k : Int) ≤ σ.1 → ∃ A' F' x3', rn mX6_read 41 [vr 6, vr 2, vi (k : Int), x3] [] (HP A F E) = rn mX6_read 41 [vr 6, vr 2, vi ((k + n : Nat) : Int), x3'] [] (HP A' F' E) ∧ rdS A' F' b L τ ∧ cok L τ ∧ rdf A F A' F' ∧ ((k + n : Nat) : Int) ≤ τ.1
  | 0, σ, τ, A, F, k, x3, r, c, h, hk => by
    have e : τ = σ := r
    rw [e]
    exact ⟨A, F, x3, rfl, h, c, rdf_r, by omega⟩
  | n + 1, σ, τ, A, F, k, x3, r, c, h, hk => by
    have s := nxs_ok hb c r.1
    have cx := c.2.1
    obtain ⟨A1, F1, f1, g | g | ⟨g1, g2, g3, g4⟩⟩ := q_tok (E := E) (k := k) (x3 := x3) hb hL c h (by omega)
    · exact absurd r.1 g.1
    · exact absurd g.2.1 r.2.1
    · obtain ⟨A2, F2, x3', u1, u2, u3, u4, u5⟩ := q_run hb hL n (nxs b L σ) τ A1 F1 (k + 1) (vi (-1)) r.2.2 s.1 g4 (by have := s.2.2 r.2.1; omega)
      exact ⟨A2, F2, x3', by rw [g3, u1, show k + 1 + n = k + (n + 1) by omega], u2, u3, rdf_t f1 u4, by omega⟩
end RN
