/-! folds: edges behind the last used one don't matter -/
/-- two rows alike but for leads of edges behind L -/
def lk (L : Int) (f f' : Nat → Int) : Prop := ∀ j : Nat, (j < 3 ∨ 7 ≤ j ∨ (j : Int) ≤ 3 + L) → f' j = f j
section LK
variable {L l : Int} {f f' fs fg fc : Nat → Int} {g G Z : Nat} {Q : (Int → Int) → Int}
theorem lk_up {k : Nat} {v : Int} (h : lk L f f') : lk L (fup f k v) (fup f' k v) := fun j hj => by
  by_cases q : j = k
  · subst q; rw [fup_s, fup_s]
  · rw [fup_n q, fup_n q]; exact h j hj
theorem lk_oth {c go : Int} (h : lk L f f') : ∀ n, othN c go f' n = othN c go f n
  | 0 => rfl
  | n + 1 => by rw [othN, othN, lk_oth h n, h (47 + 7 * n) (by omega)]
theorem lk_wwd (h : lk L f f') : wwd f' G g = wwd f G g := by
  funext w
  unfold wwd
  rw [h 0 (by omega), h (47 + 7 * g) (by omega), h (48 + 7 * g) (by omega), h (49 + 7 * g) (by omega), h (52 + 7 * g) (by omega), h 2 (by omega), lk_oth h]
  generalize wnx (f 0) (f (47 + 7 * g)) (f (48 + 7 * g)) = X
  by_cases q : 0 ≤ X
  · rw [h (11 + X).toNat (by omega)]
  · have e1 : ¬ (0 ≤ X ∧ X < 36 ∧ f' (11 + X).toNat ≠ 0) := fun y => q y.1
    have e2 : ¬ (0 ≤ X ∧ X < 36 ∧ f (11 + X).toNat ≠ 0) := fun y => q y.1
    rw [if_neg e1, if_neg e2]
theorem lk_wgo (h : lk L f f') : lk L (wgo f g) (wgo f' g) := by
  unfold wgo
  rw [h 0 (by omega), h (47 + 7 * g) (by omega), h (48 + 7 * g) (by omega), h (52 + 7 * g) (by omega), h (7 + (f (48 + 7 * g)).toNat) (by omega), h (11 + (wnx (f 0) (f (47 + 7 * g)) (f (48 + 7 * g))).toNat) (by omega)]
  split
  · exact lk_up (lk_up (lk_up (lk_up (lk_up h))))
  · split
    · exact h
    · exact lk_up h
theorem lk_wci (h : lk L f f') (b : f (48 + 7 * g) ≤ L) (b0 : 0 ≤ f (48 + 7 * g)) : lk L (wci f g) (wci f' g) := by
  unfold wci
  rw [h 0 (by omega), h (48 + 7 * g) (by omega), h (53 + 7 * g) (by omega), h (3 + (f (48 + 7 * g)).toNat) (by omega), h (11 + (wca (f 0) (f (3 + (f (48 + 7 * g)).toNat)) (f (53 + 7 * g))).toNat) (by omega)]
  split
  · exact h
  · exact lk_up (lk_up (lk_up h))
theorem lk_wbo (h : lk L f f') (b0 : 0 ≤ f (48 + 7 * g)) (b : wbl l f g ≤ L) : lk L (wbo f g) (wbo f' g) ∧ wbl l f' g = wbl l f g := by
  unfold wbl at b
  refine ⟨?_, ?_⟩
  · unfold wbo
    rw [h (49 + 7 * g) (by omega), h (51 + 7 * g) (by omega)]
    by_cases z : f (49 + 7 * g) = 0
    · rw [if_pos z, if_pos z]; exact lk_up (lk_up h)
    · rw [if_neg z, if_neg z]
      rw [if_neg z] at b
      by_cases y : 0 < f (51 + 7 * g)
      · rw [if_pos y, if_pos y]; exact lk_up (lk_up h)
      · rw [if_neg y, if_neg y]
        rw [if_neg y] at b
        refine lk_wci (lk_up h) ?_ ?_
        · rw [fup_n (by omega)]; split at b <;> omega
        · rw [fup_n (by omega)]; exact b0
  · unfold wbl
    rw [h (49 + 7 * g) (by omega), h (51 + 7 * g) (by omega), h (48 + 7 * g) (by omega)]
theorem wbl_ge : l ≤ wbl l f g := by
  unfold wbl
  split
  · omega
  · split
    · omega
    · split <;> omega
theorem lk_ps1 (h : lk L f f') (ho : wok f G) (hg : g < G) (b : (if f (50 + 7 * g) = 1 then wbl l f g else l) ≤ L) : lk L (ps1 Q G g f) (ps1 Q G g f') ∧ (if f' (50 + 7 * g) = 1 then wbl l f' g else l) = (if f (50 + 7 * g) = 1 then wbl l f g else l) := by
  have gk := ho.2.2.2.2.2.2 g hg
  unfold gok at gk
  unfold ps1
  rw [h (50 + 7 * g) (by omega), h (48 + 7 * g) (by omega), lk_wwd h]
  by_cases z : f (50 + 7 * g) = 0
  · have z1 : ¬ f (50 + 7 * g) = 1 := by omega
    rw [if_pos z, if_pos z, if_neg z1, if_neg z1]
    exact ⟨lk_wgo (lk_up h), rfl⟩
  · rw [if_neg z, if_neg z]
    by_cases z1 : f (50 + 7 * g) = 1
    · rw [if_pos z1, if_pos z1, if_pos z1, if_pos z1]
      rw [if_pos z1] at b
      exact lk_wbo h gk.1.1 b
    · rw [if_neg z1, if_neg z1, if_neg z1, if_neg z1]
      exact ⟨h, rfl⟩
theorem plR_ge : ∀ (n k : Nat) (f : Nat → Int) (l : Int), l ≤ plR Q G n k f l
  | 0, _, _, _ => Int.le_refl _
  | n + 1, k, f, l => by
    rw [plR]
    refine Int.le_trans ?_ (plR_ge n (k + 1) _ _)
    split
    · exact wbl_ge
    · exact Int.le_refl _
theorem plR_le (hQ : ∀ u, 0 ≤ Q u ∧ Q u ≤ 3) : ∀ (n k : Nat) (f : Nat → Int) (l : Int), k + n ≤ G → wok f G → l ≤ 3 → plR Q G n k f l ≤ 3
  | 0, _, _, _, _, _, h => h
  | n + 1, k, f, l, hk, ho, h => by
    rw [plR]
    have gk := ho.2.2.2.2.2.2 k (by omega)
    unfold gok at gk
    refine plR_le hQ n (k + 1) _ _ (by omega) (ps1_ok hQ ho (by omega)) ?_
    split
    · unfold wbl
      split
      · omega
      · split
        · omega
        · split <;> omega
    · exact h
theorem lk_psR (hQ : ∀ u, 0 ≤ Q u ∧ Q u ≤ 3) : ∀ (n k : Nat) (f f' : Nat → Int) (l : Int), k + n ≤ G → wok f G → lk L f f' → plR Q G n k f l ≤ L → lk L (psR Q G n k f) (psR Q G n k f') ∧ plR Q G n k f' l = plR Q G n k f l
  | 0, _, _, _, _, _, _, h, _ => ⟨h, rfl⟩
  | n + 1, k, f, f', l, hk, ho, h, b => by
    rw [plR] at b
    have b1 := Int.le_trans (plR_ge n (k + 1) (ps1 Q G k f) _) b
    have s := lk_ps1 (Q := Q) h ho (show k < G by omega) b1
    have i := lk_psR hQ n (k + 1) (ps1 Q G k f) (ps1 Q G k f') (if f (50 + 7 * k) = 1 then wbl l f k else l) (by omega) (ps1_ok hQ ho (by omega)) s.1 b
    refine ⟨i.1, ?_⟩
    rw [plR, plR, s.2]
    exact i.2
theorem lk_psa (hQ : ∀ u, 0 ≤ Q u ∧ Q u ≤ 3) (ho : wok f G) (h : lk L f f') (b : plR Q G G 0 f l ≤ L) : lk L (psa Q G f) (psa Q G f') ∧ plR Q G G 0 f' l = plR Q G G 0 f l := by
  have i := lk_psR (L := L) hQ G 0 f f' l (by omega) ho h b
  refine ⟨?_, i.2⟩
  unfold psa
  rw [i.1 2 (by omega)]
  exact lk_up i.1
theorem lk_hat {st : Int} (h : lk L f f') : ∀ n k, hat st fs fg fc f' n k = hat st fs fg fc f n k
  | 0, _ => rfl
  | n + 1, k => by rw [hat, hat, lk_hat h n (k + 1), h (47 + 7 * (fg k).toNat) (by omega)]
theorem hfS_ge : ∀ (n : Nat) (st : Int) (x : (Nat → Int) × Int), x.2 ≤ (hfS Q G Z fs fg fc n st x).2.2
  | 0, _, _ => Int.le_refl _
  | n + 1, st, x => by
    rw [hfS]
    split
    · split
      · exact Int.le_refl _
      · exact Int.le_trans (plR_ge G 0 x.1 x.2) (hfS_ge n (st + 1) (psa Q G x.1, plR Q G G 0 x.1 x.2))
    · exact Int.le_refl _
theorem hfS_le (hQ : ∀ u, 0 ≤ Q u ∧ Q u ≤ 3) : ∀ (n : Nat) (st : Int) (x : (Nat → Int) × Int), wok x.1 G → x.2 ≤ 3 → (hfS Q G Z fs fg fc n st x).2.2 ≤ 3
  | 0, _, _, _, h => h
  | n + 1, st, x, ho, h => by
    rw [hfS]
    split
    · split
      · exact h
      · exact hfS_le hQ n (st + 1) (psa Q G x.1, plR Q G G 0 x.1 x.2) (psa_ok hQ ho) (plR_le hQ G 0 x.1 x.2 (by omega) ho h)
    · exact h
theorem lk_hfS (hQ : ∀ u, 0 ≤ Q u ∧ Q u ≤ 3) : ∀ (n : Nat) (st : Int) (x y : (Nat → Int) × Int), wok x.1 G → lk L x.1 y.1 → y.2 = x.2 → (hfS Q G Z fs fg fc n st x).2.2 ≤ L → (hfS Q G Z fs fg fc n st y).1 = (hfS Q G Z fs fg fc n st x).1
  | 0, _, _, _, _, _, _, _ => rfl
  | n + 1, st, x, y, ho, h, e, b => by
    rw [hfS] at b
    rw [hfS, hfS, lk_hat h]
    by_cases z : hat st fs fg fc x.1 Z 0 = true
    · rw [if_pos z] at b
      rw [if_pos z, if_pos z]
      by_cases q : n = 0
      · rw [if_pos q, if_pos q]
      · rw [if_neg q] at b
        rw [if_neg q, if_neg q]
        have b1 := Int.le_trans (hfS_ge n (st + 1) (psa Q G x.1, plR Q G G 0 x.1 x.2)) b
        have s := lk_psa (L := L) (l := x.2) hQ ho h b1
        exact lk_hfS hQ n (st + 1) (psa Q G x.1, plR Q G G 0 x.1 x.2) (psa Q G y.1, plR Q G G 0 y.1 y.2) (psa_ok hQ ho) s.1 (by rw [e]; exact s.2) b
    · rw [if_neg z, if_neg z]
end LK
/-! foldings -/
def ldI (c e : Nat) : Nat := c / 4 ^ (3 - e) % 4
theorem ld_dec : ∀ c : Fin 256, ∀ e : Fin 4, q2 (· &&& ·) (q2 qshr (c.val : Int) (2 * (3 - (e.val : Int)))) 3 = (ldI c.val e.val : Int) := by decide +kernel
theorem bl_dec : ∀ c : Fin 256, ∀ m : Fin 5, q2 qshl (i32 (q2 qshr (c.val : Int) (2 * (m.val : Int)) + 1)) (2 * (m.val : Int)) = (((c.val / 4 ^ m.val + 1) * 4 ^ m.val : Nat) : Int) := by decide +kernel
theorem ld_q {c e : Nat} (hc : c < 256) (he : e < 4) : q2 (· &&& ·) (q2 qshr (c : Int) (2 * (3 - (e : Int)))) 3 = (ldI c e : Int) := ld_dec ⟨c, hc⟩ ⟨e, he⟩
theorem bl_q {c m : Nat} (hc : c < 256) (hm : m < 5) : q2 qshl (i32 (q2 qshr (c : Int) (2 * (m : Int)) + 1)) (2 * (m : Int)) = (((c / 4 ^ m + 1) * 4 ^ m : Nat) : Int) := bl_dec ⟨c, hc⟩ ⟨m, hm⟩
theorem ldI_b {c e : Nat} : 0 ≤ (ldI c e : Int) ∧ (ldI c e : Int) ≤ 3 := by unfold ldI; omega
theorem ldI_k {c d e m : Nat} (hm : m < 5) (h : d / 4 ^ m = c / 4 ^ m) (he : e + m ≤ 3) : ldI d e = ldI c e := by
  unfold ldI
  have e1 : 4 ^ (3 - e) = 4 ^ m * 4 ^ (3 - e - m) := by rw [← Nat.pow_add]; congr 1; omega
  rw [e1, ← Nat.div_div_eq_div_mul, ← Nat.div_div_eq_div_mul, h]
theorem bl_k {c d m : Nat} (h1 : c ≤ d) (h2 : d < (c / 4 ^ m + 1) * 4 ^ m) : d / 4 ^ m = c / 4 ^ m := by
  have p : 0 < 4 ^ m := Nat.pow_pos (by omega)
  have a := Nat.div_le_div_right (c := 4 ^ m) h1
  have b : d / 4 ^ m < c / 4 ^ m + 1 := (Nat.div_lt_iff_lt_mul p).mpr h2
  omega
theorem bl_gt {c m : Nat} : c < (c / 4 ^ m + 1) * 4 ^ m := by
  have p : 0 < 4 ^ m := Nat.pow_pos (by omega)
  exact (Nat.div_lt_iff_lt_mul p).mp (by omega)
theorem bl_le {c m : Nat} (hc : c < 256) (hm : m < 5) : (c / 4 ^ m + 1) * 4 ^ m ≤ 256 := by
  have : m = 0 ∨ m = 1 ∨ m = 2 ∨ m = 3 ∨ m = 4 := by omega
  rcases this with rfl | rfl | rfl | rfl | rfl <;> simp only [Nat.reducePow] <;> omega
/-- a row folded so -/
def tlR (t : Nat → Int) (c : Nat) : Nat → Int := fup (fup (fup (fup t 3 (ldI c 0 : Int)) 4 (ldI c 1 : Int)) 5 (ldI c 2 : Int)) 6 (ldI c 3 : Int)
theorem tlR_ok {t : Nat → Int} {G c : Nat} (h : wok t G) : wok (tlR t c) G := wok_ld (c := 3) (wok_ld (c := 2) (wok_ld (c := 1) (wok_ld (c := 0) h (by omega) ldI_b) (by omega) ldI_b) (by omega) ldI_b) (by omega) ldI_b
theorem tlR_cn {t : Nat → Int} {c : Nat} (h : cn 82 t) : cn 82 (tlR t c) := cn_up (cn_up (cn_up (cn_up h (by omega)) (by omega)) (by omega)) (by omega)
theorem tlR_lk {t : Nat → Int} {c d m : Nat} (hm : m < 5) (h : d / 4 ^ m = c / 4 ^ m) : lk (3 - (m : Int)) (tlR t c) (tlR t d) := by
  intro j hj
  unfold tlR
  by_cases j3 : j = 3
  · subst j3; simp (disch := omega) only [fup_s, fup_n]; rw [ldI_k (e := 0) hm h (by omega)]
  · by_cases j4 : j = 4
    · subst j4; simp (disch := omega) only [fup_s, fup_n]; rw [ldI_k (e := 1) hm h (by omega)]
    · by_cases j5 : j = 5
      · subst j5; simp (disch := omega) only [fup_s, fup_n]; rw [ldI_k (e := 2) hm h (by omega)]
      · by_cases j6 : j = 6
        · subst j6; simp (disch := omega) only [fup_s, fup_n]; rw [ldI_k (e := 3) hm h (by omega)]
        · simp (disch := omega) only [fup_n]
/-- what holds for a folding holds for all alike -/
theorem fold_alike {Q : (Int → Int) → Int} {G Z c d m : Nat} {t fs fg fc : Nat → Int} (hQ : ∀ u, 0 ≤ Q u ∧ Q u ≤ 3) (ht : wok t G) (hb : ∀ j, j < Z → 0 ≤ fs j ∧ fs j ≤ 60) (hm : m < 5) (hl : (hfS Q G Z fs fg fc (nlast fs Z 0 (-1) + 1).toNat 0 (tlR t c, -1)).2.2 = 3 - (m : Int)) (h : d / 4 ^ m = c / 4 ^ m) : alS Q G Z fs fg fc 61 0 (tlR t d) = alS Q G Z fs fg fc 61 0 (tlR t c) := by
  rw [← alS_61 hb, ← alS_61 hb]
  have k := lk_hfS (L := 3 - (m : Int)) (Q := Q) (G := G) (Z := Z) (fs := fs) (fg := fg) (fc := fc) hQ (nlast fs Z 0 (-1) + 1).toNat 0 (tlR t c, -1) (tlR t d, -1) (tlR_ok ht) (tlR_lk hm h) rfl (Int.le_of_eq hl)
  rw [hfS_1, hfS_1] at k
  simp only at k
  generalize alS Q G Z fs fg fc (nlast fs Z 0 (-1) + 1).toNat 0 (tlR t d) = x at *
  generalize alS Q G Z fs fg fc (nlast fs Z 0 (-1) + 1).toNat 0 (tlR t c) = y at *
  cases x <;> cases y <;> simp_all
