/-! words, in the model and in the class -/
def pk (b : Nat → Int) (s : Int) : Nat → Nat
  | 0 => 0
  | n + 1 => pk b s n * 256 + (b (s + n).toNat).toNat
theorem pk_b {b : Nat → Int} {s : Int} (hb : ∀ j, 0 ≤ b j ∧ b j ≤ 255) : ∀ n, pk b s n < 256 ^ n
  | 0 => by rw [pk]; omega
  | n + 1 => by
    have := pk_b (s := s) hb n
    have := hb (s + n).toNat
    rw [pk, Nat.pow_succ]
    omega
theorem q4_orB {a b : Nat} (ha : a < 4611686018427387904) (hb : b < 4611686018427387904) : q4 (· ||| ·) (a : Int) (b : Int) = ((a ||| b : Nat) : Int) := by
  have l : a ||| b < 2 ^ 62 := Nat.or_lt_two_pow (by omega) (by omega)
  show (Int64.ofInt (a : Int) ||| Int64.ofInt (b : Int)).toBitVec.toInt = _
  refine bi64 ?_ (by omega)
  rw [Int64.toBitVec_or, BitVec.toNat_or, nb64 (by omega), nb64 (by omega)]
theorem q_lshl8 {a : Nat} (ha : a < 281474976710656) : q42 qlshl (a : Int) 8 = ((a * 256 : Nat) : Int) := by
  have hs : (Int32.ofInt 8).toInt64 &&& 63 = 8 := by decide +kernel
  show (Int64.ofInt (a : Int) <<< ((Int32.ofInt 8).toInt64 &&& 63)).toBitVec.toInt = _
  have h8 : (8 : Int64).toBitVec.smod 64 = 8#64 := by decide +kernel
  rw [hs, Int64.toBitVec_shiftLeft, h8]
  refine bi64 ?_ (by omega)
  rw [BitVec.shiftLeft_eq', BitVec.toNat_shiftLeft, nb64 (by omega)]
  show a <<< 8 % 2 ^ 64 = a * 256
  rw [Nat.shiftLeft_eq]
  omega
theorem or_8 {a x : Nat} (hx : x < 256) : a * 256 ||| x = a * 256 + x := by
  have := Nat.shiftLeft_add_eq_or_of_lt (i := 8) (b := x) (by omega) a
  rw [Nat.shiftLeft_eq] at this
  exact this.symm
/-- the word here is w -/
def wdH (b : Nat → Int) (L s w : Int) : Bool := decide (0 < wde b L s - s ∧ wde b L s - s < 8 ∧ (pk b s (wde b L s - s).toNat : Int) = w)
section MW
variable {A F : Nat → Nat → Int} {E : zE} {b : Nat → Int} {L p : Int}
theorem m_iw_l {w s : Int} (tm : TM A F b L) (h8 : F 103 8 = s) (s0 : 0 ≤ s) : ∀ (n k : Nat) (v : Int), s + k + n = L → (k ≤ 7 → v = (pk b s k : Int)) → ∃ v', rn mX11_isWord 10 [vr 103, vl w, vs, vl v, vs, vi (k : Int)] [] (HP A F E) = rn mX11_isWord 56 [vr 103, vl w, vs, vl v', vs, vi (rdw b n (s + k) - s)] [] (HP A F E) ∧ (rdw b n (s + k) - s ≤ 7 → v' = (pk b s (rdw b n (s + k) - s).toNat : Int)) := by
  obtain ⟨t1, t2, t3, t4⟩ := id tm
  intro n
  induction n with
  | zero =>
    intro k v hk hv
    have il := m_isLetter (E := E) (k := s + k) tm (by omega)
    rw [byt_out (by omega), if_neg (by decide)] at il
    refine ⟨v, ?_, fun q => ?_⟩
    · rw [rdw, sX11_isWord_10, show s + (k : Int) - s = k by omega]
      simp (disch := omega) only [eX11_isWord, sX11_isWord_0, sX11_isWord_1, sX11_isWord_4, sX11_isWord_5, sX11_isWord_6, sX11_isWord_7, sX11_isWord_8, sX11_isWord_11, sX11_isWord_12, sX11_isWord_15, sX11_isWord_17, sX11_isWord_18, sX11_isWord_21, sX11_isWord_24, sX11_isWord_26, sX11_isWord_28, sX11_isWord_31, sX11_isWord_32, sX11_isWord_34, sX11_isWord_35, sX11_isWord_36, sX11_isWord_39, sX11_isWord_40, sX11_isWord_43, sX11_isWord_45, sX11_isWord_46, sX11_isWord_47, sX11_isWord_48, sX11_isWord_49, sX11_isWord_50, sX11_isWord_53, sX11_isWord_58, sX11_isWord_61, sX11_isWord_63, sX11_isWord_65, sX11_isWord_68, sX11_isWord_69, sX11_isWord_70, sX11_isWord_71, sX11_isWord_74, sX11_isWord_75, sX11_isWord_78, sX11_isWord_79, ↓hk103, ↓hf103_8, h8, i32_of, ↓bndi_at il, ↓if_pos]
    · rw [rdw] at q ⊢
      rw [show s + (k : Int) - s = k by omega, Int.toNat_natCast]
      exact hv (by omega)
  | succ n ih =>
    intro k v hk hv
    have il := m_isLetter (E := E) (k := s + k) tm (by omega)
    rw [byt_in (by omega) (by omega)] at il
    rw [rdw, sX11_isWord_10]
    by_cases q : ltr (b (s + k).toNat) = true
    · have lq : 97 ≤ b (s + k).toNat ∧ b (s + k).toNat ≤ 122 := of_decide_eq_true q
      have bv : A 104 (s + k).toNat = b (s + k).toNat := by rw [t4 _ (by omega)]; unfold sby; rw [if_pos (by omega)]
      rw [if_pos q] at il
      simp only [if_pos q]
      by_cases y : k < 8
      · obtain ⟨v', u1, u2⟩ := ih (k + 1) (q4 (· ||| ·) (q42 qlshl v 8) (b (s + k).toNat)) (by omega) (fun k7 => by
          have hv' := hv (by omega)
          have pb := pk_b (s := s) t3 k
          have pb6 : 256 ^ k ≤ 256 ^ 6 := Nat.pow_le_pow_right (by omega) (by omega)
          rw [hv', q_lshl8 (by omega), show b (s + k).toNat = (((b (s + k).toNat).toNat : Nat) : Int) by omega, q4_orB (by omega) (by omega), or_8 (by omega), pk])
        rw [show s + ((k + 1 : Nat) : Int) = s + k + 1 by omega] at u1 u2
        refine ⟨v', ?_, u2⟩
        rw [← u1]
        simp (disch := omega) only [eX11_isWord, sX11_isWord_0, sX11_isWord_1, sX11_isWord_4, sX11_isWord_5, sX11_isWord_6, sX11_isWord_7, sX11_isWord_8, sX11_isWord_11, sX11_isWord_12, sX11_isWord_15, sX11_isWord_17, sX11_isWord_18, sX11_isWord_21, sX11_isWord_24, sX11_isWord_26, sX11_isWord_28, sX11_isWord_31, sX11_isWord_32, sX11_isWord_34, sX11_isWord_35, sX11_isWord_36, sX11_isWord_39, sX11_isWord_40, sX11_isWord_43, sX11_isWord_45, sX11_isWord_46, sX11_isWord_47, sX11_isWord_48, sX11_isWord_49, sX11_isWord_50, sX11_isWord_53, sX11_isWord_58, sX11_isWord_61, sX11_isWord_63, sX11_isWord_65, sX11_isWord_68, sX11_isWord_69, sX11_isWord_70, sX11_isWord_71, sX11_isWord_74, sX11_isWord_75, sX11_isWord_78, sX11_isWord_79, ↓hk103, ↓hf103_8, ↓hf103_0, ↓hg104, h8, bv, i32_of, ↓bndi_at il, ↓if_pos, ↓if_neg]
        rfl
      · obtain ⟨v', u1, u2⟩ := ih (k + 1) v (by omega) (fun k7 => by omega)
        rw [show s + ((k + 1 : Nat) : Int) = s + k + 1 by omega] at u1 u2
        refine ⟨v', ?_, u2⟩
        rw [← u1]
        simp (disch := omega) only [eX11_isWord, sX11_isWord_0, sX11_isWord_1, sX11_isWord_4, sX11_isWord_5, sX11_isWord_6, sX11_isWord_7, sX11_isWord_8, sX11_isWord_11, sX11_isWord_12, sX11_isWord_15, sX11_isWord_17, sX11_isWord_18, sX11_isWord_21, sX11_isWord_24, sX11_isWord_26, sX11_isWord_28, sX11_isWord_31, sX11_isWord_32, sX11_isWord_34, sX11_isWord_35, sX11_isWord_36, sX11_isWord_39, sX11_isWord_40, sX11_isWord_43, sX11_isWord_45, sX11_isWord_46, sX11_isWord_47, sX11_isWord_48, sX11_isWord_49, sX11_isWord_50, sX11_isWord_53, sX11_isWord_58, sX11_isWord_61, sX11_isWord_63, sX11_isWord_65, sX11_isWord_68, sX11_isWord_69, sX11_isWord_70, sX11_isWord_71, sX11_isWord_74, sX11_isWord_75, sX11_isWord_78, sX11_isWord_79, ↓hk103, ↓hf103_8, h8, i32_of, ↓bndi_at il, ↓if_pos, ↓if_neg]
        rfl
    · rw [if_neg q] at il
      simp only [if_neg q]
      refine ⟨v, ?_, fun y => ?_⟩
      · rw [show s + (k : Int) - s = k by omega]
        simp (disch := omega) only [eX11_isWord, sX11_isWord_0, sX11_isWord_1, sX11_isWord_4, sX11_isWord_5, sX11_isWord_6, sX11_isWord_7, sX11_isWord_8, sX11_isWord_11, sX11_isWord_12, sX11_isWord_15, sX11_isWord_17, sX11_isWord_18, sX11_isWord_21, sX11_isWord_24, sX11_isWord_26, sX11_isWord_28, sX11_isWord_31, sX11_isWord_32, sX11_isWord_34, sX11_isWord_35, sX11_isWord_36, sX11_isWord_39, sX11_isWord_40, sX11_isWord_43, sX11_isWord_45, sX11_isWord_46, sX11_isWord_47, sX11_isWord_48, sX11_isWord_49, sX11_isWord_50, sX11_isWord_53, sX11_isWord_58, sX11_isWord_61, sX11_isWord_63, sX11_isWord_65, sX11_isWord_68, sX11_isWord_69, sX11_isWord_70, sX11_isWord_71, sX11_isWord_74, sX11_isWord_75, sX11_isWord_78, sX11_isWord_79, ↓hk103, ↓hf103_8, h8, i32_of, ↓bndi_at il, ↓if_pos]
      · rw [show s + (k : Int) - s = k by omega, Int.toNat_natCast]
        exact hv (by omega)
theorem m_isWord {w : Int} (tm : TM A F b L) (h8 : F 103 8 = p) (h0 : 0 ≤ p) (h1 : p ≤ L) : cl mX11_isWord [vr 103, vl w] (HP A F E) = some (vi (if wdH b L (sk b L p) w then 1 else 0), HP A (fF F 8 (sk b L p)) E) := by
  have kb := sk_b (b := b) h1
  have L4 := tm.2.1
  have se := m_see (E := E) tm h8 h0 h1
  generalize hs : sk b L p = s at *
  have tm1 : TM A (fF F 8 s) b L := TM_f tm (by omega)
  have e8 : fF F 8 s 103 8 = s := fF_s
  obtain ⟨v', u1, u2⟩ := m_iw_l (E := E) (w := w) tm1 e8 (by omega) (L - s).toNat 0 0 (by omega) (fun _ => rfl)
  have z0 : s + ((0 : Nat) : Int) = s := by omega
  rw [z0, show rdw b (L - s).toNat s = wde b L s from rfl] at u1 u2
  have u1' : rn mX11_isWord 10 [vr 103, vl w, vs, vl 0, vs, vi 0] [] (HP A (fF F 8 s) E) = _ := u1
  have wb := wde_b (b := b) (L := L) (p := s) (by omega)
  unfold wdH
  generalize wde b L s = e at *
  simp (disch := omega) only [eX11_isWord, sX11_isWord_0, sX11_isWord_1, sX11_isWord_4, sX11_isWord_5, sX11_isWord_6, sX11_isWord_7, sX11_isWord_8, sX11_isWord_11, sX11_isWord_12, sX11_isWord_15, sX11_isWord_17, sX11_isWord_18, sX11_isWord_21, sX11_isWord_24, sX11_isWord_26, sX11_isWord_28, sX11_isWord_31, sX11_isWord_32, sX11_isWord_34, sX11_isWord_35, sX11_isWord_36, sX11_isWord_39, sX11_isWord_40, sX11_isWord_43, sX11_isWord_45, sX11_isWord_46, sX11_isWord_47, sX11_isWord_48, sX11_isWord_49, sX11_isWord_50, sX11_isWord_53, sX11_isWord_58, sX11_isWord_61, sX11_isWord_63, sX11_isWord_65, sX11_isWord_68, sX11_isWord_69, sX11_isWord_70, sX11_isWord_71, sX11_isWord_74, sX11_isWord_75, sX11_isWord_78, sX11_isWord_79, ↓hk103, ↓bndi_at se]
  rw [u1']
  by_cases y : 0 < e - s
  · by_cases y2 : e - s < 8
    · have y3 := u2 (by omega)
      by_cases y4 : (pk b s (e - s).toNat : Int) = w
      · rw [if_pos (decide_eq_true ⟨y, y2, y4⟩)]
        rw [y4] at y3
        simp (disch := omega) only [eX11_isWord, sX11_isWord_0, sX11_isWord_1, sX11_isWord_4, sX11_isWord_5, sX11_isWord_6, sX11_isWord_7, sX11_isWord_8, sX11_isWord_11, sX11_isWord_12, sX11_isWord_15, sX11_isWord_17, sX11_isWord_18, sX11_isWord_21, sX11_isWord_24, sX11_isWord_26, sX11_isWord_28, sX11_isWord_31, sX11_isWord_32, sX11_isWord_34, sX11_isWord_35, sX11_isWord_36, sX11_isWord_39, sX11_isWord_40, sX11_isWord_43, sX11_isWord_45, sX11_isWord_46, sX11_isWord_47, sX11_isWord_48, sX11_isWord_49, sX11_isWord_50, sX11_isWord_53, sX11_isWord_56, sX11_isWord_58, sX11_isWord_61, sX11_isWord_63, sX11_isWord_65, sX11_isWord_68, sX11_isWord_69, sX11_isWord_70, sX11_isWord_71, sX11_isWord_74, sX11_isWord_75, sX11_isWord_78, sX11_isWord_79, y3, lcm_eq, ↓if_pos, ↓if_neg, ↓reduceIte, or_true, not_true_eq_false]
      · rw [if_neg (show ¬ decide (0 < e - s ∧ e - s < 8 ∧ (pk b s (e - s).toNat : Int) = w) = true from fun q => y4 (of_decide_eq_true q).2.2)]
        rw [← y3] at y4
        simp (disch := omega) only [eX11_isWord, sX11_isWord_0, sX11_isWord_1, sX11_isWord_4, sX11_isWord_5, sX11_isWord_6, sX11_isWord_7, sX11_isWord_8, sX11_isWord_11, sX11_isWord_12, sX11_isWord_15, sX11_isWord_17, sX11_isWord_18, sX11_isWord_21, sX11_isWord_24, sX11_isWord_26, sX11_isWord_28, sX11_isWord_31, sX11_isWord_32, sX11_isWord_34, sX11_isWord_35, sX11_isWord_36, sX11_isWord_39, sX11_isWord_40, sX11_isWord_43, sX11_isWord_45, sX11_isWord_46, sX11_isWord_47, sX11_isWord_48, sX11_isWord_49, sX11_isWord_50, sX11_isWord_53, sX11_isWord_56, sX11_isWord_58, sX11_isWord_61, sX11_isWord_63, sX11_isWord_65, sX11_isWord_68, sX11_isWord_69, sX11_isWord_70, sX11_isWord_71, sX11_isWord_74, sX11_isWord_75, sX11_isWord_78, sX11_isWord_79, lcm_eq, y4, ↓if_pos, ↓if_neg, ↓reduceIte, true_or, not_false_eq_true]
    · rw [if_neg (show ¬ decide (0 < e - s ∧ e - s < 8 ∧ (pk b s (e - s).toNat : Int) = w) = true from fun q => y2 (of_decide_eq_true q).2.1)]
      simp (disch := omega) only [eX11_isWord, sX11_isWord_0, sX11_isWord_1, sX11_isWord_4, sX11_isWord_5, sX11_isWord_6, sX11_isWord_7, sX11_isWord_8, sX11_isWord_11, sX11_isWord_12, sX11_isWord_15, sX11_isWord_17, sX11_isWord_18, sX11_isWord_21, sX11_isWord_24, sX11_isWord_26, sX11_isWord_28, sX11_isWord_31, sX11_isWord_32, sX11_isWord_34, sX11_isWord_35, sX11_isWord_36, sX11_isWord_39, sX11_isWord_40, sX11_isWord_43, sX11_isWord_45, sX11_isWord_46, sX11_isWord_47, sX11_isWord_48, sX11_isWord_49, sX11_isWord_50, sX11_isWord_53, sX11_isWord_56, sX11_isWord_58, sX11_isWord_61, sX11_isWord_63, sX11_isWord_65, sX11_isWord_68, sX11_isWord_69, sX11_isWord_70, sX11_isWord_71, sX11_isWord_74, sX11_isWord_75, sX11_isWord_78, sX11_isWord_79, ↓if_pos, ↓if_neg, ↓reduceIte, true_or]
  · rw [if_neg (show ¬ decide (0 < e - s ∧ e - s < 8 ∧ (pk b s (e - s).toNat : Int) = w) = true from fun q => y (of_decide_eq_true q).1)]
    simp (disch := omega) only [eX11_isWord, sX11_isWord_0, sX11_isWord_1, sX11_isWord_4, sX11_isWord_5, sX11_isWord_6, sX11_isWord_7, sX11_isWord_8, sX11_isWord_11, sX11_isWord_12, sX11_isWord_15, sX11_isWord_17, sX11_isWord_18, sX11_isWord_21, sX11_isWord_24, sX11_isWord_26, sX11_isWord_28, sX11_isWord_31, sX11_isWord_32, sX11_isWord_34, sX11_isWord_35, sX11_isWord_36, sX11_isWord_39, sX11_isWord_40, sX11_isWord_43, sX11_isWord_45, sX11_isWord_46, sX11_isWord_47, sX11_isWord_48, sX11_isWord_49, sX11_isWord_50, sX11_isWord_53, sX11_isWord_56, sX11_isWord_58, sX11_isWord_61, sX11_isWord_63, sX11_isWord_65, sX11_isWord_68, sX11_isWord_69, sX11_isWord_70, sX11_isWord_71, sX11_isWord_74, sX11_isWord_75, sX11_isWord_78, sX11_isWord_79, ↓if_pos, ↓if_neg, ↓reduceIte, true_or]
end MW
/-! a word of the pool against the word here -/
/-- letters to a number, of the pool -/
def pkc (c : Nat → Int) (fr : Nat) : Nat → Nat
  | 0 => 0
  | n + 1 => pkc c fr n * 256 + (c (fr + n)).toNat
theorem pk_inj {b c : Nat → Int} {s : Int} {fr : Nat} : ∀ n m : Nat, (∀ i, i < n → 97 ≤ b (s + i).toNat ∧ b (s + i).toNat ≤ 122) → (∀ i, i < m → 97 ≤ c (fr + i) ∧ c (fr + i) ≤ 122) → pk b s n = pkc c fr m → n = m ∧ ∀ i, i < n → b (s + i).toNat = c (fr + i)
  | 0, 0, _, _, _ => ⟨rfl, fun i hi => by omega⟩
  | 0, m + 1, _, hc, e => by
    have := hc m (by omega)
    rw [pk, pkc] at e
    omega
  | n + 1, 0, hb, _, e => by
    have := hb n (by omega)
    rw [pk, pkc] at e
    omega
  | n + 1, m + 1, hb, hc, e => by
    have h1 := hb n (by omega)
    have h2 := hc m (by omega)
    rw [pk, pkc] at e
    have i := pk_inj n m (fun i hi => hb i (by omega)) (fun i hi => hc i (by omega)) (by omega)
    refine ⟨by omega, fun j hj => ?_⟩
    by_cases q : j = n
    · subst q
      have : j = m := i.1
      rw [← this] at h2 e
      omega
    · exact i.2 j (by omega)
theorem pk_eqc {b c : Nat → Int} {s : Int} {fr : Nat} : ∀ n : Nat, (∀ i, i < n → b (s + i).toNat = c (fr + i)) → pk b s n = pkc c fr n
  | 0, _ => rfl
  | n + 1, h => by rw [pk, pkc, pk_eqc n (fun i hi => h i (by omega)), h n (by omega)]
theorem isw_i {c f : Nat → Int} {s : Int} {fr : Nat} : ∀ (n i : Nat), isw c f s fr n i = true ↔ ∀ j, i ≤ j → j < i + n → c j = f (s + (j : Int) - fr).toNat
  | 0, i => ⟨fun _ j h1 h2 => by omega, fun _ => rfl⟩
  | n + 1, i => by
    rw [isw]
    by_cases q : c i = f (s + (i : Int) - fr).toNat
    · rw [if_pos q]
      have k := isw_i (c := c) (f := f) (s := s) (fr := fr) n (i + 1)
      constructor
      · intro h j h1 h2
        by_cases y : j = i
        · rw [y]; exact q
        · exact k.mp h j (by omega) (by omega)
      · intro h
        exact k.mpr (fun j h1 h2 => h j (by omega) (by omega))
    · rw [if_neg q]
      constructor
      · intro h; cases h
      · intro h; exact absurd (h i (by omega) (by omega)) q
theorem rdw_l {b : Nat → Int} : ∀ (n : Nat) (p : Int), ∀ j, p ≤ j → j < rdw b n p → ltr (b j.toNat) = true
  | 0, p, j, h1, h2 => by rw [rdw] at h2; omega
  | n + 1, p, j, h1, h2 => by
    rw [rdw] at h2
    by_cases q : ltr (b p.toNat) = true
    · rw [if_pos q] at h2
      by_cases y : j = p
      · rw [y]; exact q
      · exact rdw_l n (p + 1) j (by omega) h2
    · rw [if_neg q] at h2
      omega
theorem wdq_pk {b c : Nat → Int} {L s : Int} {fr to : Nat} (s0 : 0 ≤ s) (hl : s ≤ L) (h1 : fr < to) (h7 : to - fr < 8) (hc : ∀ i, i < to - fr → 97 ≤ c (fr + i) ∧ c (fr + i) ≤ 122) : wdq c b s (wde b L s) fr to = wdH b L s (pkc c fr (to - fr) : Int) := by
  have wb := wde_b (b := b) hl
  have wl : ∀ i : Nat, (i : Int) < wde b L s - s → 97 ≤ b (s + i).toNat ∧ b (s + i).toNat ≤ 122 := fun i hi => of_decide_eq_true (rdw_l (b := b) (L - s).toNat s (s + i) (by omega) (by unfold wde at hi; omega))
  unfold wdq wdH
  generalize wde b L s = e at *
  by_cases q : (to : Int) - (fr : Int) = e - s
  · rw [if_pos q]
    have en : (e - s).toNat = to - fr := by omega
    by_cases y : isw c b s fr (to - fr) fr = true
    · have z := (isw_i (c := c) (f := b) (s := s) (fr := fr) (to - fr) fr).mp y
      rw [y]
      symm
      refine decide_eq_true ⟨by omega, by omega, ?_⟩
      rw [en, pk_eqc (c := c) (fr := fr) (to - fr) (fun i hi => ?_)]
      have := z (fr + i) (by omega) (by omega)
      rw [this, show s + ((fr + i : Nat) : Int) - fr = s + i by omega]
    · have yf : isw c b s fr (to - fr) fr = false := by cases h : isw c b s fr (to - fr) fr <;> simp_all
      rw [yf]
      symm
      refine decide_eq_false (fun z => y ?_)
      rw [en] at z
      have i := pk_inj (c := c) (fr := fr) (b := b) (s := s) (to - fr) (to - fr) (fun i hi => wl i (by omega)) hc (by omega)
      refine (isw_i (c := c) (f := b) (s := s) (fr := fr) (to - fr) fr).mpr (fun j h1 h2 => ?_)
      have := i.2 (j - fr) (by omega)
      rw [show fr + (j - fr) = j by omega, show s + ((j - fr : Nat) : Int) = s + (j : Int) - fr by omega] at this
      exact this.symm
  · rw [if_neg q]
    symm
    refine decide_eq_false (fun z => q ?_)
    have i := pk_inj (c := c) (fr := fr) (b := b) (s := s) (e - s).toNat (to - fr) (fun i hi => wl i (by omega)) hc (by omega)
    omega
