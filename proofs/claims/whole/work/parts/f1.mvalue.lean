/-! the model reads a rule: signs put, values -/
/-- what the model's reading of sums leaves: rule t, signs from g on may be new -/
def pf0 (A F A' F' : Nat → Nat → Int) (t g : Nat) : Prop := (∀ j, j ≠ 105 → j ≠ 106 → A' j = A j) ∧ (∀ j, j ≠ 103 → F' j = F j) ∧ (∀ k, k ≠ 8 → k ≠ 9 → k ≠ 10 → k ≠ 12 → F' 103 k = F 103 k) ∧ (∀ j, (j < 400 * t + g ∨ 400 * t + 400 ≤ j) → A' 105 j = A 105 j) ∧ ∀ j, j ≠ t → A' 106 j = A 106 j
section PF
variable {A F A1 F1 A2 F2 : Nat → Nat → Int} {t g : Nat}
theorem pf0_r : pf0 A F A F t g := ⟨fun _ _ _ => rfl, fun _ _ => rfl, fun _ _ _ _ _ => rfl, fun _ _ => rfl, fun _ _ => rfl⟩
theorem pf0_t (h : pf0 A F A1 F1 t g) (k : pf0 A1 F1 A2 F2 t g) : pf0 A F A2 F2 t g := ⟨fun j a c => (k.1 j a c).trans (h.1 j a c), fun j a => (k.2.1 j a).trans (h.2.1 j a), fun j a c d e => (k.2.2.1 j a c d e).trans (h.2.2.1 j a c d e), fun j a => (k.2.2.2.1 j a).trans (h.2.2.2.1 j a), fun j a => (k.2.2.2.2 j a).trans (h.2.2.2.2 j a)⟩
theorem pf0_f {k : Nat} {v : Int} (hk : k = 8 ∨ k = 9 ∨ k = 10 ∨ k = 12) : pf0 A F A (fF F k v) t g := ⟨fun _ _ _ => rfl, fun j a => fF_o a, fun j a c d e => fF_n (by omega), fun _ _ => rfl, fun _ _ => rfl⟩
end PF
/-- the model's state while a rule is read: its place, its parts, its signs from g on (the last first) -/
def MS (A F : Nat → Nat → Int) (b : Nat → Int) (L : Int) (t g : Nat) (x : Int) (M : List Int) (v : Nat → Int) : Prop := TM A F b L ∧ plc F b L x ∧ F 103 9 = 0 ∧ F 103 11 = (t : Int) ∧ F 103 12 = v 6 ∧ A 106 t = (g : Int) + (M.length : Int) ∧ ∀ i, i < M.length → A 105 (400 * t + g + i) = enc (wat M i)
section MV
variable {A F : Nat → Nat → Int} {E : zE} {b v : Nat → Int} {L x : Int} {t g : Nat} {M : List Int}
theorem m_puts {s w o : Int} (h11 : F 103 11 = (t : Int)) (ht : t < 6) (hl : A 106 t = (g : Int) + (M.length : Int)) (h4 : g + M.length < 400) (hM : ∀ i, i < M.length → A 105 (400 * t + g + i) = enc (wat M i)) (s0 : 0 ≤ s ∧ s ≤ 15) (w0 : 0 ≤ w ∧ w ≤ 99999) (he : enc o = s + 16 * w) : ∃ A', cl mX11_puts [vr 103, vi s, vi w] (HP A F E) = some (vn, HP A' F E) ∧ pf0 A F A' F t g ∧ A' 106 t = (g : Int) + ((o :: M).length : Int) ∧ ∀ i, i < (o :: M).length → A' 105 (400 * t + g + i) = enc (wat (o :: M) i) := by
  have x1 : (400 * (t : Int) + ((g : Int) + (M.length : Int))).toNat = 400 * t + g + M.length := by omega
  refine ⟨aup (aup A 105 (fup (A 105) (400 * t + g + M.length) (s + 16 * w))) 106 (fup (A 106) t ((g : Int) + (M.length : Int) + 1)), ?_, ⟨fun j a c => by rw [aup_n c, aup_n a], fun _ _ => rfl, fun _ _ _ _ _ => rfl, fun j a => ?_, fun j a => ?_⟩, ?_, fun i hi => ?_⟩
  · simp (disch := omega) only [eX11_puts, sX11_puts_0, sX11_puts_1, sX11_puts_4, sX11_puts_7, sX11_puts_8, sX11_puts_11, sX11_puts_12, sX11_puts_13, sX11_puts_16, sX11_puts_17, sX11_puts_20, sX11_puts_21, sX11_puts_22, sX11_puts_23, sX11_puts_25, sX11_puts_26, sX11_puts_27, sX11_puts_28, sX11_puts_29, sX11_puts_30, sX11_puts_33, sX11_puts_34, sX11_puts_37, sX11_puts_38, sX11_puts_39, sX11_puts_40, sX11_puts_41, sX11_puts_42, ↓hf103_3, ↓hf103_4, ↓hf103_11, ↓hg106, ↓hs106, ↓hs105, h11, Int.toNat_natCast, aup_s, aup_n, aup_aup, hl, x1, i32_of]
  · rw [aup_n (by omega), aup_s, fup_n (by omega)]
  · rw [aup_s, fup_n a]
  · rw [aup_s, fup_s, List.length_cons]; omega
  · rw [aup_n (by omega), aup_s, wat]
    rw [List.length_cons] at hi
    by_cases q : i = M.length
    · rw [if_pos q, q, fup_s, he]
    · rw [if_neg q, fup_n (by omega)]; exact hM i (by omega)
theorem m_makes {at' : Int} (h9 : F 103 9 = 0) (h12 : F 103 12 = v 6) (p0 : 0 ≤ v 6 ∧ v 6 ≤ 60) (a0 : 0 ≤ at' ∧ at' ≤ 400) : cl mX11_makes [vr 103, vi at'] (HP A F E) = (if v 6 < 60 then some (vi 1, HP A (fF F 12 (v 6 + 1)) E) else some (vi 0, HP A (fF F 9 (1 + 8 * at' + 3)) E)) := by
  by_cases q : v 6 < 60
  · rw [if_pos q]
    have q' : ¬ v 6 = 60 := by omega
    simp (disch := omega) only [eX11_makes, sX11_makes_0, sX11_makes_1, sX11_makes_4, sX11_makes_6, sX11_makes_9, sX11_makes_10, sX11_makes_11, sX11_makes_12, sX11_makes_15, sX11_makes_16, sX11_makes_17, sX11_makes_18, sX11_makes_21, sX11_makes_22, sX11_makes_23, sX11_makes_26, sX11_makes_27, ↓hf103_12, ↓hp103_12, h12, ↓if_pos q', i32_of, ↓if_pos, ↓if_neg, ↓reduceIte, or_true]
    rfl
  · rw [if_neg q]
    have q' : ¬ ¬ v 6 = 60 := by omega
    have fl := m_fails (A := A) (E := E) (k := 3) (at' := at') h9 (by omega) a0
    simp (disch := omega) only [eX11_makes, sX11_makes_0, sX11_makes_1, sX11_makes_4, sX11_makes_6, sX11_makes_9, sX11_makes_10, sX11_makes_11, sX11_makes_12, sX11_makes_15, sX11_makes_16, sX11_makes_17, sX11_makes_18, sX11_makes_21, sX11_makes_22, sX11_makes_23, sX11_makes_26, sX11_makes_27, ↓hk103, ↓hf103_12, h12, ↓if_neg q', ↓bndi_at fl, ↓if_pos, ↓if_neg, ↓reduceIte, true_or]
theorem m_wordHere {s : Int} (tm : TM A F b L) (h8 : F 103 8 = s) (s0 : 0 ≤ s ∧ s ≤ L) (si : sk b L s = s) : cl mX11_wordHere [vr 103] (HP A F E) = some (vi (tkV b L s), HP A F E) := by
  have i0 := iw_s (E := E) (w := 1735353714) tm h8 s0 si
  have i1 := iw_s (E := E) (w := 1667591276) tm h8 s0 si
  have i2 := iw_s (E := E) (w := 7499639) tm h8 s0 si
  have i3 := iw_s (E := E) (w := 109330212154734) tm h8 s0 si
  have i4 := iw_s (E := E) (w := 439720568179) tm h8 s0 si
  have i5 := iw_s (E := E) (w := 1718579044) tm h8 s0 si
  have i6 := iw_s (E := E) (w := 120265298635118) tm h8 s0 si
  have i7 := iw_s (E := E) (w := 495874698853) tm h8 s0 si
  have i8 := iw_s (E := E) (w := 1751478885) tm h8 s0 si
  have i9 := iw_s (E := E) (w := 1650812270) tm h8 s0 si
  have i10 := iw_s (E := E) (w := 1937007984) tm h8 s0 si
  unfold tkV
  by_cases w0 : wdH b L s 1735353714 = true
  · rw [if_pos w0] at i0 ⊢
    simp (disch := omega) only [eX11_wordHere, sX11_wordHere_0, sX11_wordHere_1, sX11_wordHere_4, sX11_wordHere_7, sX11_wordHere_10, sX11_wordHere_11, sX11_wordHere_12, sX11_wordHere_13, sX11_wordHere_16, sX11_wordHere_19, sX11_wordHere_22, sX11_wordHere_23, sX11_wordHere_24, sX11_wordHere_25, sX11_wordHere_28, sX11_wordHere_31, sX11_wordHere_34, sX11_wordHere_35, sX11_wordHere_36, sX11_wordHere_37, sX11_wordHere_40, sX11_wordHere_43, sX11_wordHere_46, sX11_wordHere_47, sX11_wordHere_48, sX11_wordHere_49, sX11_wordHere_52, sX11_wordHere_55, sX11_wordHere_58, sX11_wordHere_59, sX11_wordHere_60, sX11_wordHere_61, sX11_wordHere_64, sX11_wordHere_67, sX11_wordHere_70, sX11_wordHere_71, sX11_wordHere_72, sX11_wordHere_73, sX11_wordHere_76, sX11_wordHere_79, sX11_wordHere_82, sX11_wordHere_84, sX11_wordHere_85, sX11_wordHere_86, sX11_wordHere_89, sX11_wordHere_92, sX11_wordHere_95, sX11_wordHere_97, sX11_wordHere_98, sX11_wordHere_99, sX11_wordHere_102, sX11_wordHere_105, sX11_wordHere_108, sX11_wordHere_110, sX11_wordHere_111, sX11_wordHere_112, sX11_wordHere_115, sX11_wordHere_118, sX11_wordHere_121, sX11_wordHere_123, sX11_wordHere_126, sX11_wordHere_127, sX11_wordHere_130, sX11_wordHere_133, sX11_wordHere_136, sX11_wordHere_138, sX11_wordHere_141, sX11_wordHere_142, ↓hk103, ↓bndi_at i0, ↓if_pos, ↓if_neg, ↓reduceIte]
  rw [if_neg w0] at i0 ⊢
  by_cases w1 : wdH b L s 1667591276 = true
  · rw [if_pos w1] at i1 ⊢
    simp (disch := omega) only [eX11_wordHere, sX11_wordHere_0, sX11_wordHere_1, sX11_wordHere_4, sX11_wordHere_7, sX11_wordHere_10, sX11_wordHere_11, sX11_wordHere_12, sX11_wordHere_13, sX11_wordHere_16, sX11_wordHere_19, sX11_wordHere_22, sX11_wordHere_23, sX11_wordHere_24, sX11_wordHere_25, sX11_wordHere_28, sX11_wordHere_31, sX11_wordHere_34, sX11_wordHere_35, sX11_wordHere_36, sX11_wordHere_37, sX11_wordHere_40, sX11_wordHere_43, sX11_wordHere_46, sX11_wordHere_47, sX11_wordHere_48, sX11_wordHere_49, sX11_wordHere_52, sX11_wordHere_55, sX11_wordHere_58, sX11_wordHere_59, sX11_wordHere_60, sX11_wordHere_61, sX11_wordHere_64, sX11_wordHere_67, sX11_wordHere_70, sX11_wordHere_71, sX11_wordHere_72, sX11_wordHere_73, sX11_wordHere_76, sX11_wordHere_79, sX11_wordHere_82, sX11_wordHere_84, sX11_wordHere_85, sX11_wordHere_86, sX11_wordHere_89, sX11_wordHere_92, sX11_wordHere_95, sX11_wordHere_97, sX11_wordHere_98, sX11_wordHere_99, sX11_wordHere_102, sX11_wordHere_105, sX11_wordHere_108, sX11_wordHere_110, sX11_wordHere_111, sX11_wordHere_112, sX11_wordHere_115, sX11_wordHere_118, sX11_wordHere_121, sX11_wordHere_123, sX11_wordHere_126, sX11_wordHere_127, sX11_wordHere_130, sX11_wordHere_133, sX11_wordHere_136, sX11_wordHere_138, sX11_wordHere_141, sX11_wordHere_142, ↓hk103, ↓bndi_at i0, ↓bndi_at i1, ↓if_pos, ↓if_neg, ↓reduceIte]
  rw [if_neg w1] at i1 ⊢
  by_cases w2 : wdH b L s 7499639 = true
  · rw [if_pos w2] at i2 ⊢
    simp (disch := omega) only [eX11_wordHere, sX11_wordHere_0, sX11_wordHere_1, sX11_wordHere_4, sX11_wordHere_7, sX11_wordHere_10, sX11_wordHere_11, sX11_wordHere_12, sX11_wordHere_13, sX11_wordHere_16, sX11_wordHere_19, sX11_wordHere_22, sX11_wordHere_23, sX11_wordHere_24, sX11_wordHere_25, sX11_wordHere_28, sX11_wordHere_31, sX11_wordHere_34, sX11_wordHere_35, sX11_wordHere_36, sX11_wordHere_37, sX11_wordHere_40, sX11_wordHere_43, sX11_wordHere_46, sX11_wordHere_47, sX11_wordHere_48, sX11_wordHere_49, sX11_wordHere_52, sX11_wordHere_55, sX11_wordHere_58, sX11_wordHere_59, sX11_wordHere_60, sX11_wordHere_61, sX11_wordHere_64, sX11_wordHere_67, sX11_wordHere_70, sX11_wordHere_71, sX11_wordHere_72, sX11_wordHere_73, sX11_wordHere_76, sX11_wordHere_79, sX11_wordHere_82, sX11_wordHere_84, sX11_wordHere_85, sX11_wordHere_86, sX11_wordHere_89, sX11_wordHere_92, sX11_wordHere_95, sX11_wordHere_97, sX11_wordHere_98, sX11_wordHere_99, sX11_wordHere_102, sX11_wordHere_105, sX11_wordHere_108, sX11_wordHere_110, sX11_wordHere_111, sX11_wordHere_112, sX11_wordHere_115, sX11_wordHere_118, sX11_wordHere_121, sX11_wordHere_123, sX11_wordHere_126, sX11_wordHere_127, sX11_wordHere_130, sX11_wordHere_133, sX11_wordHere_136, sX11_wordHere_138, sX11_wordHere_141, sX11_wordHere_142, ↓hk103, ↓bndi_at i0, ↓bndi_at i1, ↓bndi_at i2, ↓if_pos, ↓if_neg, ↓reduceIte]
  rw [if_neg w2] at i2 ⊢
  by_cases w3 : wdH b L s 109330212154734 = true
  · rw [if_pos w3] at i3 ⊢
    simp (disch := omega) only [eX11_wordHere, sX11_wordHere_0, sX11_wordHere_1, sX11_wordHere_4, sX11_wordHere_7, sX11_wordHere_10, sX11_wordHere_11, sX11_wordHere_12, sX11_wordHere_13, sX11_wordHere_16, sX11_wordHere_19, sX11_wordHere_22, sX11_wordHere_23, sX11_wordHere_24, sX11_wordHere_25, sX11_wordHere_28, sX11_wordHere_31, sX11_wordHere_34, sX11_wordHere_35, sX11_wordHere_36, sX11_wordHere_37, sX11_wordHere_40, sX11_wordHere_43, sX11_wordHere_46, sX11_wordHere_47, sX11_wordHere_48, sX11_wordHere_49, sX11_wordHere_52, sX11_wordHere_55, sX11_wordHere_58, sX11_wordHere_59, sX11_wordHere_60, sX11_wordHere_61, sX11_wordHere_64, sX11_wordHere_67, sX11_wordHere_70, sX11_wordHere_71, sX11_wordHere_72, sX11_wordHere_73, sX11_wordHere_76, sX11_wordHere_79, sX11_wordHere_82, sX11_wordHere_84, sX11_wordHere_85, sX11_wordHere_86, sX11_wordHere_89, sX11_wordHere_92, sX11_wordHere_95, sX11_wordHere_97, sX11_wordHere_98, sX11_wordHere_99, sX11_wordHere_102, sX11_wordHere_105, sX11_wordHere_108, sX11_wordHere_110, sX11_wordHere_111, sX11_wordHere_112, sX11_wordHere_115, sX11_wordHere_118, sX11_wordHere_121, sX11_wordHere_123, sX11_wordHere_126, sX11_wordHere_127, sX11_wordHere_130, sX11_wordHere_133, sX11_wordHere_136, sX11_wordHere_138, sX11_wordHere_141, sX11_wordHere_142, ↓hk103, ↓bndi_at i0, ↓bndi_at i1, ↓bndi_at i2, ↓bndi_at i3, ↓if_pos, ↓if_neg, ↓reduceIte]
  rw [if_neg w3] at i3 ⊢
  by_cases w4 : wdH b L s 439720568179 = true
  · rw [if_pos w4] at i4 ⊢
    simp (disch := omega) only [eX11_wordHere, sX11_wordHere_0, sX11_wordHere_1, sX11_wordHere_4, sX11_wordHere_7, sX11_wordHere_10, sX11_wordHere_11, sX11_wordHere_12, sX11_wordHere_13, sX11_wordHere_16, sX11_wordHere_19, sX11_wordHere_22, sX11_wordHere_23, sX11_wordHere_24, sX11_wordHere_25, sX11_wordHere_28, sX11_wordHere_31, sX11_wordHere_34, sX11_wordHere_35, sX11_wordHere_36, sX11_wordHere_37, sX11_wordHere_40, sX11_wordHere_43, sX11_wordHere_46, sX11_wordHere_47, sX11_wordHere_48, sX11_wordHere_49, sX11_wordHere_52, sX11_wordHere_55, sX11_wordHere_58, sX11_wordHere_59, sX11_wordHere_60, sX11_wordHere_61, sX11_wordHere_64, sX11_wordHere_67, sX11_wordHere_70, sX11_wordHere_71, sX11_wordHere_72, sX11_wordHere_73, sX11_wordHere_76, sX11_wordHere_79, sX11_wordHere_82, sX11_wordHere_84, sX11_wordHere_85, sX11_wordHere_86, sX11_wordHere_89, sX11_wordHere_92, sX11_wordHere_95, sX11_wordHere_97, sX11_wordHere_98, sX11_wordHere_99, sX11_wordHere_102, sX11_wordHere_105, sX11_wordHere_108, sX11_wordHere_110, sX11_wordHere_111, sX11_wordHere_112, sX11_wordHere_115, sX11_wordHere_118, sX11_wordHere_121, sX11_wordHere_123, sX11_wordHere_126, sX11_wordHere_127, sX11_wordHere_130, sX11_wordHere_133, sX11_wordHere_136, sX11_wordHere_138, sX11_wordHere_141, sX11_wordHere_142, ↓hk103, ↓bndi_at i0, ↓bndi_at i1, ↓bndi_at i2, ↓bndi_at i3, ↓bndi_at i4, ↓if_pos, ↓if_neg, ↓reduceIte]
  rw [if_neg w4] at i4 ⊢
  by_cases w5 : wdH b L s 1718579044 = true
  · rw [if_pos w5] at i5 ⊢
    simp (disch := omega) only [eX11_wordHere, sX11_wordHere_0, sX11_wordHere_1, sX11_wordHere_4, sX11_wordHere_7, sX11_wordHere_10, sX11_wordHere_11, sX11_wordHere_12, sX11_wordHere_13, sX11_wordHere_16, sX11_wordHere_19, sX11_wordHere_22, sX11_wordHere_23, sX11_wordHere_24, sX11_wordHere_25, sX11_wordHere_28, sX11_wordHere_31, sX11_wordHere_34, sX11_wordHere_35, sX11_wordHere_36, sX11_wordHere_37, sX11_wordHere_40, sX11_wordHere_43, sX11_wordHere_46, sX11_wordHere_47, sX11_wordHere_48, sX11_wordHere_49, sX11_wordHere_52, sX11_wordHere_55, sX11_wordHere_58, sX11_wordHere_59, sX11_wordHere_60, sX11_wordHere_61, sX11_wordHere_64, sX11_wordHere_67, sX11_wordHere_70, sX11_wordHere_71, sX11_wordHere_72, sX11_wordHere_73, sX11_wordHere_76, sX11_wordHere_79, sX11_wordHere_82, sX11_wordHere_84, sX11_wordHere_85, sX11_wordHere_86, sX11_wordHere_89, sX11_wordHere_92, sX11_wordHere_95, sX11_wordHere_97, sX11_wordHere_98, sX11_wordHere_99, sX11_wordHere_102, sX11_wordHere_105, sX11_wordHere_108, sX11_wordHere_110, sX11_wordHere_111, sX11_wordHere_112, sX11_wordHere_115, sX11_wordHere_118, sX11_wordHere_121, sX11_wordHere_123, sX11_wordHere_126, sX11_wordHere_127, sX11_wordHere_130, sX11_wordHere_133, sX11_wordHere_136, sX11_wordHere_138, sX11_wordHere_141, sX11_wordHere_142, ↓hk103, ↓bndi_at i0, ↓bndi_at i1, ↓bndi_at i2, ↓bndi_at i3, ↓bndi_at i4, ↓bndi_at i5, ↓if_pos, ↓if_neg, ↓reduceIte]
  rw [if_neg w5] at i5 ⊢
  by_cases w6 : wdH b L s 120265298635118 = true
  · rw [if_pos w6] at i6 ⊢
    simp (disch := omega) only [eX11_wordHere, sX11_wordHere_0, sX11_wordHere_1, sX11_wordHere_4, sX11_wordHere_7, sX11_wordHere_10, sX11_wordHere_11, sX11_wordHere_12, sX11_wordHere_13, sX11_wordHere_16, sX11_wordHere_19, sX11_wordHere_22, sX11_wordHere_23, sX11_wordHere_24, sX11_wordHere_25, sX11_wordHere_28, sX11_wordHere_31, sX11_wordHere_34, sX11_wordHere_35, sX11_wordHere_36, sX11_wordHere_37, sX11_wordHere_40, sX11_wordHere_43, sX11_wordHere_46, sX11_wordHere_47, sX11_wordHere_48, sX11_wordHere_49, sX11_wordHere_52, sX11_wordHere_55, sX11_wordHere_58, sX11_wordHere_59, sX11_wordHere_60, sX11_wordHere_61, sX11_wordHere_64, sX11_wordHere_67, sX11_wordHere_70, sX11_wordHere_71, sX11_wordHere_72, sX11_wordHere_73, sX11_wordHere_76, sX11_wordHere_79, sX11_wordHere_82, sX11_wordHere_84, sX11_wordHere_85, sX11_wordHere_86, sX11_wordHere_89, sX11_wordHere_92, sX11_wordHere_95, sX11_wordHere_97, sX11_wordHere_98, sX11_wordHere_99, sX11_wordHere_102, sX11_wordHere_105, sX11_wordHere_108, sX11_wordHere_110, sX11_wordHere_111, sX11_wordHere_112, sX11_wordHere_115, sX11_wordHere_118, sX11_wordHere_121, sX11_wordHere_123, sX11_wordHere_126, sX11_wordHere_127, sX11_wordHere_130, sX11_wordHere_133, sX11_wordHere_136, sX11_wordHere_138, sX11_wordHere_141, sX11_wordHere_142, ↓hk103, ↓bndi_at i0, ↓bndi_at i1, ↓bndi_at i2, ↓bndi_at i3, ↓bndi_at i4, ↓bndi_at i5, ↓bndi_at i6, ↓if_pos, ↓if_neg, ↓reduceIte]
  rw [if_neg w6] at i6 ⊢
  by_cases w7 : wdH b L s 495874698853 = true
  · rw [if_pos w7] at i7 ⊢
    simp (disch := omega) only [eX11_wordHere, sX11_wordHere_0, sX11_wordHere_1, sX11_wordHere_4, sX11_wordHere_7, sX11_wordHere_10, sX11_wordHere_11, sX11_wordHere_12, sX11_wordHere_13, sX11_wordHere_16, sX11_wordHere_19, sX11_wordHere_22, sX11_wordHere_23, sX11_wordHere_24, sX11_wordHere_25, sX11_wordHere_28, sX11_wordHere_31, sX11_wordHere_34, sX11_wordHere_35, sX11_wordHere_36, sX11_wordHere_37, sX11_wordHere_40, sX11_wordHere_43, sX11_wordHere_46, sX11_wordHere_47, sX11_wordHere_48, sX11_wordHere_49, sX11_wordHere_52, sX11_wordHere_55, sX11_wordHere_58, sX11_wordHere_59, sX11_wordHere_60, sX11_wordHere_61, sX11_wordHere_64, sX11_wordHere_67, sX11_wordHere_70, sX11_wordHere_71, sX11_wordHere_72, sX11_wordHere_73, sX11_wordHere_76, sX11_wordHere_79, sX11_wordHere_82, sX11_wordHere_84, sX11_wordHere_85, sX11_wordHere_86, sX11_wordHere_89, sX11_wordHere_92, sX11_wordHere_95, sX11_wordHere_97, sX11_wordHere_98, sX11_wordHere_99, sX11_wordHere_102, sX11_wordHere_105, sX11_wordHere_108, sX11_wordHere_110, sX11_wordHere_111, sX11_wordHere_112, sX11_wordHere_115, sX11_wordHere_118, sX11_wordHere_121, sX11_wordHere_123, sX11_wordHere_126, sX11_wordHere_127, sX11_wordHere_130, sX11_wordHere_133, sX11_wordHere_136, sX11_wordHere_138, sX11_wordHere_141, sX11_wordHere_142, ↓hk103, ↓bndi_at i0, ↓bndi_at i1, ↓bndi_at i2, ↓bndi_at i3, ↓bndi_at i4, ↓bndi_at i5, ↓bndi_at i6, ↓bndi_at i7, ↓if_pos, ↓if_neg, ↓reduceIte]
  rw [if_neg w7] at i7 ⊢
  by_cases w8 : wdH b L s 1751478885 = true
  · rw [if_pos w8] at i8 ⊢
    simp (disch := omega) only [eX11_wordHere, sX11_wordHere_0, sX11_wordHere_1, sX11_wordHere_4, sX11_wordHere_7, sX11_wordHere_10, sX11_wordHere_11, sX11_wordHere_12, sX11_wordHere_13, sX11_wordHere_16, sX11_wordHere_19, sX11_wordHere_22, sX11_wordHere_23, sX11_wordHere_24, sX11_wordHere_25, sX11_wordHere_28, sX11_wordHere_31, sX11_wordHere_34, sX11_wordHere_35, sX11_wordHere_36, sX11_wordHere_37, sX11_wordHere_40, sX11_wordHere_43, sX11_wordHere_46, sX11_wordHere_47, sX11_wordHere_48, sX11_wordHere_49, sX11_wordHere_52, sX11_wordHere_55, sX11_wordHere_58, sX11_wordHere_59, sX11_wordHere_60, sX11_wordHere_61, sX11_wordHere_64, sX11_wordHere_67, sX11_wordHere_70, sX11_wordHere_71, sX11_wordHere_72, sX11_wordHere_73, sX11_wordHere_76, sX11_wordHere_79, sX11_wordHere_82, sX11_wordHere_84, sX11_wordHere_85, sX11_wordHere_86, sX11_wordHere_89, sX11_wordHere_92, sX11_wordHere_95, sX11_wordHere_97, sX11_wordHere_98, sX11_wordHere_99, sX11_wordHere_102, sX11_wordHere_105, sX11_wordHere_108, sX11_wordHere_110, sX11_wordHere_111, sX11_wordHere_112, sX11_wordHere_115, sX11_wordHere_118, sX11_wordHere_121, sX11_wordHere_123, sX11_wordHere_126, sX11_wordHere_127, sX11_wordHere_130, sX11_wordHere_133, sX11_wordHere_136, sX11_wordHere_138, sX11_wordHere_141, sX11_wordHere_142, ↓hk103, ↓bndi_at i0, ↓bndi_at i1, ↓bndi_at i2, ↓bndi_at i3, ↓bndi_at i4, ↓bndi_at i5, ↓bndi_at i6, ↓bndi_at i7, ↓bndi_at i8, ↓if_pos, ↓if_neg, ↓reduceIte]
  rw [if_neg w8] at i8 ⊢
  by_cases w9 : wdH b L s 1650812270 = true
  · rw [if_pos w9] at i9 ⊢
    simp (disch := omega) only [eX11_wordHere, sX11_wordHere_0, sX11_wordHere_1, sX11_wordHere_4, sX11_wordHere_7, sX11_wordHere_10, sX11_wordHere_11, sX11_wordHere_12, sX11_wordHere_13, sX11_wordHere_16, sX11_wordHere_19, sX11_wordHere_22, sX11_wordHere_23, sX11_wordHere_24, sX11_wordHere_25, sX11_wordHere_28, sX11_wordHere_31, sX11_wordHere_34, sX11_wordHere_35, sX11_wordHere_36, sX11_wordHere_37, sX11_wordHere_40, sX11_wordHere_43, sX11_wordHere_46, sX11_wordHere_47, sX11_wordHere_48, sX11_wordHere_49, sX11_wordHere_52, sX11_wordHere_55, sX11_wordHere_58, sX11_wordHere_59, sX11_wordHere_60, sX11_wordHere_61, sX11_wordHere_64, sX11_wordHere_67, sX11_wordHere_70, sX11_wordHere_71, sX11_wordHere_72, sX11_wordHere_73, sX11_wordHere_76, sX11_wordHere_79, sX11_wordHere_82, sX11_wordHere_84, sX11_wordHere_85, sX11_wordHere_86, sX11_wordHere_89, sX11_wordHere_92, sX11_wordHere_95, sX11_wordHere_97, sX11_wordHere_98, sX11_wordHere_99, sX11_wordHere_102, sX11_wordHere_105, sX11_wordHere_108, sX11_wordHere_110, sX11_wordHere_111, sX11_wordHere_112, sX11_wordHere_115, sX11_wordHere_118, sX11_wordHere_121, sX11_wordHere_123, sX11_wordHere_126, sX11_wordHere_127, sX11_wordHere_130, sX11_wordHere_133, sX11_wordHere_136, sX11_wordHere_138, sX11_wordHere_141, sX11_wordHere_142, ↓hk103, ↓bndi_at i0, ↓bndi_at i1, ↓bndi_at i2, ↓bndi_at i3, ↓bndi_at i4, ↓bndi_at i5, ↓bndi_at i6, ↓bndi_at i7, ↓bndi_at i8, ↓bndi_at i9, ↓if_pos, ↓if_neg, ↓reduceIte]
  rw [if_neg w9] at i9 ⊢
  by_cases w10 : wdH b L s 1937007984 = true
  · rw [if_pos w10] at i10 ⊢
    simp (disch := omega) only [eX11_wordHere, sX11_wordHere_0, sX11_wordHere_1, sX11_wordHere_4, sX11_wordHere_7, sX11_wordHere_10, sX11_wordHere_11, sX11_wordHere_12, sX11_wordHere_13, sX11_wordHere_16, sX11_wordHere_19, sX11_wordHere_22, sX11_wordHere_23, sX11_wordHere_24, sX11_wordHere_25, sX11_wordHere_28, sX11_wordHere_31, sX11_wordHere_34, sX11_wordHere_35, sX11_wordHere_36, sX11_wordHere_37, sX11_wordHere_40, sX11_wordHere_43, sX11_wordHere_46, sX11_wordHere_47, sX11_wordHere_48, sX11_wordHere_49, sX11_wordHere_52, sX11_wordHere_55, sX11_wordHere_58, sX11_wordHere_59, sX11_wordHere_60, sX11_wordHere_61, sX11_wordHere_64, sX11_wordHere_67, sX11_wordHere_70, sX11_wordHere_71, sX11_wordHere_72, sX11_wordHere_73, sX11_wordHere_76, sX11_wordHere_79, sX11_wordHere_82, sX11_wordHere_84, sX11_wordHere_85, sX11_wordHere_86, sX11_wordHere_89, sX11_wordHere_92, sX11_wordHere_95, sX11_wordHere_97, sX11_wordHere_98, sX11_wordHere_99, sX11_wordHere_102, sX11_wordHere_105, sX11_wordHere_108, sX11_wordHere_110, sX11_wordHere_111, sX11_wordHere_112, sX11_wordHere_115, sX11_wordHere_118, sX11_wordHere_121, sX11_wordHere_123, sX11_wordHere_126, sX11_wordHere_127, sX11_wordHere_130, sX11_wordHere_133, sX11_wordHere_136, sX11_wordHere_138, sX11_wordHere_141, sX11_wordHere_142, ↓hk103, ↓bndi_at i0, ↓bndi_at i1, ↓bndi_at i2, ↓bndi_at i3, ↓bndi_at i4, ↓bndi_at i5, ↓bndi_at i6, ↓bndi_at i7, ↓bndi_at i8, ↓bndi_at i9, ↓bndi_at i10, ↓if_pos, ↓if_neg, ↓reduceIte]
  rw [if_neg w10] at i10 ⊢
  simp (disch := omega) only [eX11_wordHere, sX11_wordHere_0, sX11_wordHere_1, sX11_wordHere_4, sX11_wordHere_7, sX11_wordHere_10, sX11_wordHere_11, sX11_wordHere_12, sX11_wordHere_13, sX11_wordHere_16, sX11_wordHere_19, sX11_wordHere_22, sX11_wordHere_23, sX11_wordHere_24, sX11_wordHere_25, sX11_wordHere_28, sX11_wordHere_31, sX11_wordHere_34, sX11_wordHere_35, sX11_wordHere_36, sX11_wordHere_37, sX11_wordHere_40, sX11_wordHere_43, sX11_wordHere_46, sX11_wordHere_47, sX11_wordHere_48, sX11_wordHere_49, sX11_wordHere_52, sX11_wordHere_55, sX11_wordHere_58, sX11_wordHere_59, sX11_wordHere_60, sX11_wordHere_61, sX11_wordHere_64, sX11_wordHere_67, sX11_wordHere_70, sX11_wordHere_71, sX11_wordHere_72, sX11_wordHere_73, sX11_wordHere_76, sX11_wordHere_79, sX11_wordHere_82, sX11_wordHere_84, sX11_wordHere_85, sX11_wordHere_86, sX11_wordHere_89, sX11_wordHere_92, sX11_wordHere_95, sX11_wordHere_97, sX11_wordHere_98, sX11_wordHere_99, sX11_wordHere_102, sX11_wordHere_105, sX11_wordHere_108, sX11_wordHere_110, sX11_wordHere_111, sX11_wordHere_112, sX11_wordHere_115, sX11_wordHere_118, sX11_wordHere_121, sX11_wordHere_123, sX11_wordHere_126, sX11_wordHere_127, sX11_wordHere_130, sX11_wordHere_133, sX11_wordHere_136, sX11_wordHere_138, sX11_wordHere_141, sX11_wordHere_142, ↓hk103, ↓bndi_at i0, ↓bndi_at i1, ↓bndi_at i2, ↓bndi_at i3, ↓bndi_at i4, ↓bndi_at i5, ↓bndi_at i6, ↓bndi_at i7, ↓bndi_at i8, ↓bndi_at i9, ↓bndi_at i10, ↓if_pos, ↓if_neg, ↓reduceIte]
/-- a value, in both -/
theorem m_value {σ : zS} {C O0 : List Int} (ms : MS A F b L t g σ.1 C σ.2.2.2.2) (ht : t < 6) (hO : σ.2.2.1 = C ++ O0) (hg : g ≤ O0.length) (c : cok L σ) (hd : tkr b L σ = tkVal (tkx b L σ).2.2.1 (tkx b L σ).2.2.2 b L (tkx b L σ).2.1 σ.2.2.1 σ.2.2.2.1 v) (v4 : σ.2.2.2.2 4 ≠ 0) (v6 : v 6 = σ.2.2.2.2 6) : ∃ A' F', pf0 A F A' F' t g ∧ ((∃ c, (100 ≤ c ∧ c ≤ 100099 ∨ 0 ≤ c ∧ c ≤ 10) ∧ (tkr b L σ).1 = -1 ∧ (tkx b L σ).2.2.1 ≠ -1 ∧ cl mX11_value [vr 103] (HP A F E) = some (vi 1, HP A' F' E) ∧ MS A' F' b L t g (nxs b L σ).1 (c :: C) (nxs b L σ).2.2.2.2 ∧ (nxs b L σ).2.2.1 = c :: C ++ O0 ∧ (nxs b L σ).2.2.2.1 = σ.2.2.2.1 ∧ (nxs b L σ).2.2.2.2 = fup (fup v 4 3) 6 (v 6 + 1)) ∨ ((tkr b L σ).1 ≠ -1 ∧ cl mX11_value [vr 103] (HP A F E) = some (vi 0, HP A' F' E) ∧ F' 103 9 = 1 + 8 * (tkx b L σ).2.1 + (tkr b L σ).1)) := by
  obtain ⟨tm, pc, h9, h11, h12, h6, hM⟩ := ms
  have L4 := tm.2.1
  have hb := tm.2.2.1
  obtain ⟨ci, cx, cv⟩ := id c
  have p6 := ci.2.2.2.2.1
  have ln := ci.2.2.2.2.2.1
  rw [if_neg v4, hO, List.length_append] at ln
  have kb := sk_b (b := b) cx.2
  have si := sk_id (b := b) (L := L) cx.1 cx.2
  have tc := tnx_c (va := σ.2.1) hb cx.1 cx.2
  have tb := t_pl (b := b) (L := L) (p := σ.1) (va := σ.2.1) cx cv
  have se := m_see (E := E) tm rfl pc.1.1 pc.1.2
  rw [pc.2] at se
  have eX : tkx b L σ = tnx b L σ.1 σ.2.1 := rfl
  have wV := wV_t (b := b) (L := L) (x := σ.1) (va := σ.2.1) hb cx
  have n1e : (nxs b L σ).1 = (tkx b L σ).1 := rfl
  have n3e : (nxs b L σ).2.2.1 = (tkr b L σ).2.1 := rfl
  have n4e : (nxs b L σ).2.2.2.1 = (tkr b L σ).2.2.1 := rfl
  have n5e : (nxs b L σ).2.2.2.2 = (tkr b L σ).2.2.2 := rfl
  rw [n1e, n3e, n4e, n5e, hd]
  rw [← eX] at tc tb
  have ts : (tkx b L σ).2.1 = sk b L σ.1 := tc.1
  have xk := tkx_w (va := σ.2.1) hb cx
  rw [← eX] at xk
  generalize tkx b L σ = X at *
  generalize hs : sk b L σ.1 = s at *
  have s0 : 0 ≤ s ∧ s ≤ L := by omega
  have tm1 : TM A (fF F 8 s) b L := TM_f tm (by omega)
  have e8 : fF F 8 s 103 8 = s := fF_s
  have e9 : fF F 8 s 103 9 = 0 := by rw [fF_n (by omega)]; exact h9
  have dg := m_isDigit (E := E) (k := s) tm1 s0.1
  rw [ts]
  unfold tkVal
  by_cases d : dgt (byt b L s) = true
  · -- a number
    rw [if_pos d] at dg
    obtain ⟨k, xe, xv⟩ : X.2.2.1 = -2 ∧ X.1 = (nde b L s).1 ∧ X.2.2.2 = (if (nde b L s).1 - s ≤ 5 then (nde b L s).2 else -1) := by
      obtain ⟨t1, ⟨u1, u2, u3, u4, _⟩ | ⟨u1, u2, u3, u4⟩ | ⟨u1, u2, u3, u4⟩ | ⟨u1, u2, u3, _, u4⟩⟩ := tc
      · rw [u3] at d; cases d
      · rw [u4]; exact ⟨rfl, rfl, rfl⟩
      · rw [u2] at d; cases d
      · rw [u2] at d; cases d
    have nb := nde_b (b := b) (s := s) s0.2
    have mn := m_number (E := E) (lo := 0) (hi := 99999) tm1 e8 e9 s0.1 s0.2
    rw [si, if_pos d, fF_fF] at mn
    rw [if_neg (fun q => q.1 k)]
    by_cases y : (nde b L s).1 - s ≤ 5
    · rw [if_pos y] at xv
      rw [if_pos ⟨y, by omega, by omega⟩] at mn
      rw [if_neg (show ¬ (X.2.2.1 = -2 ∧ X.2.2.2 = -1) from fun q => by omega), if_pos k]
      generalize hF2 : fF (fF F 8 (nde b L s).1) 10 (nde b L s).2 = F2 at *
      have f9 : F2 103 9 = 0 := by rw [← hF2, fF_n (by omega), fF_n (by omega)]; exact h9
      have f12 : F2 103 12 = v 6 := by rw [← hF2, fF_n (by omega), fF_n (by omega), v6]; exact h12
      have f11 : F2 103 11 = (t : Int) := by rw [← hF2, fF_n (by omega), fF_n (by omega)]; exact h11
      have f10 : F2 103 10 = (nde b L s).2 := by rw [← hF2, fF_s]
      have f8 : F2 103 8 = (nde b L s).1 := by rw [← hF2, fF_n (by omega), fF_s]
      have f1 : F2 103 1 = L := by rw [← hF2, fF_n (by omega), fF_n (by omega)]; exact tm.1
      have fr2 : pf0 A F A F2 t g := by rw [← hF2]; exact pf0_t (pf0_f (Or.inl rfl)) (pf0_f (Or.inr (Or.inr (Or.inl rfl))))
      have mk := m_makes (A := A) (E := E) (at' := s) f9 f12 (by rw [v6]; exact p6) (by omega)
      by_cases z : v 6 < 60
      · rw [if_pos z] at mk
        obtain ⟨A', p1, p2, p3, p4⟩ := m_puts (F := fF F2 12 (v 6 + 1)) (E := E) (s := 0) (w := (nde b L s).2) (o := 100 + X.2.2.2) (by rw [fF_n (by omega)]; exact f11) ht h6 (by omega) hM (by omega) (by omega) (by unfold enc; rw [if_pos (by omega)]; omega)
        refine ⟨A', fF F2 12 (v 6 + 1), pf0_t fr2 (pf0_t (pf0_f (Or.inr (Or.inr (Or.inr rfl)))) p2), Or.inl ⟨100 + X.2.2.2, Or.inl (by omega), by rw [if_pos z], by omega, ?_, ⟨?_, ?_, ?_, ?_, ?_, p3, p4⟩, by rw [hO]; rfl, rfl, rfl⟩⟩
        · have f10' : fF F2 12 (v 6 + 1) 103 10 = (nde b L s).2 := by rw [fF_n (by omega)]; exact f10
          simp (disch := omega) only [eX11_value, sX11_value_0, sX11_value_1, sX11_value_4, sX11_value_5, sX11_value_6, sX11_value_9, sX11_value_10, sX11_value_11, sX11_value_12, sX11_value_15, sX11_value_18, sX11_value_21, sX11_value_22, sX11_value_23, sX11_value_25, sX11_value_28, sX11_value_31, sX11_value_32, sX11_value_33, sX11_value_36, sX11_value_39, sX11_value_40, sX11_value_41, sX11_value_42, sX11_value_43, sX11_value_44, sX11_value_47, sX11_value_50, sX11_value_51, sX11_value_52, sX11_value_53, sX11_value_56, sX11_value_57, sX11_value_58, sX11_value_61, sX11_value_62, sX11_value_63, sX11_value_64, sX11_value_67, sX11_value_68, sX11_value_69, sX11_value_70, sX11_value_73, sX11_value_76, sX11_value_77, sX11_value_78, sX11_value_79, sX11_value_82, sX11_value_83, sX11_value_84, sX11_value_85, sX11_value_88, sX11_value_89, ↓hk103, ↓hf103_8, ↓hf103_10, ↓bndi_at se, e8, ↓bndi_at dg, ↓bndi_at mn, ↓bndi_at mk, f10', ↓bndv_at p1, ↓if_pos, ↓if_neg, ↓reduceIte, or_true]
        · exact TM_a ⟨by rw [fF_n (by omega)]; exact f1, tm.2⟩ (p2.1 104 (by omega) (by omega))
        · exact plc_i (by rw [fF_n (by omega), f8, xe]) tb.1
        · rw [fF_n (by omega)]; exact f9
        · rw [fF_n (by omega)]; exact f11
        · rw [fF_s]; dsimp only; rw [fup_s]
      · rw [if_neg z] at mk
        refine ⟨A, fF F2 9 (1 + 8 * s + 3), pf0_t fr2 (pf0_f (Or.inr (Or.inl rfl))), Or.inr ⟨by rw [if_neg z]; dsimp only; omega, ?_, by rw [fF_s, if_neg z]⟩⟩
        simp (disch := omega) only [eX11_value, sX11_value_0, sX11_value_1, sX11_value_4, sX11_value_5, sX11_value_6, sX11_value_9, sX11_value_10, sX11_value_11, sX11_value_12, sX11_value_15, sX11_value_18, sX11_value_21, sX11_value_22, sX11_value_23, sX11_value_25, sX11_value_28, sX11_value_31, sX11_value_32, sX11_value_33, sX11_value_36, sX11_value_39, sX11_value_40, sX11_value_41, sX11_value_42, sX11_value_43, sX11_value_44, sX11_value_47, sX11_value_50, sX11_value_51, sX11_value_52, sX11_value_53, sX11_value_56, sX11_value_57, sX11_value_58, sX11_value_61, sX11_value_62, sX11_value_63, sX11_value_64, sX11_value_67, sX11_value_68, sX11_value_69, sX11_value_70, sX11_value_73, sX11_value_76, sX11_value_77, sX11_value_78, sX11_value_79, sX11_value_82, sX11_value_83, sX11_value_84, sX11_value_85, sX11_value_88, sX11_value_89, ↓hk103, ↓hf103_8, ↓bndi_at se, e8, ↓bndi_at dg, ↓bndi_at mn, ↓bndi_at mk, ↓if_pos, ↓if_neg, ↓reduceIte, true_or]
    · rw [if_neg y] at xv
      rw [if_neg (fun q => y q.1)] at mn
      rw [if_pos ⟨k, xv⟩]
      refine ⟨A, fF (fF (fF F 8 (nde b L s).1) 10 (nde b L s).2) 9 (1 + 8 * s + 1), pf0_t (pf0_t (pf0_f (Or.inl rfl)) (pf0_f (Or.inr (Or.inr (Or.inl rfl))))) (pf0_f (Or.inr (Or.inl rfl))), Or.inr ⟨by dsimp only; omega, ?_, by rw [fF_s]⟩⟩
      simp (disch := omega) only [eX11_value, sX11_value_0, sX11_value_1, sX11_value_4, sX11_value_5, sX11_value_6, sX11_value_9, sX11_value_10, sX11_value_11, sX11_value_12, sX11_value_15, sX11_value_18, sX11_value_21, sX11_value_22, sX11_value_23, sX11_value_25, sX11_value_28, sX11_value_31, sX11_value_32, sX11_value_33, sX11_value_36, sX11_value_39, sX11_value_40, sX11_value_41, sX11_value_42, sX11_value_43, sX11_value_44, sX11_value_47, sX11_value_50, sX11_value_51, sX11_value_52, sX11_value_53, sX11_value_56, sX11_value_57, sX11_value_58, sX11_value_61, sX11_value_62, sX11_value_63, sX11_value_64, sX11_value_67, sX11_value_68, sX11_value_69, sX11_value_70, sX11_value_73, sX11_value_76, sX11_value_77, sX11_value_78, sX11_value_79, sX11_value_82, sX11_value_83, sX11_value_84, sX11_value_85, sX11_value_88, sX11_value_89, ↓hk103, ↓hf103_8, ↓bndi_at se, e8, ↓bndi_at dg, ↓bndi_at mn, ↓if_pos, ↓if_neg, ↓reduceIte, true_or]
  · -- a word
    rw [if_neg d] at dg
    have k : ¬ X.2.2.1 = -2 := by
      intro q
      obtain ⟨t1, ⟨u1, u2, u3, u4, _⟩ | ⟨u1, u2, u3, u4⟩ | ⟨u1, u2, u3, u4⟩ | ⟨u1, u2, u3, _, u4⟩⟩ := tc
      · rw [u2] at q; dsimp only at q; omega
      · exact d u2
      · rw [u4] at q; dsimp only at q; omega
      · have rk := rsg_k (b := b) (L := L) (s := s) (x := b s.toNat) (hb _).1
        rw [u4] at q; dsimp only at q; omega
    have wh := m_wordHere (E := E) tm1 e8 s0 si
    have vb := tkV_b (b := b) (L := L) (s := s)
    by_cases y : tkV b L s = -1
    · rw [if_pos ⟨k, y⟩]
      have fl := m_fails (A := A) (E := E) (k := 0) (at' := s) e9 (by omega) (by omega)
      rw [y] at wh
      refine ⟨A, fF (fF F 8 s) 9 (1 + 8 * s + 0), pf0_t (pf0_f (Or.inl rfl)) (pf0_f (Or.inr (Or.inl rfl))), Or.inr ⟨by dsimp only; omega, ?_, by rw [fF_s]⟩⟩
      simp (disch := omega) only [eX11_value, sX11_value_0, sX11_value_1, sX11_value_4, sX11_value_5, sX11_value_6, sX11_value_9, sX11_value_10, sX11_value_11, sX11_value_12, sX11_value_15, sX11_value_18, sX11_value_21, sX11_value_22, sX11_value_23, sX11_value_25, sX11_value_28, sX11_value_31, sX11_value_32, sX11_value_33, sX11_value_36, sX11_value_39, sX11_value_40, sX11_value_41, sX11_value_42, sX11_value_43, sX11_value_44, sX11_value_47, sX11_value_50, sX11_value_51, sX11_value_52, sX11_value_53, sX11_value_56, sX11_value_57, sX11_value_58, sX11_value_61, sX11_value_62, sX11_value_63, sX11_value_64, sX11_value_67, sX11_value_68, sX11_value_69, sX11_value_70, sX11_value_73, sX11_value_76, sX11_value_77, sX11_value_78, sX11_value_79, sX11_value_82, sX11_value_83, sX11_value_84, sX11_value_85, sX11_value_88, sX11_value_89, ↓hk103, ↓hf103_8, ↓bndi_at se, e8, ↓bndi_at dg, ↓bndi_at wh, ↓bndi_at fl, ↓if_pos, ↓if_neg, ↓reduceIte, true_or]
    · rw [if_neg (fun q => y q.2), if_neg (fun q => k q.1), if_neg k]
      have kw : X.2.2.1 = -3 := by
        by_cases q : X.2.2.1 = -3
        · exact q
        · exact absurd (xk q).2.1 y
      have xe : X.1 = wde b L s := by
        obtain ⟨t1, ⟨u1, u2, u3, u4, _⟩ | ⟨u1, u2, u3, u4⟩ | ⟨u1, u2, u3, u4⟩ | ⟨u1, u2, u3, _, u4⟩⟩ := tc
        · rw [u2] at kw; dsimp only at kw; omega
        · rw [u4] at kw; dsimp only at kw; omega
        · rw [u4]
        · have rk := rsg_k (b := b) (L := L) (s := s) (x := b s.toNat) (hb _).1
          rw [u4] at kw; dsimp only at kw; omega
      have mk := m_makes (A := A) (E := E) (v := v) (at' := s) e9 (by rw [fF_n (by omega), v6]; exact h12) (by rw [v6]; exact p6) (by omega)
      by_cases z : v 6 < 60
      · rw [if_pos z] at mk
        have tm2 : TM A (fF (fF F 8 s) 12 (v 6 + 1)) b L := TM_f tm1 (by omega)
        have pw := m_passWord (E := E) (s := s) tm2 (by rw [fF_n (by omega)]; exact e8) s0.1 s0.2
        generalize hF3 : fF (fF (fF F 8 s) 12 (v 6 + 1)) 8 (wde b L s) = F3 at *
        obtain ⟨A', p1, p2, p3, p4⟩ := m_puts (F := F3) (E := E) (s := 1) (w := tkV b L s) (o := tkV b L s) (by rw [← hF3, fF_n (by omega), fF_n (by omega), fF_n (by omega)]; exact h11) ht h6 (by omega) hM (by omega) (by omega) (by unfold enc; rw [if_neg (by omega), if_pos (by omega)])
        refine ⟨A', F3, pf0_t (by rw [← hF3]; exact pf0_t (pf0_f (Or.inl rfl)) (pf0_t (pf0_f (Or.inr (Or.inr (Or.inr rfl)))) (pf0_f (Or.inl rfl)))) p2, Or.inl ⟨tkV b L s, Or.inr (by omega), by rw [if_pos z], by omega, ?_, ⟨?_, ?_, ?_, ?_, ?_, p3, p4⟩, by rw [hO]; rfl, rfl, rfl⟩⟩
        · have vn' : ¬ tkV b L s < 0 := by omega
          simp (disch := omega) only [eX11_value, sX11_value_0, sX11_value_1, sX11_value_4, sX11_value_5, sX11_value_6, sX11_value_9, sX11_value_10, sX11_value_11, sX11_value_12, sX11_value_15, sX11_value_18, sX11_value_21, sX11_value_22, sX11_value_23, sX11_value_25, sX11_value_28, sX11_value_31, sX11_value_32, sX11_value_33, sX11_value_36, sX11_value_39, sX11_value_40, sX11_value_41, sX11_value_42, sX11_value_43, sX11_value_44, sX11_value_47, sX11_value_50, sX11_value_51, sX11_value_52, sX11_value_53, sX11_value_56, sX11_value_57, sX11_value_58, sX11_value_61, sX11_value_62, sX11_value_63, sX11_value_64, sX11_value_67, sX11_value_68, sX11_value_69, sX11_value_70, sX11_value_73, sX11_value_76, sX11_value_77, sX11_value_78, sX11_value_79, sX11_value_82, sX11_value_83, sX11_value_84, sX11_value_85, sX11_value_88, sX11_value_89, ↓hk103, ↓hf103_8, ↓bndi_at se, e8, ↓bndi_at dg, ↓bndi_at wh, ↓bndi_at mk, ↓bndv_at pw, ↓bndv_at p1, ↓if_pos, ↓if_neg, ↓reduceIte, or_true]
        · exact TM_a ⟨by rw [← hF3, fF_n (by omega), fF_n (by omega), fF_n (by omega)]; exact tm.1, tm.2⟩ (p2.1 104 (by omega) (by omega))
        · exact plc_i (by rw [← hF3, fF_s, xe]) tb.1
        · rw [← hF3, fF_n (by omega), fF_n (by omega), fF_n (by omega)]; exact h9
        · rw [← hF3, fF_n (by omega), fF_n (by omega), fF_n (by omega)]; exact h11
        · rw [← hF3, fF_n (by omega), fF_s]; dsimp only; rw [fup_s]
      · rw [if_neg z] at mk
        refine ⟨A, fF (fF F 8 s) 9 (1 + 8 * s + 3), pf0_t (pf0_f (Or.inl rfl)) (pf0_f (Or.inr (Or.inl rfl))), Or.inr ⟨by rw [if_neg z]; dsimp only; omega, ?_, by rw [fF_s, if_neg z]⟩⟩
        simp (disch := omega) only [eX11_value, sX11_value_0, sX11_value_1, sX11_value_4, sX11_value_5, sX11_value_6, sX11_value_9, sX11_value_10, sX11_value_11, sX11_value_12, sX11_value_15, sX11_value_18, sX11_value_21, sX11_value_22, sX11_value_23, sX11_value_25, sX11_value_28, sX11_value_31, sX11_value_32, sX11_value_33, sX11_value_36, sX11_value_39, sX11_value_40, sX11_value_41, sX11_value_42, sX11_value_43, sX11_value_44, sX11_value_47, sX11_value_50, sX11_value_51, sX11_value_52, sX11_value_53, sX11_value_56, sX11_value_57, sX11_value_58, sX11_value_61, sX11_value_62, sX11_value_63, sX11_value_64, sX11_value_67, sX11_value_68, sX11_value_69, sX11_value_70, sX11_value_73, sX11_value_76, sX11_value_77, sX11_value_78, sX11_value_79, sX11_value_82, sX11_value_83, sX11_value_84, sX11_value_85, sX11_value_88, sX11_value_89, ↓hk103, ↓hf103_8, ↓bndi_at se, e8, ↓bndi_at dg, ↓bndi_at wh, ↓bndi_at mk, ↓if_pos, ↓if_neg, ↓reduceIte, true_or]
end MV
