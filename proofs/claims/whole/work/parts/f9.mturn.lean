/-! clauses of a rule, in both -/
/-- clauses read, the last first: a sum's orders, a test's *)-/
abbrev zK : Type := List (List Int × Option (List Int))
def mof (c : List Int × Option (List Int)) : List Int := match c.2 with
  | none => c.1
  | some T => T ++ c.1
def Mfl : zK → List Int
  | [] => []
  | c :: K => mof c ++ Mfl K
def Ofl : zK → List Int
  | [] => []
  | c :: K => (if c.2 = none then 40 else 41) :: (mof c ++ Ofl K)
theorem OM_len : ∀ K : zK, (Mfl K).length + K.length = (Ofl K).length
  | [] => rfl
  | c :: K => by rw [Mfl, Ofl, List.length_cons, List.length_cons, List.length_append, List.length_append]; have := OM_len K; omega
/-- a clause's four numbers *)-/
def row4 (r : Nat → Int) (c : List Int × Option (List Int)) (g : Nat) : Prop := r 0 = (g : Int) ∧ r 1 = (g : Int) + (c.1.length : Int) ∧ r 2 = (match c.2 with | none => -1 | some _ => (g : Int) + (c.1.length : Int)) ∧ r 3 = (g : Int) + ((mof c).length : Int)
def tab (r : Nat → Int) : zK → Prop
  | [] => True
  | c :: K => row4 (fun j => r (4 * K.length + j)) c (Mfl K).length ∧ tab r K
theorem tab_c {r r' : Nat → Int} : ∀ (K : zK), (∀ j, j < 4 * K.length → r' j = r j) → tab r K → tab r' K
  | [], _, _ => trivial
  | c :: K, h, k => by
    obtain ⟨⟨k1, k2, k3, k4⟩, k5⟩ := k
    rw [List.length_cons] at h
    refine ⟨⟨?_, ?_, ?_, ?_⟩, tab_c K (fun j hj => h j (by omega)) k5⟩
    · show r' (4 * K.length + 0) = _; rw [h _ (by omega)]; exact k1
    · show r' (4 * K.length + 1) = _; rw [h _ (by omega)]; exact k2
    · show r' (4 * K.length + 2) = _; rw [h _ (by omega)]; exact k3
    · show r' (4 * K.length + 3) = _; rw [h _ (by omega)]; exact k4
def kok (c : List Int × Option (List Int)) : Prop := nseg c.1 ∧ ∀ T, c.2 = some T → fseg 1 T
/-- the model holds these clauses of rule t *)-/
def RT (A : Nat → Nat → Int) (t : Nat) (K : zK) : Prop := A 106 t = ((Mfl K).length : Int) ∧ (∀ i, i < (Mfl K).length → A 105 (400 * t + i) = enc (wat (Mfl K) i)) ∧ tab (fun j => A 107 (48 * t + j)) K ∧ A 108 t = (K.length : Int) ∧ ∀ c, c ∈ K → kok c
/-- what the model's reading of a rule leaves *)-/
def rfR (A F A' F' : Nat → Nat → Int) (t : Nat) : Prop := (∀ j, j ≠ 105 → j ≠ 106 → j ≠ 107 → j ≠ 108 → j ≠ 110 → A' j = A j) ∧ (∀ j, j ≠ 103 → F' j = F j) ∧ (∀ k, k ≠ 8 → k ≠ 9 → k ≠ 10 → k ≠ 12 → k ≠ 13 → k ≠ 14 → k ≠ 16 → F' 103 k = F 103 k) ∧ (∀ j, (j < 400 * t ∨ 400 * t + 400 ≤ j) → A' 105 j = A 105 j) ∧ (∀ j, j ≠ t → A' 106 j = A 106 j) ∧ (∀ j, (j < 48 * t ∨ 48 * t + 48 ≤ j) → A' 107 j = A 107 j) ∧ ∀ j, j ≠ t → A' 108 j = A 108 j
section RF
variable {A F A1 F1 A2 F2 : Nat → Nat → Int} {t g : Nat}
theorem rfR_r : rfR A F A F t := ⟨fun _ _ _ _ _ _ => rfl, fun _ _ => rfl, fun _ _ _ _ _ _ _ _ => rfl, fun _ _ => rfl, fun _ _ => rfl, fun _ _ => rfl, fun _ _ => rfl⟩
theorem rfR_t (h : rfR A F A1 F1 t) (k : rfR A1 F1 A2 F2 t) : rfR A F A2 F2 t := ⟨fun j a c d e f => (k.1 j a c d e f).trans (h.1 j a c d e f), fun j a => (k.2.1 j a).trans (h.2.1 j a), fun j a c d e f i l => (k.2.2.1 j a c d e f i l).trans (h.2.2.1 j a c d e f i l), fun j a => (k.2.2.2.1 j a).trans (h.2.2.2.1 j a), fun j a => (k.2.2.2.2.1 j a).trans (h.2.2.2.2.1 j a), fun j a => (k.2.2.2.2.2.1 j a).trans (h.2.2.2.2.2.1 j a), fun j a => (k.2.2.2.2.2.2 j a).trans (h.2.2.2.2.2.2 j a)⟩
theorem rfR_1 (h : pf1 A F A1 F1 t g) : rfR A F A1 F1 t := ⟨fun j a c _ _ f => h.1 j a c f, h.2.1, fun k a c d e f _ l => h.2.2.1 k a c d e f l, fun j a => h.2.2.2.1 j (by omega), h.2.2.2.2, fun j _ => by rw [h.1 107 (by omega) (by omega) (by omega)], fun j _ => by rw [h.1 108 (by omega) (by omega) (by omega)]⟩
theorem rfR_f {k : Nat} {v : Int} (hk : k = 8 ∨ k = 9 ∨ k = 10 ∨ k = 12 ∨ k = 13 ∨ k = 14 ∨ k = 16) : rfR A F A (fF F k v) t := ⟨fun _ _ _ _ _ _ => rfl, fun j a => fF_o a, fun j a c d e f i l => fF_n (by omega), fun _ _ => rfl, fun _ _ => rfl, fun _ _ => rfl, fun _ _ => rfl⟩
theorem rfR_7 {k : Nat} {v : Int} (hk : 48 * t ≤ k ∧ k < 48 * t + 48) : rfR A F (aup A 107 (fup (A 107) k v)) F t := ⟨fun j _ _ d _ _ => aup_n d, fun _ _ => rfl, fun _ _ _ _ _ _ _ _ => rfl, fun j _ => by rw [aup_n (by omega)], fun j _ => by rw [aup_n (by omega)], fun j a => by rw [aup_s, fup_n (by omega)], fun j _ => by rw [aup_n (by omega)]⟩
theorem rfR_8 {v : Int} : rfR A F (aup A 108 (fup (A 108) t v)) F t := ⟨fun j _ _ _ e _ => aup_n e, fun _ _ => rfl, fun _ _ _ _ _ _ _ _ => rfl, fun j _ => by rw [aup_n (by omega)], fun j _ => by rw [aup_n (by omega)], fun j _ => by rw [aup_n (by omega)], fun j a => by rw [aup_s, fup_n a]⟩
end RF
/-- a clause read: the class has it all but settled *)-/
def CE (b : Nat → Int) (L : Int) (ρ : zS) (lag C O0 : List Int) (ot : Option (List Int)) : Prop := ρ.2.2.1 = C ++ O0 ∧ ρ.2.2.2.1 = lag ∧ cok L ρ ∧ (∀ o, o ∈ lag → 20 ≤ o ∧ o ≤ 32) ∧ ((ot = none ∧ ρ.2.2.2.2 9 = 0 ∧ ρ.2.2.2.2 4 = 3 ∧ nar b L ρ ∧ tkI b L (sk b L ρ.1) = -1) ∨ (ot ≠ none ∧ ρ.2.2.2.2 9 ≠ 0 ∧ ((ρ.2.2.2.2 4 = 3 ∧ ρ.2.2.2.2 10 ≠ 0 ∧ nar b L ρ) ∨ ρ.2.2.2.2 4 = 4) ∧ tkJ b L (sk b L ρ.1) = -1))
section TR
variable {A F : Nat → Nat → Int} {E : zE} {b v : Nat → Int} {L : Int} {t g : Nat} {C O0 lag : List Int} {σ τ ρ : zS} {K : zK} {ot : Option (List Int)}
theorem ce_tk (hb : ∀ j, 0 ≤ b j ∧ b j ≤ 255) (h : CE b L ρ lag C O0 ot) : tkr b L ρ = tkEnd (tkx b L ρ).2.2.1 (C ++ O0) lag ρ.2.2.2.2 := by
  obtain ⟨h1, h2, h3, h4, h5⟩ := h
  have ts : (tkx b L ρ).2.1 = sk b L ρ.1 := (tnx_c (va := ρ.2.1) hb h3.2.1.1 h3.2.1.2).1
  have v8 := h3.1.2.2.1
  rw [h2, c50_n lag (fun o q => by have := h4 o q; omega)] at v8
  unfold tkr tkS
  rcases h5 with ⟨a0, a1, a2, a3, a4⟩ | ⟨a0, a1, a2, a3⟩
  · unfold nar at a3
    rw [if_neg (by omega), if_neg (by omega), if_neg (by omega), if_pos a2]
    unfold tkBV
    rw [if_neg (by omega), if_pos a1]
    unfold tkBT
    rw [ts, if_pos a4, h1, h2]
  · have bfc : tkBF (tkx b L ρ).2.2.1 b L (tkx b L ρ).2.1 ρ.2.2.1 ρ.2.2.2.1 ρ.2.2.2.2 = tkEnd (tkx b L ρ).2.2.1 (C ++ O0) lag ρ.2.2.2.2 := by
      unfold tkBF
      rw [ts, if_neg (fun q => q a3), if_pos v8, h1, h2]
    rcases a2 with ⟨x1, x2, x3⟩ | x1
    · unfold nar at x3
      rw [if_neg (by omega), if_neg (by omega), if_neg (by omega), if_pos x1]
      unfold tkBV
      rw [if_neg (by omega), if_neg a1, if_pos x2]
      exact bfc
    · rw [if_neg (by omega), if_neg (by omega), if_neg (by omega), if_neg (by omega)]
      exact bfc
theorem m_takesIf {s : Int} (tm : TM A F b L) (h8 : F 103 8 = s) (s0 : 0 ≤ s ∧ s ≤ L) : cl mX11_takesWord [vr 103, vl 26982] (HP A F E) = (if wdH b L (sk b L s) 26982 then some (vi 1, HP A (fF F 8 (wde b L (sk b L s))) E) else some (vi 0, HP A (fF F 8 (sk b L s)) E)) := by
  have kb := sk_b (b := b) s0.2
  have iw := m_isWord (E := E) (w := 26982) tm h8 s0.1 s0.2
  by_cases y : wdH b L (sk b L s) 26982 = true
  · rw [if_pos y] at iw ⊢
    have pw := m_passWord (E := E) (F := fF F 8 (sk b L s)) (s := sk b L s) (TM_f tm (by omega)) fF_s (by omega) kb.2
    rw [fF_fF] at pw
    simp (disch := omega) only [eX11_takesWord, sX11_takesWord_0, sX11_takesWord_1, sX11_takesWord_2, sX11_takesWord_5, sX11_takesWord_8, sX11_takesWord_9, sX11_takesWord_10, sX11_takesWord_11, sX11_takesWord_14, sX11_takesWord_15, ↓hk103, ↓bndi_at iw, ↓bndv_at pw, ↓if_pos, ↓if_neg, ↓reduceIte, or_true]
  · rw [if_neg y] at iw ⊢
    simp (disch := omega) only [eX11_takesWord, sX11_takesWord_0, sX11_takesWord_1, sX11_takesWord_2, sX11_takesWord_5, sX11_takesWord_8, sX11_takesWord_9, sX11_takesWord_10, sX11_takesWord_11, sX11_takesWord_14, sX11_takesWord_15, ↓hk103, ↓bndi_at iw, ↓if_pos, ↓if_neg, ↓reduceIte, true_or]
/-- a clause behind its word, in both *)-/
theorem m_turn (ht : t < 6) {s : Int} (rt : RT A t K) (hK : K.length < 12) (tm : TM A F b L) (h8 : F 103 8 = s) (s0 : 0 ≤ s ∧ s ≤ L) (hx : σ.1 = wde b L s) (h9 : F 103 9 = 0) (h11 : F 103 11 = (t : Int)) (h12 : F 103 12 = σ.2.2.2.2 6) (hO : σ.2.2.1 = Ofl K) (hW : σ.2.2.2.1 = []) (ck : cok L σ) (v4 : σ.2.2.2.2 4 = 1) (v9 : σ.2.2.2.2 9 = 0) : ∃ A' F', rfR A F A' F' t ∧ ((∃ n ρ C lag S ot, crn b L n σ ρ ∧ cl mX11_isTurnHere [vr 103] (HP A F E) = some (vi 1, HP A' F' E) ∧ RT A' t ((S, ot) :: K) ∧ TM A' F' b L ∧ plc F' b L ρ.1 ∧ F' 103 9 = 0 ∧ F' 103 12 = ρ.2.2.2.2 6 ∧ CE b L ρ lag C (Ofl K) ot ∧ lag.reverse ++ C = mof (S, ot) ∧ ρ.2.2.2.2 5 = σ.2.2.2.2 5 ∧ F' 103 14 = F 103 14) ∨ (flt b L σ F' ∧ cl mX11_isTurnHere [vr 103] (HP A F E) = some (vi 0, HP A' F' E))) := by
  have hb := tm.2.2.1
  have L4 := tm.2.1
  obtain ⟨t1, t2, t3, t4, t5⟩ := id rt
  have ol := OM_len K
  have ln := ck.1.2.2.2.2.2.1
  rw [if_neg (by omega), hO, hW] at ln
  have cx := ck.2.1
  rw [List.length_nil] at ln
  have wb := wde_b (b := b) s0.2
  have pw := m_passWord (E := E) tm h8 s0.1 s0.2
  have hg : (Mfl K).length ≤ (Ofl K).length := by omega
  have at' : 48 * (t : Int) + 4 * (K.length : Int) = ((48 * t + 4 * K.length : Nat) : Int) := by omega
  generalize hF1 : fF F 8 (wde b L s) = F1 at *
  have k1 : ∀ k, k ≠ 8 → F1 103 k = F 103 k := fun k a => by rw [← hF1, fF_n a]
  have ms1 : MS (aup A 107 (fup (A 107) (48 * t + 4 * K.length) ((Mfl K).length : Int))) F1 b L t (Mfl K).length σ.1 [] σ.2.2.2.2 := ⟨⟨by rw [k1 1 (by omega)]; exact tm.1, tm.2.1, hb, fun j hj => by rw [aup_n (by omega)]; exact tm.2.2.2 j hj⟩, plc_i (by rw [← hF1, fF_s, hx]) cx, by rw [k1 9 (by omega)]; exact h9, by rw [k1 11 (by omega)]; exact h11, by rw [k1 12 (by omega)]; exact h12, by rw [aup_n (by omega), t1]; rfl, fun i hi => by simp at hi⟩
  have en := ent_1 (b := b) (L := L) v4
  obtain ⟨A2, F2, f1, ⟨n, ρ, lag, S, C, c1, c1', c2, c3, c4, c5, c6, c7', c8⟩ | ⟨c1, c2⟩⟩ := m_sum (E := E) (O0 := Ofl K) ms1 ht (by rw [hO]; rfl) hW hg ck en (fun o r q => by cases q)
  · rw [List.append_nil] at c5
    obtain ⟨q0, q1, q2', q3, q4'⟩ := id c3
    rw [List.append_nil] at q2'
    obtain ⟨r1, r2, r3, r4, r5, r6, r7⟩ := id q0
    have bl := BV_len c3 hg
    simp only [List.length_nil] at bl
    have cx2 := q4'.2.1
    have kb := sk_b (b := b) cx2.2
    have si := sk_id (b := b) (L := L) cx2.1 cx2.2
    have nr := nar_i hb cx2 c8
    have w9 : ρ.2.2.2.2 9 = 0 := by rw [c7'.2.2.2.1]; exact v9
    have w5 : ρ.2.2.2.2 5 = σ.2.2.2.2 5 := c7'.1
    rw [c5] at r6 r7
    have a2 : A2 107 = fup (A 107) (48 * t + 4 * K.length) ((Mfl K).length : Int) := by rw [f1.1 107 (by omega) (by omega), aup_s]
    have a8 : A2 108 = A 108 := by rw [f1.1 108 (by omega) (by omega), aup_n (by omega)]
    have f11 : F2 103 11 = (t : Int) := r4
    have f14 : F2 103 14 = F 103 14 := by rw [f1.2.2.1 14 (by omega) (by omega) (by omega) (by omega), k1 14 (by omega)]
    have bS : S.length ≤ 399 := by
      have : (lag.reverse ++ C).length = S.length := by rw [c5]
      rw [List.length_append, List.length_reverse] at this
      omega
    have gl : (Mfl K).length + S.length ≤ 399 := by
      have : (lag.reverse ++ C).length = S.length := by rw [c5]
      rw [List.length_append, List.length_reverse] at this
      omega
    -- behind the sum
    generalize hA3 : aup A2 107 (fup (fup (A2 107) (48 * t + 4 * K.length + 1) (((Mfl K).length : Int) + (S.length : Int))) (48 * t + 4 * K.length + 2) (-1)) = A3
    have kA3 : ∀ j, j ≠ 107 → A3 j = A2 j := fun j a => by rw [← hA3, aup_n a]
    have a37 : A3 107 = fup (fup (fup (A 107) (48 * t + 4 * K.length) ((Mfl K).length : Int)) (48 * t + 4 * K.length + 1) (((Mfl K).length : Int) + (S.length : Int))) (48 * t + 4 * K.length + 2) (-1) := by rw [← hA3, aup_s, a2]
    have x1 : (((48 * t + 4 * K.length : Nat) : Int) + 1).toNat = 48 * t + 4 * K.length + 1 := by omega
    have x2 : (((48 * t + 4 * K.length : Nat) : Int) + 2).toNat = 48 * t + 4 * K.length + 2 := by omega
    have x3 : (((48 * t + 4 * K.length : Nat) : Int) + 3).toNat = 48 * t + 4 * K.length + 3 := by omega
    have pre : cl mX11_isTurnHere [vr 103] (HP A F E) = rn mX11_isTurnHere 74 [vr 103, vi ((48 * t + 4 * K.length : Nat) : Int)] [] (HP A3 F2 E) := by
      have k11 : F1 103 11 = (t : Int) := by rw [k1 11 (by omega)]; exact h11
      rw [← hA3]
      simp (disch := omega) only [eX11_isTurnHere, sX11_isTurnHere_0, sX11_isTurnHere_1, sX11_isTurnHere_4, sX11_isTurnHere_6, sX11_isTurnHere_7, sX11_isTurnHere_10, sX11_isTurnHere_11, sX11_isTurnHere_12, sX11_isTurnHere_13, sX11_isTurnHere_16, sX11_isTurnHere_17, sX11_isTurnHere_20, sX11_isTurnHere_21, sX11_isTurnHere_22, sX11_isTurnHere_23, sX11_isTurnHere_24, sX11_isTurnHere_25, sX11_isTurnHere_28, sX11_isTurnHere_29, sX11_isTurnHere_30, sX11_isTurnHere_33, sX11_isTurnHere_34, sX11_isTurnHere_37, sX11_isTurnHere_38, sX11_isTurnHere_39, sX11_isTurnHere_40, sX11_isTurnHere_43, sX11_isTurnHere_46, sX11_isTurnHere_47, sX11_isTurnHere_48, sX11_isTurnHere_49, sX11_isTurnHere_52, sX11_isTurnHere_53, sX11_isTurnHere_54, sX11_isTurnHere_55, sX11_isTurnHere_56, sX11_isTurnHere_59, sX11_isTurnHere_60, sX11_isTurnHere_63, sX11_isTurnHere_64, sX11_isTurnHere_65, sX11_isTurnHere_66, sX11_isTurnHere_69, sX11_isTurnHere_70, sX11_isTurnHere_71, sX11_isTurnHere_72, sX11_isTurnHere_73, sX11_isTurnHere_75, sX11_isTurnHere_78, sX11_isTurnHere_81, sX11_isTurnHere_84, sX11_isTurnHere_85, sX11_isTurnHere_88, sX11_isTurnHere_89, sX11_isTurnHere_90, sX11_isTurnHere_91, sX11_isTurnHere_92, sX11_isTurnHere_95, sX11_isTurnHere_96, sX11_isTurnHere_99, sX11_isTurnHere_100, sX11_isTurnHere_101, sX11_isTurnHere_102, sX11_isTurnHere_105, sX11_isTurnHere_108, sX11_isTurnHere_109, sX11_isTurnHere_110, sX11_isTurnHere_111, sX11_isTurnHere_114, sX11_isTurnHere_115, sX11_isTurnHere_116, sX11_isTurnHere_117, sX11_isTurnHere_118, sX11_isTurnHere_121, sX11_isTurnHere_122, sX11_isTurnHere_125, sX11_isTurnHere_126, sX11_isTurnHere_127, sX11_isTurnHere_128, sX11_isTurnHere_131, sX11_isTurnHere_132, sX11_isTurnHere_135, sX11_isTurnHere_136, sX11_isTurnHere_137, sX11_isTurnHere_138, sX11_isTurnHere_139, sX11_isTurnHere_140, sX11_isTurnHere_141, ↓hk103, ↓bndv_at pw, ↓hf103_11, ↓hf103_6, ↓hf103_5, ↓hf103_4, ↓hg108, ↓hg106, ↓hs107, k11, t1, t4, Int.toNat_natCast, i32_of, at', ↓bndi_at c2, f11, r6, x1, x2, aup_s, aup_n, aup_aup, ↓if_pos, ↓if_neg]
    have fr3 : rfR A F A3 F2 t := by
      refine rfR_t (rfR_t (by rw [← hF1]; exact rfR_f (Or.inl rfl)) (rfR_t (rfR_7 (by omega)) (rfR_1 (pf1_0 f1)))) ?_
      rw [← hA3]
      exact ⟨fun j _ _ d _ _ => aup_n d, fun _ _ => rfl, fun _ _ _ _ _ _ _ _ => rfl, fun j _ => by rw [aup_n (by omega)], fun j _ => by rw [aup_n (by omega)], fun j a => by rw [aup_s, fup_n (by omega), fup_n (by omega)], fun j _ => by rw [aup_n (by omega)]⟩
    have tm3 : TM A3 F2 b L := TM_a r1 (kA3 104 (by omega))
    have ti := m_takesIf (E := E) (s := F2 103 8) tm3 rfl r2.1
    rw [r2.2] at ti
    have sums : ∀ (A' : Nat → Nat → Int) (ot : Option (List Int)), kok (S, ot) → A' 106 t = ((Mfl K).length : Int) + ((mof (S, ot)).length : Int) → (∀ j, j < 400 * t + (Mfl K).length → A' 105 j = A 105 j ∨ j < 400 * t) → (∀ i, i < (mof (S, ot)).length → A' 105 (400 * t + (Mfl K).length + i) = enc (wat (mof (S, ot)) i)) → (∀ j, j < 4 * K.length → A' 107 (48 * t + j) = A 107 (48 * t + j)) → row4 (fun j => A' 107 (48 * t + (4 * K.length + j))) (S, ot) (Mfl K).length → A' 108 t = (K.length : Int) + 1 → RT A' t ((S, ot) :: K) := by
      intro A' ot ko b1 b2 b3 b4 b5 b6
      refine ⟨by rw [Mfl, List.length_append]; omega, fun i hi => ?_, ⟨b5, tab_c K b4 t3⟩, by rw [List.length_cons]; omega, fun c hc => ?_⟩
      · rw [Mfl] at hi ⊢
        rw [List.length_append] at hi
        have wa : ∀ (M N : List Int) (i : Nat), wat (M ++ N) i = if i < N.length then wat N i else if i < (M ++ N).length then wat M (i - N.length) else 0 := by
          intro M N i
          induction M with
          | nil =>
            rw [List.nil_append]
            by_cases q : i < N.length
            · rw [if_pos q]
            · rw [if_neg q, if_neg q]
              have : ∀ (N : List Int) (i : Nat), N.length ≤ i → wat N i = 0 := by
                intro N
                induction N with
                | nil => intro i _; rfl
                | cons o r ih => intro i h; rw [List.length_cons] at h; rw [wat, if_neg (by omega)]; exact ih i (by omega)
              exact this N i (by omega)
          | cons o M ih =>
            rw [List.cons_append, wat, List.length_append, ih]
            by_cases q : i < N.length
            · rw [if_pos q, if_pos q, if_neg (by omega)]
            · rw [if_neg q, if_neg q, List.length_cons, List.length_append]
              by_cases y : i = M.length + N.length
              · rw [if_pos y, if_pos (by omega), wat, if_pos (by omega)]
              · rw [if_neg y]
                by_cases z : i < M.length + N.length
                · rw [if_pos z, if_pos (by omega), wat, if_neg (by omega)]
                · rw [if_neg z, if_neg (by omega)]
        rw [wa]
        by_cases q : i < (Mfl K).length
        · rw [if_pos q]
          rcases b2 (400 * t + i) (by omega) with y | y
          · rw [y]; exact t2 i q
          · omega
        · rw [if_neg q, if_pos (by rw [List.length_append]; omega)]
          have := b3 (i - (Mfl K).length) (by omega)
          rw [show 400 * t + (Mfl K).length + (i - (Mfl K).length) = 400 * t + i by omega] at this
          exact this
      · rcases List.mem_cons.mp hc with y | y
        · rw [y]; exact ko
        · exact t5 c y
    by_cases y : wdH b L (sk b L ρ.1) 26982 = true
    · -- a test follows
      rw [if_pos y] at ti
      have ex : tnx b L ρ.1 ρ.2.1 = tkx b L ρ := rfl
      have tw := tkx_wd (va := ρ.2.1) hb cx2 (w := 26982) y
      rw [ex] at tw
      have ts : (tkx b L ρ).2.1 = sk b L ρ.1 := (tnx_c (va := ρ.2.1) hb cx2.1 cx2.2).1
      have tI : tkI b L (sk b L ρ.1) = 0 := by unfold tkI; rw [if_pos y]
      have lg0 : ∀ o, o ∈ lag → (0 : Int) ≤ rkf o := fun o q => by have := rkf_a (c4 o q); omega
      have tr : tkr b L ρ = (-1, lag.reverse ++ (C ++ Ofl K), [], fup (fup (fup ρ.2.2.2.2 7 (ρ.2.2.2.2 7 - n22 lag)) 9 1) 4 2) := by
        unfold tkr tkS
        unfold nar at nr
        rw [if_neg (by omega), if_neg (by omega), if_neg (by omega), if_pos q3]
        unfold tkBV
        rw [if_neg (by omega), if_pos w9]
        unfold tkBT
        have e2 := stl2_lag (rk := 0) lag [] (C ++ Ofl K) lg0 (fun o r q => by cases q)
        rw [List.append_nil] at e2
        rw [ts, if_neg (by omega), q1, q2', e2]
      have w1 : (tkr b L ρ).1 = -1 := by rw [tr]
      have ck3 := nxs_ok hb q4' w1
      have rc1 := crn_1 w1 (by rw [tw.1]; omega)
      have b1 : (nxs b L ρ).1 = wde b L (sk b L ρ.1) := tw.2
      have b3 : (nxs b L ρ).2.2.1 = S ++ Ofl K := by show (tkr b L ρ).2.1 = _; rw [tr, ← List.append_assoc, c5]
      have b4 : (nxs b L ρ).2.2.2.1 = [] := by show (tkr b L ρ).2.2.1 = _; rw [tr]
      have b5 : (nxs b L ρ).2.2.2.2 = fup (fup (fup ρ.2.2.2.2 7 (ρ.2.2.2.2 7 - n22 lag)) 9 1) 4 2 := by show (tkr b L ρ).2.2.2 = _; rw [tr]
      generalize hτ1 : nxs b L ρ = τ1 at *
      generalize hF3 : fF F2 8 (wde b L (sk b L ρ.1)) = F3 at *
      have k3 : ∀ k, k ≠ 8 → F3 103 k = F2 103 k := fun k a => by rw [← hF3, fF_n a]
      have fr4 : rfR A3 F2 A3 F3 t := by rw [← hF3]; exact rfR_f (Or.inl rfl)
      have wb2 := wde_b (b := b) (L := L) (p := sk b L ρ.1) (by omega)
      have ms4 : MS (aup A3 107 (fup (A3 107) (48 * t + 4 * K.length + 2) (((Mfl K).length : Int) + (S.length : Int)))) F3 b L t (Mfl K).length τ1.1 S τ1.2.2.2.2 := ⟨⟨by rw [k3 1 (by omega)]; exact r1.1, r1.2.1, hb, fun j hj => by rw [aup_n (by omega), kA3 104 (by omega)]; exact r1.2.2.2 j hj⟩, plc_i (by rw [← hF3, fF_s, b1]) ck3.1.2.1, by rw [k3 9 (by omega)]; exact r3, by rw [k3 11 (by omega)]; exact r4, by rw [k3 12 (by omega), b5]; simp (disch := omega) only [fup_n]; exact r5, by rw [aup_n (by omega), kA3 106 (by omega)]; exact r6, fun i hi => by rw [aup_n (by omega), kA3 105 (by omega)]; exact r7 i hi⟩
      obtain ⟨A5, F5, d1, ⟨n2, ρ2, C2, lag2, T2, d2, d3, d4, d5⟩ | ⟨d2, d3⟩⟩ := m_tested (E := E) ht hg ms4 b3 b4 ck3.1 (by rw [b5, fup_s]) (by rw [b5, fup_n (by omega), fup_s]; omega)
      · obtain ⟨z0, z1, z2, z3, z4, z5, z6, z7, z8, z9⟩ := id d4
        obtain ⟨y1, y2, y3, y4, y5, y6, y7⟩ := id z0
        rw [z7] at y6 y7
        have a57 : A5 107 = fup (A3 107) (48 * t + 4 * K.length + 2) (((Mfl K).length : Int) + (S.length : Int)) := by rw [d1.1 107 (by omega) (by omega) (by omega), aup_s]
        have a58 : A5 108 t = (K.length : Int) := by rw [d1.1 108 (by omega) (by omega) (by omega), aup_n (by omega), kA3 108 (by omega), a8]; exact t4
        have g5l : (Mfl K).length + (T2 ++ S).length ≤ 400 := by
          have ln2 := z3.1.2.2.2.2.2.1
          have e4 : ρ2.2.2.2.2 4 ≠ 0 := by rcases z5 with q | q <;> omega
          rw [if_neg e4, z1, z2, List.length_append] at ln2
          have := z3.2.1.2
          have : (lag2.reverse ++ C2).length = (T2 ++ S).length := by rw [z7]
          rw [List.length_append, List.length_reverse] at this
          omega
        generalize hA6 : aup (aup A5 107 (fup (A5 107) (48 * t + 4 * K.length + 3) (((Mfl K).length : Int) + ((T2 ++ S).length : Int)))) 108 (fup (A5 108) t ((K.length : Int) + 1)) = A6
        have fr5 : rfR A5 F5 A6 F5 t := by rw [← hA6]; exact rfR_t (rfR_7 (k := 48 * t + 4 * K.length + 3) (v := ((Mfl K).length : Int) + ((T2 ++ S).length : Int)) (by omega)) rfR_8
        refine ⟨A6, F5, rfR_t (rfR_t fr3 (rfR_t fr4 (rfR_t (rfR_7 (k := 48 * t + 4 * K.length + 2) (v := ((Mfl K).length : Int) + (S.length : Int)) (by omega)) (rfR_1 d1)))) fr5, Or.inl ⟨n + (1 + n2), ρ2, C2, lag2, S, some T2, crn_t n (1 + n2) σ ρ ρ2 c1 (crn_t 1 n2 ρ τ1 ρ2 rc1 d2), ?_, ?_, ?_, y2, y3, y5, ⟨z1, z2, z3, z6, Or.inr ⟨(fun q => by cases q), z4, z5, z9⟩⟩, z7, by rw [d5, b5]; simp (disch := omega) only [fup_n]; exact w5, by rw [d1.2.2.1 14 (by omega) (by omega) (by omega) (by omega) (by omega) (by omega), k3 14 (by omega), f14]⟩⟩
        · have f511 : F5 103 11 = (t : Int) := y4
          rw [pre, ← hA6]
          simp (disch := omega) only [eX11_isTurnHere, sX11_isTurnHere_0, sX11_isTurnHere_1, sX11_isTurnHere_4, sX11_isTurnHere_6, sX11_isTurnHere_7, sX11_isTurnHere_10, sX11_isTurnHere_11, sX11_isTurnHere_12, sX11_isTurnHere_13, sX11_isTurnHere_16, sX11_isTurnHere_17, sX11_isTurnHere_20, sX11_isTurnHere_21, sX11_isTurnHere_22, sX11_isTurnHere_23, sX11_isTurnHere_24, sX11_isTurnHere_25, sX11_isTurnHere_28, sX11_isTurnHere_29, sX11_isTurnHere_30, sX11_isTurnHere_33, sX11_isTurnHere_34, sX11_isTurnHere_37, sX11_isTurnHere_38, sX11_isTurnHere_39, sX11_isTurnHere_40, sX11_isTurnHere_43, sX11_isTurnHere_46, sX11_isTurnHere_47, sX11_isTurnHere_48, sX11_isTurnHere_49, sX11_isTurnHere_52, sX11_isTurnHere_53, sX11_isTurnHere_54, sX11_isTurnHere_55, sX11_isTurnHere_56, sX11_isTurnHere_59, sX11_isTurnHere_60, sX11_isTurnHere_63, sX11_isTurnHere_64, sX11_isTurnHere_65, sX11_isTurnHere_66, sX11_isTurnHere_69, sX11_isTurnHere_70, sX11_isTurnHere_71, sX11_isTurnHere_72, sX11_isTurnHere_73, sX11_isTurnHere_74, sX11_isTurnHere_75, sX11_isTurnHere_78, sX11_isTurnHere_81, sX11_isTurnHere_84, sX11_isTurnHere_85, sX11_isTurnHere_88, sX11_isTurnHere_89, sX11_isTurnHere_90, sX11_isTurnHere_91, sX11_isTurnHere_92, sX11_isTurnHere_95, sX11_isTurnHere_96, sX11_isTurnHere_99, sX11_isTurnHere_100, sX11_isTurnHere_101, sX11_isTurnHere_102, sX11_isTurnHere_105, sX11_isTurnHere_108, sX11_isTurnHere_109, sX11_isTurnHere_110, sX11_isTurnHere_111, sX11_isTurnHere_114, sX11_isTurnHere_115, sX11_isTurnHere_116, sX11_isTurnHere_117, sX11_isTurnHere_118, sX11_isTurnHere_121, sX11_isTurnHere_122, sX11_isTurnHere_125, sX11_isTurnHere_126, sX11_isTurnHere_127, sX11_isTurnHere_128, sX11_isTurnHere_131, sX11_isTurnHere_132, sX11_isTurnHere_135, sX11_isTurnHere_136, sX11_isTurnHere_137, sX11_isTurnHere_138, sX11_isTurnHere_139, sX11_isTurnHere_140, sX11_isTurnHere_141, ↓hk103, ↓bndi_at ti, ↓hf103_11, ↓hf103_6, ↓hf103_5, ↓hf103_4, ↓hg106, ↓hg108, ↓hs107, ↓hs108, k3, f11, kA3, r6, Int.toNat_natCast, i32_of, x2, x3, ↓bndi_at d3, f511, y6, a58, aup_s, aup_n, aup_aup, ↓if_pos, ↓if_neg, ↓reduceIte, or_true]
        · refine sums A6 (some T2) ⟨c6, fun T q => by cases q; exact z8⟩ ?_ (fun j hj => ?_) (fun i hi => ?_) (fun j hj => ?_) ?_ ?_
          · rw [← hA6, aup_n (by omega), aup_n (by omega)]; exact y6
          · by_cases q : j < 400 * t
            · exact Or.inr q
            · refine Or.inl ?_
              rw [← hA6, aup_n (by omega), aup_n (by omega), d1.2.2.2.1 j (Or.inl hj), aup_n (by omega), kA3 105 (by omega), f1.2.2.2.1 j (Or.inl hj), aup_n (by omega)]
          · rw [← hA6, aup_n (by omega), aup_n (by omega)]; exact y7 i hi
          · rw [← hA6, aup_n (by omega), aup_s, a57, a37, fup_n (by omega), fup_n (by omega), fup_n (by omega), fup_n (by omega), fup_n (by omega)]
          · refine ⟨?_, ?_, ?_, ?_⟩
            · show A6 107 (48 * t + (4 * K.length + 0)) = _
              rw [← hA6, aup_n (by omega), aup_s, a57, a37, fup_n (by omega), fup_n (by omega), fup_n (by omega), fup_n (by omega), show 48 * t + (4 * K.length + 0) = 48 * t + 4 * K.length by omega, fup_s]
            · show A6 107 (48 * t + (4 * K.length + 1)) = _
              rw [← hA6, aup_n (by omega), aup_s, a57, a37, fup_n (by omega), fup_n (by omega), fup_n (by omega), show 48 * t + (4 * K.length + 1) = 48 * t + 4 * K.length + 1 by omega, fup_s]
            · show A6 107 (48 * t + (4 * K.length + 2)) = _
              rw [← hA6, aup_n (by omega), aup_s, a57, fup_n (by omega), show 48 * t + (4 * K.length + 2) = 48 * t + 4 * K.length + 2 by omega, fup_s]
            · show A6 107 (48 * t + (4 * K.length + 3)) = _
              rw [← hA6, aup_n (by omega), aup_s, show 48 * t + (4 * K.length + 3) = 48 * t + 4 * K.length + 3 by omega, fup_s]
              rfl
          · rw [← hA6, aup_s, fup_s]
        · exact TM_a y1 (by rw [← hA6, aup_n (by omega), aup_n (by omega)])
      · refine ⟨A5, F5, rfR_t fr3 (rfR_t fr4 (rfR_t (rfR_7 (k := 48 * t + 4 * K.length + 2) (v := ((Mfl K).length : Int) + (S.length : Int)) (by omega)) (rfR_1 d1))), Or.inr ⟨flt_t c1 (flt_t rc1 d2), ?_⟩⟩
        rw [pre]
        simp (disch := omega) only [eX11_isTurnHere, sX11_isTurnHere_0, sX11_isTurnHere_1, sX11_isTurnHere_4, sX11_isTurnHere_6, sX11_isTurnHere_7, sX11_isTurnHere_10, sX11_isTurnHere_11, sX11_isTurnHere_12, sX11_isTurnHere_13, sX11_isTurnHere_16, sX11_isTurnHere_17, sX11_isTurnHere_20, sX11_isTurnHere_21, sX11_isTurnHere_22, sX11_isTurnHere_23, sX11_isTurnHere_24, sX11_isTurnHere_25, sX11_isTurnHere_28, sX11_isTurnHere_29, sX11_isTurnHere_30, sX11_isTurnHere_33, sX11_isTurnHere_34, sX11_isTurnHere_37, sX11_isTurnHere_38, sX11_isTurnHere_39, sX11_isTurnHere_40, sX11_isTurnHere_43, sX11_isTurnHere_46, sX11_isTurnHere_47, sX11_isTurnHere_48, sX11_isTurnHere_49, sX11_isTurnHere_52, sX11_isTurnHere_53, sX11_isTurnHere_54, sX11_isTurnHere_55, sX11_isTurnHere_56, sX11_isTurnHere_59, sX11_isTurnHere_60, sX11_isTurnHere_63, sX11_isTurnHere_64, sX11_isTurnHere_65, sX11_isTurnHere_66, sX11_isTurnHere_69, sX11_isTurnHere_70, sX11_isTurnHere_71, sX11_isTurnHere_72, sX11_isTurnHere_73, sX11_isTurnHere_74, sX11_isTurnHere_75, sX11_isTurnHere_78, sX11_isTurnHere_81, sX11_isTurnHere_84, sX11_isTurnHere_85, sX11_isTurnHere_88, sX11_isTurnHere_89, sX11_isTurnHere_90, sX11_isTurnHere_91, sX11_isTurnHere_92, sX11_isTurnHere_95, sX11_isTurnHere_96, sX11_isTurnHere_99, sX11_isTurnHere_100, sX11_isTurnHere_101, sX11_isTurnHere_102, sX11_isTurnHere_105, sX11_isTurnHere_108, sX11_isTurnHere_109, sX11_isTurnHere_110, sX11_isTurnHere_111, sX11_isTurnHere_114, sX11_isTurnHere_115, sX11_isTurnHere_116, sX11_isTurnHere_117, sX11_isTurnHere_118, sX11_isTurnHere_121, sX11_isTurnHere_122, sX11_isTurnHere_125, sX11_isTurnHere_126, sX11_isTurnHere_127, sX11_isTurnHere_128, sX11_isTurnHere_131, sX11_isTurnHere_132, sX11_isTurnHere_135, sX11_isTurnHere_136, sX11_isTurnHere_137, sX11_isTurnHere_138, sX11_isTurnHere_139, sX11_isTurnHere_140, sX11_isTurnHere_141, ↓hk103, ↓bndi_at ti, ↓hf103_11, ↓hf103_5, ↓hf103_4, ↓hg106, ↓hs107, k3, f11, kA3, r6, Int.toNat_natCast, i32_of, x2, ↓bndi_at d3, aup_s, aup_n, aup_aup, ↓if_pos, ↓if_neg, ↓reduceIte, true_or]
    · -- no test
      rw [if_neg y] at ti
      have tI : tkI b L (sk b L ρ.1) = -1 := by unfold tkI; rw [if_neg y]
      generalize hF3 : fF F2 8 (sk b L ρ.1) = F3 at *
      have k3 : ∀ k, k ≠ 8 → F3 103 k = F2 103 k := fun k a => by rw [← hF3, fF_n a]
      have a38 : A3 108 t = (K.length : Int) := by rw [kA3 108 (by omega), a8]; exact t4
      generalize hA6 : aup (aup A3 107 (fup (A3 107) (48 * t + 4 * K.length + 3) (((Mfl K).length : Int) + (S.length : Int)))) 108 (fup (A3 108) t ((K.length : Int) + 1)) = A6
      have fr4 : rfR A3 F2 A3 F3 t := by rw [← hF3]; exact rfR_f (Or.inl rfl)
      have fr5 : rfR A3 F3 A6 F3 t := by rw [← hA6]; exact rfR_t (rfR_7 (k := 48 * t + 4 * K.length + 3) (v := ((Mfl K).length : Int) + (S.length : Int)) (by omega)) rfR_8
      refine ⟨A6, F3, rfR_t (rfR_t fr3 fr4) fr5, Or.inl ⟨n, ρ, C, lag, S, none, c1, ?_, ?_, ?_, ⟨by rw [← hF3, fF_s]; omega, by rw [← hF3, fF_s]; exact si⟩, by rw [k3 9 (by omega)]; exact r3, by rw [k3 12 (by omega)]; exact r5, ⟨q1, q2', q4', fun o q => by have := c4 o q; omega, Or.inl ⟨rfl, w9, q3, nr, tI⟩⟩, c5, w5, by rw [k3 14 (by omega), f14]⟩⟩
      · have f311 : F3 103 11 = (t : Int) := by rw [k3 11 (by omega)]; exact f11
        rw [pre, ← hA6]
        simp (disch := omega) only [eX11_isTurnHere, sX11_isTurnHere_0, sX11_isTurnHere_1, sX11_isTurnHere_4, sX11_isTurnHere_6, sX11_isTurnHere_7, sX11_isTurnHere_10, sX11_isTurnHere_11, sX11_isTurnHere_12, sX11_isTurnHere_13, sX11_isTurnHere_16, sX11_isTurnHere_17, sX11_isTurnHere_20, sX11_isTurnHere_21, sX11_isTurnHere_22, sX11_isTurnHere_23, sX11_isTurnHere_24, sX11_isTurnHere_25, sX11_isTurnHere_28, sX11_isTurnHere_29, sX11_isTurnHere_30, sX11_isTurnHere_33, sX11_isTurnHere_34, sX11_isTurnHere_37, sX11_isTurnHere_38, sX11_isTurnHere_39, sX11_isTurnHere_40, sX11_isTurnHere_43, sX11_isTurnHere_46, sX11_isTurnHere_47, sX11_isTurnHere_48, sX11_isTurnHere_49, sX11_isTurnHere_52, sX11_isTurnHere_53, sX11_isTurnHere_54, sX11_isTurnHere_55, sX11_isTurnHere_56, sX11_isTurnHere_59, sX11_isTurnHere_60, sX11_isTurnHere_63, sX11_isTurnHere_64, sX11_isTurnHere_65, sX11_isTurnHere_66, sX11_isTurnHere_69, sX11_isTurnHere_70, sX11_isTurnHere_71, sX11_isTurnHere_72, sX11_isTurnHere_73, sX11_isTurnHere_74, sX11_isTurnHere_75, sX11_isTurnHere_78, sX11_isTurnHere_81, sX11_isTurnHere_84, sX11_isTurnHere_85, sX11_isTurnHere_88, sX11_isTurnHere_89, sX11_isTurnHere_90, sX11_isTurnHere_91, sX11_isTurnHere_92, sX11_isTurnHere_95, sX11_isTurnHere_96, sX11_isTurnHere_99, sX11_isTurnHere_100, sX11_isTurnHere_101, sX11_isTurnHere_102, sX11_isTurnHere_105, sX11_isTurnHere_108, sX11_isTurnHere_109, sX11_isTurnHere_110, sX11_isTurnHere_111, sX11_isTurnHere_114, sX11_isTurnHere_115, sX11_isTurnHere_116, sX11_isTurnHere_117, sX11_isTurnHere_118, sX11_isTurnHere_121, sX11_isTurnHere_122, sX11_isTurnHere_125, sX11_isTurnHere_126, sX11_isTurnHere_127, sX11_isTurnHere_128, sX11_isTurnHere_131, sX11_isTurnHere_132, sX11_isTurnHere_135, sX11_isTurnHere_136, sX11_isTurnHere_137, sX11_isTurnHere_138, sX11_isTurnHere_139, sX11_isTurnHere_140, sX11_isTurnHere_141, ↓hk103, ↓bndi_at ti, ↓hf103_11, ↓hf103_6, ↓hf103_5, ↓hf103_4, ↓hg106, ↓hg108, ↓hs107, ↓hs108, f311, kA3 106, r6, a38, Int.toNat_natCast, i32_of, x3, aup_s, aup_n, aup_aup, ↓if_pos, ↓if_neg, ↓reduceIte, or_true]
      · refine sums A6 none ⟨c6, fun T q => by cases q⟩ ?_ (fun j hj => ?_) (fun i hi => ?_) (fun j hj => ?_) ?_ ?_
        · rw [← hA6, aup_n (by omega), aup_n (by omega), kA3 106 (by omega)]; exact r6
        · by_cases q : j < 400 * t
          · exact Or.inr q
          · refine Or.inl ?_
            rw [← hA6, aup_n (by omega), aup_n (by omega), kA3 105 (by omega), f1.2.2.2.1 j (Or.inl hj), aup_n (by omega)]
        · rw [← hA6, aup_n (by omega), aup_n (by omega), kA3 105 (by omega)]; exact r7 i hi
        · rw [← hA6, aup_n (by omega), aup_s, a37, fup_n (by omega), fup_n (by omega), fup_n (by omega), fup_n (by omega)]
        · refine ⟨?_, ?_, ?_, ?_⟩
          · show A6 107 (48 * t + (4 * K.length + 0)) = _
            rw [← hA6, aup_n (by omega), aup_s, a37, fup_n (by omega), fup_n (by omega), fup_n (by omega), show 48 * t + (4 * K.length + 0) = 48 * t + 4 * K.length by omega, fup_s]
          · show A6 107 (48 * t + (4 * K.length + 1)) = _
            rw [← hA6, aup_n (by omega), aup_s, a37, fup_n (by omega), fup_n (by omega), show 48 * t + (4 * K.length + 1) = 48 * t + 4 * K.length + 1 by omega, fup_s]
          · show A6 107 (48 * t + (4 * K.length + 2)) = _
            rw [← hA6, aup_n (by omega), aup_s, a37, fup_n (by omega), show 48 * t + (4 * K.length + 2) = 48 * t + 4 * K.length + 2 by omega, fup_s]
          · show A6 107 (48 * t + (4 * K.length + 3)) = _
            rw [← hA6, aup_n (by omega), aup_s, show 48 * t + (4 * K.length + 3) = 48 * t + 4 * K.length + 3 by omega, fup_s]
            rfl
        · rw [← hA6, aup_s, fup_s]
      · exact TM_a (by rw [← hF3]; exact TM_f r1 (by omega)) (by rw [← hA6, aup_n (by omega), aup_n (by omega), kA3 104 (by omega)])
  · have fr4 : rfR A F A F1 t := by rw [← hF1]; exact rfR_f (Or.inl rfl)
    refine ⟨A2, F2, rfR_t fr4 (rfR_t (rfR_7 (k := 48 * t + 4 * K.length) (v := ((Mfl K).length : Int)) (by omega)) (rfR_1 (pf1_0 f1))), Or.inr ⟨c1, ?_⟩⟩
    have k11 : F1 103 11 = (t : Int) := by rw [k1 11 (by omega)]; exact h11
    simp (disch := omega) only [eX11_isTurnHere, sX11_isTurnHere_0, sX11_isTurnHere_1, sX11_isTurnHere_4, sX11_isTurnHere_6, sX11_isTurnHere_7, sX11_isTurnHere_10, sX11_isTurnHere_11, sX11_isTurnHere_12, sX11_isTurnHere_13, sX11_isTurnHere_16, sX11_isTurnHere_17, sX11_isTurnHere_20, sX11_isTurnHere_21, sX11_isTurnHere_22, sX11_isTurnHere_23, sX11_isTurnHere_24, sX11_isTurnHere_25, sX11_isTurnHere_28, sX11_isTurnHere_29, sX11_isTurnHere_30, sX11_isTurnHere_33, sX11_isTurnHere_34, sX11_isTurnHere_37, sX11_isTurnHere_38, sX11_isTurnHere_39, sX11_isTurnHere_40, sX11_isTurnHere_43, sX11_isTurnHere_46, sX11_isTurnHere_47, sX11_isTurnHere_48, sX11_isTurnHere_49, sX11_isTurnHere_52, sX11_isTurnHere_53, sX11_isTurnHere_54, sX11_isTurnHere_55, sX11_isTurnHere_56, sX11_isTurnHere_59, sX11_isTurnHere_60, sX11_isTurnHere_63, sX11_isTurnHere_64, sX11_isTurnHere_65, sX11_isTurnHere_66, sX11_isTurnHere_69, sX11_isTurnHere_70, sX11_isTurnHere_71, sX11_isTurnHere_72, sX11_isTurnHere_73, sX11_isTurnHere_75, sX11_isTurnHere_78, sX11_isTurnHere_81, sX11_isTurnHere_84, sX11_isTurnHere_85, sX11_isTurnHere_88, sX11_isTurnHere_89, sX11_isTurnHere_90, sX11_isTurnHere_91, sX11_isTurnHere_92, sX11_isTurnHere_95, sX11_isTurnHere_96, sX11_isTurnHere_99, sX11_isTurnHere_100, sX11_isTurnHere_101, sX11_isTurnHere_102, sX11_isTurnHere_105, sX11_isTurnHere_108, sX11_isTurnHere_109, sX11_isTurnHere_110, sX11_isTurnHere_111, sX11_isTurnHere_114, sX11_isTurnHere_115, sX11_isTurnHere_116, sX11_isTurnHere_117, sX11_isTurnHere_118, sX11_isTurnHere_121, sX11_isTurnHere_122, sX11_isTurnHere_125, sX11_isTurnHere_126, sX11_isTurnHere_127, sX11_isTurnHere_128, sX11_isTurnHere_131, sX11_isTurnHere_132, sX11_isTurnHere_135, sX11_isTurnHere_136, sX11_isTurnHere_137, sX11_isTurnHere_138, sX11_isTurnHere_139, sX11_isTurnHere_140, sX11_isTurnHere_141, ↓hk103, ↓bndv_at pw, ↓hf103_11, ↓hf103_6, ↓hf103_5, ↓hf103_4, ↓hg108, ↓hg106, ↓hs107, k11, t1, t4, Int.toNat_natCast, i32_of, at', ↓bndi_at c2, aup_s, aup_n, aup_aup, ↓if_pos, ↓if_neg, ↓reduceIte, true_or]
end TR
