/-! tokens and numbers, the class's and the model's -/
section TK
variable {A F : Nat → Nat → Int} {E : zE} {b : Nat → Int} {L p va : Int}
theorem tnx_e : tnx b L p va = (if L ≤ sk b L p then (sk b L p, sk b L p, -1, va) else if dgt (b (sk b L p).toNat) then ((nde b L (sk b L p)).1, sk b L p, -2, if (nde b L (sk b L p)).1 - sk b L p ≤ 5 then (nde b L (sk b L p)).2 else -1) else if ltr (b (sk b L p).toNat) then (wde b L (sk b L p), sk b L p, -3, va) else ((rsg b L (sk b L p) (b (sk b L p).toNat)).1, sk b L p, (rsg b L (sk b L p) (b (sk b L p).toNat)).2, va)) := rfl
theorem rsg_k {s x : Int} (hx : 0 ≤ x) : 0 ≤ (rsg b L s x).2 := by
  unfold rsg
  split
  · simp only; split <;> omega
  · exact hx
theorem dgt_m1 : dgt (-1) = false := by decide
theorem ltr_m1 : ltr (-1) = false := by decide
theorem tnx_c (hb : ∀ j, 0 ≤ b j ∧ b j ≤ 255) (h0 : 0 ≤ p) (h1 : p ≤ L) : (tnx b L p va).2.1 = sk b L p ∧ ((L ≤ sk b L p ∧ tnx b L p va = (sk b L p, sk b L p, -1, va) ∧ dgt (byt b L (sk b L p)) = false ∧ ltr (byt b L (sk b L p)) = false ∧ byt b L (sk b L p) = -1) ∨ (sk b L p < L ∧ dgt (byt b L (sk b L p)) = true ∧ ltr (byt b L (sk b L p)) = false ∧ tnx b L p va = ((nde b L (sk b L p)).1, sk b L p, -2, if (nde b L (sk b L p)).1 - sk b L p ≤ 5 then (nde b L (sk b L p)).2 else -1)) ∨ (sk b L p < L ∧ dgt (byt b L (sk b L p)) = false ∧ ltr (byt b L (sk b L p)) = true ∧ tnx b L p va = (wde b L (sk b L p), sk b L p, -3, va)) ∨ (sk b L p < L ∧ dgt (byt b L (sk b L p)) = false ∧ ltr (byt b L (sk b L p)) = false ∧ byt b L (sk b L p) = b (sk b L p).toNat ∧ tnx b L p va = ((rsg b L (sk b L p) (b (sk b L p).toNat)).1, sk b L p, (rsg b L (sk b L p) (b (sk b L p).toNat)).2, va))) := by
  have kb := sk_b (b := b) h1
  rw [tnx_e]
  generalize sk b L p = s at *
  by_cases q : L ≤ s
  · rw [if_pos q]
    refine ⟨rfl, Or.inl ⟨q, rfl, ?_, ?_, byt_out q⟩⟩
    · rw [byt_out q]; exact dgt_m1
    · rw [byt_out q]; exact ltr_m1
  · rw [if_neg q, byt_in (by omega) (by omega)]
    by_cases d : dgt (b s.toNat) = true
    · have dd : 48 ≤ b s.toNat ∧ b s.toNat ≤ 57 := of_decide_eq_true d
      rw [if_pos d]
      exact ⟨rfl, Or.inr (Or.inl ⟨by omega, d, decide_eq_false (by omega), rfl⟩)⟩
    · have df : dgt (b s.toNat) = false := by cases h : dgt (b s.toNat) <;> simp_all
      rw [if_neg d]
      by_cases l : ltr (b s.toNat) = true
      · rw [if_pos l]
        exact ⟨rfl, Or.inr (Or.inr (Or.inl ⟨by omega, df, l, rfl⟩))⟩
      · have lf : ltr (b s.toNat) = false := by cases h : ltr (b s.toNat) <;> simp_all
        rw [if_neg l]
        exact ⟨rfl, Or.inr (Or.inr (Or.inr ⟨by omega, df, lf, rfl, rfl⟩))⟩
/-- what the model's reading of numbers leaves -/
def nfr (F F' : Nat → Nat → Int) : Prop := (∀ j, j ≠ 103 → F' j = F j) ∧ ∀ k, k ≠ 8 → k ≠ 9 → k ≠ 10 → F' 103 k = F 103 k
theorem nfr_r : nfr F F := ⟨fun _ _ => rfl, fun _ _ _ _ => rfl⟩
theorem nfr_t {F1 F2 : Nat → Nat → Int} (h : nfr F F1) (k : nfr F1 F2) : nfr F F2 := ⟨fun j a => (k.1 j a).trans (h.1 j a), fun j a c d => (k.2 j a c d).trans (h.2 j a c d)⟩
theorem nfr_f {F1 : Nat → Nat → Int} {k : Nat} {v : Int} (h : nfr F F1) (hk : k = 8 ∨ k = 9 ∨ k = 10) : nfr F (fF F1 k v) := ⟨fun j a => by rw [fF_o a]; exact h.1 j a, fun j a c d => by rw [fF_n (by omega)]; exact h.2 j a c d⟩
theorem TM_n {F1 : Nat → Nat → Int} (h : TM A F b L) (k : nfr F F1) : TM A F1 b L := ⟨by rw [k.2 1 (by omega) (by omega) (by omega)]; exact h.1, h.2⟩
theorem TM_a {A1 : Nat → Nat → Int} (h : TM A F b L) (k : A1 104 = A 104) : TM A1 F b L := ⟨h.1, h.2.1, h.2.2.1, fun j hj => by rw [k]; exact h.2.2.2 j hj⟩
/-- the model's place: the class's, but for blanks -/
def plc (F : Nat → Nat → Int) (b : Nat → Int) (L x : Int) : Prop := (0 ≤ F 103 8 ∧ F 103 8 ≤ L) ∧ sk b L (F 103 8) = sk b L x
theorem nde_b {s : Int} (h : s ≤ L) : s ≤ (nde b L s).1 ∧ (nde b L s).1 ≤ L ∧ 0 ≤ (nde b L s).2 ∧ (nde b L s).2 ≤ 99999 := by
  have := rdn_b (f := b) (s := s) (L - s).toNat s 0 (Int.le_refl _) ⟨by omega, by omega, fun _ => by omega, fun _ => by omega, fun _ => by omega, fun _ => by omega, fun _ => by omega⟩
  unfold nde; omega
theorem m_num {lo hi x : Int} (tm : TM A F b L) (h9 : F 103 9 = 0) (hx : 0 ≤ x ∧ x ≤ L) (pc : plc F b L x) (l0 : 0 ≤ lo) : ∃ F', nfr F F' ∧ (((tnx b L x va).2.2.1 = -2 ∧ lo ≤ (tnx b L x va).2.2.2 ∧ (tnx b L x va).2.2.2 ≤ hi ∧ cl mX11_numberHere [vr 103, vi lo, vi hi] (HP A F E) = some (vi 1, HP A F' E) ∧ F' 103 8 = (tnx b L x va).1 ∧ F' 103 10 = (tnx b L x va).2.2.2 ∧ F' 103 9 = 0) ∨ (¬ ((tnx b L x va).2.2.1 = -2 ∧ lo ≤ (tnx b L x va).2.2.2 ∧ (tnx b L x va).2.2.2 ≤ hi) ∧ cl mX11_numberHere [vr 103, vi lo, vi hi] (HP A F E) = some (vi 0, HP A F' E) ∧ F' 103 9 = 1 + 8 * (tnx b L x va).2.1 + (if (tnx b L x va).2.2.1 = -2 then 1 else 0))) := by
  have mn := m_number (E := E) (lo := lo) (hi := hi) tm rfl h9 pc.1.1 pc.1.2
  rw [pc.2] at mn
  have tc := tnx_c (va := va) tm.2.2.1 hx.1 hx.2
  have kb := sk_b (b := b) hx.2
  have sg : ∀ y, 0 ≤ b y := fun y => (tm.2.2.1 y).1
  generalize hs : sk b L x = s at *
  have nb := nde_b (b := b) (s := s) kb.2
  obtain ⟨t1, ⟨u1, u2, u3, u4, _⟩ | ⟨u1, u2, u3, u4⟩ | ⟨u1, u2, u3, u4⟩ | ⟨u1, u2, u3, _, u4⟩⟩ := tc
  · rw [u3, if_neg (by decide)] at mn
    refine ⟨_, nfr_f (nfr_f nfr_r (Or.inl rfl)) (Or.inr (Or.inl rfl)), Or.inr ⟨fun q => ?_, mn, ?_⟩⟩
    · rw [u2] at q; have : (-1 : Int) = -2 := q.1; omega
    · rw [fF_s, u2]; simp only; rw [if_neg (by omega)]
  · rw [u2, if_pos rfl] at mn
    by_cases y : (nde b L s).1 - s ≤ 5 ∧ lo ≤ (nde b L s).2 ∧ (nde b L s).2 ≤ hi
    · rw [if_pos y] at mn
      refine ⟨fF (fF F 8 (nde b L s).1) 10 (nde b L s).2, nfr_f (nfr_f nfr_r (Or.inl rfl)) (Or.inr (Or.inr rfl)), Or.inl ?_⟩
      rw [u4]
      simp only
      rw [if_pos y.1]
      exact ⟨by trivial, y.2.1, y.2.2, mn, by rw [fF_n (by omega), fF_s], by rw [fF_s], by rw [fF_n (by omega), fF_n (by omega)]; exact h9⟩
    · rw [if_neg y] at mn
      refine ⟨fF (fF (fF F 8 (nde b L s).1) 10 (nde b L s).2) 9 (1 + 8 * s + 1), nfr_f (nfr_f (nfr_f nfr_r (Or.inl rfl)) (Or.inr (Or.inr rfl))) (Or.inr (Or.inl rfl)), Or.inr ?_⟩
      rw [u4]
      simp only
      refine ⟨fun q => y ?_, mn, by rw [fF_s, if_pos (by trivial)]⟩
      by_cases z : (nde b L s).1 - s ≤ 5
      · rw [if_pos z] at q; exact ⟨z, q.2⟩
      · rw [if_neg z] at q; omega
  · rw [u2, if_neg (by decide)] at mn
    refine ⟨_, nfr_f (nfr_f nfr_r (Or.inl rfl)) (Or.inr (Or.inl rfl)), Or.inr ⟨fun q => ?_, mn, ?_⟩⟩
    · rw [u4] at q; have : (-3 : Int) = -2 := q.1; omega
    · rw [fF_s, u4]; simp only; rw [if_neg (by omega)]
  · rw [u2, if_neg (by decide)] at mn
    have rk := rsg_k (b := b) (L := L) (s := s) (x := b s.toNat) (sg _)
    refine ⟨_, nfr_f (nfr_f nfr_r (Or.inl rfl)) (Or.inr (Or.inl rfl)), Or.inr ⟨fun q => ?_, mn, ?_⟩⟩
    · rw [u4] at q; have := q.1; simp only at this; omega
    · rw [fF_s, u4]; simp only; rw [if_neg (by omega)]
theorem m_cellHere {ce lo hi x : Int} (tm : TM A F b L) (h9 : F 103 9 = 0) (hx : 0 ≤ x ∧ x ≤ L) (pc : plc F b L x) (l0 : 0 ≤ lo) (c0 : 0 ≤ ce ∧ ce < 145) : ∃ F', nfr F F' ∧ (((tnx b L x va).2.2.1 = -2 ∧ lo ≤ (tnx b L x va).2.2.2 ∧ (tnx b L x va).2.2.2 ≤ hi ∧ cl mX11_cellHere [vr 103, vi ce, vi lo, vi hi] (HP A F E) = some (vi 1, HP (aup A 109 (fup (A 109) ce.toNat (tnx b L x va).2.2.2)) F' E) ∧ F' 103 8 = (tnx b L x va).1 ∧ F' 103 9 = 0) ∨ (¬ ((tnx b L x va).2.2.1 = -2 ∧ lo ≤ (tnx b L x va).2.2.2 ∧ (tnx b L x va).2.2.2 ≤ hi) ∧ cl mX11_cellHere [vr 103, vi ce, vi lo, vi hi] (HP A F E) = some (vi 0, HP A F' E) ∧ F' 103 9 = 1 + 8 * (tnx b L x va).2.1 + (if (tnx b L x va).2.2.1 = -2 then 1 else 0))) := by
  obtain ⟨F', n1, ⟨u1, u2, u3, u4, u5, u6, u7⟩ | ⟨u1, u2, u3⟩⟩ := m_num (E := E) (va := va) (lo := lo) (hi := hi) tm h9 hx pc l0
  · refine ⟨F', n1, Or.inl ⟨u1, u2, u3, ?_, u5, u7⟩⟩
    simp (disch := omega) only [eX11_cellHere, sX11_cellHere_0, sX11_cellHere_1, sX11_cellHere_2, sX11_cellHere_3, sX11_cellHere_6, sX11_cellHere_9, sX11_cellHere_10, sX11_cellHere_11, sX11_cellHere_12, sX11_cellHere_15, sX11_cellHere_16, sX11_cellHere_17, sX11_cellHere_20, sX11_cellHere_21, sX11_cellHere_22, ↓hk103, ↓bndi_at u4, ↓hf103_7, ↓hf103_10, ↓hs109, u6, ↓if_pos, ↓if_neg, ↓reduceIte, or_true]
  · refine ⟨F', n1, Or.inr ⟨u1, ?_, u3⟩⟩
    simp (disch := omega) only [eX11_cellHere, sX11_cellHere_0, sX11_cellHere_1, sX11_cellHere_2, sX11_cellHere_3, sX11_cellHere_6, sX11_cellHere_9, sX11_cellHere_10, sX11_cellHere_11, sX11_cellHere_12, sX11_cellHere_15, sX11_cellHere_16, sX11_cellHere_17, sX11_cellHere_20, sX11_cellHere_21, sX11_cellHere_22, ↓hk103, ↓bndi_at u2, ↓if_pos, ↓if_neg, ↓reduceIte, true_or]
/-- a number of a clause, against the class's reading of it -/
theorem m_cst {ce : Int} {W nf : Nat → Int} {c : Int} {m k : Nat} {X : Int × Int × Int × Int} (tm : TM A F b L) (h9 : F 103 9 = 0) (hx : 0 ≤ X.1 ∧ X.1 ≤ L) (pc : plc F b L X.1) (c0 : 0 ≤ ce ∧ ce < 145) : ∃ F', nfr F F' ∧ ((∃ v, (if c = 0 then 2 else 0) ≤ v ∧ v ≤ smo W c (k : Int) ∧ rnu b W L c (m + 1) k X nf = rnu b W L c m (k + 1) (tnx b L X.1 X.2.2.2) (fup nf k v) ∧ cl mX11_cellHere [vr 103, vi ce, vi (if c = 0 then 2 else 0), vi (smo W c (k : Int))] (HP A F E) = some (vi 1, HP (aup A 109 (fup (A 109) ce.toNat v)) F' E) ∧ F' 103 8 = (tnx b L X.1 X.2.2.2).1 ∧ F' 103 9 = 0) ∨ (cl mX11_cellHere [vr 103, vi ce, vi (if c = 0 then 2 else 0), vi (smo W c (k : Int))] (HP A F E) = some (vi 0, HP A F' E) ∧ (rnu b W L c (m + 1) k X nf).1 ≠ -1 ∧ F' 103 9 = 1 + 8 * (rnu b W L c (m + 1) k X nf).2.1.2.1 + (rnu b W L c (m + 1) k X nf).1)) := by
  obtain ⟨F', n1, ⟨u1, u2, u3, u4, u5, u6⟩ | ⟨u1, u2, u3⟩⟩ := m_cellHere (E := E) (va := X.2.2.2) (ce := ce) (lo := if c = 0 then 2 else 0) (hi := smo W c (k : Int)) tm h9 hx pc (by split <;> omega) c0
  · refine ⟨F', n1, Or.inl ⟨_, u2, u3, ?_, u4, u5, u6⟩⟩
    rw [rnu, if_pos u1, if_pos ⟨u2, u3⟩]
  · refine ⟨F', n1, Or.inr ⟨u2, ?_⟩⟩
    rw [rnu]
    by_cases y : (tnx b L X.1 X.2.2.2).2.2.1 = -2
    · rw [if_pos y] at u3
      rw [if_pos y, if_neg (fun q => u1 ⟨y, q⟩)]
      exact ⟨by simp only; omega, u3⟩
    · rw [if_neg y] at u3
      rw [if_neg y]
      exact ⟨by simp only; omega, u3⟩
theorem m_nst {W nf : Nat → Int} {c : Int} {m k : Nat} {X : Int × Int × Int × Int} (tm : TM A F b L) (h9 : F 103 9 = 0) (hx : 0 ≤ X.1 ∧ X.1 ≤ L) (pc : plc F b L X.1) : ∃ F', nfr F F' ∧ ((∃ v, (if c = 0 then 2 else 0) ≤ v ∧ v ≤ smo W c (k : Int) ∧ rnu b W L c (m + 1) k X nf = rnu b W L c m (k + 1) (tnx b L X.1 X.2.2.2) (fup nf k v) ∧ cl mX11_numberHere [vr 103, vi (if c = 0 then 2 else 0), vi (smo W c (k : Int))] (HP A F E) = some (vi 1, HP A F' E) ∧ F' 103 8 = (tnx b L X.1 X.2.2.2).1 ∧ F' 103 10 = v ∧ F' 103 9 = 0) ∨ (cl mX11_numberHere [vr 103, vi (if c = 0 then 2 else 0), vi (smo W c (k : Int))] (HP A F E) = some (vi 0, HP A F' E) ∧ (rnu b W L c (m + 1) k X nf).1 ≠ -1 ∧ F' 103 9 = 1 + 8 * (rnu b W L c (m + 1) k X nf).2.1.2.1 + (rnu b W L c (m + 1) k X nf).1)) := by
  obtain ⟨F', n1, ⟨u1, u2, u3, u4, u5, u6, u7⟩ | ⟨u1, u2, u3⟩⟩ := m_num (E := E) (va := X.2.2.2) (lo := if c = 0 then 2 else 0) (hi := smo W c (k : Int)) tm h9 hx pc (by split <;> omega)
  · refine ⟨F', n1, Or.inl ⟨_, u2, u3, ?_, u4, u5, u6, u7⟩⟩
    rw [rnu, if_pos u1, if_pos ⟨u2, u3⟩]
  · refine ⟨F', n1, Or.inr ⟨u2, ?_⟩⟩
    rw [rnu]
    by_cases y : (tnx b L X.1 X.2.2.2).2.2.1 = -2
    · rw [if_pos y] at u3
      rw [if_pos y, if_neg (fun q => u1 ⟨y, q⟩)]
      exact ⟨by simp only; omega, u3⟩
    · rw [if_neg y] at u3
      rw [if_neg y]
      exact ⟨by simp only; omega, u3⟩
end TK
/-! a sheet's words -/
theorem cl_w {f : Nat → Int} {s p : Int} : wrd cCl f 21 s p (21 + 1) 0 0 0 = (if wdq cCl f s p 0 5 then 0 else if wdq cCl f s p 6 10 then 1 else if wdq cCl f s p 11 15 then 2 else if wdq cCl f s p 16 21 then 3 else -1) := rfl
theorem cl_let : (∀ i, i < 5 → 97 ≤ cCl (0 + i) ∧ cCl (0 + i) ≤ 122) ∧ (∀ i, i < 4 → 97 ≤ cCl (6 + i) ∧ cCl (6 + i) ≤ 122) ∧ (∀ i, i < 4 → 97 ≤ cCl (11 + i) ∧ cCl (11 + i) ≤ 122) ∧ (∀ i, i < 5 → 97 ≤ cCl (16 + i) ∧ cCl (16 + i) ≤ 122) := by decide +kernel
theorem cl_num : (pkc cCl 0 5 : Int) = 495672714612 ∧ (pkc cCl 6 4 : Int) = 1735353714 ∧ (pkc cCl 11 4 : Int) = 1785686382 ∧ (pkc cCl 16 5 : Int) = 495874698853 := by decide +kernel
theorem wdH_0 {b : Nat → Int} {L s w : Int} (s0 : 0 ≤ s) (h : ltr (byt b L s) = false) : wdH b L s w = false := by
  have e : wde b L s = s := by
    unfold wde
    by_cases q : s < L
    · rw [byt_in s0 q] at h
      obtain ⟨n, hn⟩ : ∃ n, (L - s).toNat = n + 1 := ⟨(L - s).toNat - 1, by omega⟩
      rw [hn, rdw, h, if_neg (by decide)]
    · rw [show (L - s).toNat = 0 by omega, rdw]
  unfold wdH
  rw [e]
  exact decide_eq_false (fun q => by omega)
theorem cl_wd {b : Nat → Int} {L x va : Int} (hb : ∀ j, 0 ≤ b j ∧ b j ≤ 255) (hx : 0 ≤ x ∧ x ≤ L) : (if (tnx b L x va).2.2.1 = -3 then wrd cCl b 21 (tnx b L x va).2.1 (tnx b L x va).1 (21 + 1) 0 0 0 else -1) = (if wdH b L (sk b L x) 495672714612 then 0 else if wdH b L (sk b L x) 1735353714 then 1 else if wdH b L (sk b L x) 1785686382 then 2 else if wdH b L (sk b L x) 495874698853 then 3 else -1) := by
  have tc := tnx_c (va := va) hb hx.1 hx.2
  have kb := sk_b (b := b) hx.2
  have no : ltr (byt b L (sk b L x)) = false → (-1 : Int) = (if wdH b L (sk b L x) 495672714612 then 0 else if wdH b L (sk b L x) 1735353714 then 1 else if wdH b L (sk b L x) 1785686382 then 2 else if wdH b L (sk b L x) 495874698853 then 3 else -1) := fun h => by
    rw [wdH_0 (by omega) h, wdH_0 (by omega) h, wdH_0 (by omega) h, wdH_0 (by omega) h]
    rfl
  obtain ⟨t1, ⟨u1, u2, u3, u4, _⟩ | ⟨u1, u2, u3, u4⟩ | ⟨u1, u2, u3, u4⟩ | ⟨u1, u2, u3, _, u4⟩⟩ := tc
  · rw [u2]
    simp only
    rw [if_neg (by omega)]
    exact no u4
  · rw [u4]
    simp only
    rw [if_neg (by omega)]
    exact no u3
  · rw [u4]
    simp only
    rw [if_pos (by trivial), cl_w, wdq_pk (by omega) kb.2 (by omega) (by omega) cl_let.1, wdq_pk (by omega) kb.2 (by omega) (by omega) cl_let.2.1, wdq_pk (by omega) kb.2 (by omega) (by omega) cl_let.2.2.1, wdq_pk (by omega) kb.2 (by omega) (by omega) cl_let.2.2.2]
    simp only [Nat.reduceSub]
    rw [cl_num.1, cl_num.2.1, cl_num.2.2.1, cl_num.2.2.2]
  · have rk := rsg_k (b := b) (L := L) (s := sk b L x) (x := b (sk b L x).toNat) (hb _).1
    rw [u4]
    simp only
    rw [if_neg (by omega)]
    exact no u3
