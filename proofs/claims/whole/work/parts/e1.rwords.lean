/-! the words of a rule, in the class and in the model -/
def cWT : Nat → Int := fun i => (([116, 117, 114, 110] : List Int)[i]?).getD 0
theorem S_wT : isS (zsa 1) 4 cWT := ⟨by decide +kernel, fun i hi => (show ∀ i : Fin 4, zsc (zsa 1) (i.val : Int) = some (cWT i.val) from by decide +kernel) ⟨i, hi⟩, by omega⟩
theorem wT_w {f : Nat → Int} {s p : Int} : wrd cWT f 4 s p (4 + 1) 0 0 0 = (if wdq cWT f s p 0 4 then 0 else -1) := rfl
/-- the word here, by its number among these; none: -1 -/
def tkT (b : Nat → Int) (L s : Int) : Int := if wdH b L s 1953854062 then 0 else -1
theorem wT_l0 : ∀ i, i < 4 → 97 ≤ cWT (0 + i) ∧ cWT (0 + i) ≤ 122 := by decide +kernel
theorem wT_n0 : (pkc cWT 0 4 : Int) = 1953854062 := by decide +kernel
theorem wT_t {b : Nat → Int} {L x va : Int} (hb : ∀ j, 0 ≤ b j ∧ b j ≤ 255) (hx : 0 ≤ x ∧ x ≤ L) : (if (tnx b L x va).2.2.1 = -3 then wrd cWT b 4 (tnx b L x va).2.1 (tnx b L x va).1 (4 + 1) 0 0 0 else -1) = tkT b L (sk b L x) := by
  have kb := sk_b (b := b) hx.2
  have no : ltr (byt b L (sk b L x)) = false → (-1 : Int) = tkT b L (sk b L x) := fun h => by
    unfold tkT
    rw [wdH_0 (by omega) h]
    rfl
  obtain ⟨t1, ⟨u1, u2, u3, u4, _⟩ | ⟨u1, u2, u3, u4⟩ | ⟨u1, u2, u3, u4⟩ | ⟨u1, u2, u3, _, u4⟩⟩ := tnx_c (va := va) hb hx.1 hx.2
  · rw [u2]
    simp only
    rw [if_neg (by omega)]
    exact no u4
  · rw [u4]
    simp only
    rw [if_neg (by omega)]
    exact no u3
  · rw [u4]
    simp only
    rw [if_pos (by trivial), wT_w, wdq_pk (fr := 0) (to := 4) (by omega) kb.2 (by omega) (by omega) wT_l0]
    simp only [Nat.reduceSub]
    rw [wT_n0]
    rfl
  · have rk := rsg_k (b := b) (L := L) (s := sk b L x) (x := b (sk b L x).toNat) (hb _).1
    rw [u4]
    simp only
    rw [if_neg (by omega)]
    exact no u3
def cWV : Nat → Int := fun i => (([103, 111, 101, 114, 32, 99, 101, 108, 108, 32, 114, 111, 119, 32, 99, 111, 108, 117, 109, 110, 32, 102, 97, 99, 101, 115, 32, 102, 111, 111, 100, 32, 109, 97, 114, 103, 105, 110, 32, 115, 116, 111, 110, 101, 32, 104, 101, 114, 101, 32, 98, 101, 101, 110, 32, 115, 116, 101, 112] : List Int)[i]?).getD 0
theorem S_wV : isS (zsa 2) 59 cWV := ⟨by decide +kernel, fun i hi => (show ∀ i : Fin 59, zsc (zsa 2) (i.val : Int) = some (cWV i.val) from by decide +kernel) ⟨i, hi⟩, by omega⟩
theorem wV_w {f : Nat → Int} {s p : Int} : wrd cWV f 59 s p (59 + 1) 0 0 0 = (if wdq cWV f s p 0 4 then 0 else if wdq cWV f s p 5 9 then 1 else if wdq cWV f s p 10 13 then 2 else if wdq cWV f s p 14 20 then 3 else if wdq cWV f s p 21 26 then 4 else if wdq cWV f s p 27 31 then 5 else if wdq cWV f s p 32 38 then 6 else if wdq cWV f s p 39 44 then 7 else if wdq cWV f s p 45 49 then 8 else if wdq cWV f s p 50 54 then 9 else if wdq cWV f s p 55 59 then 10 else -1) := rfl
/-- the word here, by its number among these; none: -1 -/
def tkV (b : Nat → Int) (L s : Int) : Int := if wdH b L s 1735353714 then 0 else if wdH b L s 1667591276 then 1 else if wdH b L s 7499639 then 2 else if wdH b L s 109330212154734 then 3 else if wdH b L s 439720568179 then 4 else if wdH b L s 1718579044 then 5 else if wdH b L s 120265298635118 then 6 else if wdH b L s 495874698853 then 7 else if wdH b L s 1751478885 then 8 else if wdH b L s 1650812270 then 9 else if wdH b L s 1937007984 then 10 else -1
theorem wV_l0 : ∀ i, i < 4 → 97 ≤ cWV (0 + i) ∧ cWV (0 + i) ≤ 122 := by decide +kernel
theorem wV_n0 : (pkc cWV 0 4 : Int) = 1735353714 := by decide +kernel
theorem wV_l1 : ∀ i, i < 4 → 97 ≤ cWV (5 + i) ∧ cWV (5 + i) ≤ 122 := by decide +kernel
theorem wV_n1 : (pkc cWV 5 4 : Int) = 1667591276 := by decide +kernel
theorem wV_l2 : ∀ i, i < 3 → 97 ≤ cWV (10 + i) ∧ cWV (10 + i) ≤ 122 := by decide +kernel
theorem wV_n2 : (pkc cWV 10 3 : Int) = 7499639 := by decide +kernel
theorem wV_l3 : ∀ i, i < 6 → 97 ≤ cWV (14 + i) ∧ cWV (14 + i) ≤ 122 := by decide +kernel
theorem wV_n3 : (pkc cWV 14 6 : Int) = 109330212154734 := by decide +kernel
theorem wV_l4 : ∀ i, i < 5 → 97 ≤ cWV (21 + i) ∧ cWV (21 + i) ≤ 122 := by decide +kernel
theorem wV_n4 : (pkc cWV 21 5 : Int) = 439720568179 := by decide +kernel
theorem wV_l5 : ∀ i, i < 4 → 97 ≤ cWV (27 + i) ∧ cWV (27 + i) ≤ 122 := by decide +kernel
theorem wV_n5 : (pkc cWV 27 4 : Int) = 1718579044 := by decide +kernel
theorem wV_l6 : ∀ i, i < 6 → 97 ≤ cWV (32 + i) ∧ cWV (32 + i) ≤ 122 := by decide +kernel
theorem wV_n6 : (pkc cWV 32 6 : Int) = 120265298635118 := by decide +kernel
theorem wV_l7 : ∀ i, i < 5 → 97 ≤ cWV (39 + i) ∧ cWV (39 + i) ≤ 122 := by decide +kernel
theorem wV_n7 : (pkc cWV 39 5 : Int) = 495874698853 := by decide +kernel
theorem wV_l8 : ∀ i, i < 4 → 97 ≤ cWV (45 + i) ∧ cWV (45 + i) ≤ 122 := by decide +kernel
theorem wV_n8 : (pkc cWV 45 4 : Int) = 1751478885 := by decide +kernel
theorem wV_l9 : ∀ i, i < 4 → 97 ≤ cWV (50 + i) ∧ cWV (50 + i) ≤ 122 := by decide +kernel
theorem wV_n9 : (pkc cWV 50 4 : Int) = 1650812270 := by decide +kernel
theorem wV_l10 : ∀ i, i < 4 → 97 ≤ cWV (55 + i) ∧ cWV (55 + i) ≤ 122 := by decide +kernel
theorem wV_n10 : (pkc cWV 55 4 : Int) = 1937007984 := by decide +kernel
theorem wV_t {b : Nat → Int} {L x va : Int} (hb : ∀ j, 0 ≤ b j ∧ b j ≤ 255) (hx : 0 ≤ x ∧ x ≤ L) : (if (tnx b L x va).2.2.1 = -3 then wrd cWV b 59 (tnx b L x va).2.1 (tnx b L x va).1 (59 + 1) 0 0 0 else -1) = tkV b L (sk b L x) := by
  have kb := sk_b (b := b) hx.2
  have no : ltr (byt b L (sk b L x)) = false → (-1 : Int) = tkV b L (sk b L x) := fun h => by
    unfold tkV
    rw [wdH_0 (by omega) h, wdH_0 (by omega) h, wdH_0 (by omega) h, wdH_0 (by omega) h, wdH_0 (by omega) h, wdH_0 (by omega) h, wdH_0 (by omega) h, wdH_0 (by omega) h, wdH_0 (by omega) h, wdH_0 (by omega) h, wdH_0 (by omega) h]
    rfl
  obtain ⟨t1, ⟨u1, u2, u3, u4, _⟩ | ⟨u1, u2, u3, u4⟩ | ⟨u1, u2, u3, u4⟩ | ⟨u1, u2, u3, _, u4⟩⟩ := tnx_c (va := va) hb hx.1 hx.2
  · rw [u2]
    simp only
    rw [if_neg (by omega)]
    exact no u4
  · rw [u4]
    simp only
    rw [if_neg (by omega)]
    exact no u3
  · rw [u4]
    simp only
    rw [if_pos (by trivial), wV_w, wdq_pk (fr := 0) (to := 4) (by omega) kb.2 (by omega) (by omega) wV_l0, wdq_pk (fr := 5) (to := 9) (by omega) kb.2 (by omega) (by omega) wV_l1, wdq_pk (fr := 10) (to := 13) (by omega) kb.2 (by omega) (by omega) wV_l2, wdq_pk (fr := 14) (to := 20) (by omega) kb.2 (by omega) (by omega) wV_l3, wdq_pk (fr := 21) (to := 26) (by omega) kb.2 (by omega) (by omega) wV_l4, wdq_pk (fr := 27) (to := 31) (by omega) kb.2 (by omega) (by omega) wV_l5, wdq_pk (fr := 32) (to := 38) (by omega) kb.2 (by omega) (by omega) wV_l6, wdq_pk (fr := 39) (to := 44) (by omega) kb.2 (by omega) (by omega) wV_l7, wdq_pk (fr := 45) (to := 49) (by omega) kb.2 (by omega) (by omega) wV_l8, wdq_pk (fr := 50) (to := 54) (by omega) kb.2 (by omega) (by omega) wV_l9, wdq_pk (fr := 55) (to := 59) (by omega) kb.2 (by omega) (by omega) wV_l10]
    simp only [Nat.reduceSub]
    rw [wV_n0, wV_n1, wV_n2, wV_n3, wV_n4, wV_n5, wV_n6, wV_n7, wV_n8, wV_n9, wV_n10]
    rfl
  · have rk := rsg_k (b := b) (L := L) (s := sk b L x) (x := b (sk b L x).toNat) (hb _).1
    rw [u4]
    simp only
    rw [if_neg (by omega)]
    exact no u3
def cWN : Nat → Int := fun i => (([110, 111, 116] : List Int)[i]?).getD 0
theorem S_wN : isS (zsa 3) 3 cWN := ⟨by decide +kernel, fun i hi => (show ∀ i : Fin 3, zsc (zsa 3) (i.val : Int) = some (cWN i.val) from by decide +kernel) ⟨i, hi⟩, by omega⟩
theorem wN_w {f : Nat → Int} {s p : Int} : wrd cWN f 3 s p (3 + 1) 0 0 0 = (if wdq cWN f s p 0 3 then 0 else -1) := rfl
/-- the word here, by its number among these; none: -1 -/
def tkN (b : Nat → Int) (L s : Int) : Int := if wdH b L s 7237492 then 0 else -1
theorem wN_l0 : ∀ i, i < 3 → 97 ≤ cWN (0 + i) ∧ cWN (0 + i) ≤ 122 := by decide +kernel
theorem wN_n0 : (pkc cWN 0 3 : Int) = 7237492 := by decide +kernel
theorem wN_t {b : Nat → Int} {L x va : Int} (hb : ∀ j, 0 ≤ b j ∧ b j ≤ 255) (hx : 0 ≤ x ∧ x ≤ L) : (if (tnx b L x va).2.2.1 = -3 then wrd cWN b 3 (tnx b L x va).2.1 (tnx b L x va).1 (3 + 1) 0 0 0 else -1) = tkN b L (sk b L x) := by
  have kb := sk_b (b := b) hx.2
  have no : ltr (byt b L (sk b L x)) = false → (-1 : Int) = tkN b L (sk b L x) := fun h => by
    unfold tkN
    rw [wdH_0 (by omega) h]
    rfl
  obtain ⟨t1, ⟨u1, u2, u3, u4, _⟩ | ⟨u1, u2, u3, u4⟩ | ⟨u1, u2, u3, u4⟩ | ⟨u1, u2, u3, _, u4⟩⟩ := tnx_c (va := va) hb hx.1 hx.2
  · rw [u2]
    simp only
    rw [if_neg (by omega)]
    exact no u4
  · rw [u4]
    simp only
    rw [if_neg (by omega)]
    exact no u3
  · rw [u4]
    simp only
    rw [if_pos (by trivial), wN_w, wdq_pk (fr := 0) (to := 3) (by omega) kb.2 (by omega) (by omega) wN_l0]
    simp only [Nat.reduceSub]
    rw [wN_n0]
    rfl
  · have rk := rsg_k (b := b) (L := L) (s := sk b L x) (x := b (sk b L x).toNat) (hb _).1
    rw [u4]
    simp only
    rw [if_neg (by omega)]
    exact no u3
def cWI : Nat → Int := fun i => (([105, 102] : List Int)[i]?).getD 0
theorem S_wI : isS (zsa 4) 2 cWI := ⟨by decide +kernel, fun i hi => (show ∀ i : Fin 2, zsc (zsa 4) (i.val : Int) = some (cWI i.val) from by decide +kernel) ⟨i, hi⟩, by omega⟩
theorem wI_w {f : Nat → Int} {s p : Int} : wrd cWI f 2 s p (2 + 1) 0 0 0 = (if wdq cWI f s p 0 2 then 0 else -1) := rfl
/-- the word here, by its number among these; none: -1 -/
def tkI (b : Nat → Int) (L s : Int) : Int := if wdH b L s 26982 then 0 else -1
theorem wI_l0 : ∀ i, i < 2 → 97 ≤ cWI (0 + i) ∧ cWI (0 + i) ≤ 122 := by decide +kernel
theorem wI_n0 : (pkc cWI 0 2 : Int) = 26982 := by decide +kernel
theorem wI_t {b : Nat → Int} {L x va : Int} (hb : ∀ j, 0 ≤ b j ∧ b j ≤ 255) (hx : 0 ≤ x ∧ x ≤ L) : (if (tnx b L x va).2.2.1 = -3 then wrd cWI b 2 (tnx b L x va).2.1 (tnx b L x va).1 (2 + 1) 0 0 0 else -1) = tkI b L (sk b L x) := by
  have kb := sk_b (b := b) hx.2
  have no : ltr (byt b L (sk b L x)) = false → (-1 : Int) = tkI b L (sk b L x) := fun h => by
    unfold tkI
    rw [wdH_0 (by omega) h]
    rfl
  obtain ⟨t1, ⟨u1, u2, u3, u4, _⟩ | ⟨u1, u2, u3, u4⟩ | ⟨u1, u2, u3, u4⟩ | ⟨u1, u2, u3, _, u4⟩⟩ := tnx_c (va := va) hb hx.1 hx.2
  · rw [u2]
    simp only
    rw [if_neg (by omega)]
    exact no u4
  · rw [u4]
    simp only
    rw [if_neg (by omega)]
    exact no u3
  · rw [u4]
    simp only
    rw [if_pos (by trivial), wI_w, wdq_pk (fr := 0) (to := 2) (by omega) kb.2 (by omega) (by omega) wI_l0]
    simp only [Nat.reduceSub]
    rw [wI_n0]
    rfl
  · have rk := rsg_k (b := b) (L := L) (s := sk b L x) (x := b (sk b L x).toNat) (hb _).1
    rw [u4]
    simp only
    rw [if_neg (by omega)]
    exact no u3
def cWJ : Nat → Int := fun i => (([111, 114, 32, 97, 110, 100] : List Int)[i]?).getD 0
theorem S_wJ : isS (zsa 5) 6 cWJ := ⟨by decide +kernel, fun i hi => (show ∀ i : Fin 6, zsc (zsa 5) (i.val : Int) = some (cWJ i.val) from by decide +kernel) ⟨i, hi⟩, by omega⟩
theorem wJ_w {f : Nat → Int} {s p : Int} : wrd cWJ f 6 s p (6 + 1) 0 0 0 = (if wdq cWJ f s p 0 2 then 0 else if wdq cWJ f s p 3 6 then 1 else -1) := rfl
/-- the word here, by its number among these; none: -1 -/
def tkJ (b : Nat → Int) (L s : Int) : Int := if wdH b L s 28530 then 0 else if wdH b L s 6385252 then 1 else -1
theorem wJ_l0 : ∀ i, i < 2 → 97 ≤ cWJ (0 + i) ∧ cWJ (0 + i) ≤ 122 := by decide +kernel
theorem wJ_n0 : (pkc cWJ 0 2 : Int) = 28530 := by decide +kernel
theorem wJ_l1 : ∀ i, i < 3 → 97 ≤ cWJ (3 + i) ∧ cWJ (3 + i) ≤ 122 := by decide +kernel
theorem wJ_n1 : (pkc cWJ 3 3 : Int) = 6385252 := by decide +kernel
theorem wJ_t {b : Nat → Int} {L x va : Int} (hb : ∀ j, 0 ≤ b j ∧ b j ≤ 255) (hx : 0 ≤ x ∧ x ≤ L) : (if (tnx b L x va).2.2.1 = -3 then wrd cWJ b 6 (tnx b L x va).2.1 (tnx b L x va).1 (6 + 1) 0 0 0 else -1) = tkJ b L (sk b L x) := by
  have kb := sk_b (b := b) hx.2
  have no : ltr (byt b L (sk b L x)) = false → (-1 : Int) = tkJ b L (sk b L x) := fun h => by
    unfold tkJ
    rw [wdH_0 (by omega) h, wdH_0 (by omega) h]
    rfl
  obtain ⟨t1, ⟨u1, u2, u3, u4, _⟩ | ⟨u1, u2, u3, u4⟩ | ⟨u1, u2, u3, u4⟩ | ⟨u1, u2, u3, _, u4⟩⟩ := tnx_c (va := va) hb hx.1 hx.2
  · rw [u2]
    simp only
    rw [if_neg (by omega)]
    exact no u4
  · rw [u4]
    simp only
    rw [if_neg (by omega)]
    exact no u3
  · rw [u4]
    simp only
    rw [if_pos (by trivial), wJ_w, wdq_pk (fr := 0) (to := 2) (by omega) kb.2 (by omega) (by omega) wJ_l0, wdq_pk (fr := 3) (to := 6) (by omega) kb.2 (by omega) (by omega) wJ_l1]
    simp only [Nat.reduceSub]
    rw [wJ_n0, wJ_n1]
    rfl
  · have rk := rsg_k (b := b) (L := L) (s := sk b L x) (x := b (sk b L x).toNat) (hb _).1
    rw [u4]
    simp only
    rw [if_neg (by omega)]
    exact no u3
