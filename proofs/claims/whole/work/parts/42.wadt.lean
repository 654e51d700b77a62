/-! a World as a thing: its row's address, its last edge, its row; writing its row -/
def wr (h : zH) (a : Nat) : Nat := match h.2 a with
  | .inl (8, [.inr (.inl r), .inl _]) => r
  | _ => 0
def wl (h : zH) (a : Nat) : Int := match h.2 a with
  | .inl (8, [.inr (.inl _), .inl l]) => l
  | _ => 0
def wf (h : zH) (a : Nat) : Nat → Int := match h.2 (wr h a) with
  | .inr (1, 82, f) => f
  | _ => fun _ => 0
def isW (h : zH) (a : Nat) : Prop := h.2 a = zob 8 [vr (wr h a), vi (wl h a)] ∧ h.2 (wr h a) = zar 1 82 (wf h a) ∧ a ≠ wr h a
def wst (h : zH) (a : Nat) (f : Nat → Int) : zH := zup h (wr h a) (zar 1 82 f)
def wlu (h : zH) (a : Nat) (l : Int) : zH := zup h a (zob 8 [vr (wr h a), vi l])
theorem isW_of {h : zH} {a r : Nat} {l : Int} {f : Nat → Int} (h1 : h.2 a = zob 8 [vr r, vi l]) (h2 : h.2 r = zar 1 82 f) (h3 : a ≠ r) : isW h a ∧ wr h a = r ∧ wl h a = l ∧ wf h a = f := by
  have e1 : wr h a = r := by simp [wr, h1]
  have e2 : wl h a = l := by simp [wl, h1]
  have e3 : wf h a = f := by simp [wf, e1, h2]
  exact ⟨⟨by rw [e1, e2]; exact h1, by rw [e1, e3]; exact h2, by rw [e1]; exact h3⟩, e1, e2, e3⟩
section WADT
variable {h : zH} {a : Nat} {f g : Nat → Int} {l : Int}
theorem wst_all (hw : isW h a) (f : Nat → Int) : isW (wst h a f) a ∧ wr (wst h a f) a = wr h a ∧ wl (wst h a f) a = wl h a ∧ wf (wst h a f) a = f :=
  isW_of (by rw [wst, zup_n hw.2.2]; exact hw.1) zup_s hw.2.2
theorem wlu_all (hw : isW h a) (l : Int) : isW (wlu h a l) a ∧ wr (wlu h a l) a = wr h a ∧ wl (wlu h a l) a = l ∧ wf (wlu h a l) a = wf h a :=
  isW_of zup_s (by rw [wlu, zup_n (fun q => hw.2.2 q.symm)]; exact hw.2.1) hw.2.2
theorem isW_st (hw : isW h a) : isW (wst h a f) a := (wst_all hw f).1
theorem isW_lu (hw : isW h a) : isW (wlu h a l) a := (wlu_all hw l).1
theorem wr_st (hw : isW h a) : wr (wst h a f) a = wr h a := (wst_all hw f).2.1
theorem wl_st (hw : isW h a) : wl (wst h a f) a = wl h a := (wst_all hw f).2.2.1
theorem wf_st (hw : isW h a) : wf (wst h a f) a = f := (wst_all hw f).2.2.2
theorem wr_lu (hw : isW h a) : wr (wlu h a l) a = wr h a := (wlu_all hw l).2.1
theorem wl_lu (hw : isW h a) : wl (wlu h a l) a = l := (wlu_all hw l).2.2.1
theorem wf_lu (hw : isW h a) : wf (wlu h a l) a = wf h a := (wlu_all hw l).2.2.2
theorem wst_st (hw : isW h a) : wst (wst h a f) a g = wst h a g := by
  show zup (wst h a f) (wr (wst h a f) a) _ = _
  rw [wr_st hw]
  exact zup_zup
theorem wst_id (hw : isW h a) : wst h a (wf h a) = h := zup_id hw.2.1
theorem wst_lu (hw : isW h a) : wst (wlu h a l) a f = wlu (wst h a f) a l := by
  have h1 : wst (wlu h a l) a f = zup (zup h a (zob 8 [vr (wr h a), vi l])) (wr h a) (zar 1 82 f) := by rw [wst, wr_lu hw]; rfl
  have h2 : wlu (wst h a f) a l = zup (zup h (wr h a) (zar 1 82 f)) a (zob 8 [vr (wr h a), vi l]) := by rw [wlu, wr_st hw]; rfl
  rw [h1, h2]
  exact zup_comm hw.2.2
theorem wlu_lu (hw : isW h a) {k : Int} : wlu (wlu h a l) a k = wlu h a k := by
  rw [wlu, wr_lu hw]
  exact zup_zup
theorem wlu_id (hw : isW h a) : wlu h a (wl h a) = h := zup_id hw.1
theorem isW_cell (hw : isW h a) {α : Type} {x : Option α} : cki (h.2 a) 8 x = x := by rw [hw.1, cki_k]
theorem w_get {i : Int} (hw : isW h a) (h0 : 0 ≤ i) (h1 : i < 82) : cl mX9_get [vr a, vi i] h = some (vi (wf h a i.toNat), h) := W_get hw.1 hw.2.1 h0 h1
theorem w_set {i v : Int} (hw : isW h a) (h0 : 0 ≤ i) (h1 : i < 82) : cl mX9_set [vr a, vi i, vi v] h = some (vn, wst h a (fup (wf h a) i.toNat v)) := W_set hw.1 hw.2.1 h0 h1
theorem w_of0 {g : Nat} (hw : isW h a) (hg : g ≤ 4) : cl mX9_of [vr a, vi (g : Int), vi 0] h = some (vi (wf h a (47 + 7 * g)), h) := W_of0 hw.1 hw.2.1 hg
theorem w_put0 {g : Nat} {v : Int} (hw : isW h a) (hg : g ≤ 4) : cl mX9_put [vr a, vi (g : Int), vi 0, vi v] h = some (vn, wst h a (fup (wf h a) (47 + 7 * g) v)) := W_put0 hw.1 hw.2.1 hg
theorem w_of1 {g : Nat} (hw : isW h a) (hg : g ≤ 4) : cl mX9_of [vr a, vi (g : Int), vi 1] h = some (vi (wf h a (48 + 7 * g)), h) := W_of1 hw.1 hw.2.1 hg
theorem w_put1 {g : Nat} {v : Int} (hw : isW h a) (hg : g ≤ 4) : cl mX9_put [vr a, vi (g : Int), vi 1, vi v] h = some (vn, wst h a (fup (wf h a) (48 + 7 * g) v)) := W_put1 hw.1 hw.2.1 hg
theorem w_of2 {g : Nat} (hw : isW h a) (hg : g ≤ 4) : cl mX9_of [vr a, vi (g : Int), vi 2] h = some (vi (wf h a (49 + 7 * g)), h) := W_of2 hw.1 hw.2.1 hg
theorem w_put2 {g : Nat} {v : Int} (hw : isW h a) (hg : g ≤ 4) : cl mX9_put [vr a, vi (g : Int), vi 2, vi v] h = some (vn, wst h a (fup (wf h a) (49 + 7 * g) v)) := W_put2 hw.1 hw.2.1 hg
theorem w_of3 {g : Nat} (hw : isW h a) (hg : g ≤ 4) : cl mX9_of [vr a, vi (g : Int), vi 3] h = some (vi (wf h a (50 + 7 * g)), h) := W_of3 hw.1 hw.2.1 hg
theorem w_put3 {g : Nat} {v : Int} (hw : isW h a) (hg : g ≤ 4) : cl mX9_put [vr a, vi (g : Int), vi 3, vi v] h = some (vn, wst h a (fup (wf h a) (50 + 7 * g) v)) := W_put3 hw.1 hw.2.1 hg
theorem w_of4 {g : Nat} (hw : isW h a) (hg : g ≤ 4) : cl mX9_of [vr a, vi (g : Int), vi 4] h = some (vi (wf h a (51 + 7 * g)), h) := W_of4 hw.1 hw.2.1 hg
theorem w_put4 {g : Nat} {v : Int} (hw : isW h a) (hg : g ≤ 4) : cl mX9_put [vr a, vi (g : Int), vi 4, vi v] h = some (vn, wst h a (fup (wf h a) (51 + 7 * g) v)) := W_put4 hw.1 hw.2.1 hg
theorem w_of5 {g : Nat} (hw : isW h a) (hg : g ≤ 4) : cl mX9_of [vr a, vi (g : Int), vi 5] h = some (vi (wf h a (52 + 7 * g)), h) := W_of5 hw.1 hw.2.1 hg
theorem w_put5 {g : Nat} {v : Int} (hw : isW h a) (hg : g ≤ 4) : cl mX9_put [vr a, vi (g : Int), vi 5, vi v] h = some (vn, wst h a (fup (wf h a) (52 + 7 * g) v)) := W_put5 hw.1 hw.2.1 hg
theorem w_of6 {g : Nat} (hw : isW h a) (hg : g ≤ 4) : cl mX9_of [vr a, vi (g : Int), vi 6] h = some (vi (wf h a (53 + 7 * g)), h) := W_of6 hw.1 hw.2.1 hg
theorem w_put6 {g : Nat} {v : Int} (hw : isW h a) (hg : g ≤ 4) : cl mX9_put [vr a, vi (g : Int), vi 6, vi v] h = some (vn, wst h a (fup (wf h a) (53 + 7 * g) v)) := W_put6 hw.1 hw.2.1 hg
theorem w_isOn {g : Nat} (hw : isW h a) (hg : g ≤ 4) : cl mX9_isOn [vr a, vi (g : Int)] h = some (vi (if wf h a (50 + 7 * g) = 0 then 1 else 0), h) := W_isOnN hw.1 hw.2.1 hg
theorem w_next {c fa : Int} (hw : isW h a) (h1 : 1 ≤ wf h a 0) (h2 : wf h a 0 ≤ 6) (h3 : 0 ≤ c) (h4 : c ≤ 35) (h5 : 0 ≤ fa) (h6 : fa ≤ 3) : cl mX9_nextCell [vr a, vi c, vi fa] h = some (vi (wnx (wf h a 0) c fa), h) := W_nextCell hw.1 hw.2.1 rfl h1 h2 h3 h4 h5 h6
theorem w_place {c fa : Int} (hw : isW h a) (h1 : 1 ≤ wf h a 0) (h2 : wf h a 0 ≤ 6) (h3 : 0 ≤ c) (h4 : c ≤ 35) (h5 : 0 ≤ fa) (h6 : fa ≤ 3) : cl mX9_placeOf [vr a, vi c, vi fa] h = some (vi (wpl (wf h a 0) c fa), h) := W_placeOf hw.1 hw.2.1 rfl h1 h2 h3 h4 h5 h6
theorem w_cellAt {ed p : Int} (hw : isW h a) (h1 : 1 ≤ wf h a 0) (h2 : wf h a 0 ≤ 6) (h3 : 0 ≤ p) (h4 : p < wf h a 0) (h5 : 0 ≤ ed) (h6 : ed ≤ 3) : cl mX9_cellAt [vr a, vi ed, vi p] h = some (vi (wca (wf h a 0) ed p), h) := W_cellAt hw.1 hw.2.1 rfl h1 h2 h3 h4 h5 h6
theorem w_stone {c : Int} (hw : isW h a) (hl : -1 ≤ c) (h4 : c ≤ 1000) : cl mX9_hasStone [vr a, vi c] h = some (vi (if 0 ≤ c ∧ c < 36 ∧ wf h a (11 + c).toNat ≠ 0 then 1 else 0), h) := W_hasStone hw.1 hw.2.1 hl h4
theorem w_lastUsed (hw : isW h a) : cl mX9_lastUsed [vr a] h = some (vi (wl h a), h) := W_lastUsed hw.1
end WADT
/-- one who is ON goes on -/
def wgo (f : Nat → Int) (g : Nat) : Nat → Int :=
  if wnx (f 0) (f (47 + 7 * g)) (f (48 + 7 * g)) = -1 then
    fup (fup (fup (fup (fup f (50 + 7 * g) 1) (47 + 7 * g) (-1)) (53 + 7 * g) (wpl (f 0) (f (47 + 7 * g)) (f (48 + 7 * g)))) (51 + 7 * g) (f (7 + (f (48 + 7 * g)).toNat))) (52 + 7 * g) (i32 (f (52 + 7 * g) + 1))
  else if f (11 + (wnx (f 0) (f (47 + 7 * g)) (f (48 + 7 * g))).toNat) ≠ 0 then f
  else fup f (47 + 7 * g) (wnx (f 0) (f (47 + 7 * g)) (f (48 + 7 * g)))
theorem fup_s {f : Nat → Int} {k : Nat} {v : Int} : fup f k v k = v := if_pos rfl
theorem fup_n {f : Nat → Int} {k j : Nat} {v : Int} (h : j ≠ k) : fup f k v j = f j := if_neg h
theorem wnx_b {s c fa : Int} (h1 : 1 ≤ s) (h2 : s ≤ 6) (h3 : 0 ≤ c) (h4 : c < s * s) (h5 : 0 ≤ fa) (h6 : fa ≤ 3) : -1 ≤ wnx s c fa ∧ wnx s c fa < s * s := by
  have m := emb (c := c) (s := s) (by omega)
  have e := Int.emod_add_mul_ediv c s
  unfold wnx
  have q := mul36 (a := s) (b := s) (by omega) h2 (by omega) h2
  split
  · split <;> omega
  · split
    · split
      · have hd : c / s ≤ s - 1 := by
          have := Int.ediv_lt_of_lt_mul (a := c) (b := s) (c := s) (by omega) h4
          omega
        have : s * (c / s) ≤ s * (s - 1) := Int.mul_le_mul_of_nonneg_left hd (by omega)
        rw [Int.mul_sub, Int.mul_one] at this
        omega
      · omega
    · split
      · split <;> omega
      · split <;> omega
section WGO
variable {h : zH} {a g : Nat}
theorem w_goOn (hw : isW h a) (hg : g ≤ 4) (h1 : 1 ≤ wf h a 0) (h2 : wf h a 0 ≤ 6) (h3 : 0 ≤ wf h a (47 + 7 * g)) (h4 : wf h a (47 + 7 * g) < wf h a 0 * wf h a 0) (h5 : 0 ≤ wf h a (48 + 7 * g)) (h6 : wf h a (48 + 7 * g) ≤ 3) : cl mX9_goOn [vr a, vi (g : Int)] h = some (vn, wst h a (wgo (wf h a) g)) := by
  generalize hf : wf h a = f at *
  have q := mul36 (a := f 0) (b := f 0) (by omega) h2 (by omega) h2
  have nb := wnx_b h1 h2 h3 h4 h5 h6
  have c := w_of0 hw hg
  have fa := w_of1 hw hg
  rw [hf] at c fa
  have nx := w_next (c := f (47 + 7 * g)) (fa := f (48 + 7 * g)) hw (by rw [hf]; exact h1) (by rw [hf]; exact h2) h3 (by omega) h5 h6
  rw [hf] at nx
  unfold wgo
  by_cases z : wnx (f 0) (f (47 + 7 * g)) (f (48 + 7 * g)) = -1
  · rw [if_pos z]
    have pl := w_place (c := f (47 + 7 * g)) (fa := f (48 + 7 * g)) (h := wst (wst h a (fup f (50 + 7 * g) 1)) a (fup (fup f (50 + 7 * g) 1) (47 + 7 * g) (-1))) (a := a) (isW_st (isW_st hw))
    rw [wf_st (isW_st hw), fup_n (by omega), fup_n (by omega)] at pl
    have pl := pl h1 h2 h3 (by omega) h5 h6
    rw [wst_st hw] at pl
    have tn : (7 + f (48 + 7 * g)).toNat = 7 + (f (48 + 7 * g)).toNat := by omega
    simp (disch := first | omega | assumption | (apply isW_st; assumption)) only [eX9_goOn, sX9_goOn_0, sX9_goOn_1, sX9_goOn_2, sX9_goOn_3, sX9_goOn_6, sX9_goOn_7, sX9_goOn_8, sX9_goOn_9, sX9_goOn_10, sX9_goOn_13, sX9_goOn_14, sX9_goOn_15, sX9_goOn_16, sX9_goOn_17, sX9_goOn_20, sX9_goOn_22, sX9_goOn_24, sX9_goOn_25, sX9_goOn_28, sX9_goOn_29, sX9_goOn_30, sX9_goOn_31, sX9_goOn_32, sX9_goOn_35, sX9_goOn_36, sX9_goOn_37, sX9_goOn_38, sX9_goOn_39, sX9_goOn_42, sX9_goOn_43, sX9_goOn_44, sX9_goOn_46, sX9_goOn_47, sX9_goOn_48, sX9_goOn_49, sX9_goOn_52, sX9_goOn_55, sX9_goOn_56, sX9_goOn_57, sX9_goOn_58, sX9_goOn_59, sX9_goOn_61, sX9_goOn_62, sX9_goOn_63, sX9_goOn_66, sX9_goOn_69, sX9_goOn_70, sX9_goOn_71, sX9_goOn_72, sX9_goOn_73, sX9_goOn_74, sX9_goOn_75, sX9_goOn_78, sX9_goOn_79, sX9_goOn_80, sX9_goOn_83, sX9_goOn_86, sX9_goOn_87, sX9_goOn_89, sX9_goOn_92, sX9_goOn_95, sX9_goOn_96, sX9_goOn_97, sX9_goOn_98, sX9_goOn_100, sX9_goOn_103, gfi_0, gfi_s, gfr_0, gfr_s, gfl_0, gfl_s, cki_k, bndi_k, bndl_k, bndr_k, bndv_k, zup_2, zup_1, ↓reduceIte, if_true, if_false, true_or, or_true, not_true_eq_false, not_false_eq_true, isW_cell, c, fa, nx, pl, z, w_put0, w_put3, w_put4, w_put5, w_put6, w_of5, w_get, hf, wf_st, wst_st, fup_n, i32_of, tn]
  · rw [if_neg z]
    have sn := w_stone (c := wnx (f 0) (f (47 + 7 * g)) (f (48 + 7 * g))) hw (by omega) (by omega)
    rw [hf, show (11 + wnx (f 0) (f (47 + 7 * g)) (f (48 + 7 * g))).toNat = 11 + (wnx (f 0) (f (47 + 7 * g)) (f (48 + 7 * g))).toNat by omega] at sn
    by_cases z2 : f (11 + (wnx (f 0) (f (47 + 7 * g)) (f (48 + 7 * g))).toNat) ≠ 0
    · rw [if_pos ⟨by omega, by omega, z2⟩] at sn
      rw [if_pos z2]
      simp (disch := omega) only [eX9_goOn, sX9_goOn_0, sX9_goOn_1, sX9_goOn_2, sX9_goOn_3, sX9_goOn_6, sX9_goOn_7, sX9_goOn_8, sX9_goOn_9, sX9_goOn_10, sX9_goOn_13, sX9_goOn_14, sX9_goOn_15, sX9_goOn_16, sX9_goOn_17, sX9_goOn_20, sX9_goOn_22, sX9_goOn_24, sX9_goOn_25, sX9_goOn_28, sX9_goOn_29, sX9_goOn_30, sX9_goOn_31, sX9_goOn_32, sX9_goOn_35, sX9_goOn_36, sX9_goOn_37, sX9_goOn_38, sX9_goOn_39, sX9_goOn_42, sX9_goOn_43, sX9_goOn_44, sX9_goOn_46, sX9_goOn_47, sX9_goOn_48, sX9_goOn_49, sX9_goOn_52, sX9_goOn_55, sX9_goOn_56, sX9_goOn_57, sX9_goOn_58, sX9_goOn_59, sX9_goOn_61, sX9_goOn_62, sX9_goOn_63, sX9_goOn_66, sX9_goOn_69, sX9_goOn_70, sX9_goOn_71, sX9_goOn_72, sX9_goOn_73, sX9_goOn_74, sX9_goOn_75, sX9_goOn_78, sX9_goOn_79, sX9_goOn_80, sX9_goOn_83, sX9_goOn_86, sX9_goOn_87, sX9_goOn_89, sX9_goOn_92, sX9_goOn_95, sX9_goOn_96, sX9_goOn_97, sX9_goOn_98, sX9_goOn_100, sX9_goOn_103, gfi_0, gfi_s, gfr_0, gfr_s, gfl_0, gfl_s, cki_k, bndi_k, bndl_k, bndr_k, bndv_k, zup_2, zup_1, ↓reduceIte, if_true, if_false, true_or, or_true, not_true_eq_false, not_false_eq_true, isW_cell hw, c, fa, nx, sn, z, if_pos, if_neg]
      rw [← hf, wst_id hw]
    · rw [if_neg (fun q => z2 q.2.2)] at sn
      rw [if_neg z2]
      have p := w_put0 (v := wnx (f 0) (f (47 + 7 * g)) (f (48 + 7 * g))) hw hg
      rw [hf] at p
      simp (disch := omega) only [eX9_goOn, sX9_goOn_0, sX9_goOn_1, sX9_goOn_2, sX9_goOn_3, sX9_goOn_6, sX9_goOn_7, sX9_goOn_8, sX9_goOn_9, sX9_goOn_10, sX9_goOn_13, sX9_goOn_14, sX9_goOn_15, sX9_goOn_16, sX9_goOn_17, sX9_goOn_20, sX9_goOn_22, sX9_goOn_24, sX9_goOn_25, sX9_goOn_28, sX9_goOn_29, sX9_goOn_30, sX9_goOn_31, sX9_goOn_32, sX9_goOn_35, sX9_goOn_36, sX9_goOn_37, sX9_goOn_38, sX9_goOn_39, sX9_goOn_42, sX9_goOn_43, sX9_goOn_44, sX9_goOn_46, sX9_goOn_47, sX9_goOn_48, sX9_goOn_49, sX9_goOn_52, sX9_goOn_55, sX9_goOn_56, sX9_goOn_57, sX9_goOn_58, sX9_goOn_59, sX9_goOn_61, sX9_goOn_62, sX9_goOn_63, sX9_goOn_66, sX9_goOn_69, sX9_goOn_70, sX9_goOn_71, sX9_goOn_72, sX9_goOn_73, sX9_goOn_74, sX9_goOn_75, sX9_goOn_78, sX9_goOn_79, sX9_goOn_80, sX9_goOn_83, sX9_goOn_86, sX9_goOn_87, sX9_goOn_89, sX9_goOn_92, sX9_goOn_95, sX9_goOn_96, sX9_goOn_97, sX9_goOn_98, sX9_goOn_100, sX9_goOn_103, gfi_0, gfi_s, gfr_0, gfr_s, gfl_0, gfl_s, cki_k, bndi_k, bndl_k, bndr_k, bndv_k, zup_2, zup_1, ↓reduceIte, if_true, if_false, true_or, or_true, not_true_eq_false, not_false_eq_true, isW_cell hw, c, fa, nx, sn, z, p, if_pos, if_neg]
end WGO
