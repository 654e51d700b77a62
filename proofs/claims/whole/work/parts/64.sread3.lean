/-! SheetReader.read, whole -/
/-- the words that begin a clause -/
def cCl : Nat → Int := fun i => (([115, 104, 101, 101, 116, 32, 103, 111, 101, 114, 32, 106, 111, 105, 110, 32, 115, 116, 111, 110, 101] : List Int)[i]?).getD 0
theorem S_cl : isS (zsa 0) 21 cCl := by
  refine ⟨by decide +kernel, ?_, by omega⟩
  intro i hi
  have e : i = 0 ∨ i = 1 ∨ i = 2 ∨ i = 3 ∨ i = 4 ∨ i = 5 ∨ i = 6 ∨ i = 7 ∨ i = 8 ∨ i = 9 ∨ i = 10 ∨ i = 11 ∨ i = 12 ∨ i = 13 ∨ i = 14 ∨ i = 15 ∨ i = 16 ∨ i = 17 ∨ i = 18 ∨ i = 19 ∨ i = 20 := by omega
  rcases e with e | e | e | e | e | e | e | e | e | e | e | e | e | e | e | e | e | e | e | e | e <;> subst e <;> decide +kernel
/-- how many words end at i or behind -/
def wct (c : Nat → Int) (N : Nat) : Nat → Nat → Int
  | 0, _ => 0
  | n + 1, i => (if i = N ∨ c i = 32 then 1 else 0) + wct c N n (i + 1)
theorem wct_0 {c : Nat → Int} {N : Nat} : ∀ (n i : Nat), 0 ≤ wct c N n i
  | 0, _ => by rw [wct]; omega
  | n + 1, i => by
    rw [wct]
    have := wct_0 (c := c) (N := N) n (i + 1)
    split <;> omega
theorem wrd_b {c f : Nat → Int} {N : Nat} {s p : Int} : ∀ (n i : Nat) (ix : Int) (fr : Nat), 0 ≤ ix → -1 ≤ wrd c f N s p n i ix fr ∧ wrd c f N s p n i ix fr < ix + wct c N n i ∨ wrd c f N s p n i ix fr = -1
  | 0, i, ix, fr, h => Or.inr rfl
  | n + 1, i, ix, fr, h => by
    rw [wrd, wct]
    have w0 := wct_0 (c := c) (N := N) n (i + 1)
    split
    · split
      · exact Or.inl (by omega)
      · have := wrd_b (c := c) (f := f) (N := N) (s := s) (p := p) n (i + 1) (ix + 1) (i + 1) (by omega)
        omega
    · have := wrd_b (c := c) (f := f) (N := N) (s := s) (p := p) n (i + 1) ix fr h
      omega
theorem S_clb {f : Nat → Int} (s p : Int) : -1 ≤ wrd cCl f 21 s p (21 + 1) 0 0 0 ∧ wrd cCl f 21 s p (21 + 1) 0 0 0 ≤ 3 := by
  have b := wrd_b (c := cCl) (f := f) (N := 21) (s := s) (p := p) (21 + 1) 0 0 0 (by omega)
  have e : wct cCl 21 (21 + 1) 0 = 4 := by decide +kernel
  rw [e] at b
  omega
section SW
variable {h : zH} {t y a q n : Nat} {L p s kd va : Int} {f nf : Nat → Int}
theorem shp_id {X : Int × Int × Int × Int} (hw : isW h a) (hn : h.2 n = zar 1 3 nf) (ht : h.2 t = zob 7 [vr y, vi L, vi X.1, vi X.2.1, vi X.2.2.1, vi X.2.2.2]) : shp h t y a n L (wf h a) X nf = h := by
  rw [shp, wst_id hw, zup_id hn]
  exact t_id ht
theorem S_read (hy : h.2 y = zar 1 400 f) (hf : ∀ j, 0 ≤ f j ∧ f j ≤ 255) (L0 : 0 ≤ L) (hL : L ≤ 400) (hw : isW h a) (hcn : cn 82 (wf h a)) (hq : h.2 q = zob 6 [vr n]) (hn : h.2 n = zar 1 3 nf) (ht : h.2 t = zob 7 [vr y, vi L, vi p, vi s, vi kd, vi va]) (s0 : 0 ≤ s) (s4 : s ≤ 400) (v0 : -1 ≤ va) (v9 : va ≤ 99999) (d1 : y ≠ t) (d2 : y ≠ n) (d3 : a ≠ t) (d4 : a ≠ n) (d5 : wr h a ≠ t) (d6 : wr h a ≠ n) (d7 : q ≠ t) (d8 : q ≠ n) (d9 : n ≠ t) (d10 : y ≠ wr h a) (d11 : q ≠ wr h a) (d13 : y ≠ a) (d14 : q ≠ a) : cl mX7_read [vr q, vr t, vr a] h = some (vi (srd f cCl 21 L 41 0 wz (0, s, kd, va) nf).1, shp (wlu h a (-1)) t y a n L (srd f cCl 21 L 41 0 wz (0, s, kd, va) nf).2.1 (srd f cCl 21 L 41 0 wz (0, s, kd, va) nf).2.2.1 (srd f cCl 21 L 41 0 wz (0, s, kd, va) nf).2.2.2) := by
  have C := w_clear hw hcn
  rw [← wst_lu hw] at C
  have w1 := isW_lu (l := -1) hw
  have r1 : wr (wlu h a (-1)) a = wr h a := wr_lu hw
  have hy1 : (wlu h a (-1)).2 y = zar 1 400 f := by rw [wlu, zup_n d13]; exact hy
  have hq1 : (wlu h a (-1)).2 q = zob 6 [vr n] := by rw [wlu, zup_n d14]; exact hq
  have hn1 : (wlu h a (-1)).2 n = zar 1 3 nf := by rw [wlu, zup_n (Ne.symm d4)]; exact hn
  have ht1 : (wlu h a (-1)).2 t = zob 7 [vr y, vi L, vi p, vi s, vi kd, vi va] := by rw [wlu, zup_n (Ne.symm d3)]; exact ht
  have hn2 : (wst (wlu h a (-1)) a wz).2 n = zar 1 3 nf := by rw [wst, zup_n (by rw [r1]; exact Ne.symm d6)]; exact hn1
  have ht2 : (wst (wlu h a (-1)) a wz).2 t = zob 7 [vr y, vi L, vi p, vi s, vi kd, vi va] := by rw [wst, zup_n (by rw [r1]; exact Ne.symm d5)]; exact ht1
  have e : wst (wlu h a (-1)) a wz = shp (wlu h a (-1)) t y a n L wz (p, s, kd, va) nf := by
    rw [shp, zup_id hn2]
    exact (t_id ht2).symm
  rw [e] at C
  generalize hK : wlu h a (-1) = K at *
  have l := S_read_l (N := 21) (cw := cCl) hy1 hf hL w1 hq1 S_cl (fun s p => S_clb s p) d1 d2 d3 d4 (by rw [r1]; exact d5) (by rw [r1]; exact d6) d7 d8 d9 (by rw [r1]; exact d10) (by rw [r1]; exact d11) (Ne.symm d4) 41 0 wz (0, s, kd, va) nf vn vn (by omega) (by omega) ⟨⟨s0, Int.le_refl 0⟩, L0, v0, v9⟩ s4 ⟨by decide, by decide⟩
  have RW : cl mX8_rewind [vr t] (shp K t y a n L wz (p, s, kd, va) nf) = some (vn, shp K t y a n L wz (0, s, kd, va) nf) := T_rewind
  have tc : ∀ {x : Option (zV × zH)}, cki ((shp K t y a n L wz (p, s, kd, va) nf).2 t) 7 x = x := t4_c
  simp only [eX7_read, sX7_read_0, sX7_read_1, sX7_read_4, sX7_read_5, sX7_read_8, sX7_read_9, sX7_read_11, sX7_read_13, sX7_read_16, sX7_read_17, sX7_read_20, sX7_read_21, sX7_read_23, sX7_read_26, sX7_read_28, sX7_read_30, sX7_read_31, sX7_read_32, sX7_read_35, sX7_read_37, sX7_read_39, sX7_read_40, sX7_read_43, sX7_read_44, sX7_read_46, sX7_read_47, sX7_read_48, sX7_read_51, sX7_read_53, sX7_read_55, sX7_read_56, sX7_read_59, sX7_read_60, sX7_read_62, sX7_read_65, sX7_read_66, sX7_read_67, sX7_read_69, sX7_read_70, sX7_read_73, sX7_read_74, sX7_read_77, sX7_read_78, sX7_read_81, sX7_read_82, sX7_read_85, sX7_read_86, sX7_read_87, sX7_read_88, sX7_read_91, sX7_read_93, sX7_read_96, sX7_read_97, sX7_read_98, sX7_read_101, sX7_read_102, sX7_read_105, sX7_read_108, sX7_read_109, sX7_read_110, sX7_read_113, ↓isW_cell hw, ↓bndv_at C, ↓tc, ↓bndv_at RW]
  exact l
end SW
