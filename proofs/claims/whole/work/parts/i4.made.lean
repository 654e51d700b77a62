/-! the class made -/
section CI4
variable {c0 : zC}
theorem nw_20 (s : Nat) (o : zC) : cl mX2_init [vr 20] (zpu (zup (HQ 19 s c0) 1 o) 3 (zob 1 [vr 0, vi 0, vi 0])) = some (vn, zup (HQ 61 (s + 1703) c0) 1 o) := by
  refine (H_new1 (h := zup (HQ 19 s c0) 1 o) (show 19 < 900000000 by decide)).trans ?_
  show rn mX2_init 25 [vr 20, vi 0] [] (zpu (zpu (zup (HQ 19 s c0) 1 o) 3 (zob 1 [vr 21, vi 0, vi 0])) 20 (zar 6 20 (fun _ => 0))) = _
  have w0 : (fun _ => 0 : Nat → Int) = wk 0 := by funext i; unfold wk; rw [if_neg (by omega)]
  rw [pu_1 (k := 19) (c := zob 1 [vr 21, vi 0, vi 0]) (by decide) (by decide) rfl, any_1 (k := 20) (by decide) (by decide), w0]
  refine (H_loop (o := o) (c0 := c0) 20 0 (s + 3 + 20) (by omega)).trans ?_
  rw [zup_comm (by decide), HQ_id (x := 21) (c := zar 6 20 (wk 20)) (by decide) rfl]
theorem nw_63 (s : Nat) (o a : zC) : cl mX0_init [vr 63] (zpu (zup (zup (HQ 62 s c0) 1 o) 62 a) 1 (zob 0 [vl 0])) = some (vn, zup (zup (HQ 63 (s + 1) c0) 1 o) 62 a) := by
  refine (D_new (h := zup (zup (HQ 62 s c0) 1 o) 62 a) (show 62 < 900000000 by decide)).trans ?_
  rw [pu_2 (k := 62) (c := zob 0 [vl 0]) (by decide) (by decide) (by decide) rfl]
theorem pa_9 (s : Nat) (o : zC) : zpu (zup (HQ 8 s c0) 1 o) 6 (zar 5 6 (fun _ => 0)) = zup (HQ 9 (s + 6) c0) 1 o := pu_1 (by decide) (by decide) (by
  show zar 5 6 (hRu (e0 c0)) = _
  have : hRu (e0 c0) = fun _ => 0 := by funext i; exact if_neg (Nat.not_lt_zero i)
  rw [this])
theorem pa_62 (s : Nat) (o : zC) : zpu (zup (HQ 61 s c0) 1 o) 4 (zar 4 4 (fun _ => 0)) = zup (zup (HQ 62 (s + 4) c0) 1 o) 62 (zar 4 4 (fun _ => 0)) := any_1 (k := 61) (by decide) (by decide)
theorem pa_64 (s : Nat) (o a : zC) : zpu (zup (zup (HQ 63 s c0) 1 o) 62 a) 305 (zar 1 305 (fun _ => 0)) = zup (zup (HQ 64 (s + 305) c0) 1 o) 62 a := pu_2 (by decide) (by decide) (by decide) rfl
theorem pa_65 (s : Nat) (o a : zC) : zpu (zup (zup (HQ 64 s c0) 1 o) 62 a) 36 (zar 1 36 (fun _ => 0)) = zup (zup (HQ 65 (s + 36) c0) 1 o) 62 a := pu_2 (by decide) (by decide) (by decide) rfl
theorem pa_66 (s : Nat) (o a : zC) : zpu (zup (zup (HQ 65 s c0) 1 o) 62 a) 16 (zar 1 16 (fun _ => 0)) = zup (zup (HQ 66 (s + 16) c0) 1 o) 62 a := pu_2 (by decide) (by decide) (by decide) rfl
theorem pfz1 {h : zH} {ci k x : Nat} {fs : List zV} {v : zV} {K : zC → Option (zV × zH)} (hk : k < fs.length) : pfv ((zup h x (zob ci fs)).2 x) ci k v K = K (zob ci (fs.set k v)) := by rw [zup_s]; exact pfv_k hk
theorem pfz2 {h : zH} {ci k : Nat} {fs : List zV} {v : zV} {a : zC} {K : zC → Option (zV × zH)} (hk : k < fs.length) : pfv ((zup (zup h 1 (zob ci fs)) 62 a).2 1) ci k v K = K (zob ci (fs.set k v)) := by rw [zup_n (by decide), zup_s]; exact pfv_k hk
theorem up1 {h : zH} {o a p : zC} : zup (zup (zup h 1 o) 62 a) 1 p = zup (zup h 1 p) 62 a := by rw [zup_comm (by decide), zup_zup]
def o1 : List zV := [vr 2, vr 4, vr 6, vr 9, vi 0, vi (-1), vi 0, vr 10, vr 12, vr 14, vr 16, vr 20, vr 62, vr 63, vr 64, vr 65, vr 66]
theorem EW_1 : cl mX10_init [vr 1] (zup (HQ 1 17 c0) 1 (zob 9 (zDf 9))) = rn mX10_init 162 [vr 1, vi 0] [] (zup (zup (HQ 66 3595 c0) 1 (zob 9 o1)) 62 (zar 4 4 (fun _ => 0))) := by
  have d9 : zDf 9 = [vr 0, vr 0, vr 0, vr 0, vi 0, vi 0, vi 0, vr 0, vr 0, vr 0, vr 0, vr 0, vr 0, vr 0, vr 0, vr 0, vr 0] := rfl
  have d7 : zDf 7 = [vr 0, vi 0, vi 0, vi 0, vi 0, vi 0] := rfl
  have d6 : zDf 6 = [vr 0] := rfl
  have d5 : zDf 5 = [vr 0, vi 0, vr 0, vi 0, vi 0, vi 0, vi 0, vi 0, vi 0, vi 0, vi 0] := rfl
  have d8 : zDf 8 = [vr 0, vi 0] := rfl
  have d3 : zDf 3 = [vr 0, vr 0, vr 0, vi 0] := rfl
  have d1 : zDf 1 = [vr 0, vi 0, vi 0] := rfl
  have d0 : zDf 0 = [vl 0] := rfl
  rw [d9]
  unfold o1
  simp (disch := first | omega | exact of_decide_eq_true rfl) only [eX10_init, sX10_init_0, sX10_init_1, sX10_init_4, sX10_init_5, sX10_init_8, sX10_init_9, sX10_init_12, sX10_init_15, sX10_init_16, sX10_init_19, sX10_init_20, sX10_init_23, sX10_init_26, sX10_init_27, sX10_init_30, sX10_init_31, sX10_init_34, sX10_init_37, sX10_init_38, sX10_init_40, sX10_init_43, sX10_init_46, sX10_init_47, sX10_init_48, sX10_init_51, sX10_init_52, sX10_init_53, sX10_init_56, sX10_init_57, sX10_init_58, sX10_init_61, sX10_init_62, sX10_init_65, sX10_init_66, sX10_init_69, sX10_init_72, sX10_init_73, sX10_init_76, sX10_init_77, sX10_init_80, sX10_init_83, sX10_init_84, sX10_init_87, sX10_init_88, sX10_init_91, sX10_init_94, sX10_init_95, sX10_init_98, sX10_init_99, sX10_init_102, sX10_init_105, sX10_init_106, sX10_init_109, sX10_init_110, sX10_init_113, sX10_init_116, sX10_init_117, sX10_init_118, sX10_init_121, sX10_init_124, sX10_init_125, sX10_init_128, sX10_init_129, sX10_init_132, sX10_init_135, sX10_init_136, sX10_init_139, sX10_init_141, sX10_init_144, sX10_init_145, sX10_init_147, sX10_init_149, sX10_init_152, sX10_init_153, sX10_init_155, sX10_init_157, sX10_init_160, sX10_init_161, sX10_init_163, sX10_init_164, sX10_init_167, sX10_init_168, sX10_init_171, sX10_init_172, sX10_init_175, sX10_init_176, sX10_init_179, sX10_init_180, sX10_init_183, sX10_init_186, d7, d6, d5, d8, d3, d1, d0, ↓if_neg, ↓if_pos, if_pos, if_neg, zup_1, HQ_11, Nat.reduceAdd, Int.reduceToNat, ↓bndv_at (nw_2 _ _), ↓bndv_at (nw_4 _ _), ↓bndv_at (nw_6 _ _), ↓bndv_at (nw_10 _ _), ↓bndv_at (nw_12 _ _), ↓bndv_at (nw_14 _ _), ↓bndv_at (nw_16 _ _), ↓bndv_at (nw_20 _ _), ↓bndv_at (nw_63 _ _ _), pa_9, pa_62, pa_64, pa_65, pa_66, ↓pfz1, ↓pfz2, zup_zup, up1, List.set]
end CI4
