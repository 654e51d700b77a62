/-! the class's images; the model made -/
section CI5
variable {c0 : zC} {i : Nat}
theorem hI0 (hi : i < 4) : hc (e0 c0) (66 + 9 * i + 1) (fun _ => 0) (f0 (66 + 9 * i + 1)) = zob 2 [vr (66 + 9 * i + 2), vr (66 + 9 * i + 4), vr (66 + 9 * i + 6), vi 0, vi (-1), vi 0] := by
  unfold hc
  rw [if_neg (by omega), if_neg (by omega), if_pos (by omega), if_pos (by omega)]
  have a3 : f0 (66 + 9 * i + 1) 3 = 0 := by unfold f0; rw [if_neg (by omega)]
  have a4 : f0 (66 + 9 * i + 1) 4 = -1 := by unfold f0; rw [if_pos (by omega)]
  have a5 : f0 (66 + 9 * i + 1) 5 = 0 := by unfold f0; rw [if_neg (by omega)]
  rw [a3, a4, a5]
theorem hI1 (hi : i < 4) : hc (e0 c0) (66 + 9 * i + 2) (fun _ => 0) (f0 (66 + 9 * i + 2)) = zob 8 [vr (66 + 9 * i + 3), vi (-1)] := by
  unfold hc
  rw [if_neg (by omega), if_neg (by omega), if_pos (by omega), if_neg (by omega), if_pos (by omega)]
  have a1 : f0 (66 + 9 * i + 2) 1 = -1 := by unfold f0; rw [if_pos (by omega)]
  rw [a1]
theorem hI2 (hi : i < 4) : hc (e0 c0) (66 + 9 * i + 3) (fun _ => 0) (f0 (66 + 9 * i + 3)) = zar 1 82 (fun _ => 0) := by
  unfold hc
  rw [if_neg (by omega), if_neg (by omega), if_pos (by omega), if_neg (by omega), if_neg (by omega), if_pos (by omega)]
theorem hI3 (hi : i < 4) : hc (e0 c0) (66 + 9 * i + 4) (fun _ => 0) (f0 (66 + 9 * i + 4)) = zob 8 [vr (66 + 9 * i + 5), vi (-1)] := by
  unfold hc
  rw [if_neg (by omega), if_neg (by omega), if_pos (by omega), if_neg (by omega), if_pos (by omega)]
  have a1 : f0 (66 + 9 * i + 4) 1 = -1 := by unfold f0; rw [if_pos (by omega)]
  rw [a1]
theorem hI4 (hi : i < 4) : hc (e0 c0) (66 + 9 * i + 5) (fun _ => 0) (f0 (66 + 9 * i + 5)) = zar 1 82 (fun _ => 0) := by
  unfold hc
  rw [if_neg (by omega), if_neg (by omega), if_pos (by omega), if_neg (by omega), if_neg (by omega), if_pos (by omega)]
theorem hI5 (hi : i < 4) : hc (e0 c0) (66 + 9 * i + 6) (fun _ => 0) (f0 (66 + 9 * i + 6)) = zob 3 [vr (66 + 9 * i + 7), vr (66 + 9 * i + 8), vr (66 + 9 * i + 9), vi 0] := by
  unfold hc
  rw [if_neg (by omega), if_neg (by omega), if_pos (by omega), if_neg (by omega), if_neg (by omega), if_neg (by omega), if_pos (by omega)]
  have a3 : f0 (66 + 9 * i + 6) 3 = 0 := by unfold f0; rw [if_neg (by omega)]
  rw [a3]
theorem hI6 (hi : i < 4) : hc (e0 c0) (66 + 9 * i + 7) (fun _ => 0) (f0 (66 + 9 * i + 7)) = zar 1 10 (fun _ => 0) := by
  unfold hc
  rw [if_neg (by omega), if_neg (by omega), if_pos (by omega), if_neg (by omega), if_neg (by omega), if_neg (by omega), if_neg (by omega)]
theorem hI7 (hi : i < 4) : hc (e0 c0) (66 + 9 * i + 8) (fun _ => 0) (f0 (66 + 9 * i + 8)) = zar 1 10 (fun _ => 0) := by
  unfold hc
  rw [if_neg (by omega), if_neg (by omega), if_pos (by omega), if_neg (by omega), if_neg (by omega), if_neg (by omega), if_neg (by omega)]
theorem hI8 (hi : i < 4) : hc (e0 c0) (66 + 9 * i + 9) (fun _ => 0) (f0 (66 + 9 * i + 9)) = zar 1 10 (fun _ => 0) := by
  unfold hc
  rw [if_neg (by omega), if_neg (by omega), if_pos (by omega), if_neg (by omega), if_neg (by omega), if_neg (by omega), if_neg (by omega)]
def ik (k : Nat) : Nat → Int := fun i => if i < k then 67 + 9 * (i : Int) else 0
theorem ik_s {k : Nat} : fup (ik k) k ((66 + 9 * k + 1 : Nat) : Int) = ik (k + 1) := by
  funext i
  unfold ik
  by_cases q : i = k
  · rw [q, fup_s, if_pos (by omega)]; omega
  · rw [fup_n q]
    by_cases q2' : i < k
    · rw [if_pos q2', if_pos (by omega)]
    · rw [if_neg q2', if_neg (by omega)]
theorem EW_loop {o : zC} (ho : o = zob 9 o1) : ∀ (m k s : Nat), k + m = 4 → rn mX10_init 162 [vr 1, vi (k : Int)] [] (zup (zup (HQ (66 + 9 * k) s c0) 1 o) 62 (zar 4 4 (ik k))) = some (vn, zup (zup (HQ 102 (s + 208 * m) c0) 1 o) 62 (zar 4 4 (ik 4))) := by
  intro m
  induction m with
  | zero =>
    intro k s hk
    have : k = 4 := by omega
    subst this
    rw [sX10_init_162]
    simp (disch := omega) only [eX10_init, sX10_init_0, sX10_init_1, sX10_init_4, sX10_init_5, sX10_init_8, sX10_init_9, sX10_init_12, sX10_init_15, sX10_init_16, sX10_init_19, sX10_init_20, sX10_init_23, sX10_init_26, sX10_init_27, sX10_init_30, sX10_init_31, sX10_init_34, sX10_init_37, sX10_init_38, sX10_init_40, sX10_init_43, sX10_init_46, sX10_init_47, sX10_init_48, sX10_init_51, sX10_init_52, sX10_init_53, sX10_init_56, sX10_init_57, sX10_init_58, sX10_init_61, sX10_init_62, sX10_init_65, sX10_init_66, sX10_init_69, sX10_init_72, sX10_init_73, sX10_init_76, sX10_init_77, sX10_init_80, sX10_init_83, sX10_init_84, sX10_init_87, sX10_init_88, sX10_init_91, sX10_init_94, sX10_init_95, sX10_init_98, sX10_init_99, sX10_init_102, sX10_init_105, sX10_init_106, sX10_init_109, sX10_init_110, sX10_init_113, sX10_init_116, sX10_init_117, sX10_init_118, sX10_init_121, sX10_init_124, sX10_init_125, sX10_init_128, sX10_init_129, sX10_init_132, sX10_init_135, sX10_init_136, sX10_init_139, sX10_init_141, sX10_init_144, sX10_init_145, sX10_init_147, sX10_init_149, sX10_init_152, sX10_init_153, sX10_init_155, sX10_init_157, sX10_init_160, sX10_init_161, sX10_init_163, sX10_init_164, sX10_init_167, sX10_init_168, sX10_init_171, sX10_init_172, sX10_init_175, sX10_init_176, sX10_init_179, sX10_init_180, sX10_init_183, sX10_init_186, ↓if_pos]
    rfl
  | succ m ih =>
    intro k s hk
    have i := ih (k + 1) (s + 6 + 2 + 82 + 2 + 82 + 4 + 10 + 10 + 10) (by omega)
    generalize hH : zup (zup (HQ (66 + 9 * k) s c0) 1 o) 62 (zar 4 4 (ik k)) = H
    have b1 : H.1.1 = 66 + 9 * k := by rw [← hH]; rfl
    have c1 : H.2 1 = zob 9 [vr 2, vr 4, vr 6, vr 9, vi 0, vi (-1), vi 0, vr 10, vr 12, vr 14, vr 16, vr 20, vr 62, vr 63, vr 64, vr 65, vr 66] := by rw [← hH, zup_n (by omega), zup_s, ho]; rfl
    have wn := I_new (h := H) (by omega)
    rw [b1] at wn
    have e1 : zpu (zpu (zpu (zpu (zpu (zpu (zpu (zpu (zpu H 6 (zob 2 [vr (66 + 9 * k + 2), vr (66 + 9 * k + 4), vr (66 + 9 * k + 6), vi 0, vi (-1), vi 0])) 2 (zob 8 [vr (66 + 9 * k + 3), vi (-1)])) 82 (zar 1 82 (fun _ => 0))) 2 (zob 8 [vr (66 + 9 * k + 5), vi (-1)])) 82 (zar 1 82 (fun _ => 0))) 4 (zob 3 [vr (66 + 9 * k + 7), vr (66 + 9 * k + 8), vr (66 + 9 * k + 9), vi 0])) 10 (zar 1 10 (fun _ => 0))) 10 (zar 1 10 (fun _ => 0))) 10 (zar 1 10 (fun _ => 0)) = zup (zup (HQ (66 + 9 * (k + 1)) (s + 6 + 2 + 82 + 2 + 82 + 4 + 10 + 10 + 10) c0) 1 o) 62 (zar 4 4 (ik k)) := by
      have hk4 : k < 4 := by omega
      rw [← hH, pu_2 (k := 66 + 9 * k) (by omega) (by omega) (by omega) (hI0 hk4), pu_2 (k := 66 + 9 * k + 1) (by omega) (by omega) (by omega) (hI1 hk4), pu_2 (k := 66 + 9 * k + 1 + 1) (by omega) (by omega) (by omega) (hI2 hk4), pu_2 (k := 66 + 9 * k + 1 + 1 + 1) (by omega) (by omega) (by omega) (hI3 hk4), pu_2 (k := 66 + 9 * k + 1 + 1 + 1 + 1) (by omega) (by omega) (by omega) (hI4 hk4), pu_2 (k := 66 + 9 * k + 1 + 1 + 1 + 1 + 1) (by omega) (by omega) (by omega) (hI5 hk4), pu_2 (k := 66 + 9 * k + 1 + 1 + 1 + 1 + 1 + 1) (by omega) (by omega) (by omega) (hI6 hk4), pu_2 (k := 66 + 9 * k + 1 + 1 + 1 + 1 + 1 + 1 + 1) (by omega) (by omega) (by omega) (hI7 hk4), pu_2 (k := 66 + 9 * k + 1 + 1 + 1 + 1 + 1 + 1 + 1 + 1) (by omega) (by omega) (by omega) (hI8 hk4), show 66 + 9 * k + 1 + 1 + 1 + 1 + 1 + 1 + 1 + 1 + 1 = 66 + 9 * (k + 1) by omega]
    rw [e1] at wn
    have s9 : (zup (zup (HQ (66 + 9 * (k + 1)) (s + 6 + 2 + 82 + 2 + 82 + 4 + 10 + 10 + 10) c0) 1 o) 62 (zar 4 4 (ik k))).2 62 = zar 4 4 (ik k) := zup_s
    have sv : (zup (zup (HQ (66 + 9 * (k + 1)) (s + 6 + 2 + 82 + 2 + 82 + 4 + 10 + 10 + 10) c0) 1 o) 62 (zar 4 4 (ik k))).2 (66 + 9 * k + 1) = zob 2 [vr (66 + 9 * k + 2), vr (66 + 9 * k + 4), vr (66 + 9 * k + 6), vi 0, vi (-1), vi 0] := by
      rw [zup_n (by omega), zup_n (by omega), HQ_c (by omega), hI0 (by omega)]
    have se := fun (K : zC → Option (zV × zH)) => sea_i (K := K) (z := (k : Int)) s9 sv (by omega) (by omega)
    rw [Int.toNat_natCast, ik_s] at se
    have d2 : zDf 2 = [vr 0, vr 0, vr 0, vi 0, vi 0, vi 0] := rfl
    have is : i32 ((k : Int) + 1) = ((k + 1 : Nat) : Int) := i32_s k (by omega)
    rw [← zup_zup (c := zar 4 4 (ik k))] at i
    rw [show s + 208 * (m + 1) = s + 6 + 2 + 82 + 2 + 82 + 4 + 10 + 10 + 10 + 208 * m by omega, ← i, sX10_init_162]
    generalize zup (zup (HQ (66 + 9 * (k + 1)) (s + 6 + 2 + 82 + 2 + 82 + 4 + 10 + 10 + 10) c0) 1 o) 62 (zar 4 4 (ik k)) = H2 at *
    simp (disch := omega) only [eX10_init, sX10_init_0, sX10_init_1, sX10_init_4, sX10_init_5, sX10_init_8, sX10_init_9, sX10_init_12, sX10_init_15, sX10_init_16, sX10_init_19, sX10_init_20, sX10_init_23, sX10_init_26, sX10_init_27, sX10_init_30, sX10_init_31, sX10_init_34, sX10_init_37, sX10_init_38, sX10_init_40, sX10_init_43, sX10_init_46, sX10_init_47, sX10_init_48, sX10_init_51, sX10_init_52, sX10_init_53, sX10_init_56, sX10_init_57, sX10_init_58, sX10_init_61, sX10_init_62, sX10_init_65, sX10_init_66, sX10_init_69, sX10_init_72, sX10_init_73, sX10_init_76, sX10_init_77, sX10_init_80, sX10_init_83, sX10_init_84, sX10_init_87, sX10_init_88, sX10_init_91, sX10_init_94, sX10_init_95, sX10_init_98, sX10_init_99, sX10_init_102, sX10_init_105, sX10_init_106, sX10_init_109, sX10_init_110, sX10_init_113, sX10_init_116, sX10_init_117, sX10_init_118, sX10_init_121, sX10_init_124, sX10_init_125, sX10_init_128, sX10_init_129, sX10_init_132, sX10_init_135, sX10_init_136, sX10_init_139, sX10_init_141, sX10_init_144, sX10_init_145, sX10_init_147, sX10_init_149, sX10_init_152, sX10_init_153, sX10_init_155, sX10_init_157, sX10_init_160, sX10_init_161, sX10_init_163, sX10_init_164, sX10_init_167, sX10_init_168, sX10_init_171, sX10_init_172, sX10_init_175, sX10_init_176, sX10_init_179, sX10_init_180, sX10_init_183, sX10_init_186, ↓if_neg, ↓if_pos, if_pos, ↓gfr_at (k := 12) c1 rfl, d2, b1, ↓bndv_at wn, ↓se, is]
theorem EW_init : cl mX10_init [vr 1] (zpu (HQ 0 0 c0) 17 (zob 9 (zDf 9))) = some (vn, HQ 102 4427 c0) := by
  have z0 : (fun _ => 0 : Nat → Int) = ik 0 := by funext i; unfold ik; rw [if_neg (by omega)]
  rw [HQ_any (by decide)]
  refine EW_1.trans ?_
  rw [z0]
  refine (EW_loop (c0 := c0) (o := zob 9 o1) rfl 4 0 3595 (by omega)).trans ?_
  rw [HQ_id (x := 1) (c := zob 9 o1) (by decide) rfl, HQ_id (x := 62) (c := zar 4 4 (ik 4)) (by decide) rfl]
theorem pm_104 (s : Nat) (o : zC) : zpu (zup (HQ 103 s c0) 103 o) 400 (zar 0 400 (fun _ => 0)) = zup (HQ 104 (s + 400) c0) 103 o := pu_1 (by decide) (by decide) rfl
theorem pm_105 (s : Nat) (o : zC) : zpu (zup (HQ 104 s c0) 103 o) 2400 (zar 1 2400 (fun _ => 0)) = zup (HQ 105 (s + 2400) c0) 103 o := pu_1 (by decide) (by decide) rfl
theorem pm_106 (s : Nat) (o : zC) : zpu (zup (HQ 105 s c0) 103 o) 7 (zar 1 7 (fun _ => 0)) = zup (HQ 106 (s + 7) c0) 103 o := pu_1 (by decide) (by decide) rfl
theorem pm_107 (s : Nat) (o : zC) : zpu (zup (HQ 106 s c0) 103 o) 288 (zar 1 288 (fun _ => 0)) = zup (HQ 107 (s + 288) c0) 103 o := pu_1 (by decide) (by decide) rfl
theorem pm_108 (s : Nat) (o : zC) : zpu (zup (HQ 107 s c0) 103 o) 6 (zar 1 6 (fun _ => 0)) = zup (HQ 108 (s + 6) c0) 103 o := pu_1 (by decide) (by decide) rfl
theorem pm_109 (s : Nat) (o : zC) : zpu (zup (HQ 108 s c0) 103 o) 145 (zar 1 145 (fun _ => 0)) = zup (HQ 109 (s + 145) c0) 103 o := pu_1 (by decide) (by decide) rfl
theorem pm_110 (s : Nat) (o : zC) : zpu (zup (HQ 109 s c0) 103 o) 400 (zar 1 400 (fun _ => 0)) = zup (HQ 110 (s + 400) c0) 103 o := pu_1 (by decide) (by decide) rfl
theorem pm_111 (s : Nat) (o : zC) : zpu (zup (HQ 110 s c0) 103 o) 64 (zar 2 64 (fun _ => 0)) = zup (HQ 111 (s + 64) c0) 103 o := pu_1 (by decide) (by decide) rfl
theorem pm_112 (s : Nat) (o : zC) : zpu (zup (HQ 111 s c0) 103 o) 11 (zar 2 11 (fun _ => 0)) = zup (HQ 112 (s + 11) c0) 103 o := pu_1 (by decide) (by decide) rfl
theorem pm_113 (s : Nat) (o : zC) : zpu (zup (HQ 112 s c0) 103 o) 176 (zar 1 176 (fun _ => 0)) = zup (HQ 113 (s + 176) c0) 103 o := pu_1 (by decide) (by decide) rfl
theorem pm_114 (s : Nat) (o : zC) : zpu (zup (HQ 113 s c0) 103 o) 1520 (zar 1 1520 (fun _ => 0)) = zup (HQ 114 (s + 1520) c0) 103 o := pu_1 (by decide) (by decide) rfl
theorem pm_115 (s : Nat) (o : zC) : zpu (zup (HQ 114 s c0) 103 o) 76 (zar 1 76 (fun _ => 0)) = zup (HQ 115 (s + 76) c0) 103 o := pu_1 (by decide) (by decide) rfl
theorem pm_116 (s : Nat) (o : zC) : zpu (zup (HQ 115 s c0) 103 o) 36 (zar 1 36 (fun _ => 0)) = zup (HQ 116 (s + 36) c0) 103 o := pu_1 (by decide) (by decide) rfl
theorem pm_117 (s : Nat) (o : zC) : zpu (zup (HQ 116 s c0) 103 o) 36 (zar 3 36 (fun _ => 0)) = zup (HQ 117 (s + 36) c0) 103 o := pu_1 (by decide) (by decide) rfl
theorem pm_118 (s : Nat) (o : zC) : zpu (zup (HQ 117 s c0) 103 o) 5 (zar 1 5 (fun _ => 0)) = zup (HQ 118 (s + 5) c0) 103 o := pu_1 (by decide) (by decide) rfl
theorem pm_119 (s : Nat) (o : zC) : zpu (zup (HQ 118 s c0) 103 o) 32 (zar 1 32 (fun _ => 0)) = zup (HQ 119 (s + 32) c0) 103 o := pu_1 (by decide) (by decide) rfl
theorem pm_120 (s : Nat) (o : zC) : zpu (zup (HQ 119 s c0) 103 o) 305 (zar 1 305 (fun _ => 0)) = zup (HQ 120 (s + 305) c0) 103 o := pu_1 (by decide) (by decide) rfl
theorem pm_121 (s : Nat) (o : zC) : zpu (zup (HQ 120 s c0) 103 o) 7 (zar 3 7 (fun _ => 0)) = zup (HQ 121 (s + 7) c0) 103 o := pu_1 (by decide) (by decide) rfl
theorem pm_122 (s : Nat) (o : zC) : zpu (zup (HQ 121 s c0) 103 o) 35 (zar 1 35 (fun _ => 0)) = zup (HQ 122 (s + 35) c0) 103 o := pu_1 (by decide) (by decide) rfl
theorem pm_123 (s : Nat) (o : zC) : zpu (zup (HQ 122 s c0) 103 o) 704 (zar 1 704 (fun _ => 0)) = zup (HQ 123 (s + 704) c0) 103 o := pu_1 (by decide) (by decide) rfl
theorem pm_124 (s : Nat) (o : zC) : zpu (zup (HQ 123 s c0) 103 o) 4 (zar 1 4 (fun _ => 0)) = zup (HQ 124 (s + 4) c0) 103 o := pu_1 (by decide) (by decide) rfl
theorem pm_125 (s : Nat) (o : zC) : zpu (zup (HQ 124 s c0) 103 o) 4 (zar 1 4 (fun _ => 0)) = zup (HQ 125 (s + 4) c0) 103 o := pu_1 (by decide) (by decide) rfl
theorem pm_126 (s : Nat) (o : zC) : zpu (zup (HQ 125 s c0) 103 o) 4 (zar 3 4 (fun _ => 0)) = zup (HQ 126 (s + 4) c0) 103 o := pu_1 (by decide) (by decide) rfl
theorem EM_init : cl mX11_init [vr 103] (zpu (HQ 102 4427 c0) 41 (zob 10 (zDf 10))) = some (vn, HQ 126 11133 c0) := by
  have d : zDf 10 = [vr 0, vi 0, vi 0, vr 0, vr 0, vr 0, vr 0, vr 0, vi 0, vi 0, vi 0, vi 0, vi 0, vi 0, vi 0, vr 0, vi 0, vr 0, vi 0, vr 0, vr 0, vi 0, vi 0, vr 0, vi 0, vr 0, vr 0, vr 0, vr 0, vi 0, vi 0, vi 0, vr 0, vr 0, vr 0, vr 0, vl 0, vr 0, vr 0, vr 0, vr 0] := rfl
  rw [HQ_any (by decide), d, ← HQ_id (k := 126) (s := 11133) (c0 := c0) (x := 103) (c := zob 10 [vr 104, vi 0, vi 0, vr 105, vr 106, vr 107, vr 108, vr 109, vi 0, vi 0, vi 0, vi 0, vi 0, vi 0, vi 0, vr 110, vi 0, vr 111, vi 0, vr 112, vr 113, vi (-1), vi 0, vr 114, vi 0, vr 115, vr 116, vr 117, vr 118, vi 0, vi 0, vi 0, vr 119, vr 120, vr 121, vr 122, vl 0, vr 123, vr 124, vr 125, vr 126]) (by decide) rfl]
  simp (disch := first | omega | exact of_decide_eq_true rfl) only [eX11_init, sX11_init_0, sX11_init_1, sX11_init_4, sX11_init_5, sX11_init_8, sX11_init_10, sX11_init_13, sX11_init_14, sX11_init_17, sX11_init_19, sX11_init_22, sX11_init_23, sX11_init_25, sX11_init_27, sX11_init_30, sX11_init_31, sX11_init_34, sX11_init_36, sX11_init_39, sX11_init_40, sX11_init_42, sX11_init_44, sX11_init_47, sX11_init_48, sX11_init_51, sX11_init_53, sX11_init_56, sX11_init_57, sX11_init_60, sX11_init_62, sX11_init_65, sX11_init_66, sX11_init_68, sX11_init_70, sX11_init_73, sX11_init_74, sX11_init_76, sX11_init_78, sX11_init_81, sX11_init_82, sX11_init_85, sX11_init_87, sX11_init_90, sX11_init_91, sX11_init_92, sX11_init_95, sX11_init_96, sX11_init_99, sX11_init_101, sX11_init_104, sX11_init_105, sX11_init_107, sX11_init_109, sX11_init_112, sX11_init_113, sX11_init_115, sX11_init_117, sX11_init_120, sX11_init_121, sX11_init_123, sX11_init_125, sX11_init_128, sX11_init_129, sX11_init_130, sX11_init_132, sX11_init_135, sX11_init_136, sX11_init_138, sX11_init_140, sX11_init_143, sX11_init_144, sX11_init_147, sX11_init_149, sX11_init_152, sX11_init_153, sX11_init_155, sX11_init_157, sX11_init_160, sX11_init_161, sX11_init_163, sX11_init_165, sX11_init_168, sX11_init_169, sX11_init_172, sX11_init_174, sX11_init_177, sX11_init_178, sX11_init_179, sX11_init_181, sX11_init_184, sX11_init_185, sX11_init_186, sX11_init_188, sX11_init_191, sX11_init_192, sX11_init_193, sX11_init_195, sX11_init_198, ↓if_neg, ↓if_pos, if_pos, if_neg, zup_1, HQ_11, Nat.reduceAdd, Int.reduceToNat, pm_104, pm_105, pm_106, pm_107, pm_108, pm_109, pm_110, pm_111, pm_112, pm_113, pm_114, pm_115, pm_116, pm_117, pm_118, pm_119, pm_120, pm_121, pm_122, pm_123, pm_124, pm_125, pm_126, ↓pfz1, zup_zup, List.set]
end CI5
