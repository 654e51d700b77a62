/-! the class's constructor: the heap as it grows -/
def f0 : Nat → Nat → Int := fun j k => if j = 1 ∧ k = 5 ∨ j = 2 ∧ k = 4 ∨ j = 103 ∧ k = 21 ∨ k = 1 ∧ (j = 10 ∨ j = 12 ∨ j = 14 ∨ 22 ≤ j ∧ j < 62 ∨ 67 ≤ j ∧ j < 103) ∨ k = 4 ∧ 67 ≤ j ∧ j < 103 then -1 else 0
def e0 (c0 : zC) : zE := ((fun _ => 0), 0, 11133, c0)
def HQ (k s : Nat) (c0 : zC) : zH := ((k, s), fun j => if j ≤ k ∨ j = 1000000000 then hc (e0 c0) j (fun _ => 0) (f0 j) else zjk)
section HQS
variable {k s n x y : Nat} {c0 c o a d : zC} {h : zH}
theorem HQ_11 : (HQ k s c0).1.1 = k := rfl
theorem HQ_pu (hk : k + 1 < 127) (e : hc (e0 c0) (k + 1) (fun _ => 0) (f0 (k + 1)) = c) : zpu (HQ k s c0) n c = HQ (k + 1) (s + n) c0 := by
  refine Prod.ext rfl ?_
  funext j
  show (if j = k + 1 then c else if j ≤ k ∨ j = 1000000000 then hc (e0 c0) j (fun _ => 0) (f0 j) else zjk) = (if j ≤ k + 1 ∨ j = 1000000000 then hc (e0 c0) j (fun _ => 0) (f0 j) else zjk)
  by_cases q : j = k + 1
  · rw [if_pos q, if_pos (by omega), ← e, q]
  · rw [if_neg q]
    by_cases q2' : j ≤ k ∨ j = 1000000000
    · rw [if_pos q2', if_pos (by omega)]
    · rw [if_neg q2', if_neg (by omega)]
theorem HQ_any (hk : k + 1 < 127) : zpu (HQ k s c0) n c = zup (HQ (k + 1) (s + n) c0) (k + 1) c := by
  refine Prod.ext rfl ?_
  funext j
  show (if j = k + 1 then c else if j ≤ k ∨ j = 1000000000 then hc (e0 c0) j (fun _ => 0) (f0 j) else zjk) = (if j = k + 1 then c else if j ≤ k + 1 ∨ j = 1000000000 then hc (e0 c0) j (fun _ => 0) (f0 j) else zjk)
  by_cases q : j = k + 1
  · rw [if_pos q, if_pos q]
  · rw [if_neg q, if_neg q]
    by_cases q2' : j ≤ k ∨ j = 1000000000
    · rw [if_pos q2', if_pos (by omega)]
    · rw [if_neg q2', if_neg (by omega)]
theorem pu_1 (hx : x ≠ k + 1) (hk : k + 1 < 127) (e : hc (e0 c0) (k + 1) (fun _ => 0) (f0 (k + 1)) = c) : zpu (zup (HQ k s c0) x o) n c = zup (HQ (k + 1) (s + n) c0) x o := by
  rw [← zup_pu (h := HQ k s c0) hx, HQ_pu hk e]
theorem pu_2 (hx : x ≠ k + 1) (hy : y ≠ k + 1) (hk : k + 1 < 127) (e : hc (e0 c0) (k + 1) (fun _ => 0) (f0 (k + 1)) = c) : zpu (zup (zup (HQ k s c0) x o) y a) n c = zup (zup (HQ (k + 1) (s + n) c0) x o) y a := by
  rw [← zup_pu (h := zup (HQ k s c0) x o) hy, pu_1 hx hk e]
theorem HQ_id (hx : x ≤ k) (e : hc (e0 c0) x (fun _ => 0) (f0 x) = c) : zup (HQ k s c0) x c = HQ k s c0 := by
  refine Prod.ext rfl ?_
  funext j
  show (if j = x then c else if j ≤ k ∨ j = 1000000000 then hc (e0 c0) j (fun _ => 0) (f0 j) else zjk) = (if j ≤ k ∨ j = 1000000000 then hc (e0 c0) j (fun _ => 0) (f0 j) else zjk)
  by_cases q : j = x
  · rw [if_pos q, if_pos (by omega), ← e, q]
  · rw [if_neg q]
/-- the heap at the law's start (as in the last part) *)-/
def zh0' (L : Nat) (xs : Nat → Int32) : zH := ((0, 0), fun a => if a = 1000000000 then .inr (99, L, fun j => (xs j).toInt) else zjk)
theorem zh0_HQ {L : Nat} {xs : Nat → Int32} : zh0' L xs = HQ 0 0 (.inr (99, L, fun j => (xs j).toInt)) := by
  refine Prod.ext rfl ?_
  funext j
  show (if j = 1000000000 then _ else zjk) = (if j ≤ 0 ∨ j = 1000000000 then hc (e0 _) j (fun _ => 0) (f0 j) else zjk)
  by_cases q : j = 1000000000
  · rw [if_pos q, if_pos (by omega), q]; rfl
  · rw [if_neg q]
    by_cases q2' : j ≤ 0 ∨ j = 1000000000
    · rw [if_pos q2', show j = 0 by omega]; rfl
    · rw [if_neg q2']
theorem HQ_HP {A F : Nat → Nat → Int} (hA : A = fun _ _ => 0) (hF : F = f0) : HQ 126 11133 c0 = HP A F (e0 c0) := by
  rw [hA, hF]
  refine Prod.ext rfl ?_
  funext j
  show (if j ≤ 126 ∨ j = 1000000000 then hc (e0 c0) j (fun _ => 0) (f0 j) else zjk) = hc (e0 c0) j (fun _ => 0) (f0 j)
  by_cases q : j ≤ 126 ∨ j = 1000000000
  · rw [if_pos q]
  · rw [if_neg q]
    unfold hc
    rw [if_pos (by omega), if_neg (by omega), if_neg (show ¬ j < 127 + 3 * (e0 c0).2.1 from fun z => by have : (e0 c0).2.1 = 0 := rfl; omega)]
end HQS
section CI0
variable {c0 : zC}
theorem nw_2 (s : Nat) (o : zC) : cl mX8_init [vr 2] (zpu (zup (HQ 1 s c0) 1 o) 6 (zob 7 [vr 0, vi 0, vi 0, vi 0, vi 0, vi 0])) = some (vn, zup (HQ 3 (s + 6 + 400) c0) 1 o) := by
  refine (T_new (h := zup (HQ 1 s c0) 1 o) (show 1 < 900000000 by decide)).trans ?_
  show some (vn, zpu (zpu (zup (HQ 1 s c0) 1 o) 6 (zob 7 [vr 3, vi 0, vi 0, vi 0, vi (-1), vi 0])) 400 (zar 1 400 (fun _ => 0))) = _
  rw [pu_1 (k := 1) (c := zob 7 [vr 3, vi 0, vi 0, vi 0, vi (-1), vi 0]) (by decide) (by decide) rfl]
  rw [pu_1 (k := 2) (c := zar 1 400 (fun _ => 0)) (by decide) (by decide) rfl]
theorem nw_4 (s : Nat) (o : zC) : cl mX7_init [vr 4] (zpu (zup (HQ 3 s c0) 1 o) 1 (zob 6 [vr 0])) = some (vn, zup (HQ 5 (s + 1 + 3) c0) 1 o) := by
  refine (S_new (h := zup (HQ 3 s c0) 1 o) (show 3 < 900000000 by decide)).trans ?_
  show some (vn, zpu (zpu (zup (HQ 3 s c0) 1 o) 1 (zob 6 [vr 5])) 3 (zar 1 3 (fun _ => 0))) = _
  rw [pu_1 (k := 3) (c := zob 6 [vr 5]) (by decide) (by decide) rfl]
  rw [pu_1 (k := 4) (c := zar 1 3 (fun _ => 0)) (by decide) (by decide) rfl]
theorem nw_6 (s : Nat) (o : zC) : cl mX6_init [vr 6] (zpu (zup (HQ 5 s c0) 1 o) 11 (zob 5 [vr 0, vi 0, vr 0, vi 0, vi 0, vi 0, vi 0, vi 0, vi 0, vi 0, vi 0])) = some (vn, zup (HQ 8 (s + 11 + 400 + 400) c0) 1 o) := by
  refine (Q_new (h := zup (HQ 5 s c0) 1 o) (show 5 < 900000000 by decide)).trans ?_
  show some (vn, zpu (zpu (zpu (zup (HQ 5 s c0) 1 o) 11 (zob 5 [vr 7, vi 0, vr 8, vi 0, vi 0, vi 0, vi 0, vi 0, vi 0, vi 0, vi 0])) 400 (zar 1 400 (fun _ => 0))) 400 (zar 1 400 (fun _ => 0))) = _
  rw [pu_1 (k := 5) (c := zob 5 [vr 7, vi 0, vr 8, vi 0, vi 0, vi 0, vi 0, vi 0, vi 0, vi 0, vi 0]) (by decide) (by decide) rfl]
  rw [pu_1 (k := 6) (c := zar 1 400 (fun _ => 0)) (by decide) (by decide) rfl]
  rw [pu_1 (k := 7) (c := zar 1 400 (fun _ => 0)) (by decide) (by decide) rfl]
theorem nw_10 (s : Nat) (o : zC) : cl mX9_init [vr 10] (zpu (zup (HQ 9 s c0) 1 o) 2 (zob 8 [vr 0, vi 0])) = some (vn, zup (HQ 11 (s + 2 + 82) c0) 1 o) := by
  refine (W_new (h := zup (HQ 9 s c0) 1 o) (show 9 < 900000000 by decide)).trans ?_
  show some (vn, zpu (zpu (zup (HQ 9 s c0) 1 o) 2 (zob 8 [vr 11, vi (-1)])) 82 (zar 1 82 (fun _ => 0))) = _
  rw [pu_1 (k := 9) (c := zob 8 [vr 11, vi (-1)]) (by decide) (by decide) rfl]
  rw [pu_1 (k := 10) (c := zar 1 82 (fun _ => 0)) (by decide) (by decide) rfl]
theorem nw_12 (s : Nat) (o : zC) : cl mX9_init [vr 12] (zpu (zup (HQ 11 s c0) 1 o) 2 (zob 8 [vr 0, vi 0])) = some (vn, zup (HQ 13 (s + 2 + 82) c0) 1 o) := by
  refine (W_new (h := zup (HQ 11 s c0) 1 o) (show 11 < 900000000 by decide)).trans ?_
  show some (vn, zpu (zpu (zup (HQ 11 s c0) 1 o) 2 (zob 8 [vr 13, vi (-1)])) 82 (zar 1 82 (fun _ => 0))) = _
  rw [pu_1 (k := 11) (c := zob 8 [vr 13, vi (-1)]) (by decide) (by decide) rfl]
  rw [pu_1 (k := 12) (c := zar 1 82 (fun _ => 0)) (by decide) (by decide) rfl]
theorem nw_14 (s : Nat) (o : zC) : cl mX9_init [vr 14] (zpu (zup (HQ 13 s c0) 1 o) 2 (zob 8 [vr 0, vi 0])) = some (vn, zup (HQ 15 (s + 2 + 82) c0) 1 o) := by
  refine (W_new (h := zup (HQ 13 s c0) 1 o) (show 13 < 900000000 by decide)).trans ?_
  show some (vn, zpu (zpu (zup (HQ 13 s c0) 1 o) 2 (zob 8 [vr 15, vi (-1)])) 82 (zar 1 82 (fun _ => 0))) = _
  rw [pu_1 (k := 13) (c := zob 8 [vr 15, vi (-1)]) (by decide) (by decide) rfl]
  rw [pu_1 (k := 14) (c := zar 1 82 (fun _ => 0)) (by decide) (by decide) rfl]
theorem nw_16 (s : Nat) (o : zC) : cl mX4_init [vr 16] (zpu (zup (HQ 15 s c0) 1 o) 4 (zob 3 [vr 0, vr 0, vr 0, vi 0])) = some (vn, zup (HQ 19 (s + 4 + 10 + 10 + 10) c0) 1 o) := by
  refine (N_new (h := zup (HQ 15 s c0) 1 o) (show 15 < 900000000 by decide)).trans ?_
  show some (vn, zpu (zpu (zpu (zpu (zup (HQ 15 s c0) 1 o) 4 (zob 3 [vr 17, vr 18, vr 19, vi 0])) 10 (zar 1 10 (fun _ => 0))) 10 (zar 1 10 (fun _ => 0))) 10 (zar 1 10 (fun _ => 0))) = _
  rw [pu_1 (k := 15) (c := zob 3 [vr 17, vr 18, vr 19, vi 0]) (by decide) (by decide) rfl]
  rw [pu_1 (k := 16) (c := zar 1 10 (fun _ => 0)) (by decide) (by decide) rfl]
  rw [pu_1 (k := 17) (c := zar 1 10 (fun _ => 0)) (by decide) (by decide) rfl]
  rw [pu_1 (k := 18) (c := zar 1 10 (fun _ => 0)) (by decide) (by decide) rfl]
end CI0
