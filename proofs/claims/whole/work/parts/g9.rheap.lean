/-! a new rule in the whole heap -/
def eUp (E : zE) (n : Nat) : zE := ((fun k => if k = E.2.1 then n else E.1 k), E.2.1 + 1, E.2.2.1 + 2 + 62 + n, E.2.2.2)
section RW
variable {A F : Nat → Nat → Int} {E : zE} {n : Nat} {c : Nat → Int}
theorem zpu_s {h : zH} {s : Nat} {d : zC} {j : Nat} (e : j = h.1.1 + 1) : (zpu h s d).2 j = d := if_pos e
theorem zpu_n {h : zH} {s : Nat} {d : zC} {j : Nat} (e : j ≠ h.1.1 + 1) : (zpu h s d).2 j = h.2 j := if_neg e
theorem hst_e {E' : zE} {j : Nat} {a f : Nat → Int} (h : j ≠ 9) : hst E' j a f = hst E j a f := by
  unfold hst
  split <;> first | rfl | exact absurd rfl h
theorem rnH_c {h : zH} {x : Nat} (x1 : x ≤ h.1.1) {j : Nat} : (rnH h x n c).2 j = if j = h.1.1 + 2 then zar 1 n c else if j = x then zob 4 [vr (h.1.1 + 1 + 1), vr (h.1.1 + 1)] else if j = h.1.1 + 1 then zar 2 62 (fun _ => 0) else h.2 j := by
  unfold rnH
  by_cases q1 : j = h.1.1 + 2
  · rw [if_pos q1, q1]; exact zup_s
  · rw [if_neg q1, zup_n (by omega)]
    by_cases q2' : j = x
    · rw [if_pos q2', q2']; exact zup_s
    · rw [if_neg q2', zup_n q2', zpu_n (show j ≠ h.1.1 + 1 + 1 by omega), zup_n q2']
      by_cases q3 : j = h.1.1 + 1
      · rw [if_pos q3, zpu_s q3]
      · rw [if_neg q3, zpu_n q3]
theorem HP_new (hi : E.2.1 < 6) : zup (rnH (zpu (HP A F E) 2 (zob 4 [vr 0, vr 0])) (126 + 3 * E.2.1 + 1) n c) 9 (zar 5 6 (fup (hRu E) E.2.1 ((126 + 3 * E.2.1 + 1 : Nat) : Int))) = HP (aup (aup A (128 + 3 * E.2.1) (fun _ => 0)) (129 + 3 * E.2.1) c) F (eUp E n) := by
  have hp1 : (HP A F E).1.1 = 126 + 3 * E.2.1 := rfl
  have hz1 : (zpu (HP A F E) 2 (zob 4 [vr 0, vr 0])).1.1 = 126 + 3 * E.2.1 + 1 := rfl
  refine Prod.ext ?_ ?_
  · show ((126 + 3 * E.2.1 + 1 + 1 + 1, E.2.2.1 + 2 + 62 + n) : Nat × Nat) = (126 + 3 * (E.2.1 + 1), E.2.2.1 + 2 + 62 + n)
    rw [show 126 + 3 * E.2.1 + 1 + 1 + 1 = 126 + 3 * (E.2.1 + 1) by omega]
  · funext j
    show _ = hc (eUp E n) j (aup (aup A (128 + 3 * E.2.1) (fun _ => 0)) (129 + 3 * E.2.1) c j) (F j)
    by_cases q9 : j = 9
    · rw [q9, zup_s]
      show _ = zar 5 6 (hRu (eUp E n))
      have : fup (hRu E) E.2.1 ((126 + 3 * E.2.1 + 1 : Nat) : Int) = hRu (eUp E n) := by
        funext k
        show _ = if k < E.2.1 + 1 then 127 + 3 * (k : Int) else 0
        by_cases q : k = E.2.1
        · rw [q, fup_s, if_pos (by omega)]; omega
        · rw [fup_n q]
          unfold hRu
          by_cases q2' : k < E.2.1
          · rw [if_pos q2', if_pos (by omega)]
          · rw [if_neg q2', if_neg (by omega)]
      rw [this]
    · rw [zup_n q9, rnH_c (by rw [hz1]; omega), hz1]
      unfold hc
      have l1 : (eUp E n).2.1 = E.2.1 + 1 := rfl
      by_cases q1 : j = 129 + 3 * E.2.1
      · rw [if_pos (by omega), if_pos (by omega), if_neg (by omega), if_pos (by omega), if_neg (by omega), if_neg (by omega), q1, aup_s]
        have : (129 + 3 * E.2.1 - 127) / 3 = E.2.1 := by omega
        rw [this]
        show _ = zar 1 (if E.2.1 = E.2.1 then n else E.1 E.2.1) c
        rw [if_pos rfl]
      · rw [if_neg (by omega), aup_n q1]
        by_cases q2' : j = 128 + 3 * E.2.1
        · rw [if_neg (by omega), if_pos (by omega), if_pos (by omega), if_neg (by omega), if_pos (by omega), if_neg (by omega), if_pos (by omega), q2', aup_s]
        · rw [aup_n q2']
          by_cases q3 : j = 127 + 3 * E.2.1
          · rw [if_pos (by omega), if_pos (by omega), if_neg (by omega), if_pos (by omega), if_pos (by omega), q3, show 126 + 3 * E.2.1 + 1 + 1 + 1 = 127 + 3 * E.2.1 + 2 by omega, show 126 + 3 * E.2.1 + 1 + 1 = 127 + 3 * E.2.1 + 1 by omega]
          · rw [if_neg (by omega), if_neg (by omega), zpu_n (by rw [hp1]; omega)]
            show hc E j (A j) (F j) = _
            unfold hc
            by_cases q4' : 127 ≤ j
            · rw [if_pos q4', if_pos q4']
              by_cases q5 : j = 1000000000
              · rw [if_pos q5, if_pos q5]; rfl
              · rw [if_neg q5, if_neg q5]
                by_cases q6' : j < 127 + 3 * E.2.1
                · rw [if_pos q6', if_pos (show j < 127 + 3 * (eUp E n).2.1 by rw [l1]; omega)]
                  have : (eUp E n).1 ((j - 127) / 3) = E.1 ((j - 127) / 3) := if_neg (by omega)
                  rw [this]
                · rw [if_neg q6', if_neg (by omega)]
            · rw [if_neg q4', if_neg q4', hst_e (E := E) (E' := eUp E n) q9]
theorem R_made (hi : E.2.1 < 6) (h6 : F 6 1 = (n : Int)) (hn : n ≤ 400) : cl mX6_made [vr 6] (HP A F E) = some (vr (126 + 3 * E.2.1 + 1), rnH (zpu (HP A F E) 2 (zob 4 [vr 0, vr 0])) (126 + 3 * E.2.1 + 1) n (fun j => if j < n then A 7 j else 0)) := by
  have hp1 : (HP A F E).1.1 = 126 + 3 * E.2.1 := rfl
  generalize hh : zpu (HP A F E) 2 (zob 4 [vr 0, vr 0]) = h
  have b1 : h.1.1 = 126 + 3 * E.2.1 + 1 := by rw [← hh]; rfl
  have c1 : h.2 (126 + 3 * E.2.1 + 1) = zob 4 [vr 0, vr 0] := by rw [← hh]; exact zpu_s rfl
  have c6 : h.2 6 = zob 5 [vr 7, vi (F 6 1), vr 8, vi (F 6 3), vi (F 6 4), vi (F 6 5), vi (F 6 6), vi (F 6 7), vi (F 6 8), vi (F 6 9), vi (F 6 10)] := by rw [← hh, zpu_n (by rw [hp1]; omega)]; rfl
  have c7' : h.2 7 = zar 1 400 (A 7) := by rw [← hh, zpu_n (by rw [hp1]; omega)]; rfl
  have nw := R_new (n := n) c1 c7' (by omega) (by omega) (by omega) (by omega) hn (by omega)
  have df : zob 4 (zDf 4) = zob 4 [vr 0, vr 0] := rfl
  simp (disch := omega) only [eX6_made, sX6_made_0, sX6_made_3, sX6_made_4, sX6_made_5, sX6_made_8, sX6_made_9, sX6_made_12, sX6_made_15, hp1, df, hh, ↓gfr_at (k := 0) c6 rfl, ↓gfi_at (k := 1) c6 rfl, h6, ↓bndv_at nw, ↓if_pos, ↓if_neg]
theorem sea_9 {h : zH} {v : Nat} {z : Int} {α : Type} {K : zC → Option α} {fs : List zV} {g : Nat → Int} (h9 : h.2 9 = zar 5 6 g) (hv : h.2 v = zob 4 fs) (z0 : 0 ≤ z) (z1 : z < 6) : sea h 9 z v K = K (zar 5 6 (fup g z.toNat (v : Int))) := by
  unfold sea
  rw [h9, hv]
  simp [zis, zst, odx, z0, z1]
end RW
