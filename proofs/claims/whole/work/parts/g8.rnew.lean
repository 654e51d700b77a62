/-! a new rule in the heap -/
def rnH (h : zH) (x n : Nat) (c : Nat → Int) : zH := zup (zup (zpu (zup (zpu h 62 (zar 2 62 (fun _ => 0))) x (zob 4 [vr 0, vr (h.1.1 + 1)])) n (zar 1 n (fun _ => 0))) x (zob 4 [vr (h.1.1 + 1 + 1), vr (h.1.1 + 1)])) (h.1.1 + 1 + 1) (zar 1 n c)
section RN
variable {h : zH} {x o n p : Nat} {f : Nat → Int}
theorem R_init_l {y : zV} (hx : h.2 x = zob 4 [vr p, y]) (ho : h.2 o = zar 1 400 f) (x1 : x ≠ p) (o1 : o ≠ p) (hn : n ≤ 400) {s : Int} : ∀ (m k : Nat) (g : Nat → Int), k + m = n → rn mX5_init 33 [vr x, vr o, vi s, vi (n : Int), vi (k : Int)] [] (zup h p (zar 1 n g)) = some (vn, zup h p (zar 1 n (fun j => if k ≤ j ∧ j < n then f j else g j))) := by
  intro m
  induction m with
  | zero =>
    intro k g hk
    have e : (fun j => if k ≤ j ∧ j < n then f j else g j) = g := by funext j; rw [if_neg (by omega)]
    rw [sX5_init_33, e]
    simp (disch := omega) only [eX5_init, sX5_init_0, sX5_init_1, sX5_init_4, sX5_init_5, sX5_init_7, sX5_init_9, sX5_init_12, sX5_init_13, sX5_init_14, sX5_init_15, sX5_init_16, sX5_init_19, sX5_init_22, sX5_init_23, sX5_init_24, sX5_init_25, sX5_init_27, sX5_init_30, sX5_init_31, sX5_init_35, sX5_init_36, sX5_init_39, sX5_init_40, sX5_init_43, sX5_init_45, sX5_init_46, sX5_init_48, sX5_init_49, sX5_init_50, sX5_init_53, sX5_init_56, ↓if_pos, ↓if_neg]
  | succ m ih =>
    intro k g hk
    have xx : (zup h p (zar 1 n g)).2 x = zob 4 [vr p, y] := by rw [zup_n x1]; exact hx
    have oo : (zup h p (zar 1 n g)).2 o = zar 1 400 f := by rw [zup_n o1]; exact ho
    have pp : (zup h p (zar 1 n g)).2 p = zar 1 n g := zup_s
    have i := ih (k + 1) (fup g k (f k)) (by omega)
    have e : (fun j => if k + 1 ≤ j ∧ j < n then f j else fup g k (f k) j) = (fun j => if k ≤ j ∧ j < n then f j else g j) := by
      funext j
      by_cases q : j = k
      · rw [q, if_neg (by omega), fup_s, if_pos (by omega)]
      · rw [fup_n q]
        by_cases q2' : k ≤ j ∧ j < n
        · rw [if_pos q2', if_pos (by omega)]
        · rw [if_neg q2', if_neg (by omega)]
    rw [e, ← zup_zup (c := zar 1 n g)] at i
    rw [sX5_init_33]
    generalize zup h p (zar 1 n g) = H at *
    have is : i32 ((k : Int) + 1) = ((k + 1 : Nat) : Int) := i32_s k (by omega)
    have kt : ((k : Int)).toNat = k := by omega
    simp (disch := omega) only [eX5_init, sX5_init_0, sX5_init_1, sX5_init_4, sX5_init_5, sX5_init_7, sX5_init_9, sX5_init_12, sX5_init_13, sX5_init_14, sX5_init_15, sX5_init_16, sX5_init_19, sX5_init_22, sX5_init_23, sX5_init_24, sX5_init_25, sX5_init_27, sX5_init_30, sX5_init_31, sX5_init_35, sX5_init_36, sX5_init_39, sX5_init_40, sX5_init_43, sX5_init_45, sX5_init_46, sX5_init_48, sX5_init_49, sX5_init_50, sX5_init_53, sX5_init_56, ↓gfr_at (k := 0) xx rfl, ↓gel_at oo, ↓sel_at pp, ↓if_pos, ↓if_neg, is, kt]
    exact i
theorem R_new (hx : h.2 x = zob 4 [vr 0, vr 0]) (ho : h.2 o = zar 1 400 f) (x0 : x ≠ 0) (x1 : x ≤ h.1.1) (o1 : o ≤ h.1.1) (xo : o ≠ x) (hn : n ≤ 400) (hh : h.1.1 < 99999999) : cl mX5_init [vr x, vr o, vi (n : Int)] h = some (vn, rnH h x n (fun j => if j < n then f j else 0)) := by
  generalize hh1 : zpu h 62 (zar 2 62 (fun _ => 0)) = h1
  have b1 : h1.1.1 = h.1.1 + 1 := by rw [← hh1]; rfl
  have c1 : h1.2 x = zob 4 [vr 0, vr 0] := by rw [← hh1]; show (if x = h.1.1 + 1 then _ else h.2 x) = _; rw [if_neg (by omega)]; exact hx
  have d1 : h1.2 o = zar 1 400 f := by rw [← hh1]; show (if o = h.1.1 + 1 then _ else h.2 o) = _; rw [if_neg (by omega)]; exact ho
  generalize hh2 : zup h1 x (zob 4 [vr 0, vr (h.1.1 + 1)]) = h2
  have b2 : h2.1.1 = h.1.1 + 1 := by rw [← hh2]; exact b1
  have c2 : h2.2 x = zob 4 [vr 0, vr (h.1.1 + 1)] := by rw [← hh2]; exact zup_s
  have d2 : h2.2 o = zar 1 400 f := by rw [← hh2, zup_n xo]; exact d1
  generalize hh3 : zpu h2 n (zar 1 n (fun _ => 0)) = h3
  have c3 : h3.2 x = zob 4 [vr 0, vr (h.1.1 + 1)] := by rw [← hh3]; show (if x = h2.1.1 + 1 then _ else h2.2 x) = _; rw [if_neg (by omega)]; exact c2
  have d3 : h3.2 o = zar 1 400 f := by rw [← hh3]; show (if o = h2.1.1 + 1 then _ else h2.2 o) = _; rw [if_neg (by omega)]; exact d2
  have e3 : h3.2 (h.1.1 + 1 + 1) = zar 1 n (fun _ => 0) := by rw [← hh3]; show (if h.1.1 + 1 + 1 = h2.1.1 + 1 then _ else h2.2 _) = _; rw [if_pos (by omega)]
  generalize hh4 : zup h3 x (zob 4 [vr (h.1.1 + 1 + 1), vr (h.1.1 + 1)]) = h4
  have c4 : h4.2 x = zob 4 [vr (h.1.1 + 1 + 1), vr (h.1.1 + 1)] := by rw [← hh4]; exact zup_s
  have d4 : h4.2 o = zar 1 400 f := by rw [← hh4, zup_n xo]; exact d3
  have e4 : h4.2 (h.1.1 + 1 + 1) = zar 1 n (fun _ => 0) := by rw [← hh4, zup_n (by omega)]; exact e3
  have l := R_init_l (s := (n : Int)) (p := h.1.1 + 1 + 1) c4 d4 (by omega) (by omega) hn n 0 (fun _ => 0) (by omega)
  rw [zup_id e4] at l
  have ef : (fun j => if 0 ≤ j ∧ j < n then f j else (0 : Int)) = (fun j => if j < n then f j else 0) := by
    funext j
    by_cases q : j < n
    · rw [if_pos q, if_pos (by omega)]
    · rw [if_neg q, if_neg (by omega)]
  rw [ef] at l
  have fin : rnH h x n (fun j => if j < n then f j else 0) = zup h4 (h.1.1 + 1 + 1) (zar 1 n (fun j => if j < n then f j else 0)) := by
    rw [← hh4, ← hh3, ← hh2, ← hh1]; rfl
  rw [fin]
  have t62 : (62 : Int).toNat = 62 := rfl
  have s1 : ([vr 0, vr 0] : List zV).set 1 (vr (h.1.1 + 1)) = [vr 0, vr (h.1.1 + 1)] := rfl
  have s2 : ([vr 0, vr (h.1.1 + 1)] : List zV).set 0 (vr (h.1.1 + 1 + 1)) = [vr (h.1.1 + 1 + 1), vr (h.1.1 + 1)] := rfl
  have nn : ((n : Int)).toNat = n := by omega
  have mx : (if (0 : Int) < (n : Int) then (n : Int) else 0) = (n : Int) := by split <;> omega
  have l' : rn mX5_init 33 [vr x, vr o, vi (n : Int), vi (n : Int), vi 0] [] h4 = _ := l
  simp (disch := omega) only [eX5_init, sX5_init_0, sX5_init_1, sX5_init_4, sX5_init_5, sX5_init_7, sX5_init_9, sX5_init_12, sX5_init_13, sX5_init_14, sX5_init_15, sX5_init_16, sX5_init_19, sX5_init_22, sX5_init_23, sX5_init_24, sX5_init_25, sX5_init_27, sX5_init_30, sX5_init_31, sX5_init_35, sX5_init_36, sX5_init_39, sX5_init_40, sX5_init_43, sX5_init_45, sX5_init_46, sX5_init_48, sX5_init_49, sX5_init_50, sX5_init_53, sX5_init_56, ↓if_pos, ↓if_neg, t62, hh1, ↓pfv_at c1 (show 1 < [vr 0, vr 0].length by decide), s1, hh2, ↓gle_at d2, mx, nn, b2, hh3, ↓pfv_at c3 (show 0 < [vr 0, vr (h.1.1 + 1)].length from Nat.succ_pos _), s2, hh4]
  exact l'
end RN
