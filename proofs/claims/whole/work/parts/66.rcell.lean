/-! RuleReader's cell as a thing: V its numbers by place -/
def rce (o w : Nat) (V : Nat → Int) : zC := zob 5 [vr o, vi (V 1), vr w, vi (V 3), vi (V 4), vi (V 5), vi (V 6), vi (V 7), vi (V 8), vi (V 9), vi (V 10)]
def rrs (h : zH) (r o w : Nat) (od wt : Nat → Int) (V : Nat → Int) : zH := zup (zup (zup h o (zar 1 400 od)) w (zar 1 400 wt)) r (rce o w V)
section RR
variable {α : Type} {h : zH} {r o w : Nat} {od wt V : Nat → Int} {v : Int}
theorem r_0 {K : Nat → Option α} : gfr ((rrs h r o w od wt V).2 r) 5 0 K = K o := gfr_at zup_s rfl
theorem r_2 {K : Nat → Option α} : gfr ((rrs h r o w od wt V).2 r) 5 2 K = K w := gfr_at zup_s rfl
theorem r_1 {K : Int → Option α} : gfi ((rrs h r o w od wt V).2 r) 5 1 K = K (V 1) := gfi_at zup_s rfl
theorem r_w1 {K : zC → Option α} : pfv ((rrs h r o w od wt V).2 r) 5 1 (vi v) K = K (rce o w (fup V 1 v)) := pfv_at zup_s (by simp)
theorem r_3 {K : Int → Option α} : gfi ((rrs h r o w od wt V).2 r) 5 3 K = K (V 3) := gfi_at zup_s rfl
theorem r_w3 {K : zC → Option α} : pfv ((rrs h r o w od wt V).2 r) 5 3 (vi v) K = K (rce o w (fup V 3 v)) := pfv_at zup_s (by simp)
theorem r_4 {K : Int → Option α} : gfi ((rrs h r o w od wt V).2 r) 5 4 K = K (V 4) := gfi_at zup_s rfl
theorem r_w4 {K : zC → Option α} : pfv ((rrs h r o w od wt V).2 r) 5 4 (vi v) K = K (rce o w (fup V 4 v)) := pfv_at zup_s (by simp)
theorem r_5 {K : Int → Option α} : gfi ((rrs h r o w od wt V).2 r) 5 5 K = K (V 5) := gfi_at zup_s rfl
theorem r_w5 {K : zC → Option α} : pfv ((rrs h r o w od wt V).2 r) 5 5 (vi v) K = K (rce o w (fup V 5 v)) := pfv_at zup_s (by simp)
theorem r_6 {K : Int → Option α} : gfi ((rrs h r o w od wt V).2 r) 5 6 K = K (V 6) := gfi_at zup_s rfl
theorem r_w6 {K : zC → Option α} : pfv ((rrs h r o w od wt V).2 r) 5 6 (vi v) K = K (rce o w (fup V 6 v)) := pfv_at zup_s (by simp)
theorem r_7 {K : Int → Option α} : gfi ((rrs h r o w od wt V).2 r) 5 7 K = K (V 7) := gfi_at zup_s rfl
theorem r_w7 {K : zC → Option α} : pfv ((rrs h r o w od wt V).2 r) 5 7 (vi v) K = K (rce o w (fup V 7 v)) := pfv_at zup_s (by simp)
theorem r_8 {K : Int → Option α} : gfi ((rrs h r o w od wt V).2 r) 5 8 K = K (V 8) := gfi_at zup_s rfl
theorem r_w8 {K : zC → Option α} : pfv ((rrs h r o w od wt V).2 r) 5 8 (vi v) K = K (rce o w (fup V 8 v)) := pfv_at zup_s (by simp)
theorem r_9 {K : Int → Option α} : gfi ((rrs h r o w od wt V).2 r) 5 9 K = K (V 9) := gfi_at zup_s rfl
theorem r_w9 {K : zC → Option α} : pfv ((rrs h r o w od wt V).2 r) 5 9 (vi v) K = K (rce o w (fup V 9 v)) := pfv_at zup_s (by simp)
theorem r_10 {K : Int → Option α} : gfi ((rrs h r o w od wt V).2 r) 5 10 K = K (V 10) := gfi_at zup_s rfl
theorem r_w10 {K : zC → Option α} : pfv ((rrs h r o w od wt V).2 r) 5 10 (vi v) K = K (rce o w (fup V 10 v)) := pfv_at zup_s (by simp)
theorem r_c {x : Option α} : cki ((rrs h r o w od wt V).2 r) 5 x = x := cki_at zup_s
theorem r_u {V' : Nat → Int} : zup (rrs h r o w od wt V) r (rce o w V') = rrs h r o w od wt V' := zup_zup
theorem r_o (d1 : o ≠ r) (d2 : o ≠ w) : (rrs h r o w od wt V).2 o = zar 1 400 od := by rw [rrs, zup_n d1, zup_n d2]; exact zup_s
theorem r_t (d1 : w ≠ r) : (rrs h r o w od wt V).2 w = zar 1 400 wt := by rw [rrs, zup_n d1]; exact zup_s
theorem r_uo {od' : Nat → Int} (d1 : o ≠ r) (d2 : o ≠ w) : zup (rrs h r o w od wt V) o (zar 1 400 od') = rrs h r o w od' wt V := by rw [rrs, zup_comm (Ne.symm d1), zup_comm (Ne.symm d2), zup_zup]; rfl
theorem r_uw {wt' : Nat → Int} (d1 : w ≠ r) : zup (rrs h r o w od wt V) w (zar 1 400 wt') = rrs h r o w od wt' V := by rw [rrs, zup_comm (Ne.symm d1), zup_zup]; rfl
theorem Q_part (h0 : 0 ≤ V 6) (h1 : V 6 ≤ 1000) : cl mX6_partCounted [vr r] (rrs h r o w od wt V) = some (vi (if V 6 < 60 then -1 else 3), rrs h r o w od wt (fup V 6 (V 6 + 1))) := by
  have e : i32 (V 6 + 1) = V 6 + 1 := i32_of (by omega) (by omega)
  have e6 : fup V 6 (V 6 + 1) 6 = V 6 + 1 := fup_s
  by_cases q : V 6 < 60
  · have q' : V 6 + 1 ≤ 60 := by omega
    rw [if_pos q]
    simp only [eX6_partCounted, sX6_partCounted_0, sX6_partCounted_1, sX6_partCounted_2, sX6_partCounted_5, sX6_partCounted_6, sX6_partCounted_7, sX6_partCounted_10, sX6_partCounted_11, sX6_partCounted_14, sX6_partCounted_16, sX6_partCounted_19, sX6_partCounted_20, sX6_partCounted_23, sX6_partCounted_24, ↓r_6, e, ↓r_w6, r_u, e6, ↓if_pos q']
  · have q' : ¬ V 6 + 1 ≤ 60 := by omega
    rw [if_neg q]
    simp only [eX6_partCounted, sX6_partCounted_0, sX6_partCounted_1, sX6_partCounted_2, sX6_partCounted_5, sX6_partCounted_6, sX6_partCounted_7, sX6_partCounted_10, sX6_partCounted_11, sX6_partCounted_14, sX6_partCounted_16, sX6_partCounted_19, sX6_partCounted_20, sX6_partCounted_23, sX6_partCounted_24, ↓r_6, e, ↓r_w6, r_u, e6, ↓if_neg q']
theorem Q_order {x : Int} (d1 : o ≠ r) (d2 : o ≠ w) (h0 : 0 ≤ V 1) (h1 : V 1 < 400) : cl mX6_order [vr r, vi x] (rrs h r o w od wt V) = some (vn, rrs h r o w (fup od (V 1).toNat x) wt (fup V 1 (V 1 + 1))) := by
  have e : i32 (V 1 + 1) = V 1 + 1 := i32_of (by omega) (by omega)
  have o1 := r_o (h := h) (od := od) (wt := wt) (V := V) d1 d2
  have q1 : ¬ V 1 < 0 := by omega
  have q2 : ¬ ((400 : Nat) : Int) ≤ V 1 := by omega
  have u : ∀ g : Nat → Int, zup (rrs h r o w od wt V) o (.inr (1, 400, g)) = rrs h r o w g wt V := fun g => r_uo d1 d2
  simp (disch := omega) only [eX6_order, sX6_order_0, sX6_order_1, sX6_order_4, sX6_order_7, sX6_order_8, sX6_order_11, sX6_order_12, sX6_order_15, sX6_order_16, sX6_order_19, sX6_order_20, sX6_order_23, sX6_order_24, sX6_order_27, sX6_order_28, sX6_order_29, sX6_order_30, sX6_order_31, sX6_order_34, sX6_order_35, sX6_order_36, sX6_order_39, ↓r_1, ↓if_neg q1, ↓r_0, ↓gle_at o1, ↓if_neg q2, ↓sel_at o1, u, e, ↓r_w1, r_u]
theorem Q_await {x : Int} (d1 : w ≠ r) (h0 : 0 ≤ V 3) (h1 : V 3 < 400) : cl mX6_await [vr r, vi x] (rrs h r o w od wt V) = some (vn, rrs h r o w od (fup wt (V 3).toNat x) (fup V 3 (V 3 + 1))) := by
  have e : i32 (V 3 + 1) = V 3 + 1 := i32_of (by omega) (by omega)
  have o1 := r_t (h := h) (o := o) (od := od) (wt := wt) (V := V) d1
  have q1 : ¬ V 3 < 0 := by omega
  have q2 : ¬ ((400 : Nat) : Int) ≤ V 3 := by omega
  have u : ∀ g : Nat → Int, zup (rrs h r o w od wt V) w (.inr (1, 400, g)) = rrs h r o w od g V := fun g => r_uw d1
  simp (disch := omega) only [eX6_await, sX6_await_0, sX6_await_1, sX6_await_4, sX6_await_7, sX6_await_8, sX6_await_11, sX6_await_12, sX6_await_15, sX6_await_16, sX6_await_19, sX6_await_20, sX6_await_23, sX6_await_24, sX6_await_27, sX6_await_28, sX6_await_29, sX6_await_30, sX6_await_31, sX6_await_34, sX6_await_35, sX6_await_36, sX6_await_39, ↓r_3, ↓if_neg q1, ↓r_2, ↓gle_at o1, ↓if_neg q2, ↓sel_at o1, u, e, ↓r_w3, r_u]
end RR
