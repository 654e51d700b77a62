/-! RuleReader in the whole heap, over lists: orders and waiting operators, the last first -/
def wat : List Int → Nat → Int
  | [], _ => 0
  | o :: r, k => if k = r.length then o else wat r k
def RH (A F : Nat → Nat → Int) (O W : List Int) (v : Nat → Int) : Prop := F 6 1 = (O.length : Int) ∧ (∀ k, k < O.length → A 7 k = wat O k) ∧ F 6 3 = (W.length : Int) ∧ (∀ k, k < W.length → A 8 k = wat W k) ∧ ∀ k, 4 ≤ k → k ≤ 10 → F 6 k = v k
/-- what the class's reader may change -/
def rfr (A F A' F' : Nat → Nat → Int) : Prop := (∀ j, j ≠ 7 → j ≠ 8 → A' j = A j) ∧ ∀ j, j ≠ 6 → F' j = F j
def q6 (F : Nat → Nat → Int) (k : Nat) (v : Int) : Nat → Nat → Int := aup F 6 (fup (F 6) k v)
section RC
variable {A F : Nat → Nat → Int} {E : zE} {O W : List Int} {v : Nat → Int}
theorem q6_s {k : Nat} {v : Int} : q6 F k v 6 k = v := by unfold q6; rw [aup_s, fup_s]
theorem q6_n {k j : Nat} {v : Int} (h : j ≠ k) : q6 F k v 6 j = F 6 j := by unfold q6; rw [aup_s, fup_n h]
theorem q6_o {k j : Nat} {v : Int} (h : j ≠ 6) : q6 F k v j = F j := by unfold q6; rw [aup_n h]
theorem rfr_r : rfr A F A F := ⟨fun _ _ _ => rfl, fun _ _ => rfl⟩
theorem rfr_t {A1 F1 A2 F2 : Nat → Nat → Int} (h : rfr A F A1 F1) (k : rfr A1 F1 A2 F2) : rfr A F A2 F2 := ⟨fun j a c => (k.1 j a c).trans (h.1 j a c), fun j a => (k.2 j a).trans (h.2 j a)⟩
theorem rfr_q {k : Nat} {v : Int} : rfr A F A (q6 F k v) := ⟨fun _ _ _ => rfl, fun j a => q6_o a⟩
/-- a number of the reader written -/
theorem RH_q {k : Nat} {x : Int} (h : RH A F O W v) (k0 : 4 ≤ k ∧ k ≤ 10) : RH A (q6 F k x) O W (fup v k x) := by
  obtain ⟨h1, h2, h3, h4, h5⟩ := h
  refine ⟨by rw [q6_n (by omega)]; exact h1, h2, by rw [q6_n (by omega)]; exact h3, h4, fun j j1 j2 => ?_⟩
  by_cases q : j = k
  · subst q; rw [q6_s, fup_s]
  · rw [q6_n q, fup_n q]; exact h5 j j1 j2
theorem RH_order {x : Int} (h : RH A F O W v) (hl : O.length < 400) : ∃ A' F', cl mX6_order [vr 6, vi x] (HP A F E) = some (vn, HP A' F' E) ∧ RH A' F' (x :: O) W v ∧ rfr A F A' F' := by
  obtain ⟨h1, h2, h3, h4, h5⟩ := h
  refine ⟨aup A 7 (fup (A 7) O.length x), q6 F 1 ((O.length : Int) + 1), ?_, ⟨?_, fun k hk => ?_, ?_, fun k hk => ?_, fun k k1 k2 => ?_⟩, ⟨fun j a c => aup_n a, fun j a => q6_o a⟩⟩
  · simp (disch := omega) only [eX6_order, sX6_order_0, sX6_order_1, sX6_order_4, sX6_order_7, sX6_order_8, sX6_order_11, sX6_order_12, sX6_order_15, sX6_order_16, sX6_order_19, sX6_order_20, sX6_order_23, sX6_order_24, sX6_order_27, sX6_order_28, sX6_order_29, sX6_order_30, sX6_order_31, sX6_order_34, sX6_order_35, sX6_order_36, sX6_order_39, ↓hf6_1, ↓hf6_0, ↓hl7, ↓hs7, ↓hp6_1, h1, Int.toNat_natCast, i32_of, ↓if_pos, ↓if_neg]
    rfl
  · rw [q6_s, List.length_cons]; omega
  · rw [aup_s, wat]
    by_cases q : k = O.length
    · rw [if_pos q, q, fup_s]
    · rw [if_neg q, fup_n q]; exact h2 k (by rw [List.length_cons] at hk; omega)
  · rw [q6_n (by omega)]; exact h3
  · rw [aup_n (by omega)]; exact h4 k hk
  · rw [q6_n (by omega)]; exact h5 k k1 k2
theorem RH_await {x : Int} (h : RH A F O W v) (hl : W.length < 400) : ∃ A' F', cl mX6_await [vr 6, vi x] (HP A F E) = some (vn, HP A' F' E) ∧ RH A' F' O (x :: W) v ∧ rfr A F A' F' := by
  obtain ⟨h1, h2, h3, h4, h5⟩ := h
  refine ⟨aup A 8 (fup (A 8) W.length x), q6 F 3 ((W.length : Int) + 1), ?_, ⟨?_, fun k hk => ?_, ?_, fun k hk => ?_, fun k k1 k2 => ?_⟩, ⟨fun j a c => aup_n c, fun j a => q6_o a⟩⟩
  · simp (disch := omega) only [eX6_await, sX6_await_0, sX6_await_1, sX6_await_4, sX6_await_7, sX6_await_8, sX6_await_11, sX6_await_12, sX6_await_15, sX6_await_16, sX6_await_19, sX6_await_20, sX6_await_23, sX6_await_24, sX6_await_27, sX6_await_28, sX6_await_29, sX6_await_30, sX6_await_31, sX6_await_34, sX6_await_35, sX6_await_36, sX6_await_39, ↓hf6_3, ↓hf6_2, ↓hl8, ↓hs8, ↓hp6_3, h3, Int.toNat_natCast, i32_of, ↓if_pos, ↓if_neg]
    rfl
  · rw [q6_n (by omega)]; exact h1
  · rw [aup_n (by omega)]; exact h2 k hk
  · rw [q6_s, List.length_cons]; omega
  · rw [aup_s, wat]
    by_cases q : k = W.length
    · rw [if_pos q, q, fup_s]
    · rw [if_neg q, fup_n q]; exact h4 k (by rw [List.length_cons] at hk; omega)
  · rw [q6_n (by omega)]; exact h5 k k1 k2
theorem RH_part (h : RH A F O W v) (p0 : 0 ≤ v 6 ∧ v 6 ≤ 1000) : cl mX6_partCounted [vr 6] (HP A F E) = some (vi (if v 6 < 60 then -1 else 3), HP A (q6 F 6 (v 6 + 1)) E) := by
  have e := h.2.2.2.2 6 (by omega) (by omega)
  by_cases q : v 6 < 60
  · rw [if_pos q]
    simp (disch := omega) only [eX6_partCounted, sX6_partCounted_0, sX6_partCounted_1, sX6_partCounted_2, sX6_partCounted_5, sX6_partCounted_6, sX6_partCounted_7, sX6_partCounted_10, sX6_partCounted_11, sX6_partCounted_14, sX6_partCounted_16, sX6_partCounted_19, sX6_partCounted_20, sX6_partCounted_23, sX6_partCounted_24, ↓hf6_6, ↓hp6_6, e, i32_of, aup_s, fup_s, ↓if_pos, ↓if_neg]
    rfl
  · rw [if_neg q]
    simp (disch := omega) only [eX6_partCounted, sX6_partCounted_0, sX6_partCounted_1, sX6_partCounted_2, sX6_partCounted_5, sX6_partCounted_6, sX6_partCounted_7, sX6_partCounted_10, sX6_partCounted_11, sX6_partCounted_14, sX6_partCounted_16, sX6_partCounted_19, sX6_partCounted_20, sX6_partCounted_23, sX6_partCounted_24, ↓hf6_6, ↓hp6_6, e, i32_of, aup_s, fup_s, ↓if_pos, ↓if_neg]
    rfl
/-- operators that bind at least so close are settled: orders, waiting, how many were NOT -/
def stl2 (rk : Int) : List Int → List Int → List Int × List Int × Int
  | [], O => (O, [], 0)
  | o :: W, O => if rkf o < rk then (O, o :: W, 0) else ((stl2 rk W (o :: O)).1, (stl2 rk W (o :: O)).2.1, (stl2 rk W (o :: O)).2.2 + (if o = 22 then 1 else 0))
theorem stl2_n {rk : Int} : ∀ (W O : List Int), 0 ≤ (stl2 rk W O).2.2 ∧ (stl2 rk W O).2.2 ≤ (W.length : Int) ∧ (stl2 rk W O).1.length + (stl2 rk W O).2.1.length = O.length + W.length
  | [], O => by rw [stl2]; dsimp only; rw [List.length_nil]; omega
  | o :: W, O => by
    have i := stl2_n (rk := rk) W (o :: O)
    rw [stl2, List.length_cons]
    rw [List.length_cons] at i
    split
    · dsimp only; rw [List.length_cons]; omega
    · dsimp only; split <;> omega
theorem RH_settle_l {rk : Int} : ∀ (W O : List Int) (v : Nat → Int) (A F : Nat → Nat → Int), RH A F O W v → (∀ o, o ∈ W → 0 ≤ o ∧ o ≤ 100) → O.length + W.length ≤ 400 → ((W.length : Int) ≤ v 7 + 1000 ∧ v 7 ≤ 1000) → ∃ A' F', rn mX6_settle 0 [vr 6, vi rk] [] (HP A F E) = some (vn, HP A' F' E) ∧ RH A' F' (stl2 rk W O).1 (stl2 rk W O).2.1 (fup v 7 (v 7 - (stl2 rk W O).2.2)) ∧ rfr A F A' F'
  | [], O, v, A, F, h, hw, hl, h7 => by
    have e3 := h.2.2.1
    rw [List.length_nil] at e3
    refine ⟨A, F, ?_, ?_, rfr_r⟩
    · rw [sX6_settle_0]
      simp (disch := omega) only [eX6_settle, sX6_settle_1, sX6_settle_4, sX6_settle_7, sX6_settle_8, sX6_settle_11, sX6_settle_12, sX6_settle_15, sX6_settle_16, sX6_settle_19, sX6_settle_20, sX6_settle_23, sX6_settle_24, sX6_settle_27, sX6_settle_28, sX6_settle_29, sX6_settle_30, sX6_settle_33, sX6_settle_34, sX6_settle_37, sX6_settle_38, sX6_settle_39, sX6_settle_42, sX6_settle_43, sX6_settle_44, sX6_settle_47, sX6_settle_48, sX6_settle_49, sX6_settle_52, sX6_settle_53, sX6_settle_56, sX6_settle_57, sX6_settle_60, sX6_settle_61, sX6_settle_63, sX6_settle_66, sX6_settle_67, sX6_settle_70, sX6_settle_71, sX6_settle_72, sX6_settle_75, sX6_settle_76, sX6_settle_77, sX6_settle_80, sX6_settle_81, sX6_settle_84, sX6_settle_85, sX6_settle_88, sX6_settle_91, ↓hf6_3, e3, ↓if_pos]
    · rw [stl2]; dsimp only; rw [Int.sub_zero, fup_id]; exact h
  | o :: W, O, v, A, F, h, hw, hl, h7 => by
    rw [List.length_cons] at hl h7
    have e3 := h.2.2.1
    rw [List.length_cons] at e3
    have e7 := h.2.2.2.2 7 (by omega) (by omega)
    have eo : A 8 W.length = o := by rw [h.2.2.2.1 W.length (by rw [List.length_cons]; omega), wat, if_pos rfl]
    have ob := hw o (List.mem_cons_self ..)
    have rk' := Q_rank (h := HP A F E) (o := o) ob.1 ob.2
    have w1 : ((W.length : Int) + 1 - 1).toNat = W.length := by omega
    rw [sX6_settle_0, stl2]
    by_cases g : rkf o < rk
    · rw [if_pos g]
      refine ⟨A, F, ?_, by dsimp only; rw [Int.sub_zero, fup_id]; exact h, rfr_r⟩
      simp (disch := omega) only [eX6_settle, sX6_settle_1, sX6_settle_4, sX6_settle_7, sX6_settle_8, sX6_settle_11, sX6_settle_12, sX6_settle_15, sX6_settle_16, sX6_settle_19, sX6_settle_20, sX6_settle_23, sX6_settle_24, sX6_settle_27, sX6_settle_28, sX6_settle_29, sX6_settle_30, sX6_settle_33, sX6_settle_34, sX6_settle_37, sX6_settle_38, sX6_settle_39, sX6_settle_42, sX6_settle_43, sX6_settle_44, sX6_settle_47, sX6_settle_48, sX6_settle_49, sX6_settle_52, sX6_settle_53, sX6_settle_56, sX6_settle_57, sX6_settle_60, sX6_settle_61, sX6_settle_63, sX6_settle_66, sX6_settle_67, sX6_settle_70, sX6_settle_71, sX6_settle_72, sX6_settle_75, sX6_settle_76, sX6_settle_77, sX6_settle_80, sX6_settle_81, sX6_settle_84, sX6_settle_85, sX6_settle_88, sX6_settle_91, ↓hf6_3, ↓hf6_2, ↓hl8, ↓hg8, e3, Int.natCast_add, i32_of, w1, eo, ↓bndi_at rk', ↓if_pos g, ↓if_pos, ↓if_neg, Int.natCast_one]
    · rw [if_neg g]
      dsimp only
      have key : ∀ dd : Int, (if o = 22 then (1 : Int) else 0) = dd → (0 ≤ dd ∧ dd ≤ 1) → ∃ A' F', rn mX6_settle 71 [vr 6, vi rk] [vi dd, vi (v 7), vr 6] (HP A (q6 F 3 (W.length : Int)) E) = some (vn, HP A' F' E) ∧ RH A' F' (stl2 rk W (o :: O)).1 (stl2 rk W (o :: O)).2.1 (fup v 7 (v 7 - ((stl2 rk W (o :: O)).2.2 + dd))) ∧ rfr A F A' F' := by
        intro dd _ db
        have hq : RH A (q6 (q6 F 3 (W.length : Int)) 7 (v 7 - dd)) O W (fup v 7 (v 7 - dd)) := by
          have hq0 : RH A (q6 F 3 (W.length : Int)) O W v := by
            obtain ⟨a1, a2, a3, a4, a5⟩ := h
            refine ⟨by rw [q6_n (by omega)]; exact a1, a2, q6_s, fun k hk => ?_, fun k k1 k2 => by rw [q6_n (by omega)]; exact a5 k k1 k2⟩
            rw [a4 k (by rw [List.length_cons]; omega), wat, if_neg (by omega)]
          exact RH_q hq0 (by omega)
        obtain ⟨A1, F1, o1, o2, o3⟩ := RH_order (E := E) (x := o) hq (by omega)
        obtain ⟨A2, F2, i1, i2, i3⟩ := RH_settle_l W (o :: O) (fup v 7 (v 7 - dd)) A1 F1 o2 (fun x hx => hw x (List.mem_cons_of_mem _ hx)) (by rw [List.length_cons]; omega) (by rw [fup_s]; omega)
        rw [fup_s, fup_fup] at i2
        refine ⟨A2, F2, ?_, by rw [show v 7 - ((stl2 rk W (o :: O)).2.2 + dd) = v 7 - dd - (stl2 rk W (o :: O)).2.2 by omega]; exact i2, rfr_t (rfr_t rfr_q (rfr_t rfr_q o3)) i3⟩
        have g3 : (aup (q6 F 3 (W.length : Int)) 6 (fup (q6 F 3 (W.length : Int) 6) 7 (v 7 - dd))) = q6 (q6 F 3 (W.length : Int)) 7 (v 7 - dd) := rfl
        have g4 : q6 (q6 F 3 (W.length : Int)) 7 (v 7 - dd) 6 3 = (W.length : Int) := by rw [q6_n (by omega), q6_s]
        rw [← i1]
        simp (disch := omega) only [eX6_settle, sX6_settle_1, sX6_settle_4, sX6_settle_7, sX6_settle_8, sX6_settle_11, sX6_settle_12, sX6_settle_15, sX6_settle_16, sX6_settle_19, sX6_settle_20, sX6_settle_23, sX6_settle_24, sX6_settle_27, sX6_settle_28, sX6_settle_29, sX6_settle_30, sX6_settle_33, sX6_settle_34, sX6_settle_37, sX6_settle_38, sX6_settle_39, sX6_settle_42, sX6_settle_43, sX6_settle_44, sX6_settle_47, sX6_settle_48, sX6_settle_49, sX6_settle_52, sX6_settle_53, sX6_settle_56, sX6_settle_57, sX6_settle_60, sX6_settle_61, sX6_settle_63, sX6_settle_66, sX6_settle_67, sX6_settle_70, sX6_settle_71, sX6_settle_72, sX6_settle_75, sX6_settle_76, sX6_settle_77, sX6_settle_80, sX6_settle_81, sX6_settle_84, sX6_settle_85, sX6_settle_88, sX6_settle_91, ↓hp6_7, i32_of, g3, ↓hf6_2, ↓hf6_3, ↓hg8, ↓hk6, g4, Int.toNat_natCast, eo, ↓bndv_at o1]
      have p3 : ∀ pc L st, rn mX6_settle pc L st (HP A (aup F 6 (fup (F 6) 3 (W.length : Int))) E) = rn mX6_settle pc L st (HP A (q6 F 3 (W.length : Int)) E) := fun _ _ _ => rfl
      have g5 : q6 F 3 (W.length : Int) 6 3 = (W.length : Int) := q6_s
      have g6 : q6 F 3 (W.length : Int) 6 7 = v 7 := by rw [q6_n (by omega)]; exact e7
      have e1 : (W.length : Int) + 1 - 1 = (W.length : Int) := by omega
      have pre : ∀ dd : Int, (if o = 22 then (1 : Int) else 0) = dd → rn mX6_settle 1 [vr 6, vi rk] [vr 6] (HP A F E) = rn mX6_settle 71 [vr 6, vi rk] [vi dd, vi (v 7), vr 6] (HP A (q6 F 3 (W.length : Int)) E) := by
        intro dd hd
        simp (disch := omega) only [eX6_settle, sX6_settle_1, sX6_settle_4, sX6_settle_7, sX6_settle_8, sX6_settle_11, sX6_settle_12, sX6_settle_15, sX6_settle_16, sX6_settle_19, sX6_settle_20, sX6_settle_23, sX6_settle_24, sX6_settle_27, sX6_settle_28, sX6_settle_29, sX6_settle_30, sX6_settle_33, sX6_settle_34, sX6_settle_37, sX6_settle_38, sX6_settle_39, sX6_settle_42, sX6_settle_43, sX6_settle_44, sX6_settle_48, sX6_settle_49, sX6_settle_52, sX6_settle_53, sX6_settle_56, sX6_settle_57, sX6_settle_60, sX6_settle_61, sX6_settle_63, sX6_settle_66, sX6_settle_67, sX6_settle_70, sX6_settle_72, sX6_settle_75, sX6_settle_76, sX6_settle_77, sX6_settle_80, sX6_settle_81, sX6_settle_84, sX6_settle_85, sX6_settle_88, sX6_settle_91, ↓hf6_3, ↓hf6_2, ↓hl8, ↓hg8, ↓hp6_3, e3, Int.natCast_add, Int.natCast_one, i32_of, Int.toNat_natCast, eo, e1, ↓bndi_at rk', ↓if_neg g, ↓if_pos, ↓if_neg]
        rw [p3]
        by_cases y : o = 22
        · rw [if_pos y] at hd
          have y' : ¬ ¬ o = 22 := fun q => q y
          simp (disch := omega) only [eX6_settle, sX6_settle_1, sX6_settle_4, sX6_settle_7, sX6_settle_8, sX6_settle_11, sX6_settle_12, sX6_settle_15, sX6_settle_16, sX6_settle_19, sX6_settle_20, sX6_settle_23, sX6_settle_24, sX6_settle_27, sX6_settle_28, sX6_settle_29, sX6_settle_30, sX6_settle_33, sX6_settle_34, sX6_settle_37, sX6_settle_38, sX6_settle_39, sX6_settle_42, sX6_settle_43, sX6_settle_44, sX6_settle_47, sX6_settle_48, sX6_settle_49, sX6_settle_52, sX6_settle_53, sX6_settle_56, sX6_settle_57, sX6_settle_60, sX6_settle_61, sX6_settle_63, sX6_settle_66, sX6_settle_67, sX6_settle_70, sX6_settle_72, sX6_settle_75, sX6_settle_76, sX6_settle_77, sX6_settle_80, sX6_settle_81, sX6_settle_84, sX6_settle_85, sX6_settle_88, sX6_settle_91, ↓hf6_7, ↓hf6_3, ↓hf6_2, ↓hg8, g5, g6, Int.toNat_natCast, eo, ↓if_neg y', hd]
        · rw [if_neg y] at hd
          simp (disch := omega) only [eX6_settle, sX6_settle_1, sX6_settle_4, sX6_settle_7, sX6_settle_8, sX6_settle_11, sX6_settle_12, sX6_settle_15, sX6_settle_16, sX6_settle_19, sX6_settle_20, sX6_settle_23, sX6_settle_24, sX6_settle_27, sX6_settle_28, sX6_settle_29, sX6_settle_30, sX6_settle_33, sX6_settle_34, sX6_settle_37, sX6_settle_38, sX6_settle_39, sX6_settle_42, sX6_settle_43, sX6_settle_44, sX6_settle_47, sX6_settle_48, sX6_settle_49, sX6_settle_52, sX6_settle_53, sX6_settle_56, sX6_settle_57, sX6_settle_60, sX6_settle_61, sX6_settle_63, sX6_settle_66, sX6_settle_67, sX6_settle_70, sX6_settle_72, sX6_settle_75, sX6_settle_76, sX6_settle_77, sX6_settle_80, sX6_settle_81, sX6_settle_84, sX6_settle_85, sX6_settle_88, sX6_settle_91, ↓hf6_7, ↓hf6_3, ↓hf6_2, ↓hg8, g5, g6, Int.toNat_natCast, eo, ↓if_pos y, hd]
      obtain ⟨A', F', u1, u2, u3⟩ := key (if o = 22 then 1 else 0) rfl (by split <;> omega)
      exact ⟨A', F', by rw [pre _ rfl]; exact u1, u2, u3⟩
theorem RH_settle {rk : Int} (h : RH A F O W v) (hw : ∀ o, o ∈ W → 0 ≤ o ∧ o ≤ 100) (hl : O.length + W.length ≤ 400) (h7 : (W.length : Int) ≤ v 7 + 1000 ∧ v 7 ≤ 1000) : ∃ A' F', cl mX6_settle [vr 6, vi rk] (HP A F E) = some (vn, HP A' F' E) ∧ RH A' F' (stl2 rk W O).1 (stl2 rk W O).2.1 (fup v 7 (v 7 - (stl2 rk W O).2.2)) ∧ rfr A F A' F' := by
  obtain ⟨A', F', u1, u2, u3⟩ := RH_settle_l (E := E) (rk := rk) W O v A F h hw hl h7
  exact ⟨A', F', by rw [eX6_settle]; exact u1, u2, u3⟩
end RC
