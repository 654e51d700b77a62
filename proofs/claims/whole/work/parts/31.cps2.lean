section STEPS2
variable {M Y : zMd} {pc ln : Nat} {I : ClassFile.Instr} {L st : List zV} {h : zH} {pc' : Nat} {L' st' : List zV}
/-- a choice among jumps -/
def swc {α : Type} (x lo : Int) (ts : List Nat) (dt : Nat) (K : Nat → Option α) : Option α := match ts with
  | [] => K dt
  | t :: ts => if x = lo then K t else swc x (lo + 1) ts dt K
def swl {α : Type} (x : Int) (ts : List (Int × Nat)) (dt : Nat) (K : Nat → Option α) : Option α := match ts with
  | [] => K dt
  | t :: ts => if x = t.1 then K t.2 else swl x ts dt K
theorem swc_out {α : Type} {x : Int} {dt : Nat} {K : Nat → Option α} : ∀ (ts : List Nat) (lo : Int), (x < lo ∨ lo + ts.length ≤ x) → swc x lo ts dt K = K dt
  | [], _, _ => rfl
  | t :: ts, lo, h => by
    simp only [List.length_cons] at h
    have h1 : ¬ x = lo := by omega
    unfold swc
    rw [if_neg h1]
    exact swc_out ts (lo + 1) (by omega)
theorem swc_in {α : Type} {x : Int} {dt : Nat} {K : Nat → Option α} : ∀ (ts : List Nat) (lo : Int), lo ≤ x → x < lo + ts.length → ∃ t, ts[(x - lo).toNat]? = some t ∧ swc x lo ts dt K = K t
  | [], lo, h1, h2 => by simp only [List.length_nil] at h2; omega
  | t :: ts, lo, h1, h2 => by
    simp only [List.length_cons] at h2
    unfold swc
    by_cases q : x = lo
    · subst q
      exact ⟨t, by simp, if_pos rfl⟩
    · rw [if_neg q]
      obtain ⟨t', e1, e2⟩ := swc_in (x := x) (dt := dt) (K := K) ts (lo + 1) (by omega) (by omega)
      refine ⟨t', ?_, e2⟩
      rw [show (x - lo).toNat = (x - (lo + 1)).toNat + 1 by omega, List.getElem?_cons_succ]
      exact e1
theorem rn_tsw {x df lo hi : Int} {offs : Array Int} {ts : List Nat} {dt : Nat} (d : ClassFile.decode (mC M) pc = .ok (.tableswitch df lo hi offs, ln)) (hdt : (pc : Int) + df = (dt : Int)) (hts : offs.toList = ts.map (fun t : Nat => (t : Int) - (pc : Int))) (hhi : hi = lo + ts.length - 1) : rn M pc L (vi x :: st) h = swc x lo ts dt (fun t => rn M t L st h) := by
  by_cases hq : x < lo ∨ hi < x
  · rw [swc_out ts lo (by omega)]
    have h0 : (0 : Int) ≤ (pc : Int) + df := by omega
    have ht2 : ((pc : Int) + df).toNat = dt := by omega
    exact rn_go d (by simp [stp, ti1, hq, zj, zg, zgo, h0, ht2])
  · obtain ⟨t, e1, e2⟩ := swc_in (dt := dt) (K := fun t => rn M t L st h) ts lo (x := x) (by omega) (by omega)
    rw [e2]
    have e3 : offs[(x - lo).toNat]? = some ((t : Int) - (pc : Int)) := by
      rw [← Array.getElem?_toList, hts, List.getElem?_map, e1]
      rfl
    have h0 : (0 : Int) ≤ (pc : Int) + ((t : Int) - (pc : Int)) := by omega
    have ht2 : ((pc : Int) + ((t : Int) - (pc : Int))).toNat = t := by omega
    exact rn_go d (by simp only [stp, ti1, if_neg hq, e3, od, zj, zg, zgo, decide_eq_true h0, ht2, List.tail_cons])
theorem swl_off {α : Type} {x df : Int} {dt pc : Nat} {K : Nat → Option α} (hdt : (pc : Int) + df = (dt : Int)) : ∀ (ts : List (Int × Nat)), ∃ t : Nat, (pc : Int) + Op.lookupswitch.offset (ts.map (fun t => (t.1, (t.2 : Int) - (pc : Int)))) df x = (t : Int) ∧ swl x ts dt K = K t
  | [] => ⟨dt, hdt, rfl⟩
  | t :: ts => by
    by_cases q : x = t.1
    · refine ⟨t.2, ?_, by unfold swl; rw [if_pos q]⟩
      have : Op.lookupswitch.offset ((t :: ts).map (fun t => (t.1, (t.2 : Int) - (pc : Int)))) df x = (t.2 : Int) - (pc : Int) := by
        subst q
        simp [Op.lookupswitch.offset]
      rw [this]
      omega
    · obtain ⟨t', e1, e2⟩ := swl_off (x := x) (K := K) hdt ts
      refine ⟨t', ?_, by unfold swl; rw [if_neg q]; exact e2⟩
      have : Op.lookupswitch.offset ((t :: ts).map (fun t => (t.1, (t.2 : Int) - (pc : Int)))) df x = Op.lookupswitch.offset (ts.map (fun t => (t.1, (t.2 : Int) - (pc : Int)))) df x := by
        have q2 : ¬ t.1 = x := fun z => q z.symm
        simp [Op.lookupswitch.offset, q, q2]
      rw [this]
      exact e1
theorem rn_lsw {x df : Int} {ps : Array (Int × Int)} {ts : List (Int × Nat)} {dt : Nat} (d : ClassFile.decode (mC M) pc = .ok (.lookupswitch df ps, ln)) (hdt : (pc : Int) + df = (dt : Int)) (hp : (ps.toList.zip (ps.toList.drop 1)).all (fun (a, next) => a.1 < next.1) = true) (hts : ps.toList = ts.map (fun t => (t.1, (t.2 : Int) - (pc : Int)))) : rn M pc L (vi x :: st) h = swl x ts dt (fun t => rn M t L st h) := by
  obtain ⟨t, e1, e2⟩ := swl_off (x := x) (K := fun t => rn M t L st h) hdt ts
  rw [e2]
  have h0 : (0 : Int) ≤ (pc : Int) + Op.lookupswitch.offset ps.toList df x := by rw [hts, e1]; omega
  have ht2 : ((pc : Int) + Op.lookupswitch.offset ps.toList df x).toNat = t := by rw [hts, e1]; omega
  exact rn_go d (by simp only [stp, hp, zg, ti1, zj, decide_eq_true h0, ht2, zgo, List.tail_cons])
theorem rn_pfz {i : Nat} {v : Int} {a ci k kd : Nat} (d : ClassFile.decode (mC M) pc = .ok (.putfield i, 3)) (hf : zfind zTF (mO M) i = some (ci, k, 1, kd)) (hg : (kd == 0 || kd == 2 || (kd == 1 && mI M == 1)) = true) : rn M pc L (vi v :: vr a :: st) h = if v = 0 ∨ v = 1 then pfv (h.2 a) ci k (vi v) (fun c => rn M (pc + 3) L st (zup h a c)) else none := by
  split
  · rename_i hv
    exact rn_pfv d hf (by rw [hg, Bool.and_true]; rcases hv with rfl | rfl <;> rfl)
  · rename_i hv
    have hv2 : ¬ v = 0 ∧ ¬ v = 1 := ⟨fun q => hv (Or.inl q), fun q => hv (Or.inr q)⟩
    refine rn_no d ?_
    simp [stp, hf, od, zg, zfit, hv2.1, hv2.2]
theorem rn_na {t : ArrayType} {n : Int} {k : Nat} (d : ClassFile.decode (mC M) pc = .ok (.newarray t, 2)) (hk : zak t = some k) : rn M pc L (vi n :: st) h = if 0 ≤ n ∧ n ≤ 100000 ∧ h.1.1 < 999999999 then rn M (pc + 2) L (vr (h.1.1 + 1) :: st) (zpu h n.toNat (zar k n.toNat (fun _ => 0))) else none := by
  split
  · rename_i hn; exact rn_go d (by simp [stp, zg, ti1, hn, hk, od, zgo])
  · rename_i hn
    refine rn_no d ?_
    by_cases h1 : 0 ≤ n
    · by_cases h2 : n ≤ 100000
      · have h3 : ¬ h.1.1 < 999999999 := fun q => hn ⟨h1, h2, q⟩
        simp [stp, zg, ti1, h1, h2, h3]
      · simp [stp, zg, ti1, h1, h2]
    · simp [stp, zg, ti1, h1]
theorem rn_naa {i : Nat} {n : Int} {k : Nat} (d : ClassFile.decode (mC M) pc = .ok (.anewarray i, 3)) (hk : zfind zTA (mO M) i = some k) : rn M pc L (vi n :: st) h = if 0 ≤ n ∧ n ≤ 100000 ∧ h.1.1 < 999999999 then rn M (pc + 3) L (vr (h.1.1 + 1) :: st) (zpu h n.toNat (zar k n.toNat (fun _ => 0))) else none := by
  split
  · rename_i hn; exact rn_go d (by simp [stp, zg, ti1, hn, hk, od, zgo])
  · rename_i hn
    refine rn_no d ?_
    by_cases h1 : 0 ≤ n
    · by_cases h2 : n ≤ 100000
      · have h3 : ¬ h.1.1 < 999999999 := fun q => hn ⟨h1, h2, q⟩
        simp [stp, zg, ti1, h1, h2, h3]
      · simp [stp, zg, ti1, h1, h2]
    · simp [stp, zg, ti1, h1]
theorem rn_nw {i ci N : Nat} (d : ClassFile.decode (mC M) pc = .ok (.new i, 3)) (hk : zfind zTN (mO M) i = some ci) (hN : (zDf ci).length = N) : rn M pc L st h = if h.1.1 < 999999999 then rn M (pc + 3) L (vr (h.1.1 + 1) :: st) (zpu h N (zob ci (zDf ci))) else none := by
  subst hN
  split
  · rename_i hn; exact rn_go d (by simp [stp, zg, hn, hk, od, zgo])
  · rename_i hn; exact rn_no d (by simp [stp, zg, hn])
theorem rn_ob {i a : Nat} (d : ClassFile.decode (mC M) pc = .ok (.invokespecial i, 3)) (hI : zfind zTI (mO M) i = none) (hO : zfind zTO (mO M) i = some ()) (h1 : decide (1 ≤ mF M) = true) (h2 : decide (20 ≤ mW M) = true) (h3 : zrm8 st = true) : rn M pc L (vr a :: st) h = if a = 0 then none else rn M (pc + 3) L st h := by
  split
  · rename_i ha; subst ha; exact rn_no d (by simp [stp, zg, hI, hO, od, ta1])
  · rename_i ha
    refine rn_go d ?_
    simp only [stp, hI, hO, od, ta1, h1, h2, h3, List.tail_cons, decide_eq_true (show ¬ a = 0 from ha), Bool.and_true, Bool.and_self]
    rfl
theorem rn_cpy {i a b : Nat} {sp dp n : Int} (d : ClassFile.decode (mC M) pc = .ok (.invokestatic i, 3)) (hS : zfind zTS (mO M) i = none) (hM : zfind zTM (mO M) i = none) (hX : zfind zTX (mO M) i = some ()) (hg : (decide (1 ≤ mF M) && decide (60 ≤ mW M) && zrm8 st) = true) : rn M pc L (vi n :: vi dp :: vr b :: vi sp :: vr a :: st) h = cpy (h.2 a) (h.2 b) sp dp n (fun c => rn M (pc + 3) L st (zup h b c)) := by
  have e : stp M (.invokestatic i) 3 pc L (vi n :: vi dp :: vr b :: vi sp :: vr a :: st) h = od (zcopy (h.2 a) (h.2 b) sp dp n) fun c => zgo (pc + 3) L st (zup h b c) := by
    simp only [stp, hS, hM, hX, od, hg]
    rfl
  exact rn_od d e rfl (fun c hc => rn_go d (by rw [e, hc]; rfl))
theorem rn_sl {i a : Nat} (d : ClassFile.decode (mC M) pc = .ok (.invokevirtual i, 3)) (hV : zfind zTV (mO M) i = none) (hl : zfind zTl (mO M) i = some ()) (h1 : decide (2 ≤ mF M) = true) (h2 : decide (8 + (1 + 11) + 20 ≤ mW M) = true) (h3 : zrm8 st = true) : rn M pc L (vr a :: st) h = gsl a (fun n => rn M (pc + 3) L (vi n :: st) h) := by
  have e : stp M (.invokevirtual i) 3 pc L (vr a :: st) h = od (zsl a) fun n => zgo (pc + 3) L (vi n :: st) h := by
    simp only [stp, hV, hl, ta1, h1, h2, h3, List.tail_cons, Bool.and_self]
    rfl
  exact rn_od d e rfl (fun c hc => rn_go d (by rw [e, hc]; rfl))
theorem rn_sc {i a : Nat} {z : Int} (d : ClassFile.decode (mC M) pc = .ok (.invokevirtual i, 3)) (hV : zfind zTV (mO M) i = none) (hl : zfind zTl (mO M) i = none) (hc : zfind zTc (mO M) i = some ()) (h1 : decide (5 ≤ mF M) = true) (h2 : decide (8 + (2 + 11) + 85 ≤ mW M) = true) (h3 : zrm8 st = true) : rn M pc L (vi z :: vr a :: st) h = gsc a z (fun n => rn M (pc + 3) L (vi n :: st) h) := by
  have e : stp M (.invokevirtual i) 3 pc L (vi z :: vr a :: st) h = od (zsc a z) fun n => zgo (pc + 3) L (vi n :: st) h := by
    simp only [stp, hV, hl, hc, od, ta2, h1, h2, h3, List.tail_cons, Bool.and_self]
    rfl
  exact rn_od d e rfl (fun c hc => rn_go d (by rw [e, hc]; rfl))
theorem rn_spv {i a : Nat} {x : Option (zV × zH)} {as : List zV} (d : ClassFile.decode (mC M) pc = .ok (.invokespecial i, 3)) (e : stp M (.invokespecial i) 3 pc L st h = zg (decide (¬ a = 0)) (some (.inr (.inr (Y, as, pc', L', st'))))) (k : stp M (.invokespecial i) 3 pc L st h = some (.inr (.inr (Y, as, pc', L', st'))) → rn M pc L st h = x) : rn M pc L st h = if a = 0 then none else x := by
  split
  · rename_i ha; subst ha; exact rn_no d (by rw [e]; rfl)
  · rename_i ha; exact k (by rw [e, decide_eq_true ha]; rfl)
theorem rn_ckv {i ci : Nat} {x : Option (zV × zH)} {c : zC} {as : List zV} (d : ClassFile.decode (mC M) pc = .ok (.invokevirtual i, 3)) (e : stp M (.invokevirtual i) 3 pc L st h = zg (zis c ci) (some (.inr (.inr (Y, as, pc', L', st'))))) (k : stp M (.invokevirtual i) 3 pc L st h = some (.inr (.inr (Y, as, pc', L', st'))) → rn M pc L st h = x) : rn M pc L st h = cki c ci x := by
  unfold cki
  cases hz : zis c ci with
  | false => rw [rn_no d (by rw [e, hz]; rfl)]; rfl
  | true => rw [k (by rw [e, hz]; rfl)]; rfl
end STEPS2
/-! the equations' simplifications -/
theorem zup_2 {h : zH} {a b : Nat} {c : zC} : (zup h a c).2 b = if b = a then c else h.2 b := rfl
theorem zup_1 {h : zH} {a : Nat} {c : zC} : (zup h a c).1 = h.1 := rfl
theorem zup_s {h : zH} {a : Nat} {c : zC} : (zup h a c).2 a = c := if_pos rfl
theorem zup_n {h : zH} {a b : Nat} {c : zC} (n : b ≠ a) : (zup h a c).2 b = h.2 b := if_neg n
theorem zup_zup {h : zH} {a : Nat} {c d : zC} : zup (zup h a c) a d = zup h a d := by
  simp only [zup]; congr 1; funext j; by_cases q : j = a <;> simp [q]
theorem zup_comm {h : zH} {a b : Nat} {c d : zC} (n : a ≠ b) : zup (zup h a c) b d = zup (zup h b d) a c := by
  simp only [zup]; congr 1; funext j
  by_cases q : j = a
  · subst q; simp [n]
  · by_cases r : j = b
    · subst r; simp [q]
    · simp [q, r]
theorem zup_id {h : zH} {a : Nat} {c : zC} (e : h.2 a = c) : zup h a c = h := by
  obtain ⟨n, f⟩ := h
  simp only [zup]; congr 1; funext j
  by_cases q : j = a
  · subst q; simp; exact e.symm
  · simp [q]
section CPSL
variable {α : Type} {ci k : Nat} {fs : List zV} {y : zV}
theorem gfi_0 {z : Int} {K : Int → Option α} : gfi (.inl (ci, vi z :: fs)) ci 0 K = K z := by simp [gfi, zfo]
theorem gfi_s {K : Int → Option α} : gfi (.inl (ci, y :: fs)) ci (k + 1) K = gfi (.inl (ci, fs)) ci k K := by simp [gfi, zfo]
theorem gfr_0 {z : Nat} {K : Nat → Option α} : gfr (.inl (ci, vr z :: fs)) ci 0 K = K z := by simp [gfr, zfo]
theorem gfr_s {K : Nat → Option α} : gfr (.inl (ci, y :: fs)) ci (k + 1) K = gfr (.inl (ci, fs)) ci k K := by simp [gfr, zfo]
theorem gfl_0 {z : Int} {K : Int → Option α} : gfl (.inl (ci, vl z :: fs)) ci 0 K = K z := by simp [gfl, zfo]
theorem gfl_s {K : Int → Option α} : gfl (.inl (ci, y :: fs)) ci (k + 1) K = gfl (.inl (ci, fs)) ci k K := by simp [gfl, zfo]
theorem pfv_k {v : zV} {K : zC → Option α} (hk : k < fs.length) : pfv (.inl (ci, fs)) ci k v K = K (.inl (ci, fs.set k v)) := by simp [pfv, zpf, hk, odx]
theorem gel_k {kd n : Nat} {f : Nat → Int} {z : Int} {K : Int → Option α} (h0 : 0 ≤ z) (h1 : z < (n : Int)) : gel (.inr (kd, n, f)) kd z K = K (f z.toNat) := by simp [gel, zel, h0, h1, odx]
theorem sel_k {kd n : Nat} {f : Nat → Int} {z v : Int} {K : zC → Option α} (h0 : 0 ≤ z) (h1 : z < (n : Int)) : sel (.inr (kd, n, f)) kd z v K = K (.inr (kd, n, fup f z.toNat v)) := by simp [sel, zst, h0, h1, odx]
theorem geb_0 {n : Nat} {f : Nat → Int} {z : Int} {K : Int → Option α} (h0 : 0 ≤ z) (h1 : z < (n : Int)) : geb (.inr (0, n, f)) z K = K (f z.toNat) := by simp [geb, zel, h0, h1, odx]
theorem geb_3 {n : Nat} {f : Nat → Int} {z : Int} {K : Int → Option α} (h0 : 0 ≤ z) (h1 : z < (n : Int)) : geb (.inr (3, n, f)) z K = K (f z.toNat) := by simp [geb, zel, h0, h1, odx]
theorem seb_0 {n : Nat} {f : Nat → Int} {z v : Int} {K : zC → Option α} (h0 : 0 ≤ z) (h1 : z < (n : Int)) : seb (.inr (0, n, f)) z v K = K (.inr (0, n, fup f z.toNat (i8 v))) := by simp [seb, zst, h0, h1, odx]
theorem seb_3 {n : Nat} {f : Nat → Int} {z v : Int} {K : zC → Option α} (h0 : 0 ≤ z) (h1 : z < (n : Int)) : seb (.inr (3, n, f)) z v K = K (.inr (3, n, fup f z.toNat (i1 v))) := by simp [seb, zst, h0, h1, odx]
theorem gea_4 {kd n : Nat} {f : Nat → Int} {z : Int} {K : Nat → Option α} (hk : kd = 4 ∨ kd = 5 ∨ kd = 6) (h0 : 0 ≤ z) (h1 : z < (n : Int)) : gea (.inr (kd, n, f)) z K = K (f z.toNat).toNat := by
  rcases hk with rfl | rfl | rfl <;> simp [gea, zel, h0, h1, odx]
theorem gle_k {kd n : Nat} {f : Nat → Int} {K : Int → Option α} (h1 : n < 2147483648) : gle (.inr (kd, n, f)) K = K (n : Int) := by simp [gle, zle, h1, odx]
theorem cki_k {x : Option α} : cki (.inl (ci, fs)) ci x = x := by simp [cki, zis]
theorem bndi_k {z : Int} {h : zH} {K : Int → zH → Option α} : bndi (some (vi z, h)) K = K z h := rfl
theorem bndl_k {z : Int} {h : zH} {K : Int → zH → Option α} : bndl (some (vl z, h)) K = K z h := rfl
theorem bndr_k {z : Nat} {h : zH} {K : Nat → zH → Option α} : bndr (some (vr z, h)) K = K z h := rfl
theorem bndv_k {h : zH} {K : zH → Option α} : bndv (some (vn, h)) K = K h := rfl
theorem cpy_k {m n : Nat} {f g : Nat → Int} {sp dp c : Int} {K : zC → Option α} (h0 : 0 ≤ sp) (h1 : 0 ≤ dp) (h2 : 0 ≤ c) (h3 : sp + c ≤ (m : Int)) (h4 : dp + c ≤ (n : Int)) : cpy (.inr (1, m, f)) (.inr (1, n, g)) sp dp c K = K (.inr (1, n, va_cpy f g sp.toNat dp.toNat c.toNat)) := by
  simp [cpy, zcopy, h0, h1, h2, h3, h4, odx]
end CPSL
