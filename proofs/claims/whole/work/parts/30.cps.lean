/-! the abstract machine's steps as equations -/
def odx {α β : Type} (x : Option α) (K : α → Option β) : Option β := match x with
  | some v => K v
  | none => none
section CPS
variable {α : Type}
def gfi (c : zC) (ci k : Nat) (K : Int → Option α) : Option α := match zfo c ci k with
  | some (.inl z) => K z
  | _ => none
def gfr (c : zC) (ci k : Nat) (K : Nat → Option α) : Option α := match zfo c ci k with
  | some (.inr (.inl a)) => K a
  | _ => none
def gfl (c : zC) (ci k : Nat) (K : Int → Option α) : Option α := match zfo c ci k with
  | some (.inr (.inr (.inl z))) => K z
  | _ => none
def pfv (c : zC) (ci k : Nat) (v : zV) (K : zC → Option α) : Option α := odx (zpf c ci k v) K
def gel (c : zC) (kd : Nat) (z : Int) (K : Int → Option α) : Option α := odx (zel c kd z) K
def sel (c : zC) (kd : Nat) (z v : Int) (K : zC → Option α) : Option α := odx (zst c kd z v) K
def gle (c : zC) (K : Int → Option α) : Option α := odx (zle c) K
def geb (c : zC) (z : Int) (K : Int → Option α) : Option α := odx ((zel c 0 z).or (zel c 3 z)) K
def gea (c : zC) (z : Int) (K : Nat → Option α) : Option α := odx ((zel c 4 z).or ((zel c 5 z).or (zel c 6 z))) (fun v => K v.toNat)
def seb (c : zC) (z v : Int) (K : zC → Option α) : Option α := odx ((zst c 0 z (i8 v)).or (zst c 3 z (i1 v))) K
def sea (h : zH) (a : Nat) (z : Int) (v : Nat) (K : zC → Option α) : Option α := odx ((if zis (h.2 v) 2 then zst (h.2 a) 4 z (v : Int) else if zis (h.2 v) 4 then zst (h.2 a) 5 z (v : Int) else if zis (h.2 v) 8 then zst (h.2 a) 6 z (v : Int) else none)) K
def cki (c : zC) (ci : Nat) (x : Option α) : Option α := if zis c ci = true then x else none
def bndi (x : Option (zV × zH)) (K : Int → zH → Option α) : Option α := match x with
  | some (.inl z, h) => K z h
  | _ => none
def bndl (x : Option (zV × zH)) (K : Int → zH → Option α) : Option α := match x with
  | some (.inr (.inr (.inl z)), h) => K z h
  | _ => none
def bndr (x : Option (zV × zH)) (K : Nat → zH → Option α) : Option α := match x with
  | some (.inr (.inl a), h) => K a h
  | _ => none
def bndv (x : Option (zV × zH)) (K : zH → Option α) : Option α := match x with
  | some (.inr (.inr (.inr _)), h) => K h
  | _ => none
def cpy (c d : zC) (sp dp n : Int) (K : zC → Option α) : Option α := odx (zcopy c d sp dp n) K
def gsl (a : Nat) (K : Int → Option α) : Option α := odx (zsl a) K
def gsc (a : Nat) (z : Int) (K : Int → Option α) : Option α := odx (zsc a z) K
end CPS
def zrty (M : zMd) (v : zV) : Prop := match mR M with
  | none => ∃ b, v = .inr (.inr (.inr b))
  | some .int => ∃ z, v = vi z
  | some .boolean => ∃ z, v = vi z
  | some .long => ∃ z, v = vl z
  | some (.object _) => ∃ a, v = vr a
  | _ => False
theorem stp_rty {M : zMd} {I : ClassFile.Instr} {ln pc : Nat} {L st : List zV} {h h' : zH} {r : zV} (E : stp M I ln pc L st h = some (.inr (.inl (r, h')))) : zrty M r := by
  have hq := (stp_all M I ln pc L st h _ E).2
  rcases hq with rfl | rfl | rfl | rfl
  · replace E := (zg_inv E).2
    split at E
    · split at E
      · rename_i hm; cases E; unfold zrty; rw [hm]; exact ⟨_, rfl⟩
      · rename_i hm
        split at E
        · cases E; unfold zrty; rw [hm]; exact ⟨_, rfl⟩
        · cases E
      · cases E
    · cases E
  · replace E := (zg_inv E).2
    split at E
    · rename_i hm; cases E; unfold zrty; rw [hm]; exact ⟨_, rfl⟩
    · cases E
  · replace E := (zg_inv E).2
    split at E
    · rename_i hm; cases E; unfold zrty; rw [hm]; exact ⟨_, rfl⟩
    · cases E
  · replace E := (zg_inv E).2
    split at E
    · rename_i hm; cases E; unfold zrty; rw [hm]; exact ⟨_, rfl⟩
    · cases E
theorem rnF_rty : ∀ {n : Nat} {M : zMd} {pc : Nat} {L st : List zV} {h h' : zH} {r : zV}, rnF n M pc L st h = some (r, h') → zrty M r := by
  intro n
  induction n with
  | zero => intro M pc L st h h' r e; simp [rnF] at e
  | succ n ih =>
    intro M pc L st h h' r e
    rw [rnF] at e
    cases hd : ClassFile.decode (mC M) pc with
    | error x => rw [hd] at e; cases e
    | ok x =>
      obtain ⟨I, ln⟩ := x
      rw [hd] at e
      simp only at e
      cases hs : stp M I ln pc L st h with
      | none => rw [hs] at e; cases e
      | some y =>
        rw [hs] at e
        match y, e with
        | .inl (pc', L', st', h1), e => exact ih e
        | .inr (.inl (r', h1)), e => cases e; exact stp_rty hs
        | .inr (.inr (Y, as, pc', L', st')), e =>
          simp only at e
          cases hc : rnF n Y 0 (zent as (mL Y)) [] h with
          | none => rw [hc] at e; cases e
          | some w =>
            obtain ⟨v, h1⟩ := w
            rw [hc] at e
            exact ih e
theorem cl_rty {Y : zMd} {as : List zV} {h h' : zH} {r : zV} (e : cl Y as h = some (r, h')) : zrty Y r := by
  obtain ⟨n, e⟩ := rn_iff.mp e
  exact rnF_rty e
section STEPS
variable {M Y : zMd} {pc ln : Nat} {I : ClassFile.Instr} {L st : List zV} {h : zH} {pc' : Nat} {L' st' : List zV}
theorem rn_cli {as : List zV} (d : ClassFile.decode (mC M) pc = .ok (I, ln)) (e : stp M I ln pc L st h = some (.inr (.inr (Y, as, pc', L', st')))) (hr : mR Y = some .int ∨ mR Y = some .boolean) : rn M pc L st h = bndi (cl Y as h) (fun z h' => rn M pc' L' (vi z :: st') h') := by
  rw [rn_cl d e]
  cases hc : cl Y as h with
  | none => rfl
  | some w =>
    obtain ⟨v, h'⟩ := w
    have ht := cl_rty hc
    unfold zrty at ht
    rcases hr with hr | hr <;> rw [hr] at ht <;> obtain ⟨z, rfl⟩ := ht <;> rfl
theorem rn_cll {as : List zV} (d : ClassFile.decode (mC M) pc = .ok (I, ln)) (e : stp M I ln pc L st h = some (.inr (.inr (Y, as, pc', L', st')))) (hr : mR Y = some .long) : rn M pc L st h = bndl (cl Y as h) (fun z h' => rn M pc' L' (vl z :: st') h') := by
  rw [rn_cl d e]
  cases hc : cl Y as h with
  | none => rfl
  | some w =>
    obtain ⟨v, h'⟩ := w
    have ht := cl_rty hc
    unfold zrty at ht
    rw [hr] at ht
    obtain ⟨z, rfl⟩ := ht
    rfl
theorem rn_clr {as : List zV} {C : String} (d : ClassFile.decode (mC M) pc = .ok (I, ln)) (e : stp M I ln pc L st h = some (.inr (.inr (Y, as, pc', L', st')))) (hr : mR Y = some (.object C)) : rn M pc L st h = bndr (cl Y as h) (fun z h' => rn M pc' L' (vr z :: st') h') := by
  rw [rn_cl d e]
  cases hc : cl Y as h with
  | none => rfl
  | some w =>
    obtain ⟨v, h'⟩ := w
    have ht := cl_rty hc
    unfold zrty at ht
    rw [hr] at ht
    obtain ⟨z, rfl⟩ := ht
    rfl
theorem rn_clv {as : List zV} (d : ClassFile.decode (mC M) pc = .ok (I, ln)) (e : stp M I ln pc L st h = some (.inr (.inr (Y, as, pc', L', st')))) (hr : mR Y = none) : rn M pc L st h = bndv (cl Y as h) (fun h' => rn M pc' L' st' h') := by
  rw [rn_cl d e]
  cases hc : cl Y as h with
  | none => rfl
  | some w =>
    obtain ⟨v, h'⟩ := w
    have ht := cl_rty hc
    unfold zrty at ht
    rw [hr] at ht
    obtain ⟨z, rfl⟩ := ht
    rfl
/-- a call on an object: the receiver's class is looked at first -/
theorem rn_ck {x : Option (zV × zH)} {c : zC} {ci : Nat} (d : ClassFile.decode (mC M) pc = .ok (I, ln)) (e0 : zis c ci = false → stp M I ln pc L st h = none) (e1 : zis c ci = true → rn M pc L st h = x) : rn M pc L st h = cki c ci x := by
  unfold cki
  cases hz : zis c ci with
  | false => rw [rn_no d (e0 hz)]; rfl
  | true => rw [e1 hz]; rfl
theorem rn_gfi {i : Nat} {a ci k kd : Nat} {ty : Int} (d : ClassFile.decode (mC M) pc = .ok (.getfield i, 3)) (hf : zfind zTF (mO M) i = some (ci, k, ty, kd)) (ht : ty = 0 ∨ ty = 1) : rn M pc L (vr a :: st) h = gfi (h.2 a) ci k (fun z => rn M (pc + 3) L (vi z :: st) h) := by
  unfold gfi
  cases hv : zfo (h.2 a) ci k with
  | none => exact rn_no d (by simp [stp, zg, ta1, hf, od, hv])
  | some v =>
    match v, hv with
    | .inl z, hv => exact rn_go d (by rcases ht with rfl | rfl <;> simp [stp, zg, ta1, hf, od, hv, zgo, ztp])
    | .inr (.inl b), hv => exact rn_no d (by rcases ht with rfl | rfl <;> simp [stp, zg, ta1, hf, od, hv, zgo, ztp])
    | .inr (.inr (.inl b)), hv => exact rn_no d (by rcases ht with rfl | rfl <;> simp [stp, zg, ta1, hf, od, hv, zgo, ztp])
    | .inr (.inr (.inr b)), hv => exact rn_no d (by rcases ht with rfl | rfl <;> simp [stp, zg, ta1, hf, od, hv, zgo, ztp])
theorem rn_gfr {i : Nat} {a ci k kd : Nat} (d : ClassFile.decode (mC M) pc = .ok (.getfield i, 3)) (hf : zfind zTF (mO M) i = some (ci, k, 3, kd)) : rn M pc L (vr a :: st) h = gfr (h.2 a) ci k (fun z => rn M (pc + 3) L (vr z :: st) h) := by
  unfold gfr
  cases hv : zfo (h.2 a) ci k with
  | none => exact rn_no d (by simp [stp, zg, ta1, hf, od, hv])
  | some v =>
    match v, hv with
    | .inl z, hv => exact rn_no d (by simp [stp, zg, ta1, hf, od, hv, zgo, ztp])
    | .inr (.inl b), hv => exact rn_go d (by simp [stp, zg, ta1, hf, od, hv, zgo, ztp])
    | .inr (.inr (.inl b)), hv => exact rn_no d (by simp [stp, zg, ta1, hf, od, hv, zgo, ztp])
    | .inr (.inr (.inr b)), hv => exact rn_no d (by simp [stp, zg, ta1, hf, od, hv, zgo, ztp])
theorem rn_gfl {i : Nat} {a ci k kd : Nat} (d : ClassFile.decode (mC M) pc = .ok (.getfield i, 3)) (hf : zfind zTF (mO M) i = some (ci, k, 2, kd)) : rn M pc L (vr a :: st) h = gfl (h.2 a) ci k (fun z => rn M (pc + 3) L (vl z :: st) h) := by
  unfold gfl
  cases hv : zfo (h.2 a) ci k with
  | none => exact rn_no d (by simp [stp, zg, ta1, hf, od, hv])
  | some v =>
    match v, hv with
    | .inl z, hv => exact rn_no d (by simp [stp, zg, ta1, hf, od, hv, zgo, ztp])
    | .inr (.inl b), hv => exact rn_no d (by simp [stp, zg, ta1, hf, od, hv, zgo, ztp])
    | .inr (.inr (.inl b)), hv => exact rn_go d (by simp [stp, zg, ta1, hf, od, hv, zgo, ztp])
    | .inr (.inr (.inr b)), hv => exact rn_no d (by simp [stp, zg, ta1, hf, od, hv, zgo, ztp])
theorem rn_od {α : Type} {x : Option α} {k : α → zO} {K : α → Option (zV × zH)} {F : Option (zV × zH)} (d : ClassFile.decode (mC M) pc = .ok (I, ln)) (e : stp M I ln pc L st h = od x k) (hF : F = odx x K) (hk : ∀ v, x = some v → rn M pc L st h = K v) : rn M pc L st h = F := by
  rw [hF]
  cases hx : x with
  | none => exact rn_no d (by rw [e, hx]; rfl)
  | some v => exact hk v hx
theorem rn_pfv {i : Nat} {v : zV} {a ci k kd : Nat} {ty : Int} (d : ClassFile.decode (mC M) pc = .ok (.putfield i, 3)) (hf : zfind zTF (mO M) i = some (ci, k, ty, kd)) (hg : (zfit ty v && (kd == 0 || kd == 2 || (kd == 1 && mI M == 1))) = true) : rn M pc L (v :: vr a :: st) h = pfv (h.2 a) ci k v (fun c => rn M (pc + 3) L st (zup h a c)) := by
  have e : stp M (.putfield i) 3 pc L (v :: vr a :: st) h = od (zpf (h.2 a) ci k v) fun c => zgo (pc + 3) L st (zup h a c) := by
    simp only [stp, hf, od]
    show zg true (zg (zfit ty v && (kd == 0 || kd == 2 || (kd == 1 && mI M == 1))) _) = _
    rw [hg]
    rfl
  exact rn_od d e rfl (fun c hc => rn_go d (by rw [e, hc]; rfl))
theorem rn_gel {z : Int} {a : Nat} (d : ClassFile.decode (mC M) pc = .ok (.iaload, 1)) (hM : mO M ≠ 12) : rn M pc L (vi z :: vr a :: st) h = gel (h.2 a) 1 z (fun v => rn M (pc + 1) L (vi v :: st) h) := by
  have e : stp M .iaload 1 pc L (vi z :: vr a :: st) h = od (zel (h.2 a) 1 z) fun v => zgo (pc + 1) L (vi v :: st) h := by
    simp only [stp, if_neg hM]
    rfl
  exact rn_od d e rfl (fun c hc => rn_go d (by rw [e, hc]; rfl))
theorem rn_gex {z : Int} {a : Nat} (d : ClassFile.decode (mC M) pc = .ok (.iaload, 1)) (hM : mO M = 12) : rn M pc L (vi z :: vr a :: st) h = gel (h.2 a) 99 z (fun v => rn M (pc + 1) L (vi v :: st) h) := by
  have e : stp M .iaload 1 pc L (vi z :: vr a :: st) h = od (zel (h.2 a) 99 z) fun v => zgo (pc + 1) L (vi v :: st) h := by
    simp only [stp, if_pos hM]
    rfl
  exact rn_od d e rfl (fun c hc => rn_go d (by rw [e, hc]; rfl))
theorem rn_gell {z : Int} {a : Nat} (d : ClassFile.decode (mC M) pc = .ok (.laload, 1)) : rn M pc L (vi z :: vr a :: st) h = gel (h.2 a) 2 z (fun v => rn M (pc + 1) L (vl v :: st) h) := by
  have e : stp M .laload 1 pc L (vi z :: vr a :: st) h = od (zel (h.2 a) 2 z) fun v => zgo (pc + 1) L (vl v :: st) h := rfl
  exact rn_od d e rfl (fun c hc => rn_go d (by rw [e, hc]; rfl))
theorem rn_geb {z : Int} {a : Nat} (d : ClassFile.decode (mC M) pc = .ok (.baload, 1)) : rn M pc L (vi z :: vr a :: st) h = geb (h.2 a) z (fun v => rn M (pc + 1) L (vi v :: st) h) := by
  have e : stp M .baload 1 pc L (vi z :: vr a :: st) h = od ((zel (h.2 a) 0 z).or (zel (h.2 a) 3 z)) fun v => zgo (pc + 1) L (vi v :: st) h := rfl
  exact rn_od d e rfl (fun c hc => rn_go d (by rw [e, hc]; rfl))
theorem rn_gea {z : Int} {a : Nat} (d : ClassFile.decode (mC M) pc = .ok (.aaload, 1)) : rn M pc L (vi z :: vr a :: st) h = gea (h.2 a) z (fun v => rn M (pc + 1) L (vr v :: st) h) := by
  have e : stp M .aaload 1 pc L (vi z :: vr a :: st) h = od ((zel (h.2 a) 4 z).or ((zel (h.2 a) 5 z).or (zel (h.2 a) 6 z))) fun v => zgo (pc + 1) L (vr v.toNat :: st) h := rfl
  exact rn_od d e rfl (fun c hc => rn_go d (by rw [e, hc]; rfl))
theorem rn_gle {a : Nat} (d : ClassFile.decode (mC M) pc = .ok (.arraylength, 1)) : rn M pc L (vr a :: st) h = gle (h.2 a) (fun v => rn M (pc + 1) L (vi v :: st) h) := by
  have e : stp M .arraylength 1 pc L (vr a :: st) h = od (zle (h.2 a)) fun v => zgo (pc + 1) L (vi v :: st) h := rfl
  exact rn_od d e rfl (fun c hc => rn_go d (by rw [e, hc]; rfl))
theorem rn_sel {z v : Int} {a : Nat} (d : ClassFile.decode (mC M) pc = .ok (.iastore, 1)) : rn M pc L (vi v :: vi z :: vr a :: st) h = sel (h.2 a) 1 z v (fun c => rn M (pc + 1) L st (zup h a c)) := by
  have e : stp M .iastore 1 pc L (vi v :: vi z :: vr a :: st) h = od (zst (h.2 a) 1 z v) fun c => zgo (pc + 1) L st (zup h a c) := rfl
  exact rn_od d e rfl (fun c hc => rn_go d (by rw [e, hc]; rfl))
theorem rn_sell {z v : Int} {a : Nat} (d : ClassFile.decode (mC M) pc = .ok (.lastore, 1)) : rn M pc L (vl v :: vi z :: vr a :: st) h = sel (h.2 a) 2 z v (fun c => rn M (pc + 1) L st (zup h a c)) := by
  have e : stp M .lastore 1 pc L (vl v :: vi z :: vr a :: st) h = od (zst (h.2 a) 2 z v) fun c => zgo (pc + 1) L st (zup h a c) := rfl
  exact rn_od d e rfl (fun c hc => rn_go d (by rw [e, hc]; rfl))
theorem rn_seb {z v : Int} {a : Nat} (d : ClassFile.decode (mC M) pc = .ok (.bastore, 1)) : rn M pc L (vi v :: vi z :: vr a :: st) h = seb (h.2 a) z v (fun c => rn M (pc + 1) L st (zup h a c)) := by
  have e : stp M .bastore 1 pc L (vi v :: vi z :: vr a :: st) h = od ((zst (h.2 a) 0 z (i8 v)).or (zst (h.2 a) 3 z (i1 v))) fun c => zgo (pc + 1) L st (zup h a c) := rfl
  exact rn_od d e rfl (fun c hc => rn_go d (by rw [e, hc]; rfl))
theorem rn_sea {z : Int} {a v : Nat} (d : ClassFile.decode (mC M) pc = .ok (.aastore, 1)) : rn M pc L (vr v :: vi z :: vr a :: st) h = sea h a z v (fun c => rn M (pc + 1) L st (zup h a c)) := by
  have e : stp M .aastore 1 pc L (vr v :: vi z :: vr a :: st) h = od (if zis (h.2 v) 2 then zst (h.2 a) 4 z (v : Int) else if zis (h.2 v) 4 then zst (h.2 a) 5 z (v : Int) else if zis (h.2 v) 8 then zst (h.2 a) 6 z (v : Int) else none) fun c => zgo (pc + 1) L st (zup h a c) := rfl
  exact rn_od d e rfl (fun c hc => rn_go d (by rw [e, hc]; rfl))
theorem rn_div {x y : Int} (d : ClassFile.decode (mC M) pc = .ok (.idiv, 1)) : rn M pc L (vi y :: vi x :: st) h = if y = 0 then none else rn M (pc + 1) L (vi (q2 (· / ·) x y) :: st) h := by
  split
  · rename_i hy; subst hy; exact rn_no d rfl
  · rename_i hy; exact rn_go d (by simp [stp, zg, ar2, hy, zgo])
theorem rn_rem {x y : Int} (d : ClassFile.decode (mC M) pc = .ok (.irem, 1)) : rn M pc L (vi y :: vi x :: st) h = if y = 0 then none else rn M (pc + 1) L (vi (q2 qrem x y) :: st) h := by
  split
  · rename_i hy; subst hy; exact rn_no d rfl
  · rename_i hy; exact rn_go d (by simp [stp, zg, ar2, hy, zgo])
theorem rn_ldiv {x y : Int} (d : ClassFile.decode (mC M) pc = .ok (.ldiv, 1)) : rn M pc L (vl y :: vl x :: st) h = if y = 0 then none else rn M (pc + 1) L (vl (q4 (· / ·) x y) :: st) h := by
  split
  · rename_i hy; subst hy; exact rn_no d rfl
  · rename_i hy; exact rn_go d (by simp [stp, zg, ll2, hy, zgo])
theorem rn_lrem {x y : Int} (d : ClassFile.decode (mC M) pc = .ok (.lrem, 1)) : rn M pc L (vl y :: vl x :: st) h = if y = 0 then none else rn M (pc + 1) L (vl (q4 qreml x y) :: st) h := by
  split
  · rename_i hy; subst hy; exact rn_no d rfl
  · rename_i hy; exact rn_go d (by simp [stp, zg, ll2, hy, zgo])
theorem rn_if {c : ClassFile.Cond} {off x : Int} {tgt : Nat} {P : Prop} [Decidable P] (d : ClassFile.decode (mC M) pc = .ok (.ifCond c off, 3)) (ht : (pc : Int) + off = (tgt : Int)) (hP : zcmp c x 0 = decide P) : rn M pc L (vi x :: st) h = if P then rn M tgt L st h else rn M (pc + 3) L st h := by
  have h0 : (0 : Int) ≤ (pc : Int) + off := by omega
  have ht2 : ((pc : Int) + off).toNat = tgt := by omega
  split
  · rename_i hp; exact rn_go d (by simp [stp, zg, ti1, hP, hp, zgo, h0, ht2])
  · rename_i hp; exact rn_go d (by simp [stp, zg, ti1, hP, hp, zgo, h0])
theorem rn_ic {c : ClassFile.Cond} {off x y : Int} {tgt : Nat} {P : Prop} [Decidable P] (d : ClassFile.decode (mC M) pc = .ok (.if_icmp c off, 3)) (ht : (pc : Int) + off = (tgt : Int)) (hP : zcmp c x y = decide P) : rn M pc L (vi y :: vi x :: st) h = if P then rn M tgt L st h else rn M (pc + 3) L st h := by
  have h0 : (0 : Int) ≤ (pc : Int) + off := by omega
  have ht2 : ((pc : Int) + off).toNat = tgt := by omega
  split
  · rename_i hp; exact rn_go d (by simp [stp, zg, ar2, hP, hp, zgo, h0, ht2])
  · rename_i hp; exact rn_go d (by simp [stp, zg, ar2, hP, hp, zgo, h0])
theorem rn_nn {off : Int} {a tgt : Nat} (d : ClassFile.decode (mC M) pc = .ok (.ifnonnull off, 3)) (ht : (pc : Int) + off = (tgt : Int)) : rn M pc L (vr a :: st) h = if a = 0 then rn M (pc + 3) L st h else rn M tgt L st h := by
  have h0 : (0 : Int) ≤ (pc : Int) + off := by omega
  have ht2 : ((pc : Int) + off).toNat = tgt := by omega
  split
  · rename_i hp; exact rn_go d (by simp [stp, zg, ta1, hp, zgo, h0])
  · rename_i hp; exact rn_go d (by simp [stp, zg, ta1, hp, zgo, h0, ht2])
theorem rn_gt {off : Int} {tgt : Nat} (d : ClassFile.decode (mC M) pc = .ok (.goto off, 3)) (ht : (pc : Int) + off = (tgt : Int)) : rn M pc L st h = rn M tgt L st h := by
  have h0 : (0 : Int) ≤ (pc : Int) + off := by omega
  have ht2 : ((pc : Int) + off).toNat = tgt := by omega
  exact rn_go d (by simp [stp, zg, zj, zgo, h0, ht2])
theorem rn_zr {z : Int} (d : ClassFile.decode (mC M) pc = .ok (.ireturn, 1)) (hM : mR M = some .boolean) : rn M pc L [vi z] h = if z = 0 ∨ z = 1 then some (vi z, h) else none := by
  split
  · rename_i hp; exact rn_rt d (by simp [stp, zg, hM, hp])
  · rename_i hp; exact rn_no d (by simp [stp, zg, hM, hp])
theorem rn_ir {z : Int} (d : ClassFile.decode (mC M) pc = .ok (.ireturn, 1)) (hM : mR M = some .int) : rn M pc L [vi z] h = some (vi z, h) := rn_rt d (by simp [stp, zg, hM])
theorem rn_ic1 {n : Int} (d : ClassFile.decode (mC M) pc = .ok (.iconst n, 1)) (hn : i32 n = n) : rn M pc L st h = rn M (pc + 1) L (vi n :: st) h := rn_go d (by simp [stp, zg, hn, zgo])
theorem rn_bi {n : Int} (d : ClassFile.decode (mC M) pc = .ok (.bipush n, 2)) (hn : (Int8.ofInt n).toInt32 = Int32.ofInt n) (hn2 : i32 n = n) : rn M pc L st h = rn M (pc + 2) L (vi n :: st) h := rn_go d (by simp [stp, zg, hn, hn2, zgo])
theorem rn_si {n : Int} (d : ClassFile.decode (mC M) pc = .ok (.sipush n, 3)) (hn : (Int16.ofInt n).toInt32 = Int32.ofInt n) (hn2 : i32 n = n) : rn M pc L st h = rn M (pc + 3) L (vi n :: st) h := rn_go d (by simp [stp, zg, hn, hn2, zgo])
end STEPS
