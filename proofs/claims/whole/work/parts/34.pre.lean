/-! the same simplifications, to be used ahead of a continuation's own (with a down arrow): each of one cell that is known -/
section PRE
variable {α : Type} {h : zH} {a ci k kd n : Nat} {fs : List zV} {f : Nat → Int}
theorem gfr_at {z : Nat} {K : Nat → Option α} (hc : h.2 a = .inl (ci, fs)) (hk : fs[k]? = some (vr z)) : gfr (h.2 a) ci k K = K z := by simp [gfr, zfo, hc, hk]
theorem gfi_at {z : Int} {K : Int → Option α} (hc : h.2 a = .inl (ci, fs)) (hk : fs[k]? = some (vi z)) : gfi (h.2 a) ci k K = K z := by simp [gfi, zfo, hc, hk]
theorem gfl_at {z : Int} {K : Int → Option α} (hc : h.2 a = .inl (ci, fs)) (hk : fs[k]? = some (vl z)) : gfl (h.2 a) ci k K = K z := by simp [gfl, zfo, hc, hk]
theorem pfv_at {v : zV} {K : zC → Option α} (hc : h.2 a = .inl (ci, fs)) (hk : k < fs.length) : pfv (h.2 a) ci k v K = K (.inl (ci, fs.set k v)) := by rw [hc, pfv_k hk]
theorem gle_at {K : Int → Option α} (hc : h.2 a = .inr (kd, n, f)) (hn : n < 2147483648) : gle (h.2 a) K = K (n : Int) := by rw [hc, gle_k hn]
theorem gel_at {z : Int} {K : Int → Option α} (hc : h.2 a = .inr (kd, n, f)) (h0 : 0 ≤ z) (h1 : z < (n : Int)) : gel (h.2 a) kd z K = K (f z.toNat) := by rw [hc, gel_k h0 h1]
theorem sel_at {z v : Int} {K : zC → Option α} (hc : h.2 a = .inr (kd, n, f)) (h0 : 0 ≤ z) (h1 : z < (n : Int)) : sel (h.2 a) kd z v K = K (.inr (kd, n, fup f z.toNat v)) := by rw [hc, sel_k h0 h1]
theorem cki_at {x : Option α} (hc : h.2 a = .inl (ci, fs)) : cki (h.2 a) ci x = x := by rw [hc, cki_k]
theorem bndi_at {x : Option (zV × zH)} {z : Int} {h' : zH} {K : Int → zH → Option α} (e : x = some (vi z, h')) : bndi x K = K z h' := by rw [e]; rfl
theorem bndl_at {x : Option (zV × zH)} {z : Int} {h' : zH} {K : Int → zH → Option α} (e : x = some (vl z, h')) : bndl x K = K z h' := by rw [e]; rfl
theorem bndr_at {x : Option (zV × zH)} {z : Nat} {h' : zH} {K : Nat → zH → Option α} (e : x = some (vr z, h')) : bndr x K = K z h' := by rw [e]; rfl
theorem bndv_at {x : Option (zV × zH)} {h' : zH} {K : zH → Option α} (e : x = some (vn, h')) : bndv x K = K h' := by rw [e]; rfl
end PRE
