/-! String.length and String.charAt of the constants -/
def j_len : zMd := ((⟨"java/lang/String", "length", "()I"⟩ : MethodName), prog_17_method_54_code, some .int, 1, 1, 20, 15, 0, 0)
theorem jw_len : Cond.code (mN j_len) (mC j_len) (mL j_len) (mR j_len) ∈ zW ∧ Cond.initialized (mN j_len).cls ∈ zW := ⟨zW_2 (i := 96) rfl rfl, zW_1 (i := 11) rfl rfl⟩
theorem jd_len_0 : ClassFile.decode (mC j_len) 0 = .ok (.aload_n 0, 1) := by decide +kernel
theorem jd_len_1 : ClassFile.decode (mC j_len) 1 = .ok (.getfield 9, 3) := by decide +kernel
theorem jd_len_4 : ClassFile.decode (mC j_len) 4 = .ok (.arraylength, 1) := by decide +kernel
theorem jd_len_5 : ClassFile.decode (mC j_len) 5 = .ok (.aload_n 0, 1) := by decide +kernel
theorem jd_len_6 : ClassFile.decode (mC j_len) 6 = .ok (.invokevirtual 335, 3) := by decide +kernel
theorem jd_len_9 : ClassFile.decode (mC j_len) 9 = .ok (.ishr, 1) := by decide +kernel
theorem jd_len_10 : ClassFile.decode (mC j_len) 10 = .ok (.ireturn, 1) := by decide +kernel
def j_chr : zMd := ((⟨"java/lang/String", "charAt", "(I)C"⟩ : MethodName), prog_17_method_56_code, some .char, 2, 3, 64, 15, 1, 0)
theorem jw_chr : Cond.code (mN j_chr) (mC j_chr) (mL j_chr) (mR j_chr) ∈ zW ∧ Cond.initialized (mN j_chr).cls ∈ zW := ⟨zW_2 (i := 106) rfl rfl, zW_1 (i := 11) rfl rfl⟩
theorem jd_chr_0 : ClassFile.decode (mC j_chr) 0 = .ok (.aload_n 0, 1) := by decide +kernel
theorem jd_chr_1 : ClassFile.decode (mC j_chr) 1 = .ok (.invokevirtual 492, 3) := by decide +kernel
theorem jd_chr_4 : ClassFile.decode (mC j_chr) 4 = .ok (.ifCond .eq 12, 3) := by decide +kernel
theorem jd_chr_7 : ClassFile.decode (mC j_chr) 7 = .ok (.aload_n 0, 1) := by decide +kernel
theorem jd_chr_8 : ClassFile.decode (mC j_chr) 8 = .ok (.getfield 9, 3) := by decide +kernel
theorem jd_chr_11 : ClassFile.decode (mC j_chr) 11 = .ok (.iload_n 1, 1) := by decide +kernel
theorem jd_chr_12 : ClassFile.decode (mC j_chr) 12 = .ok (.invokestatic 495, 3) := by decide +kernel
theorem jd_chr_15 : ClassFile.decode (mC j_chr) 15 = .ok (.ireturn, 1) := by decide +kernel
theorem jd_chr_16 : ClassFile.decode (mC j_chr) 16 = .ok (.aload_n 0, 1) := by decide +kernel
theorem jd_chr_17 : ClassFile.decode (mC j_chr) 17 = .ok (.getfield 9, 3) := by decide +kernel
theorem jd_chr_20 : ClassFile.decode (mC j_chr) 20 = .ok (.iload_n 1, 1) := by decide +kernel
theorem jd_chr_21 : ClassFile.decode (mC j_chr) 21 = .ok (.invokestatic 498, 3) := by decide +kernel
theorem jd_chr_24 : ClassFile.decode (mC j_chr) 24 = .ok (.ireturn, 1) := by decide +kernel
def j_cod : zMd := ((⟨"java/lang/String", "coder", "()B"⟩ : MethodName), prog_17_method_152_code, some .byte, 1, 0, 0, 15, 0, 0)
theorem jw_cod : Cond.code (mN j_cod) (mC j_cod) (mL j_cod) (mR j_cod) ∈ zW ∧ Cond.initialized (mN j_cod).cls ∈ zW := ⟨zW_2 (i := 100) rfl rfl, zW_1 (i := 11) rfl rfl⟩
theorem jd_cod_0 : ClassFile.decode (mC j_cod) 0 = .ok (.getstatic 38, 3) := by decide +kernel
theorem jd_cod_3 : ClassFile.decode (mC j_cod) 3 = .ok (.ifCond .eq 10, 3) := by decide +kernel
theorem jd_cod_6 : ClassFile.decode (mC j_cod) 6 = .ok (.aload_n 0, 1) := by decide +kernel
theorem jd_cod_7 : ClassFile.decode (mC j_cod) 7 = .ok (.getfield 15, 3) := by decide +kernel
theorem jd_cod_10 : ClassFile.decode (mC j_cod) 10 = .ok (.goto 4, 3) := by decide +kernel
theorem jd_cod_13 : ClassFile.decode (mC j_cod) 13 = .ok (.iconst 1, 1) := by decide +kernel
theorem jd_cod_14 : ClassFile.decode (mC j_cod) 14 = .ok (.ireturn, 1) := by decide +kernel
def j_lat : zMd := ((⟨"java/lang/String", "isLatin1", "()Z"⟩ : MethodName), prog_17_method_154_code, some .boolean, 1, 0, 0, 15, 0, 0)
theorem jw_lat : Cond.code (mN j_lat) (mC j_lat) (mL j_lat) (mR j_lat) ∈ zW ∧ Cond.initialized (mN j_lat).cls ∈ zW := ⟨zW_2 (i := 110) rfl rfl, zW_1 (i := 11) rfl rfl⟩
theorem jd_lat_0 : ClassFile.decode (mC j_lat) 0 = .ok (.getstatic 38, 3) := by decide +kernel
theorem jd_lat_3 : ClassFile.decode (mC j_lat) 3 = .ok (.ifCond .eq 14, 3) := by decide +kernel
theorem jd_lat_6 : ClassFile.decode (mC j_lat) 6 = .ok (.aload_n 0, 1) := by decide +kernel
theorem jd_lat_7 : ClassFile.decode (mC j_lat) 7 = .ok (.getfield 15, 3) := by decide +kernel
theorem jd_lat_10 : ClassFile.decode (mC j_lat) 10 = .ok (.ifCond .ne 7, 3) := by decide +kernel
theorem jd_lat_13 : ClassFile.decode (mC j_lat) 13 = .ok (.iconst 1, 1) := by decide +kernel
theorem jd_lat_14 : ClassFile.decode (mC j_lat) 14 = .ok (.goto 4, 3) := by decide +kernel
theorem jd_lat_17 : ClassFile.decode (mC j_lat) 17 = .ok (.iconst 0, 1) := by decide +kernel
theorem jd_lat_18 : ClassFile.decode (mC j_lat) 18 = .ok (.ireturn, 1) := by decide +kernel
def j_chk : zMd := ((⟨"java/lang/String", "checkIndex", "(II)V"⟩ : MethodName), prog_17_method_155_code, none, 2, 1, 22, 15, 2, 0)
theorem jw_chk : Cond.code (mN j_chk) (mC j_chk) (mL j_chk) (mR j_chk) ∈ zW ∧ Cond.initialized (mN j_chk).cls ∈ zW := ⟨zW_2 (i := 116) rfl rfl, zW_1 (i := 11) rfl rfl⟩
theorem jd_chk_0 : ClassFile.decode (mC j_chk) 0 = .ok (.iload_n 0, 1) := by decide +kernel
theorem jd_chk_1 : ClassFile.decode (mC j_chk) 1 = .ok (.iload_n 1, 1) := by decide +kernel
theorem jd_chk_2 : ClassFile.decode (mC j_chk) 2 = .ok (.getstatic 1053, 3) := by decide +kernel
theorem jd_chk_5 : ClassFile.decode (mC j_chk) 5 = .ok (.invokestatic 1059, 3) := by decide +kernel
theorem jd_chk_8 : ClassFile.decode (mC j_chk) 8 = .ok (.pop, 1) := by decide +kernel
theorem jd_chk_9 : ClassFile.decode (mC j_chk) 9 = .ok (.return_, 1) := by decide +kernel
def j_lch : zMd := ((⟨"java/lang/StringLatin1", "charAt", "([BI)C"⟩ : MethodName), prog_18_method_2_code, some .char, 2, 2, 43, 15, 2, 0)
theorem jw_lch : Cond.code (mN j_lch) (mC j_lch) (mL j_lch) (mR j_lch) ∈ zW ∧ Cond.initialized (mN j_lch).cls ∈ zW := ⟨zW_2 (i := 113) rfl rfl, zW_1 (i := 12) rfl rfl⟩
theorem jd_lch_0 : ClassFile.decode (mC j_lch) 0 = .ok (.iload_n 1, 1) := by decide +kernel
theorem jd_lch_1 : ClassFile.decode (mC j_lch) 1 = .ok (.aload_n 0, 1) := by decide +kernel
theorem jd_lch_2 : ClassFile.decode (mC j_lch) 2 = .ok (.arraylength, 1) := by decide +kernel
theorem jd_lch_3 : ClassFile.decode (mC j_lch) 3 = .ok (.invokestatic 9, 3) := by decide +kernel
theorem jd_lch_6 : ClassFile.decode (mC j_lch) 6 = .ok (.aload_n 0, 1) := by decide +kernel
theorem jd_lch_7 : ClassFile.decode (mC j_lch) 7 = .ok (.iload_n 1, 1) := by decide +kernel
theorem jd_lch_8 : ClassFile.decode (mC j_lch) 8 = .ok (.baload, 1) := by decide +kernel
theorem jd_lch_9 : ClassFile.decode (mC j_lch) 9 = .ok (.sipush 255, 3) := by decide +kernel
theorem jd_lch_12 : ClassFile.decode (mC j_lch) 12 = .ok (.iand, 1) := by decide +kernel
theorem jd_lch_13 : ClassFile.decode (mC j_lch) 13 = .ok (.i2c, 1) := by decide +kernel
theorem jd_lch_14 : ClassFile.decode (mC j_lch) 14 = .ok (.ireturn, 1) := by decide +kernel
def j_pre : zMd := ((⟨"jdk/internal/util/Preconditions", "checkIndex", "(IILjava/util/function/BiFunction;)I"⟩ : MethodName), prog_21_method_11_code, some .int, 3, 0, 0, 15, 3, 0)
theorem jw_pre : Cond.code (mN j_pre) (mC j_pre) (mL j_pre) (mR j_pre) ∈ zW ∧ Cond.initialized (mN j_pre).cls ∈ zW := ⟨zW_2 (i := 121) rfl rfl, zW_1 (i := 13) rfl rfl⟩
theorem jd_pre_0 : ClassFile.decode (mC j_pre) 0 = .ok (.iload_n 0, 1) := by decide +kernel
theorem jd_pre_1 : ClassFile.decode (mC j_pre) 1 = .ok (.ifCond .lt 8, 3) := by decide +kernel
theorem jd_pre_4 : ClassFile.decode (mC j_pre) 4 = .ok (.iload_n 0, 1) := by decide +kernel
theorem jd_pre_5 : ClassFile.decode (mC j_pre) 5 = .ok (.iload_n 1, 1) := by decide +kernel
theorem jd_pre_6 : ClassFile.decode (mC j_pre) 6 = .ok (.if_icmp .lt 10, 3) := by decide +kernel
theorem jd_pre_9 : ClassFile.decode (mC j_pre) 9 = .ok (.aload_n 2, 1) := by decide +kernel
theorem jd_pre_10 : ClassFile.decode (mC j_pre) 10 = .ok (.iload_n 0, 1) := by decide +kernel
theorem jd_pre_11 : ClassFile.decode (mC j_pre) 11 = .ok (.iload_n 1, 1) := by decide +kernel
theorem jd_pre_12 : ClassFile.decode (mC j_pre) 12 = .ok (.invokestatic 95, 3) := by decide +kernel
theorem jd_pre_15 : ClassFile.decode (mC j_pre) 15 = .ok (.athrow, 1) := by decide +kernel
theorem jd_pre_16 : ClassFile.decode (mC j_pre) 16 = .ok (.iload_n 0, 1) := by decide +kernel
theorem jd_pre_17 : ClassFile.decode (mC j_pre) 17 = .ok (.ireturn, 1) := by decide +kernel
theorem jl_value : Cond.fieldLink "java/lang/String" 9 "java/lang/String" "value" "[B" ∈ zW := zW_7 (i := 155) rfl rfl
theorem jl_coder : Cond.fieldLink "java/lang/String" 15 "java/lang/String" "coder" "B" ∈ zW := zW_7 (i := 156) rfl rfl
theorem jl_comp : Cond.fieldLink "java/lang/String" 38 "java/lang/String" "COMPACT_STRINGS" "Z" ∈ zW := zW_2 (i := 101) rfl rfl
theorem jl_form : Cond.fieldLink "java/lang/String" 1053 "jdk/internal/util/Preconditions" "SIOOBE_FORMATTER" "Ljava/util/function/BiFunction;" ∈ zW := zW_2 (i := 117) rfl rfl
theorem jm_cod : Cond.instanceMethod (mN j_cod) ∈ zW ∧ Cond.selects "java/lang/String" (mN j_cod) (mN j_cod) ∈ zW := ⟨zW_2 (i := 98) rfl rfl, zW_2 (i := 99) rfl rfl⟩
theorem jm_lat : Cond.instanceMethod (mN j_lat) ∈ zW ∧ Cond.selects "java/lang/String" (mN j_lat) (mN j_lat) ∈ zW := ⟨zW_2 (i := 108) rfl rfl, zW_2 (i := 109) rfl rfl⟩
theorem jm_len : Cond.instanceMethod (mN j_len) ∈ zW ∧ Cond.selects "java/lang/String" (mN j_len) (mN j_len) ∈ zW := ⟨zW_2 (i := 94) rfl rfl, zW_2 (i := 95) rfl rfl⟩
theorem jm_chr : Cond.instanceMethod (mN j_chr) ∈ zW ∧ Cond.selects "java/lang/String" (mN j_chr) (mN j_chr) ∈ zW := ⟨zW_2 (i := 104) rfl rfl, zW_2 (i := 105) rfl rfl⟩
theorem jv_cod : Cond.methodLink "java/lang/String" 335 (mN j_cod) ∈ zW := zW_2 (i := 97) rfl rfl
theorem jv_lat : Cond.methodLink "java/lang/String" 492 (mN j_lat) ∈ zW := zW_2 (i := 107) rfl rfl
theorem js_chk : Cond.static (mN j_chk) ∈ zW := zW_2 (i := 115) rfl rfl
theorem js_lch : Cond.static (mN j_lch) ∈ zW := zW_2 (i := 112) rfl rfl
theorem js_pre : Cond.static (mN j_pre) ∈ zW := zW_2 (i := 120) rfl rfl
theorem jk_lch : Cond.methodLink "java/lang/String" 495 (mN j_lch) ∈ zW := zW_2 (i := 111) rfl rfl
theorem jk_chk : Cond.methodLink "java/lang/StringLatin1" 9 (mN j_chk) ∈ zW := zW_2 (i := 114) rfl rfl
theorem jk_pre : Cond.methodLink "java/lang/String" 1059 (mN j_pre) ∈ zW := zW_2 (i := 119) rfl rfl
def zPv (g : zG) (av : List Value) (h : zH) : Array Value → State → Prop := fun v U => v = av.toArray ∧ zGF g U ∧ zRep g h U.heap
theorem zPv.blind {g : zG} {av : List Value} {h : zH} : FrameBlind (zPv g av h) := fun _ _ _ _ q => ⟨q.1, q.2.1.same rfl rfl, q.2.2⟩
theorem zrunJ {g : zG} {p : Program} {l : Launch} {e : Env} {R : Room} {s : State} {m : MethodId} {args : Array Value} {below : List Frame} {meth : Method} {c : Code} {Q : State → Prop} {pc : Nat} {H : Heap} {locs : List Loc} {cells slots : Nat} {ls : Array Slot} {st0 : List Value} {r : zV} {h1 : zH} {a : Array Value} {rest : List Value} (hr : va_Run p l e R s m args below meth c H locs cells slots 0 0 (F0 m pc ls st0) rest (zQc g r h1 a) (zA g)) (hS : va_S (zA g) s.heap H locs) (k : ∀ (H1 : Heap) (locs1 : List Loc), zRep g h1 H1 → va_S (zA g) s.heap H1 locs1 → W p l e R s m args below meth c H1 locs1 cells slots Q (F0 m (pc + 3) ls ((zrv g r).toList ++ rest))) : W p l e R s m args below meth c H locs cells slots Q (F0 m pc ls st0) := by
  intro T hT X
  obtain ⟨v, st₀, t, T', LL, h0, X', hLL, e1, e2, ⟨⟨hv, hRep, hro⟩, hF⟩, st⟩ := hr T hT X
  have hv : v = zrv g r := Outcome.returned.inj hv
  subst hv
  have hSn : va_S (zA g) s.heap T'.heap (locs ++ LL) := by
    refine ⟨?_, fun q a b => ?_, fun q hq => ?_⟩
    · rw [e1]; exact Nat.le_trans hS.1 (by rw [← h0]; exact hF.1)
    · rw [e1, hF.2 q (by rw [h0]; exact Nat.lt_of_lt_of_le a hS.1) b, h0]
      exact hS.2.1 q a b
    · rcases List.mem_append.mp hq with z | z
      · exact hS.2.2 q z
      · exact hLL q z
  obtain ⟨t2, a1, b1⟩ := k T'.heap (locs ++ LL) (by rw [e1]; exact hRep) hSn T' rfl X'
  exact ⟨t2, st t2 a1, b1⟩
/-- the start of such a method's contract -/
theorem zMetJ {g : zG} {Y : zMd} {C : String} {av : List Value} {h : zH} {r : zV} (l : Launch) (hp : plainName (mN Y).cls = true) (hC : (mN Y).cls = C) (hl : (lg_sl av).length ≤ mL Y) (body : ∀ (p : Program) (e : Env) (s : State) (m : MethodId) (below : List Frame) (meth : Method) (c : Code) (ls : Array Slot), p.tables.exec = Jvm.exec → c.code = mC Y → c.maxLocals = mL Y → s.vm.findClass C = some m.cls → (∀ w ∈ zW, w.before av.toArray s = true) → meth.sig.returnType = mR Y → meth.locks = false → zGF g s → zRep g h s.heap → lv_has ls (mL Y) (lv_args 0 av) → W p l e (zrm Y 0 0) s m av.toArray below meth c s.heap [] 0 0 (MQ below (zQc g r h) av.toArray s 0 0 (zA g)) (F0 m 0 ls [])) : Met l (mN Y) (zwd Y) (zrm Y 0 0) (zPv g av h) (zQc g r h) 0 0 (zA g) := by
  refine Met.ofW (cc := mC Y) (maxL := mL Y) (ret := mR Y) hp rfl ?_
  intro p e s m args below meth c s₁ B hml hv
  obtain ⟨rfl, hG, hRep⟩ := hv
  have hts := atoms_spec (ws := zwd Y) B.pre
  have hown : s.vm.findClass (mN Y).cls = some m.cls := findClass_of_methodNamed B.named
  rw [hC] at hown
  have hle := lv_entry av hl
  rw [lg_entry_eq]
  exact body p e s m below meth c _ B.exec B.bytes hml hown (fun w hw => hts w (List.mem_cons_of_mem _ hw)) B.returns B.notSynchronized hG hRep hle
theorem JM_cod {g : zG} {h : zH} {i : Nat} (hi : i < 6) (l : Launch) : Met l (mN j_cod) (zwd j_cod) (zrm j_cod 0 0) (zPv g [.ref (gx g (i + 1))] h) (zQc g (vi 0) h) 0 0 (zA g) := by
  refine zMetJ (C := "java/lang/String") l (by decide +kernel) rfl (Nat.le_of_ble_eq_true rfl) ?_
  intro p e s m below meth c ls hx hb hml hown hts hr hlk hG hR hl
  refine va_gets hx hb hG.2.2.2.2.2.2.2.1 va_S.rf hown (hts _ jl_comp) (fun _ h9 => h9) jd_cod_0 ?_
  refine lv_if_eq (tgt := 13) hx hb jd_cod_3 (by decide) (fun q => absurd q (by decide)) (fun _ => ?_)
  refine lv_aload_n hx hb jd_cod_6 rfl (lv_at hl 0 rfl) ?_
  refine vk_getf hx hb (hG.2.2.1.1 i hi).2.1 va_S.rf hown (hts _ jl_coder) (fun _ h9 => h9) jd_cod_7 ?_
  refine lv_goto (tgt := 14) hx hb jd_cod_10 (by decide) ?_
  exact W.zret hx hb hr rfl (fun t ht hW => ⟨⟨rfl, by rw [ht]; exact hR, i32_0⟩, va_S.rf.F ht⟩) (fun q hq => by cases hq) jd_cod_14 hlk
theorem JM_lat {g : zG} {h : zH} {i : Nat} (hi : i < 6) (l : Launch) : Met l (mN j_lat) (zwd j_lat) (zrm j_lat 0 0) (zPv g [.ref (gx g (i + 1))] h) (zQc g (vi 1) h) 0 0 (zA g) := by
  refine zMetJ (C := "java/lang/String") l (by decide +kernel) rfl (Nat.le_of_ble_eq_true rfl) ?_
  intro p e s m below meth c ls hx hb hml hown hts hr hlk hG hR hl
  refine va_gets hx hb hG.2.2.2.2.2.2.2.1 va_S.rf hown (hts _ jl_comp) (fun _ h9 => h9) jd_lat_0 ?_
  refine lv_if_eq (tgt := 17) hx hb jd_lat_3 (by decide) (fun q => absurd q (by decide)) (fun _ => ?_)
  refine lv_aload_n hx hb jd_lat_6 rfl (lv_at hl 0 rfl) ?_
  refine vk_getf hx hb (hG.2.2.1.1 i hi).2.1 va_S.rf hown (hts _ jl_coder) (fun _ h9 => h9) jd_lat_7 ?_
  refine lv_if_ne (tgt := 17) hx hb jd_lat_10 (by decide) (fun q => absurd rfl q) (fun _ => ?_)
  refine lv_iconst (v := Int32.ofInt 1) hx hb jd_lat_13 (by decide) ?_
  refine lv_goto (tgt := 18) hx hb jd_lat_14 (by decide) ?_
  exact W.zret hx hb hr (by decide) (fun t ht hW => ⟨⟨rfl, by rw [ht]; exact hR, i32_of (by decide) (by decide)⟩, va_S.rf.F ht⟩) (fun q hq => by cases hq) jd_lat_18 hlk
theorem JM_pre {g : zG} {h : zH} {x y : Int} {w : Value} (hx0 : i32 x = x) (hy0 : i32 y = y) (h0 : 0 ≤ x) (h1 : x < y) (hw : w.category = 1) (l : Launch) : Met l (mN j_pre) (zwd j_pre) (zrm j_pre 0 0) (zPv g [.int (Int32.ofInt x), .int (Int32.ofInt y), w] h) (zQc g (vi x) h) 0 0 (zA g) := by
  have hlen : (lg_sl [.int (Int32.ofInt x), .int (Int32.ofInt y), w]).length ≤ 3 := by
    cases w <;> simp_all [lg_sl, Value.category]
  refine zMetJ (C := "jdk/internal/util/Preconditions") l (by decide +kernel) rfl hlen ?_
  intro p e s m below meth c ls hx hb hml hown hts hr hlk hG hR hl
  have hl2 : lv_has ls 3 [(0, .int (Int32.ofInt x)), (1, .int (Int32.ofInt y))] := ⟨hl.1, hl.2.1, fun q hq => hl.2.2 q (by simp only [lv_args, Value.category]; simp at hq ⊢; rcases hq with rfl | rfl <;> simp)⟩
  refine lv_iload_n hx hb jd_pre_0 rfl (lv_at hl2 0 rfl) ?_
  refine lv_if_lt (tgt := 9) hx hb jd_pre_1 (by decide) (fun q => by rw [← o_0, o_lt hx0 i32_0] at q; omega) (fun _ => ?_)
  refine lv_iload_n hx hb jd_pre_4 rfl (lv_at hl2 0 rfl) ?_
  refine lv_iload_n hx hb jd_pre_5 rfl (lv_at hl2 1 rfl) ?_
  refine lv_icmp_lt (tgt := 16) hx hb jd_pre_6 (by decide) (fun _ => ?_) (fun q => absurd ((o_lt hx0 hy0).mpr h1) q)
  refine lv_iload_n hx hb jd_pre_16 rfl (lv_at hl2 0 rfl) ?_
  exact W.iret hx hb hr (fun t ht hW => ⟨⟨rfl, by rw [ht]; exact hR, hx0⟩, va_S.rf.F ht⟩) (fun q hq => by cases hq) jd_pre_17 hlk
theorem JM_chk {g : zG} {h : zH} {x y : Int} (hx0 : i32 x = x) (hy0 : i32 y = y) (h0 : 0 ≤ x) (h1 : x < y) (l : Launch) : Met l (mN j_chk) (zwd j_chk) (zrm j_chk 0 0) (zPv g [.int (Int32.ofInt x), .int (Int32.ofInt y)] h) (zQc g vn h) 0 0 (zA g) := by
  refine zMetJ (C := "java/lang/String") l (by decide +kernel) rfl (Nat.le_of_ble_eq_true rfl) ?_
  intro p e s m below meth c ls hx hb hml hown hts hr hlk hG hR hl
  refine lv_iload_n hx hb jd_chk_0 rfl (lv_at hl 0 rfl) ?_
  refine lv_iload_n hx hb jd_chk_1 rfl (lv_at hl 1 rfl) ?_
  have go : ∀ w : Value, w.category = 1 → W p l e (zrm j_chk 0 0) s m ([Value.int (Int32.ofInt x), .int (Int32.ofInt y)]).toArray below meth c s.heap [] 0 0 (MQ below (zQc g vn h) ([Value.int (Int32.ofInt x), .int (Int32.ofInt y)]).toArray s 0 0 (zA g)) (F0 m 5 ls [w, .int (Int32.ofInt y), .int (Int32.ofInt x)]) := by
    intro w hw
    refine zrunJ (g := g) (h1 := h) (r := vi x) (rest := []) (va_runS (cc := mC j_chk) (nL := 2) (Ts := zW) (own := "java/lang/String") (index := 1059) (y := mN j_pre) (bytes := mC j_pre) (maxL := 3) (ret := mR j_pre) (n := 3) (As := [.int (Int32.ofInt x), .int (Int32.ofInt y), w]) (rest := []) ⟨hx, hb, hml, hown, hts⟩ (JM_pre hx0 hy0 h0 h1 hw l) ⟨callB_of 3 hts (zGood (zwd_in jw_pre.1)) rfl rfl rfl (hts _ jw_pre.2) (hts _ jk_pre) (by decide +kernel) ⟨Nat.le_refl _, Nat.le_of_ble_eq_true rfl⟩, hts _ js_pre⟩ ⟨zPv.blind, fun U hU hW => ⟨rfl, hG.warm hW va_S.rf hU, by rw [hU]; exact hR⟩⟩ rfl rfl hl.1 rfl (lv_room (by decide)) jd_chk_5 ⟨Nat.le_refl _, Nat.le_refl _⟩) va_S.rf (fun H1 locs1 hR1 hS1 => ?_)
    refine lv_pop (va := .int (Int32.ofInt x)) hx hb jd_chk_8 rfl ?_
    exact W.vret hx hb hr (fun t ht hW => ⟨⟨rfl, by rw [ht]; exact hR1, trivial⟩, hS1.F ht⟩) hS1.2.2 jd_chk_9 hlk
  rcases hG.2.2.2.2.2.2.2.2 with hz | ⟨t, hz⟩
  · exact va_gets hx hb hz va_S.rf hown (hts _ jl_form) (fun _ h9 => h9) jd_chk_2 (go _ rfl)
  · exact va_gets hx hb hz va_S.rf hown (hts _ jl_form) (fun _ h9 => h9) jd_chk_2 (go _ rfl)
theorem zlen_lt : ∀ i, i < 6 → zlen.getD i 0 < 2147483648 := by decide +kernel
theorem zb_ok : ∀ i, i < 6 → ∀ j, j < zlen.getD i 0 → (((zbI.getD i []).getD j 0 &&& (Int16.ofInt 255).toInt32).toUInt32 % 65536).toInt32 = (zbI.getD i []).getD j 0 ∧ narrow .char (.int ((zbI.getD i []).getD j 0)) = .int ((zbI.getD i []).getD j 0) := by decide +kernel
theorem JM_lch {g : zG} {h : zH} {i : Nat} (hi : i < 6) {z : Int} (hz0 : i32 z = z) (h0 : 0 ≤ z) (h1 : z < (zlen.getD i 0 : Nat)) (l : Launch) : Met l (mN j_lch) (zwd j_lch) (zrm j_lch 0 0) (zPv g [.ref (gV g i), .int (Int32.ofInt z)] h) (zQc g (vi ((zbI.getD i []).getD z.toNat 0).toInt) h) 0 0 (zA g) := by
  refine zMetJ (C := "java/lang/StringLatin1") l (by decide +kernel) rfl (Nat.le_of_ble_eq_true rfl) ?_
  intro p e s m below meth c ls hx hb hml hown hts hr hlk hG hR hl
  have hT := (hG.2.2.1.1 i hi).2.2.2
  have hlt := zlen_lt i hi
  have hn : Int32.ofNat (zlen.getD i 0) = Int32.ofInt ((zlen.getD i 0 : Nat) : Int) := by rw [Int32.ofInt_eq_ofNat]
  refine lv_iload_n hx hb jd_lch_0 rfl (lv_at hl 1 rfl) ?_
  refine lv_aload_n hx hb jd_lch_1 rfl (lv_at hl 0 rfl) ?_
  refine va_tlen hx hb hT va_S.rf (v := Int32.ofInt ((zlen.getD i 0 : Nat) : Int)) hn jd_lch_2 ?_
  have hL0 : i32 ((zlen.getD i 0 : Nat) : Int) = ((zlen.getD i 0 : Nat) : Int) := i32_of (by omega) (by omega)
  refine zrunJ (g := g) (h1 := h) (r := vn) (rest := []) (va_runS (cc := mC j_lch) (nL := 2) (Ts := zW) (own := "java/lang/StringLatin1") (index := 9) (y := mN j_chk) (bytes := mC j_chk) (maxL := 2) (ret := mR j_chk) (n := 2) (As := [.int (Int32.ofInt z), .int (Int32.ofInt ((zlen.getD i 0 : Nat) : Int))]) (rest := []) ⟨hx, hb, hml, hown, hts⟩ (JM_chk hz0 hL0 h0 h1 l) ⟨callB_of 2 hts (zGood (zwd_in jw_chk.1)) rfl rfl rfl (hts _ jw_chk.2) (hts _ jk_chk) (by decide +kernel) ⟨Nat.le_refl _, Nat.le_of_ble_eq_true rfl⟩, hts _ js_chk⟩ ⟨zPv.blind, fun U hU hW => ⟨rfl, hG.warm hW va_S.rf hU, by rw [hU]; exact hR⟩⟩ rfl rfl hl.1 rfl (lv_room (by decide)) jd_lch_3 ⟨Nat.le_refl _, Nat.le_refl _⟩) va_S.rf (fun H1 locs1 hR1 hS1 => ?_)
  refine lv_aload_n hx hb jd_lch_6 rfl (lv_at hl 0 rfl) ?_
  refine lv_iload_n hx hb jd_lch_7 rfl (lv_at hl 1 rfl) ?_
  have hcl := o_clamp hz0 h0
  refine va_tb hx hb hT hS1 (o_in hz0 h0 h1) (v := .int ((zbI.getD i []).getD z.toNat 0)) (by rw [hcl]) jd_lch_8 ?_
  obtain ⟨b1, b2⟩ := zb_ok i hi z.toNat (by omega)
  refine lv_sipush (v := (Int16.ofInt 255).toInt32) hx hb jd_lch_9 rfl ?_
  refine lv_iand hx hb jd_lch_12 ?_
  refine lv_i2c hx hb jd_lch_13 (v := (zbI.getD i []).getD z.toNat 0) b1 ?_
  exact W.zret hx hb hr b2 (fun t ht hW => ⟨⟨by rw [show zrv g (vi ((zbI.getD i []).getD z.toNat 0).toInt) = some (.int (Int32.ofInt ((zbI.getD i []).getD z.toNat 0).toInt)) from rfl, o32], by rw [ht]; exact hR1, i32_i _⟩, hS1.F ht⟩) hS1.2.2 jd_lch_14 hlk
theorem JM_len {g : zG} {h : zH} {i : Nat} (hi : i < 6) (l : Launch) : Met l (mN j_len) (zwd j_len) (zrm j_len 0 0) (zPv g [.ref (gx g (i + 1))] h) (zQc g (vi ((zlen.getD i 0 : Nat) : Int)) h) 0 0 (zA g) := by
  refine zMetJ (C := "java/lang/String") l (by decide +kernel) rfl (Nat.le_of_ble_eq_true rfl) ?_
  intro p e s m below meth c ls hx hb hml hown hts hr hlk hG hR hl
  have hlt := zlen_lt i hi
  have hn : Int32.ofNat (zlen.getD i 0) = Int32.ofInt ((zlen.getD i 0 : Nat) : Int) := by rw [Int32.ofInt_eq_ofNat]
  have hL0 : i32 ((zlen.getD i 0 : Nat) : Int) = ((zlen.getD i 0 : Nat) : Int) := i32_of (by omega) (by omega)
  refine lv_aload_n hx hb jd_len_0 rfl (lv_at hl 0 rfl) ?_
  refine vk_getf hx hb (hG.2.2.1.1 i hi).2.2.1 va_S.rf hown (hts _ jl_value) (fun _ h9 => h9) jd_len_1 ?_
  refine va_tlen hx hb (hG.2.2.1.1 i hi).2.2.2 va_S.rf (v := Int32.ofInt ((zlen.getD i 0 : Nat) : Int)) hn jd_len_4 ?_
  refine lv_aload_n hx hb jd_len_5 rfl (lv_at hl 0 rfl) ?_
  refine zrunJ (g := g) (h1 := h) (r := vi 0) (rest := [.int (Int32.ofInt ((zlen.getD i 0 : Nat) : Int))]) (va_runV (cc := mC j_len) (nL := 1) (Ts := zW) (own := "java/lang/String") (C := "java/lang/String") (index := 335) (y := mN j_cod) (bytes := mC j_cod) (maxL := 1) (ret := mR j_cod) (n := 0) (b := gx g (i + 1)) (As := []) (rest := [.int (Int32.ofInt ((zlen.getD i 0 : Nat) : Int))]) ⟨hx, hb, hml, hown, hts⟩ (JM_cod hi l) ⟨callB_of 0 hts (zGood (zwd_in jw_cod.1)) rfl rfl rfl (hts _ jw_cod.2) (hts _ jv_cod) (by decide +kernel) ⟨Nat.le_refl _, Nat.le_of_ble_eq_true rfl⟩, hts _ jm_cod.1, hts _ jm_cod.2⟩ ⟨zPv.blind, vk_recv (i := i) (adK := fun i => gx g (i + 1)) hG.2.2.1 hi va_S.rf, fun U hU hW => ⟨rfl, hG.warm hW va_S.rf hU, by rw [hU]; exact hR⟩⟩ rfl rfl hl.1 rfl (lv_room (by simp [Value.category])) jd_len_6 ⟨Nat.le_refl _, Nat.le_refl _⟩) va_S.rf (fun H1 locs1 hR1 hS1 => ?_)
  refine lv_ishr (x := Int32.ofInt ((zlen.getD i 0 : Nat) : Int)) (y := Int32.ofInt 0) (rest := []) hx hb jd_len_9 ?_
  rw [show (Int32.ofInt ((zlen.getD i 0 : Nat) : Int)) >>> (Int32.ofInt 0 &&& 31) = Int32.ofInt ((zlen.getD i 0 : Nat) : Int) from (by
    have : ∀ i, i < 6 → (Int32.ofInt ((zlen.getD i 0 : Nat) : Int)) >>> (Int32.ofInt 0 &&& 31) = Int32.ofInt ((zlen.getD i 0 : Nat) : Int) := by decide +kernel
    exact this i hi)]
  exact W.iret hx hb hr (fun t ht hW => ⟨⟨rfl, by rw [ht]; exact hR1, hL0⟩, hS1.F ht⟩) hS1.2.2 jd_len_10 hlk
theorem JM_chr {g : zG} {h : zH} {i : Nat} (hi : i < 6) {z : Int} (hz0 : i32 z = z) (h0 : 0 ≤ z) (h1 : z < (zlen.getD i 0 : Nat)) (l : Launch) : Met l (mN j_chr) (zwd j_chr) (zrm j_chr 0 0) (zPv g [.ref (gx g (i + 1)), .int (Int32.ofInt z)] h) (zQc g (vi ((zbI.getD i []).getD z.toNat 0).toInt) h) 0 0 (zA g) := by
  refine zMetJ (C := "java/lang/String") l (by decide +kernel) rfl (Nat.le_of_ble_eq_true rfl) ?_
  intro p e s m below meth c ls hx hb hml hown hts hr hlk hG hR hl
  obtain ⟨b1, b2⟩ := zb_ok i hi z.toNat (by omega)
  refine lv_aload_n hx hb jd_chr_0 rfl (lv_at hl 0 rfl) ?_
  refine zrunJ (g := g) (h1 := h) (r := vi 1) (rest := []) (va_runV (cc := mC j_chr) (nL := 2) (Ts := zW) (own := "java/lang/String") (C := "java/lang/String") (index := 492) (y := mN j_lat) (bytes := mC j_lat) (maxL := 1) (ret := mR j_lat) (n := 0) (b := gx g (i + 1)) (As := []) (rest := []) ⟨hx, hb, hml, hown, hts⟩ (JM_lat hi l) ⟨callB_of 0 hts (zGood (zwd_in jw_lat.1)) rfl rfl rfl (hts _ jw_lat.2) (hts _ jv_lat) (by decide +kernel) ⟨Nat.le_of_ble_eq_true rfl, Nat.le_of_ble_eq_true rfl⟩, hts _ jm_lat.1, hts _ jm_lat.2⟩ ⟨zPv.blind, vk_recv (i := i) (adK := fun i => gx g (i + 1)) hG.2.2.1 hi va_S.rf, fun U hU hW => ⟨rfl, hG.warm hW va_S.rf hU, by rw [hU]; exact hR⟩⟩ rfl rfl hl.1 rfl (lv_room (by decide)) jd_chr_1 ⟨Nat.le_refl _, Nat.le_refl _⟩) va_S.rf (fun H1 locs1 hR1 hS1 => ?_)
  refine lv_if_eq (tgt := 16) (x := Int32.ofInt 1) (rest := []) hx hb jd_chr_4 (by decide) (fun q => absurd q (by decide)) (fun _ => ?_)
  refine lv_aload_n hx hb jd_chr_7 rfl (lv_at hl 0 rfl) ?_
  refine vk_getf hx hb (hG.2.2.1.1 i hi).2.2.1 hS1 hown (hts _ jl_value) (fun _ h9 => h9) jd_chr_8 ?_
  refine lv_iload_n hx hb jd_chr_11 rfl (lv_at hl 1 rfl) ?_
  refine zrunJ (g := g) (h1 := h) (r := vi ((zbI.getD i []).getD z.toNat 0).toInt) (rest := []) (va_runS (cc := mC j_chr) (nL := 2) (Ts := zW) (own := "java/lang/String") (index := 495) (y := mN j_lch) (bytes := mC j_lch) (maxL := 2) (ret := mR j_lch) (n := 2) (As := [.ref (gV g i), .int (Int32.ofInt z)]) (rest := []) ⟨hx, hb, hml, hown, hts⟩ (JM_lch hi hz0 h0 h1 l) ⟨callB_of 2 hts (zGood (zwd_in jw_lch.1)) rfl rfl rfl (hts _ jw_lch.2) (hts _ jk_lch) (by decide +kernel) ⟨Nat.le_refl _, Nat.le_of_ble_eq_true rfl⟩, hts _ js_lch⟩ ⟨zPv.blind, fun U hU hW => ⟨rfl, hG.warm hW hS1 hU, by rw [hU]; exact hR1⟩⟩ rfl rfl hl.1 rfl (lv_room (by decide)) jd_chr_12 ⟨Nat.le_refl _, Nat.le_refl _⟩) hS1 (fun H2 locs2 hR2 hS2 => ?_)
  rw [show (zrv g (vi ((zbI.getD i []).getD z.toNat 0).toInt)).toList ++ ([] : List Value) = [.int ((zbI.getD i []).getD z.toNat 0)] by rw [show zrv g (vi ((zbI.getD i []).getD z.toNat 0).toInt) = some (.int (Int32.ofInt ((zbI.getD i []).getD z.toNat 0).toInt)) from rfl, o32]; rfl]
  exact W.zret hx hb hr b2 (fun t ht hW => ⟨⟨by rw [show zrv g (vi ((zbI.getD i []).getD z.toNat 0).toInt) = some (.int (Int32.ofInt ((zbI.getD i []).getD z.toNat 0).toInt)) from rfl, o32], by rw [ht]; exact hR2, i32_i _⟩, hS2.F ht⟩) hS2.2.2 jd_chr_15 hlk
theorem zsl_inv {a : Nat} {n : Int} (e : zsl a = some n) : ∃ i, i < 6 ∧ a = zsa i ∧ n = ((zlen.getD i 0 : Nat) : Int) := by
  unfold zsl at e
  split at e
  · rename_i ha
    cases hq : zbyt[a - zsa 0]? with
    | none => rw [hq] at e; cases e
    | some bs =>
      rw [hq] at e
      cases e
      have hlt : a - zsa 0 < 6 := (List.getElem?_eq_some_iff.mp hq).1
      refine ⟨a - zsa 0, hlt, by unfold zsa at *; omega, ?_⟩
      have key : ∀ i, i < 6 → (zbyt[i]?).map List.length = some (zlen.getD i 0) := by decide +kernel
      have k1 := key _ hlt
      rw [hq] at k1
      have k1 : bs.length = zlen.getD (a - zsa 0) 0 := Option.some.inj k1
      show ((bs.length : Nat) : Int) = _
      rw [k1]
  · cases e
theorem zsc_inv {a : Nat} {z n : Int} (e : zsc a z = some n) : ∃ i, i < 6 ∧ a = zsa i ∧ 0 ≤ z ∧ z < ((zlen.getD i 0 : Nat) : Int) ∧ n = ((zbI.getD i []).getD z.toNat 0).toInt := by
  unfold zsc at e
  split at e
  · rename_i ha
    cases hq : zbyt[a - zsa 0]? with
    | none => rw [hq] at e; cases e
    | some bs =>
      rw [hq] at e
      simp only [Option.bind_some] at e
      have hlt : a - zsa 0 < 6 := (List.getElem?_eq_some_iff.mp hq).1
      have hj : z.toNat < bs.length := (List.getElem?_eq_some_iff.mp e).1
      have key : ∀ i, i < 6 → (zbyt[i]?).map List.length = some (zlen.getD i 0) := by decide +kernel
      have k1 := key _ hlt
      rw [hq] at k1
      have k1 : bs.length = zlen.getD (a - zsa 0) 0 := Option.some.inj k1
      refine ⟨a - zsa 0, hlt, by have := ha.1; unfold zsa at *; omega, ha.2, by rw [← k1]; omega, ?_⟩
      have key2 : ∀ i, i < 6 → ∀ j, j < zlen.getD i 0 → (zbyt[i]?).bind (fun l => l[j]?) = some ((zbI.getD i []).getD j 0).toInt := by decide +kernel
      have k2 := key2 _ hlt z.toNat (by rw [← k1]; exact hj)
      rw [hq] at k2
      simp only [Option.bind_some] at k2
      rw [e] at k2
      exact Option.some.inj k2
  · cases e
theorem zs_virtual {g : zG} {M : zMd} {p : Program} {l : Launch} {e : Env} {R : Room} {s : State} {m : MethodId} {args : Array Value} {below : List Frame} {meth : Method} {c : Code} {Q : State → Prop} {c0 s0 : Nat} {pc ln : Nat} {L st : List zV} {h : zH} {pc' : Nat} {L' st' : List zV} {h' : zH} {i : Nat} (X : zX g M p R s m args meth c) (hrm : h'.1.1 ≤ c0 + R.cells ∧ h'.1.2 ≤ s0 + R.slots) (d : ClassFile.decode (mC M) pc = .ok (.invokevirtual i, ln)) (E : stp M (.invokevirtual i) ln pc L st h = some (.inl (pc', L', st', h'))) (k : zAt g M p l e R s m args below meth c Q c0 s0 pc' L' st' h') : zAt g M p l e R s m args below meth c Q c0 s0 pc L st h := by
  replace E := zg_inv E
  obtain ⟨hln, E⟩ := E
  have hln : ln = 3 := by simpa using hln
  subst hln
  split at E
  · obtain ⟨-, E⟩ := zg_inv E
    obtain ⟨a, r, -, E⟩ := ta1_inv E
    obtain ⟨-, E⟩ := zg_inv E
    obtain ⟨-, E⟩ := zg_inv E
    cases E
  · split at E
    · rename_i u hf
      obtain ⟨a, r, rfl, E⟩ := ta1_inv E
      obtain ⟨n, hn, E⟩ := od_inv E
      obtain ⟨hgd, E⟩ := zg_inv E
      simp only [Bool.and_eq_true, decide_eq_true_eq] at hgd
      obtain ⟨⟨hg1, hg2⟩, hg3⟩ := hgd
      obtain ⟨rfl, rfl, rfl, rfl⟩ := zgo_inv E
      obtain ⟨j, hj, rfl, rfl⟩ := zsl_inv hn
      intro H locs cells slots ls hR hS hL hst hc hs
      obtain ⟨hx, hb, hml, hown, hts, hret, hlk, hini, hfr, hwd, hG⟩ := X
      have hr := (fa1 hst).2
      have hq := zTl_ok _ (zfind_mem hf)
      rw [List.map_cons, zv_r g (zsa_ne j), zsa_f g j]
      refine zrunJ (g := g) (h1 := h) (r := vi ((zlen.getD j 0 : Nat) : Int)) (rest := r.map (zv g)) (va_runV (cc := mC M) (nL := mL M) (Ts := zW) (own := zNm (mO M)) (C := "java/lang/String") (index := i) (y := mN j_len) (bytes := mC j_len) (maxL := 1) (ret := mR j_len) (n := 0) (b := gx g (j + 1)) (As := []) (rest := r.map (zv g)) ⟨hx, hb, hml, hown, hts⟩ (JM_len hj l) ⟨callB_of 0 hts (zGood (zwd_in jw_len.1)) rfl rfl rfl (hts _ jw_len.2) (hts _ hq) (by decide +kernel) ⟨?_, ?_⟩, hts _ jm_len.1, hts _ jm_len.2⟩ ⟨zPv.blind, vk_recv (i := j) (adK := fun i => gx g (i + 1)) hG.2.2.1 hj hS, fun U hU hW => ⟨rfl, hG.warm hW hS hU, by rw [hU]; exact hR⟩⟩ rfl rfl hL.1.1 rfl (lv_room (zrm8_ok hg3)) d ?_) hS (fun H1 locs1 hR1 hS1 => ?_)
      · show 1 + 1 ≤ R.frames
        omega
      · show 8 + (1 + 11) + 20 ≤ R.locals
        omega
      · omega
      · have hlt := zlen_lt j hj
        exact k H1 locs1 cells slots ls hR1 hS1 hL (fac (i32_of (by omega) (by omega)) hr) hc hs
    · obtain ⟨u, hf, E⟩ := od_inv E
      obtain ⟨a, z, r, rfl, E⟩ := ta2_inv E
      obtain ⟨n, hn, E⟩ := od_inv E
      obtain ⟨hgd, E⟩ := zg_inv E
      simp only [Bool.and_eq_true, decide_eq_true_eq] at hgd
      obtain ⟨⟨hg1, hg2⟩, hg3⟩ := hgd
      obtain ⟨rfl, rfl, rfl, rfl⟩ := zgo_inv E
      obtain ⟨j, hj, rfl, h0, h1, rfl⟩ := zsc_inv hn
      intro H locs cells slots ls hR hS hL hst hc hs
      obtain ⟨hx, hb, hml, hown, hts, hret, hlk, hini, hfr, hwd, hG⟩ := X
      obtain ⟨hz0, -, hr⟩ := fa2 hst
      have hq := zTc_ok _ (zfind_mem hf)
      rw [List.map_cons, List.map_cons, zv_r g (zsa_ne j), zsa_f g j]
      refine zrunJ (g := g) (h1 := h) (r := vi ((zbI.getD j []).getD z.toNat 0).toInt) (rest := r.map (zv g)) (va_runV (cc := mC M) (nL := mL M) (Ts := zW) (own := zNm (mO M)) (C := "java/lang/String") (index := i) (y := mN j_chr) (bytes := mC j_chr) (maxL := 2) (ret := mR j_chr) (n := 1) (b := gx g (j + 1)) (As := [.int (Int32.ofInt z)]) (rest := r.map (zv g)) ⟨hx, hb, hml, hown, hts⟩ (JM_chr hj hz0 h0 h1 l) ⟨callB_of 1 hts (zGood (zwd_in jw_chr.1)) rfl rfl rfl (hts _ jw_chr.2) (hts _ hq) (by decide +kernel) ⟨?_, ?_⟩, hts _ jm_chr.1, hts _ jm_chr.2⟩ ⟨zPv.blind, vk_recv (i := j) (adK := fun i => gx g (i + 1)) hG.2.2.1 hj hS, fun U hU hW => ⟨rfl, hG.warm hW hS hU, by rw [hU]; exact hR⟩⟩ rfl rfl hL.1.1 rfl (lv_room (zrm8_ok hg3)) d ?_) hS (fun H1 locs1 hR1 hS1 => ?_)
      · show 3 + 1 ≤ R.frames
        omega
      · show 8 + (2 + 11) + 64 ≤ R.locals
        omega
      · omega
      · have k2 := k H1 locs1 cells slots ls hR1 hS1 hL (fac (i32_i _) hr) hc hs
        exact k2

