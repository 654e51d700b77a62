/-! bread -/
def hun (f : Nat → Int) (g : Nat) : Int := if f (50 + 7 * g) = 2 then 0 else 99 - f (49 + 7 * g)
/-- one's part lost, and whether he comes sooner -/
def brR (f : Nat → Int) (m a : Int) (g : Nat) : Int := m * hun f g % a
def brS (f : Nat → Int) (m a o : Int) (p g : Nat) : Int := if brR f m a g > o ∨ brR f m a g = o ∧ g < p then 1 else 0
def brM (f : Nat → Int) (m a o : Int) (p g : Nat) : Int := if (brR f m a g > o ∨ brR f m a g = o ∧ g < p) ∧ ¬ f (50 + 7 * g) = 2 then 1 else 0
theorem sumN_mul {g : Nat → Int} {m : Int} : ∀ n, sumN (fun j => m * g j) n = m * sumN g n
  | 0 => by simp [sumN]
  | n + 1 => by rw [sumN, sumN, sumN_mul n, Int.mul_add]
theorem sumN_add {g h : Nat → Int} : ∀ n, sumN (fun j => g j + h j) n = sumN g n + sumN h n
  | 0 => by simp [sumN]
  | n + 1 => by rw [sumN, sumN, sumN, sumN_add n]; omega
theorem sumN_le {g h : Nat → Int} : ∀ n, (∀ j, j < n → g j ≤ h j) → sumN g n ≤ sumN h n
  | 0, _ => by simp [sumN]
  | n + 1, k => by
    rw [sumN, sumN]
    have := sumN_le n (fun j hj => k j (by omega))
    have := k n (by omega)
    omega
theorem hun_b {f : Nat → Int} {G g : Nat} (h : wok f G) (hg : g < G) : 0 ≤ hun f g ∧ hun f g ≤ 99 := by
  have gk := h.2.2.2.2.2.2 g hg
  unfold gok at gk
  unfold hun
  split <;> omega
/-- what is left is no more than those who lost something -/
theorem br_left {f : Nat → Int} {G : Nat} {m a : Int} (ha : 0 < a) (ea : a = sumN (hun f) G) : m - sumN (fun g => m * hun f g / a) G ≤ sumN (fun g => if 0 < brR f m a g then 1 else 0) G := by
  have e1 : sumN (fun g => m * hun f g) G = m * a := by rw [sumN_mul, ea]
  have e2 : sumN (fun g => m * hun f g) G = a * sumN (fun g => m * hun f g / a) G + sumN (brR f m a) G := by
    rw [← sumN_mul, ← sumN_add]
    exact sumN_c G (fun j _ => by unfold brR; rw [Int.mul_ediv_add_emod])
  have e3 : sumN (brR f m a) G ≤ (a - 1) * sumN (fun g => if 0 < brR f m a g then 1 else 0) G := by
    rw [← sumN_mul]
    refine sumN_le G (fun j _ => ?_)
    have b1 := Int.emod_lt_of_pos (m * hun f j) ha
    have b2 := Int.emod_nonneg (m * hun f j) (show a ≠ 0 by omega)
    show brR f m a j ≤ (a - 1) * (if 0 < brR f m a j then 1 else 0)
    unfold brR at *
    split <;> omega
  generalize sumN (fun g => m * hun f g / a) G = S at *
  have e4 := (sumN_bd (g := fun g => if 0 < brR f m a g then (1 : Int) else 0) (b := 1) G (fun j _ => by show 0 ≤ (if _ then (1 : Int) else 0) ∧ (if _ then (1 : Int) else 0) ≤ 1; split <;> omega)).1
  generalize sumN (fun g => if 0 < brR f m a g then (1 : Int) else 0) G = N at *
  have e5 : (m - S) * a ≤ (a - 1) * N := by
    have : (m - S) * a = m * a - a * S := by rw [Int.sub_mul, Int.mul_comm S a]
    omega
  by_cases q : m - S ≤ N
  · exact q
  · have : (N + 1) * a ≤ (m - S) * a := Int.mul_le_mul_of_nonneg_right (by omega) (by omega)
    have e6 : (N + 1) * a = N * a + a := by rw [Int.add_mul, Int.one_mul]
    have e7 : (a - 1) * N = N * a - N := by rw [Int.sub_mul, Int.one_mul, Int.mul_comm]
    omega
/-- both count alike, as far as it matters -/
theorem br_same {f : Nat → Int} {G : Nat} {m a : Int} {p : Nat} (hw : wok f G) (ha : 0 < a) (ea : a = sumN (hun f) G) (m0 : 0 ≤ m) : (sumN (brS f m a (brR f m a p) p) G < m - sumN (fun g => m * hun f g / a) G) ↔ (sumN (brM f m a (brR f m a p) p) G < m - sumN (fun g => m * hun f g / a) G) := by
  have bl := br_left (m := m) ha ea
  have b2 := Int.emod_nonneg (m * hun f p) (show a ≠ 0 by omega)
  have ls : ∀ g, f (50 + 7 * g) = 2 → brR f m a g = 0 := fun g hg => by unfold brR hun; rw [if_pos hg, Int.mul_zero, Int.zero_emod]
  by_cases q : brR f m a p = 0
  · have k1 : sumN (fun g => if 0 < brR f m a g then (1 : Int) else 0) G ≤ sumN (brM f m a (brR f m a p) p) G := sumN_le G (fun j _ => by
      unfold brM
      show (if 0 < brR f m a j then (1 : Int) else 0) ≤ _
      by_cases y : 0 < brR f m a j
      · rw [if_pos y, if_pos ⟨Or.inl (by omega), fun z => by rw [ls j z] at y; omega⟩]; omega
      · rw [if_neg y]; split <;> omega)
    have k2 : sumN (fun g => if 0 < brR f m a g then (1 : Int) else 0) G ≤ sumN (brS f m a (brR f m a p) p) G := sumN_le G (fun j _ => by
      unfold brS
      show (if 0 < brR f m a j then (1 : Int) else 0) ≤ _
      by_cases y : 0 < brR f m a j
      · rw [if_pos y, if_pos (Or.inl (by omega))]; omega
      · rw [if_neg y]; split <;> omega)
    constructor <;> intro _ <;> omega
  · have e : sumN (brS f m a (brR f m a p) p) G = sumN (brM f m a (brR f m a p) p) G := sumN_c G (fun j _ => by
      unfold brS brM
      by_cases y : brR f m a j > brR f m a p ∨ brR f m a j = brR f m a p ∧ j < p
      · have : ¬ f (50 + 7 * j) = 2 := fun z => by
          have := ls j z
          unfold brR at *
          omega
        rw [if_pos y, if_pos ⟨y, this⟩]
      · rw [if_neg y, if_neg (fun z => y z.1)])
    rw [e]
section BR
variable {A F : Nat → Nat → Int} {E : zE} {G p : Nat}
theorem E_hunger {g : Nat} (hg : g ≤ 4) (h0 : 0 ≤ A 13 (49 + 7 * g)) (h1 : A 13 (49 + 7 * g) ≤ 99) : cl mX10_hungerOf [vr 1, vi (g : Int)] (HP A F E) = some (vi (hun (A 13) g), HP A F E) := by
  have st : cl mX9_of [vr 12, vi (g : Int), vi 3] (HP A F E) = some (vi (A 13 (50 + 7 * g)), HP A F E) := by
    rw [h_of wad_12 (by omega) (by omega) (by omega) (by omega), show (47 + 7 * (g : Int) + 3).toNat = 50 + 7 * g by omega]
  have fd : cl mX9_of [vr 12, vi (g : Int), vi 2] (HP A F E) = some (vi (A 13 (49 + 7 * g)), HP A F E) := by
    rw [h_of wad_12 (by omega) (by omega) (by omega) (by omega), show (47 + 7 * (g : Int) + 2).toNat = 49 + 7 * g by omega]
  unfold hun
  by_cases z : A 13 (50 + 7 * g) = 2
  · rw [if_pos z]
    simp (disch := omega) only [eX10_hungerOf, sX10_hungerOf_0, sX10_hungerOf_1, sX10_hungerOf_4, sX10_hungerOf_5, sX10_hungerOf_6, sX10_hungerOf_9, sX10_hungerOf_10, sX10_hungerOf_13, sX10_hungerOf_14, sX10_hungerOf_17, sX10_hungerOf_19, sX10_hungerOf_20, sX10_hungerOf_23, sX10_hungerOf_24, sX10_hungerOf_25, sX10_hungerOf_28, sX10_hungerOf_29, ↓hf1_8, ↓hk12, ↓bndi_at st, ↓if_pos, ↓if_neg]
  · rw [if_neg z]
    simp (disch := omega) only [eX10_hungerOf, sX10_hungerOf_0, sX10_hungerOf_1, sX10_hungerOf_4, sX10_hungerOf_5, sX10_hungerOf_6, sX10_hungerOf_9, sX10_hungerOf_10, sX10_hungerOf_13, sX10_hungerOf_14, sX10_hungerOf_17, sX10_hungerOf_19, sX10_hungerOf_20, sX10_hungerOf_23, sX10_hungerOf_24, sX10_hungerOf_25, sX10_hungerOf_28, sX10_hungerOf_29, ↓hf1_8, ↓hk12, ↓bndi_at st, ↓bndi_at fd, ↓if_pos, ↓if_neg, i32_of]
theorem m_short {g : Nat} {f : Nat → Int} (hs : sdr (A 113) f) (hg : g ≤ 4) (h0 : 0 ≤ f (49 + 7 * g)) (h1 : f (49 + 7 * g) ≤ 99) : cl mX11_shortOf [vr 103, vi (g : Int)] (HP A F E) = some (vi (hun f g), HP A F E) := by
  have st := m_statusOf (A := A) (F := F) (E := E) hg
  have fd := m_foodOf (A := A) (F := F) (E := E) hg
  rw [(sd_g hs (by omega)).2.2.1] at st
  rw [(sd_g hs (by omega)).2.1] at fd
  unfold hun
  by_cases z : f (50 + 7 * g) = 2
  · rw [if_pos z]
    simp (disch := omega) only [eX11_shortOf, sX11_shortOf_0, sX11_shortOf_1, sX11_shortOf_2, sX11_shortOf_5, sX11_shortOf_6, sX11_shortOf_9, sX11_shortOf_10, sX11_shortOf_13, sX11_shortOf_15, sX11_shortOf_16, sX11_shortOf_17, sX11_shortOf_20, sX11_shortOf_21, ↓hk103, ↓bndi_at st, ↓if_pos, ↓if_neg]
  · rw [if_neg z]
    simp (disch := omega) only [eX11_shortOf, sX11_shortOf_0, sX11_shortOf_1, sX11_shortOf_2, sX11_shortOf_5, sX11_shortOf_6, sX11_shortOf_9, sX11_shortOf_10, sX11_shortOf_13, sX11_shortOf_15, sX11_shortOf_16, sX11_shortOf_17, sX11_shortOf_20, sX11_shortOf_21, ↓hk103, ↓bndi_at st, ↓bndi_at fd, ↓if_pos, ↓if_neg, i32_of]
theorem wok_fd {f : Nat → Int} {g : Nat} (h : wok f G) (hg : g < G) : 0 ≤ f (49 + 7 * g) ∧ f (49 + 7 * g) ≤ 99 := by
  have gk := h.2.2.2.2.2.2 g hg
  unfold gok at gk
  exact gk.2.1
theorem c_br1 {m : Int} {x5 x6 x7 x8 : zV} (ho : wok (A 13) G) : ∀ (n k : Nat), k + n = G → rn mX10_bread 26 [vr 1, vi m, vi (p : Int), vi (sumN (hun (A 13)) k), vi (k : Int), x5, x6, x7, x8] [] (HP A F E) = rn mX10_bread 50 [vr 1, vi m, vi (p : Int), vi (sumN (hun (A 13)) G), vi (G : Int), x5, x6, x7, x8] [] (HP A F E) := by
  have hG5 := ho.2.1
  intro n
  induction n with
  | zero =>
    intro k hk
    have : k = G := by omega
    subst this
    rw [sX10_bread_26]
    simp (disch := omega) only [eX10_bread, sX10_bread_0, sX10_bread_1, sX10_bread_2, sX10_bread_5, sX10_bread_8, sX10_bread_9, sX10_bread_10, sX10_bread_13, sX10_bread_16, sX10_bread_19, sX10_bread_20, sX10_bread_21, sX10_bread_22, sX10_bread_23, sX10_bread_24, sX10_bread_28, sX10_bread_29, sX10_bread_32, sX10_bread_35, sX10_bread_36, sX10_bread_37, sX10_bread_39, sX10_bread_42, sX10_bread_43, sX10_bread_44, sX10_bread_47, sX10_bread_51, sX10_bread_54, sX10_bread_55, sX10_bread_56, sX10_bread_57, sX10_bread_59, sX10_bread_60, sX10_bread_62, sX10_bread_63, sX10_bread_64, sX10_bread_65, sX10_bread_68, sX10_bread_69, sX10_bread_70, sX10_bread_71, sX10_bread_73, sX10_bread_74, sX10_bread_78, sX10_bread_79, sX10_bread_82, sX10_bread_85, sX10_bread_86, sX10_bread_87, sX10_bread_89, sX10_bread_92, sX10_bread_93, sX10_bread_94, sX10_bread_95, sX10_bread_97, sX10_bread_99, sX10_bread_100, sX10_bread_101, sX10_bread_103, sX10_bread_106, sX10_bread_107, sX10_bread_108, sX10_bread_109, sX10_bread_110, sX10_bread_112, sX10_bread_114, sX10_bread_116, sX10_bread_119, sX10_bread_121, sX10_bread_123, sX10_bread_126, sX10_bread_128, sX10_bread_129, sX10_bread_132, sX10_bread_135, sX10_bread_138, sX10_bread_141, sX10_bread_142, sX10_bread_143, sX10_bread_144, sX10_bread_147, sX10_bread_148, sX10_bread_149, sX10_bread_150, sX10_bread_152, sX10_bread_154, sX10_bread_157, sX10_bread_158, sX10_bread_161, sX10_bread_162, sX10_bread_163, ↓hk1, ↓bndi_at E_goers, ho.1, ↓if_pos]
  | succ n ih =>
    intro k hk
    have i := ih (k + 1) (by omega)
    have hb := wok_fd ho (show k < G by omega)
    have hu := E_hunger (A := A) (F := F) (E := E) (g := k) (by omega) hb.1 hb.2
    have sb := sumN_bd (g := hun (A 13)) (b := 99) k (fun j hj => hun_b ho (by omega))
    have hk2 := hun_b ho (show k < G by omega)
    rw [← i, sX10_bread_26, sumN]
    simp (disch := omega) only [eX10_bread, sX10_bread_0, sX10_bread_1, sX10_bread_2, sX10_bread_5, sX10_bread_8, sX10_bread_9, sX10_bread_10, sX10_bread_13, sX10_bread_16, sX10_bread_19, sX10_bread_20, sX10_bread_21, sX10_bread_22, sX10_bread_23, sX10_bread_24, sX10_bread_28, sX10_bread_29, sX10_bread_32, sX10_bread_35, sX10_bread_36, sX10_bread_37, sX10_bread_39, sX10_bread_42, sX10_bread_43, sX10_bread_44, sX10_bread_47, sX10_bread_51, sX10_bread_54, sX10_bread_55, sX10_bread_56, sX10_bread_57, sX10_bread_59, sX10_bread_60, sX10_bread_62, sX10_bread_63, sX10_bread_64, sX10_bread_65, sX10_bread_68, sX10_bread_69, sX10_bread_70, sX10_bread_71, sX10_bread_73, sX10_bread_74, sX10_bread_78, sX10_bread_79, sX10_bread_82, sX10_bread_85, sX10_bread_86, sX10_bread_87, sX10_bread_89, sX10_bread_92, sX10_bread_93, sX10_bread_94, sX10_bread_95, sX10_bread_97, sX10_bread_99, sX10_bread_100, sX10_bread_101, sX10_bread_103, sX10_bread_106, sX10_bread_107, sX10_bread_108, sX10_bread_109, sX10_bread_110, sX10_bread_112, sX10_bread_114, sX10_bread_116, sX10_bread_119, sX10_bread_121, sX10_bread_123, sX10_bread_126, sX10_bread_128, sX10_bread_129, sX10_bread_132, sX10_bread_135, sX10_bread_138, sX10_bread_141, sX10_bread_142, sX10_bread_143, sX10_bread_144, sX10_bread_147, sX10_bread_148, sX10_bread_149, sX10_bread_150, sX10_bread_152, sX10_bread_154, sX10_bread_157, sX10_bread_158, sX10_bread_161, sX10_bread_162, sX10_bread_163, ↓hk1, ↓bndi_at E_goers, ho.1, ↓bndi_at hu, ↓if_neg, i32_of]
    rfl
theorem m_br1 {m : Int} {f : Nat → Int} {x5 x6 x7 x8 x9 : zV} (hs : sdr (A 113) f) (ho : wok f G) : ∀ (n k : Nat), k + n = G → rn mX11_bread 27 [vr 103, vi m, vi (p : Int), vi (sumN (hun f) k), vi (k : Int), x5, x6, x7, x8, x9] [] (HP A F E) = rn mX11_bread 53 [vr 103, vi m, vi (p : Int), vi (sumN (hun f) G), vi (G : Int), x5, x6, x7, x8, x9] [] (HP A F E) := by
  have hG5 := ho.2.1
  have hG : A 113 2 = (G : Int) := by rw [sd_1 hs]; exact ho.1
  intro n
  induction n with
  | zero =>
    intro k hk
    have : k = G := by omega
    subst this
    rw [sX11_bread_27]
    simp (disch := omega) only [eX11_bread, sX11_bread_0, sX11_bread_1, sX11_bread_2, sX11_bread_5, sX11_bread_8, sX11_bread_9, sX11_bread_10, sX11_bread_11, sX11_bread_14, sX11_bread_17, sX11_bread_20, sX11_bread_21, sX11_bread_22, sX11_bread_23, sX11_bread_24, sX11_bread_25, sX11_bread_29, sX11_bread_30, sX11_bread_33, sX11_bread_34, sX11_bread_35, sX11_bread_38, sX11_bread_39, sX11_bread_40, sX11_bread_42, sX11_bread_45, sX11_bread_46, sX11_bread_47, sX11_bread_50, sX11_bread_54, sX11_bread_57, sX11_bread_58, sX11_bread_59, sX11_bread_62, sX11_bread_63, sX11_bread_66, sX11_bread_67, sX11_bread_68, sX11_bread_69, sX11_bread_70, sX11_bread_71, sX11_bread_74, sX11_bread_75, sX11_bread_77, sX11_bread_78, sX11_bread_80, sX11_bread_81, sX11_bread_83, sX11_bread_84, sX11_bread_88, sX11_bread_89, sX11_bread_92, sX11_bread_93, sX11_bread_94, sX11_bread_97, sX11_bread_98, sX11_bread_99, sX11_bread_101, sX11_bread_104, sX11_bread_105, sX11_bread_107, sX11_bread_109, sX11_bread_111, sX11_bread_112, sX11_bread_113, sX11_bread_114, sX11_bread_116, sX11_bread_118, sX11_bread_119, sX11_bread_120, sX11_bread_122, sX11_bread_123, sX11_bread_124, sX11_bread_127, sX11_bread_129, sX11_bread_130, sX11_bread_131, sX11_bread_133, sX11_bread_134, sX11_bread_135, sX11_bread_138, sX11_bread_140, sX11_bread_141, sX11_bread_144, sX11_bread_145, sX11_bread_148, sX11_bread_149, sX11_bread_151, sX11_bread_153, sX11_bread_155, sX11_bread_158, sX11_bread_159, sX11_bread_161, sX11_bread_164, sX11_bread_165, sX11_bread_168, sX11_bread_169, sX11_bread_172, sX11_bread_173, sX11_bread_174, sX11_bread_176, sX11_bread_179, sX11_bread_182, sX11_bread_184, sX11_bread_185, sX11_bread_186, sX11_bread_188, sX11_bread_190, sX11_bread_193, sX11_bread_194, sX11_bread_197, sX11_bread_198, sX11_bread_199, ↓hf103_20, ↓hg113, Int.reduceToNat, hG, ↓if_pos]
  | succ n ih =>
    intro k hk
    have i := ih (k + 1) (by omega)
    have hb := wok_fd ho (show k < G by omega)
    have hu := m_short (A := A) (F := F) (E := E) (g := k) hs (by omega) hb.1 hb.2
    have sb := sumN_bd (g := hun f) (b := 99) k (fun j hj => hun_b ho (by omega))
    have hk2 := hun_b ho (show k < G by omega)
    rw [← i, sX11_bread_27, sumN]
    simp (disch := omega) only [eX11_bread, sX11_bread_0, sX11_bread_1, sX11_bread_2, sX11_bread_5, sX11_bread_8, sX11_bread_9, sX11_bread_10, sX11_bread_11, sX11_bread_14, sX11_bread_17, sX11_bread_20, sX11_bread_21, sX11_bread_22, sX11_bread_23, sX11_bread_24, sX11_bread_25, sX11_bread_29, sX11_bread_30, sX11_bread_33, sX11_bread_34, sX11_bread_35, sX11_bread_38, sX11_bread_39, sX11_bread_40, sX11_bread_42, sX11_bread_45, sX11_bread_46, sX11_bread_47, sX11_bread_50, sX11_bread_54, sX11_bread_57, sX11_bread_58, sX11_bread_59, sX11_bread_62, sX11_bread_63, sX11_bread_66, sX11_bread_67, sX11_bread_68, sX11_bread_69, sX11_bread_70, sX11_bread_71, sX11_bread_74, sX11_bread_75, sX11_bread_77, sX11_bread_78, sX11_bread_80, sX11_bread_81, sX11_bread_83, sX11_bread_84, sX11_bread_88, sX11_bread_89, sX11_bread_92, sX11_bread_93, sX11_bread_94, sX11_bread_97, sX11_bread_98, sX11_bread_99, sX11_bread_101, sX11_bread_104, sX11_bread_105, sX11_bread_107, sX11_bread_109, sX11_bread_111, sX11_bread_112, sX11_bread_113, sX11_bread_114, sX11_bread_116, sX11_bread_118, sX11_bread_119, sX11_bread_120, sX11_bread_122, sX11_bread_123, sX11_bread_124, sX11_bread_127, sX11_bread_129, sX11_bread_130, sX11_bread_131, sX11_bread_133, sX11_bread_134, sX11_bread_135, sX11_bread_138, sX11_bread_140, sX11_bread_141, sX11_bread_144, sX11_bread_145, sX11_bread_148, sX11_bread_149, sX11_bread_151, sX11_bread_153, sX11_bread_155, sX11_bread_158, sX11_bread_159, sX11_bread_161, sX11_bread_164, sX11_bread_165, sX11_bread_168, sX11_bread_169, sX11_bread_172, sX11_bread_173, sX11_bread_174, sX11_bread_176, sX11_bread_179, sX11_bread_182, sX11_bread_184, sX11_bread_185, sX11_bread_186, sX11_bread_188, sX11_bread_190, sX11_bread_193, sX11_bread_194, sX11_bread_197, sX11_bread_198, sX11_bread_199, ↓hk103, ↓hf103_20, ↓hg113, Int.reduceToNat, hG, ↓bndi_at hu, ↓if_neg, i32_of]
    rfl
end BR
