/-! fault, look -/
section FL
variable {σ σ' : ir_S} {N m F C K : Nat} {LA LB : Nat → Nat}
def fkB (σ : ir_S) (N m : Nat) (k a b c : Int32) : Bool :=
  if k = 0 then inr a (nI m) else if k = 1 then isHo σ a else if k = 2 then inr a 6 && isHo σ b else if k = 3 then isWa σ a && (isHo σ b && inr c 4)
  else if k = 4 then isGa σ a && (isHo σ b && (inr c (nI N) && !decide (c = a))) else if k = 5 then isHo σ a && inr b 4 else false
theorem cLine {d : Nat} {v : Int32} (r : R1 σ N m LA LB) : ir_ev (d + 1) 27 [.ref 1, .int v] σ = some (some (.int (ir_b (inr v (nI m)))), σ) := by
  have e : isLi σ v = inr v (σ 1 5) := rfl
  rw [c27, e, r.2.2.2.2.1]
theorem mLine {d : Nat} {v : Int32} (r : R1 σ N m LA LB) : ir_ev (d + 1) 119 [.long v.toInt64, .long 0, .long (nI m - 1).toInt64] σ = some (some (.int (ir_b (inr v (nI m)))), σ) := by
  have hm := r.2.1
  rw [c119, in_k1 (n_nn (by omega))]
theorem out6 {k : Int32} (h : k.toInt < 0 ∨ 5 < k.toInt) : ¬ k = 0 ∧ ¬ k = 1 ∧ ¬ k = 2 ∧ ¬ k = 3 ∧ ¬ k = 4 ∧ ¬ k = 5 := by
  have h0 : (0 : Int32).toInt = 0 := by decide
  have h1 : (1 : Int32).toInt = 1 := by decide
  have h2 : (2 : Int32).toInt = 2 := by decide
  have h3 : (3 : Int32).toInt = 3 := by decide
  have h4 : (4 : Int32).toInt = 4 := by decide
  have h5 : (5 : Int32).toInt = 5 := by decide
  refine ⟨?_, ?_, ?_, ?_, ?_, ?_⟩ <;> (intro e; subst e; omega)
theorem c108 {d : Nat} {k a b c : Int32} (r : R1 σ N m LA LB) : ir_ev (d + 2) 108 [.ref 0, .int k, .int a, .int b, .int c] σ = some (some (.int (ir_b (fkB σ N m k a b c))), σ) := by
  have q := q14 r
  rcases cases6 k with (rfl | rfl | rfl | rfl | rfl | rfl) | hv
  · simp only [e108, s108_0, s108_1c0, s108_40, s108_41, s108_44, s108_45, s108_48z, s108_48o, s108_48b, cLine r, ir_k_i, ir_tl_i]
    rfl
  · simp only [e108, s108_0, s108_1c1, s108_49, s108_50, s108_53, s108_54, s108_57z, s108_57o, s108_57b, c24 q, ir_k_i, ir_tl_i]
    rfl
  · have e : fkB σ N m 2 a b c = (inr a 6 && isHo σ b) := rfl
    rw [e]
    simp only [e108, s108_0, s108_1c2, s108_58, s108_59, s108_62, s108_65, s108_66, s108_69, s108_70, s108_73, s108_76, s108_77, s108_80, s108_81z, s108_81o, s108_81b, c24 q, c104, ir_k_i, ir_tl_i]
    cases inr a 6 <;> cases isHo σ b <;> simp [ir_b]
  · have e : fkB σ N m 3 a b c = (isWa σ a && (isHo σ b && inr c 4)) := rfl
    rw [e]
    simp only [e108, s108_0, s108_1c3, s108_82, s108_83, s108_86, s108_87, s108_90, s108_93, s108_94, s108_97, s108_98, s108_101, s108_104, s108_106, s108_109, s108_112, s108_113, s108_116, s108_117z, s108_117o, s108_117b, c25 q, c24 q, c103, ir_k_i, ir_tl_i]
    cases isWa σ a <;> cases isHo σ b <;> cases inr c 4 <;> simp [ir_b]
  · have e : fkB σ N m 4 a b c = (isGa σ a && (isHo σ b && (inr c (nI N) && !decide (c = a)))) := rfl
    rw [e]
    simp only [e108, s108_0, s108_1c4, s108_118, s108_119, s108_122, s108_123, s108_126, s108_129, s108_130, s108_133, s108_134, s108_137, s108_140, s108_141, s108_144, s108_146, s108_149, s108_152, s108_154, s108_155, s108_158, s108_159, s108_162, s108_163z, s108_163o, s108_163b, c26 q, c24 q, cNode r, ir_k_i, ir_tl_i]
    by_cases hca : c = a <;> cases isGa σ a <;> cases isHo σ b <;> cases inr c (nI N) <;> simp [ir_b, hca]
  · have e : fkB σ N m 5 a b c = (isHo σ a && inr b 4) := rfl
    rw [e]
    simp only [e108, s108_0, s108_1c5, s108_164, s108_165, s108_168, s108_169, s108_172, s108_175, s108_176, s108_179, s108_182, s108_183, s108_186, s108_187z, s108_187o, s108_187b, c24 q, c103, ir_k_i, ir_tl_i]
    cases isHo σ a <;> cases inr b 4 <;> simp [ir_b]
  · obtain ⟨h0, h1, h2, h3, h4, h5⟩ := out6 hv
    have e : fkB σ N m k a b c = false := by unfold fkB; rw [if_neg h0, if_neg h1, if_neg h2, if_neg h3, if_neg h4, if_neg h5]
    rw [e]
    simp only [e108, s108_0, s108_1d hv, s108_188, s108_189z, s108_189o, s108_189b]
    rfl
theorem m143_mid {d : Nat} {k a b c : Int32} (r : R0 σ N m F C K LA LB) : ir_run (ir_ev (d + 4)) 143 (5, [.ref 33, .int k, .int a, .int b, .int c, .null], [], σ) = ir_run (ir_ev (d + 4)) 143 (262, [.ref 33, .int k, .int a, .int b, .int c, .int (ir_b (decide (F < 12) && fkB σ N m k a b c))], [], σ) := by
  have hF := r.2.2.1.1
  have e12 := r.2.2.1.2.2.1
  have e3 := r.1.2.2.2.2.2.1
  have hst : ir_run (ir_ev (d + 4)) 143 (5, [.ref 33, .int k, .int a, .int b, .int c, .null], [], σ) = ir_run (ir_ev (d + 4)) 143 (22, [.ref 33, .int k, .int a, .int b, .int c, .int (ir_b (decide (F < 12)))], [.int k], σ) := by
    by_cases hf : F < 12
    · have hf' : ¬ 12 ≤ F := by omega
      simp (disch := omega) only [s143_5, s143_6, s143_9, s143_11, s143_14, s143_15, s143_19, s143_21, e12, n_lt_0, n_le_0, n_tl_0, n_el_0, n_eq_0, n_ad_0, n_lt_1, n_le_1, n_tl_1, n_el_1, n_eq_1, n_ad_1, n_lt_2, n_le_2, n_tl_2, n_el_2, n_eq_2, n_ad_2, n_lt_3, n_le_3, n_tl_3, n_el_3, n_eq_3, n_ad_3, n_lt_4, n_le_4, n_tl_4, n_el_4, n_eq_4, n_ad_4, n_lt_5, n_le_5, n_tl_5, n_el_5, n_eq_5, n_ad_5, n_lt_6, n_le_6, n_tl_6, n_el_6, n_eq_6, n_ad_6, n_lt_10, n_le_10, n_tl_10, n_el_10, n_eq_10, n_ad_10, n_lt_11, n_le_11, n_tl_11, n_el_11, n_eq_11, n_ad_11, n_lt_12, n_le_12, n_tl_12, n_el_12, n_eq_12, n_ad_12, n_lt_13, n_le_13, n_tl_13, n_el_13, n_eq_13, n_ad_13, n_lt_15, n_le_15, n_tl_15, n_el_15, n_eq_15, n_ad_15, n_lt_20, n_le_20, n_tl_20, n_el_20, n_eq_20, n_ad_20, n_lt_30, n_le_30, n_tl_30, n_el_30, n_eq_30, n_ad_30, n_lt_31, n_le_31, n_tl_31, n_el_31, n_eq_31, n_ad_31, n_lt_32, n_le_32, n_tl_32, n_el_32, n_eq_32, n_ad_32, n_lt_60, n_le_60, n_tl_60, n_el_60, n_eq_60, n_ad_60, n_lt_99, n_le_99, n_tl_99, n_el_99, n_eq_99, n_ad_99, n_lt_100, n_le_100, n_tl_100, n_el_100, n_eq_100, n_ad_100, n_lt_144, n_le_144, n_tl_144, n_el_144, n_eq_144, n_ad_144, n_lt_4096, n_le_4096, n_tl_4096, n_el_4096, n_eq_4096, n_ad_4096, n_mulK, nI_add, pk_mul, n_lt, n_le, n_eq, n_eqM, n_ix, n_cl, if_neg hf', hf, decide_true, ir_b_t]
    · have hf' : 12 ≤ F := by omega
      simp (disch := omega) only [s143_5, s143_6, s143_9, s143_11, s143_18, s143_19, s143_21, e12, n_lt_0, n_le_0, n_tl_0, n_el_0, n_eq_0, n_ad_0, n_lt_1, n_le_1, n_tl_1, n_el_1, n_eq_1, n_ad_1, n_lt_2, n_le_2, n_tl_2, n_el_2, n_eq_2, n_ad_2, n_lt_3, n_le_3, n_tl_3, n_el_3, n_eq_3, n_ad_3, n_lt_4, n_le_4, n_tl_4, n_el_4, n_eq_4, n_ad_4, n_lt_5, n_le_5, n_tl_5, n_el_5, n_eq_5, n_ad_5, n_lt_6, n_le_6, n_tl_6, n_el_6, n_eq_6, n_ad_6, n_lt_10, n_le_10, n_tl_10, n_el_10, n_eq_10, n_ad_10, n_lt_11, n_le_11, n_tl_11, n_el_11, n_eq_11, n_ad_11, n_lt_12, n_le_12, n_tl_12, n_el_12, n_eq_12, n_ad_12, n_lt_13, n_le_13, n_tl_13, n_el_13, n_eq_13, n_ad_13, n_lt_15, n_le_15, n_tl_15, n_el_15, n_eq_15, n_ad_15, n_lt_20, n_le_20, n_tl_20, n_el_20, n_eq_20, n_ad_20, n_lt_30, n_le_30, n_tl_30, n_el_30, n_eq_30, n_ad_30, n_lt_31, n_le_31, n_tl_31, n_el_31, n_eq_31, n_ad_31, n_lt_32, n_le_32, n_tl_32, n_el_32, n_eq_32, n_ad_32, n_lt_60, n_le_60, n_tl_60, n_el_60, n_eq_60, n_ad_60, n_lt_99, n_le_99, n_tl_99, n_el_99, n_eq_99, n_ad_99, n_lt_100, n_le_100, n_tl_100, n_el_100, n_eq_100, n_ad_100, n_lt_144, n_le_144, n_tl_144, n_el_144, n_eq_144, n_ad_144, n_lt_4096, n_le_4096, n_tl_4096, n_el_4096, n_eq_4096, n_ad_4096, n_mulK, nI_add, pk_mul, n_lt, n_le, n_eq, n_eqM, n_ix, n_cl, if_pos hf', hf, decide_false, ir_b_f]
  rw [hst]
  rcases cases6 k with (rfl | rfl | rfl | rfl | rfl | rfl) | hv
  · have e : fkB σ N m 0 a b c = inr a (nI m) := rfl
    rw [e]
    cases decide (F < 12) <;> cases hq : inr a (nI m) <;> simp only [s143_22c0, s143_60, s143_62, s143_65, s143_66, s143_67, s143_68, s143_69, s143_72, s143_73, s143_74, s143_75, s143_78, s143_81, s143_82, s143_85, s143_86, s143_88, e3, mLine r.1, hq, ir_b_t, ir_b_f, ir_k_i, ir_tl_i, i_10, if_true, if_false, Bool.true_and, Bool.false_and, Bool.and_true, Bool.and_false]
  · have e : fkB σ N m 1 a b c = isHo σ a := rfl
    rw [e]
    cases decide (F < 12) <;> cases hq : isHo σ a <;> simp only [s143_22c1, s143_91, s143_93, s143_96, s143_97, s143_98, s143_101, s143_104, s143_105, s143_108, s143_109, s143_111, mHost r.1, hq, ir_b_t, ir_b_f, ir_k_i, ir_tl_i, i_10, if_true, if_false, Bool.true_and, Bool.false_and, Bool.and_true, Bool.and_false]
  · have e : fkB σ N m 2 a b c = (inr a 6 && isHo σ b) := rfl
    rw [e]
    cases decide (F < 12) <;> cases hq : inr a 6 <;> cases hq2 : isHo σ b <;> simp only [s143_22c2, s143_114, s143_116, s143_119, s143_120, s143_123, s143_126, s143_127, s143_128, s143_131, s143_134, s143_135, s143_138, s143_139, s143_141, m127, mHost r.1, hq, hq2, ir_b_t, ir_b_f, ir_k_i, ir_tl_i, i_10, if_true, if_false, Bool.true_and, Bool.false_and, Bool.and_true, Bool.and_false]
  · have e : fkB σ N m 3 a b c = (isWa σ a && (isHo σ b && inr c 4)) := rfl
    rw [e]
    cases decide (F < 12) <;> cases hq : isWa σ a <;> cases hq2 : isHo σ b <;> cases hq3 : inr c 4 <;> simp only [s143_22c3, s143_144, s143_146, s143_149, s143_150, s143_151, s143_154, s143_157, s143_158, s143_159, s143_162, s143_165, s143_167, s143_170, s143_173, s143_174, s143_177, s143_178, s143_180, mWall r.1, mHost r.1, m126, hq, hq2, hq3, ir_b_t, ir_b_f, ir_k_i, ir_tl_i, i_10, if_true, if_false, Bool.true_and, Bool.false_and, Bool.and_true, Bool.and_false]
  · have e : fkB σ N m 4 a b c = (isGa σ a && (isHo σ b && (inr c (nI N) && !decide (c = a)))) := rfl
    rw [e]
    by_cases hca : c = a
    · have hac : a = c := hca.symm
      have hdc : decide (c = a) = true := by simp [hca]
      cases decide (F < 12) <;> cases hq : isGa σ a <;> cases hq2 : isHo σ b <;> cases hq3 : inr c (nI N) <;> simp only [s143_22c4, s143_183, s143_185, s143_188, s143_189, s143_190, s143_193, s143_196, s143_197, s143_198, s143_201, s143_204, s143_205, s143_207, s143_210, s143_213, s143_214, s143_216, s143_223, s143_224, s143_226, mGate r.1, mHost r.1, mNode r.1, hq, hq2, hq3, if_pos hac, hdc, Bool.not_true, ir_b_t, ir_b_f, ir_k_i, ir_tl_i, i_10, if_true, if_false, Bool.true_and, Bool.false_and, Bool.and_true, Bool.and_false]
    · have hac : ¬ a = c := fun q => hca q.symm
      cases decide (F < 12) <;> cases hq : isGa σ a <;> cases hq2 : isHo σ b <;> cases hq3 : inr c (nI N) <;> simp only [s143_22c4, s143_183, s143_185, s143_188, s143_189, s143_190, s143_193, s143_196, s143_197, s143_198, s143_201, s143_204, s143_205, s143_207, s143_210, s143_213, s143_214, s143_216, s143_219, s143_220, s143_223, s143_224, s143_226, mGate r.1, mHost r.1, mNode r.1, hq, hq2, hq3, if_neg hac, hca, decide_false, Bool.not_false, ir_b_t, ir_b_f, ir_k_i, ir_tl_i, i_10, if_true, if_false, Bool.true_and, Bool.false_and, Bool.and_true, Bool.and_false]
  · have e : fkB σ N m 5 a b c = (isHo σ a && inr b 4) := rfl
    rw [e]
    cases decide (F < 12) <;> cases hq : isHo σ a <;> cases hq2 : inr b 4 <;> simp only [s143_22c5, s143_229, s143_231, s143_234, s143_235, s143_236, s143_239, s143_242, s143_243, s143_246, s143_249, s143_250, s143_253, s143_254, s143_256, mHost r.1, m126, hq, hq2, ir_b_t, ir_b_f, ir_k_i, ir_tl_i, i_10, if_true, if_false, Bool.true_and, Bool.false_and, Bool.and_true, Bool.and_false]
  · obtain ⟨h0, h1, h2, h3, h4, h5⟩ := out6 hv
    have e : fkB σ N m k a b c = false := by unfold fkB; rw [if_neg h0, if_neg h1, if_neg h2, if_neg h3, if_neg h4, if_neg h5]
    rw [e]
    simp only [s143_22d hv, s143_259, s143_260, Bool.and_false, ir_b_f]
theorem fkB_N {k a b c : Int32} (r : R1 σ N m LA LB) (h : fkB σ N m k a b c = true) : faultN σ N m k a b c := by
  have hN := r.1
  have hm := r.2.1
  rcases cases6 k with (rfl | rfl | rfl | rfl | rfl | rfl) | hv
  · have h : inr a (nI m) = true := h
    obtain ⟨x, hx, rfl⟩ := inr_nI (by omega) h
    exact Or.inl ⟨rfl, x, hx, rfl⟩
  · have h : isHo σ a = true := h
    obtain ⟨x, hx, rfl, _⟩ := isHo_k r h
    exact Or.inr (Or.inl ⟨rfl, x, hx, rfl⟩)
  · have h : (inr a 6 && isHo σ b) = true := h
    rw [Bool.and_eq_true] at h
    obtain ⟨x, hx, rfl⟩ := inr_nI (n := 6) (by omega) h.1
    obtain ⟨y, hy, rfl, _⟩ := isHo_k r h.2
    exact Or.inr (Or.inr (Or.inl ⟨rfl, ⟨x, hx, rfl⟩, y, hy, rfl⟩))
  · have h : (isWa σ a && (isHo σ b && inr c 4)) = true := h
    rw [Bool.and_eq_true, Bool.and_eq_true] at h
    obtain ⟨x, hx, rfl, hx2⟩ := isWa_k r h.1
    obtain ⟨y, hy, rfl, _⟩ := isHo_k r h.2.1
    obtain ⟨z, hz, rfl⟩ := inr_nI (n := 4) (by omega) h.2.2
    exact Or.inr (Or.inr (Or.inr (Or.inl ⟨rfl, ⟨x, hx, rfl, hx2⟩, ⟨y, hy, rfl⟩, z, hz, rfl⟩)))
  · have h : (isGa σ a && (isHo σ b && (inr c (nI N) && !decide (c = a)))) = true := h
    rw [Bool.and_eq_true, Bool.and_eq_true, Bool.and_eq_true] at h
    obtain ⟨x, hx, rfl, hx2⟩ := isGa_k r h.1
    obtain ⟨y, hy, rfl, hy2⟩ := isHo_k r h.2.1
    obtain ⟨z, hz, rfl⟩ := inr_nI (by omega) h.2.2.1
    exact Or.inr (Or.inr (Or.inr (Or.inr (Or.inl ⟨rfl, ⟨x, hx, rfl, hx2⟩, ⟨y, hy, rfl, hy2⟩, z, hz, rfl⟩))))
  · have h : (isHo σ a && inr b 4) = true := h
    rw [Bool.and_eq_true] at h
    obtain ⟨x, hx, rfl, _⟩ := isHo_k r h.1
    obtain ⟨y, hy, rfl⟩ := inr_nI (n := 4) (by omega) h.2
    exact Or.inr (Or.inr (Or.inr (Or.inr (Or.inr ⟨rfl, ⟨x, hx, rfl⟩, y, hy, rfl⟩))))
  · obtain ⟨h0, h1, h2, h3, h4, h5⟩ := out6 hv
    unfold fkB at h
    rw [if_neg h0, if_neg h1, if_neg h2, if_neg h3, if_neg h4, if_neg h5] at h
    cases h
theorem fkB_c {k a b c : Int32} (h1 : σ' 1 = σ 1) (h2 : σ' 2 = σ 2) : fkB σ' N m k a b c = fkB σ N m k a b c := by
  unfold fkB isHo isWa isGa isN
  rw [h1, h2]
theorem p_fault {d : Nat} {k a b c : Int32} (h : RR σ) : PAIR d 84 143 [.int k, .int a, .int b, .int c] σ := by
  obtain ⟨N, m, F, C, K, LA, LB, r⟩ := h
  have hF := r.1.2.2.1.1
  have r0 := RA_frR (frR_33 (v := 0)) r
  have hrf : ∀ (τ : ir_S) (z : Option ir_R), R0 (ir_up τ 33 0 0) N m F C K LA LB → ir_run (ir_ev (d + 49)) 143 (262, [.ref 33, .int k, .int a, .int b, .int c, .int (ir_b (decide (F < 12) && fkB (ir_up τ 33 0 0) N m k a b c))], [], ir_up τ 33 0 0) = z → ir_ev (d + 50) 143 [.ref 33, .int k, .int a, .int b, .int c] τ = z := by
    intro τ z rτ hz
    simp only [e143, s143_0, s143_1, s143_2]
    exact Eq.trans (m143_mid (d := d + 45) rτ) hz
  have fkc : ∀ τ : ir_S, τ 1 = σ 1 → τ 2 = σ 2 → fkB (ir_up τ 33 0 0) N m k a b c = fkB σ N m k a b c := fun τ h1 h2 => by
    rw [fkB_c (σ := τ) (u_n _ _ _ (by decide)) (u_n _ _ _ (by decide)), fkB_c h1 h2]
  cases hk : fkB σ N m k a b c with
  | false =>
    refine ⟨-1, σ, _, ?_, hrf _ _ r0.1 ?_, RR_of r0⟩
    · simp only [e84, s84_0, s84_1, s84_2, s84_3, s84_4, s84_6, s84_9, s84_32, s84_33, c108 r.1.1, hk, ir_b_f, ir_k_i, ir_tl_i, if_true]
    · rw [fkc σ rfl rfl, hk, Bool.and_false]
      simp only [s143_262, s143_264, s143_267, s143_268, ir_b_f, if_true]
  | true =>
    by_cases hfull : F = 12
    · have hnf : ¬ F < 12 := by omega
      refine ⟨-1, σ, _, ?_, hrf _ _ r0.1 ?_, RR_of r0⟩
      · have k4 := c4f_18 (d := d + 48) (k := k) (a := a) (b := b) (c := c) (p := 0) r.1.2.2.1.2.1 (by omega) (by omega)
        simp only [e84, s84_0, s84_1, s84_2, s84_3, s84_4, s84_6, s84_9, s84_12, s84_13, s84_14, s84_17, s84_18, s84_19, s84_20, s84_22, s84_23_18, s84_23_20, s84_23_22, s84_26, s84_29, s84_33, c108 r.1.1, hk, k4, c110m, ir_b_t, ir_k_i, ir_tl_i, i_10, if_false]
      · simp only [s143_262, s143_264, s143_267, s143_268, hnf, decide_false, Bool.false_and, ir_b_f, if_true]
    · have hF12 : F < 12 := by omega
      have k4 := c4_18 (d := d + 48) (k := k) (a := a) (b := b) (c := c) (p := 0) r.1.2.2.1.2.1 hF12
      have k4 : ir_ev (d + 49) 4 [.ref 18, .int k, .int a, .int b, .int c, .int 0] σ = some (some (.int (nI F)), ent σ 18 F k a b c 0) := k4
      have hne := oI_m1 (b := F) (by omega)
      have en : ∀ q, q ≠ 18 → q ≠ 19 → q ≠ 25 → q ≠ 30 → (ir_up (ir_up (ent σ 18 F k a b c 0) 25 6 0) 30 0 0) q = σ q := fun q a b c e => by rw [u_n _ _ _ e, u_n _ _ _ c, ent_n a b]
      have e18 : (ir_up (ir_up (ent σ 18 F k a b c 0) 25 6 0) 30 0 0) 18 1 = nI (F + 1) := by rw [u_n _ _ _ (by decide), u_n _ _ _ (by decide)]; exact ent_e
      have e19o : ∀ i f, i < F → f < 5 → (ir_up (ir_up (ent σ 18 F k a b c 0) 25 6 0) 30 0 0) 19 (i * 5 + f) = σ 19 (i * 5 + f) := fun i f hi hf => by rw [u_n _ _ _ (by decide), u_n _ _ _ (by decide)]; exact ent_o hi hf
      have e190 : (ir_up (ir_up (ent σ 18 F k a b c 0) 25 6 0) 30 0 0) 19 (F * 5) = k := by rw [u_n _ _ _ (by decide), u_n _ _ _ (by decide)]; exact ent_0
      have e191 : (ir_up (ir_up (ent σ 18 F k a b c 0) 25 6 0) 30 0 0) 19 (F * 5 + 1) = a := by rw [u_n _ _ _ (by decide), u_n _ _ _ (by decide)]; exact ent_1
      have e192 : (ir_up (ir_up (ent σ 18 F k a b c 0) 25 6 0) 30 0 0) 19 (F * 5 + 2) = b := by rw [u_n _ _ _ (by decide), u_n _ _ _ (by decide)]; exact ent_2
      have e193 : (ir_up (ir_up (ent σ 18 F k a b c 0) 25 6 0) 30 0 0) 19 (F * 5 + 3) = c := by rw [u_n _ _ _ (by decide), u_n _ _ _ (by decide)]; exact ent_3
      have e25 : (ir_up (ir_up (ent σ 18 F k a b c 0) 25 6 0) 30 0 0) 25 6 = 0 := by rw [u_n _ _ _ (by decide), u_s, upd_s]
      have e30 : (ir_up (ir_up (ent σ 18 F k a b c 0) 25 6 0) 30 0 0) 30 0 = 0 := by rw [u_s, upd_s]
      have hc1 : ir_ev (d + 50) 84 [.ref 0, .int k, .int a, .int b, .int c] σ = some (some (.int (nI F)), ir_up (ir_up (ent σ 18 F k a b c 0) 25 6 0) 30 0 0) := by
        simp only [e84, s84_0, s84_1, s84_2, s84_3, s84_4, s84_6, s84_9, s84_12, s84_13, s84_14, s84_17, s84_18, s84_19, s84_20, s84_22, s84_23_18, s84_23_20, s84_23_22, s84_26, s84_29, s84_33, c108 r.1.1, hk, k4, c110 hne, ir_b_t, ir_k_i, ir_tl_i, i_10, if_false]
      generalize (ir_up (ir_up (ent σ 18 F k a b c 0) 25 6 0) 30 0 0) = τ at *
      have e33 : τ 33 = σ 33 := en 33 (by decide) (by decide) (by decide) (by decide)
      have x12 : σ 33 12 = nI F := r.1.2.2.1.2.2.1
      -- the reference's questions over the state behind the class's call
      have hq : ∀ z : Option ir_R, ir_run (ir_ev (d + 49)) 143 (262, [.ref 33, .int k, .int a, .int b, .int c, .int 1], [], ir_up τ 33 0 0) = z → ir_ev (d + 50) 143 [.ref 33, .int k, .int a, .int b, .int c] τ = z := by
        intro z hz
        simp only [e143, s143_0, s143_1, s143_2]
        -- the questions read only the plan, the kinds, lines, nodes and the number of faults
        have r1' : R1 (ir_up τ 33 0 0) N m LA LB := R1_c (fun c hc => by
          have : c = 1 ∨ c = 2 ∨ c = 3 ∨ c = 4 ∨ c = 5 ∨ c = 34 ∨ c = 35 ∨ c = 36 := by simpa using hc
          rw [u_n _ _ _ (by omega), en c (by omega) (by omega) (by omega) (by omega)]) (by rw [u_s, upd_n _ _ (by decide), e33]) (by rw [u_s, upd_n _ _ (by decide), e33]) r.1.1
        have x12' : (ir_up τ 33 0 0) 33 12 = nI F := by rw [u_s, upd_n _ _ (by decide), e33]; exact x12
        have x3' := r1'.2.2.2.2.2.1
        have hfk : fkB (ir_up τ 33 0 0) N m k a b c = true := by rw [fkc τ (en 1 (by decide) (by decide) (by decide) (by decide)) (en 2 (by decide) (by decide) (by decide) (by decide))]; exact hk
        have hst : ir_run (ir_ev (d + 49)) 143 (5, [.ref 33, .int k, .int a, .int b, .int c, .null], [], ir_up τ 33 0 0) = ir_run (ir_ev (d + 49)) 143 (22, [.ref 33, .int k, .int a, .int b, .int c, .int 1], [.int k], ir_up τ 33 0 0) := by
          have hf' : ¬ 12 ≤ F := by omega
          simp (disch := omega) only [s143_5, s143_6, s143_9, s143_11, s143_14, s143_15, s143_19, s143_21, x12', n_lt_0, n_le_0, n_tl_0, n_el_0, n_eq_0, n_ad_0, n_lt_1, n_le_1, n_tl_1, n_el_1, n_eq_1, n_ad_1, n_lt_2, n_le_2, n_tl_2, n_el_2, n_eq_2, n_ad_2, n_lt_3, n_le_3, n_tl_3, n_el_3, n_eq_3, n_ad_3, n_lt_4, n_le_4, n_tl_4, n_el_4, n_eq_4, n_ad_4, n_lt_5, n_le_5, n_tl_5, n_el_5, n_eq_5, n_ad_5, n_lt_6, n_le_6, n_tl_6, n_el_6, n_eq_6, n_ad_6, n_lt_10, n_le_10, n_tl_10, n_el_10, n_eq_10, n_ad_10, n_lt_11, n_le_11, n_tl_11, n_el_11, n_eq_11, n_ad_11, n_lt_12, n_le_12, n_tl_12, n_el_12, n_eq_12, n_ad_12, n_lt_13, n_le_13, n_tl_13, n_el_13, n_eq_13, n_ad_13, n_lt_15, n_le_15, n_tl_15, n_el_15, n_eq_15, n_ad_15, n_lt_20, n_le_20, n_tl_20, n_el_20, n_eq_20, n_ad_20, n_lt_30, n_le_30, n_tl_30, n_el_30, n_eq_30, n_ad_30, n_lt_31, n_le_31, n_tl_31, n_el_31, n_eq_31, n_ad_31, n_lt_32, n_le_32, n_tl_32, n_el_32, n_eq_32, n_ad_32, n_lt_60, n_le_60, n_tl_60, n_el_60, n_eq_60, n_ad_60, n_lt_99, n_le_99, n_tl_99, n_el_99, n_eq_99, n_ad_99, n_lt_100, n_le_100, n_tl_100, n_el_100, n_eq_100, n_ad_100, n_lt_144, n_le_144, n_tl_144, n_el_144, n_eq_144, n_ad_144, n_lt_4096, n_le_4096, n_tl_4096, n_el_4096, n_eq_4096, n_ad_4096, n_mulK, nI_add, pk_mul, n_lt, n_le, n_eq, n_eqM, n_ix, n_cl, if_neg hf']
        refine Eq.trans hst (Eq.trans ?_ hz)
        generalize ir_up τ 33 0 0 = ρ at *
        rcases cases6 k with (rfl | rfl | rfl | rfl | rfl | rfl) | hv
        · have hfk : inr a (nI m) = true := hfk
          simp only [s143_22c0, s143_60, s143_62, s143_65, s143_66, s143_67, s143_68, s143_69, s143_72, s143_73, s143_74, s143_75, s143_78, s143_81, s143_82, s143_86, s143_88, x3', mLine r1', hfk, ir_b_t, ir_k_i, ir_tl_i, i_10, if_false]
        · have hfk : isHo ρ a = true := hfk
          simp only [s143_22c1, s143_91, s143_93, s143_96, s143_97, s143_98, s143_101, s143_104, s143_105, s143_109, s143_111, mHost r1', hfk, ir_b_t, ir_k_i, ir_tl_i, i_10, if_false]
        · have hfk : (inr a 6 && isHo ρ b) = true := hfk
          rw [Bool.and_eq_true] at hfk
          simp only [s143_22c2, s143_114, s143_116, s143_119, s143_120, s143_123, s143_126, s143_127, s143_128, s143_131, s143_134, s143_135, s143_139, s143_141, m127, mHost r1', hfk.1, hfk.2, ir_b_t, ir_k_i, ir_tl_i, i_10, if_false]
        · have hfk : (isWa ρ a && (isHo ρ b && inr c 4)) = true := hfk
          rw [Bool.and_eq_true, Bool.and_eq_true] at hfk
          simp only [s143_22c3, s143_144, s143_146, s143_149, s143_150, s143_151, s143_154, s143_157, s143_158, s143_159, s143_162, s143_165, s143_167, s143_170, s143_173, s143_174, s143_178, s143_180, mWall r1', mHost r1', m126, hfk.1, hfk.2.1, hfk.2.2, ir_b_t, ir_k_i, ir_tl_i, i_10, if_false]
        · have hfk : (isGa ρ a && (isHo ρ b && (inr c (nI N) && !decide (c = a)))) = true := hfk
          rw [Bool.and_eq_true, Bool.and_eq_true, Bool.and_eq_true] at hfk
          have hca : ¬ a = c := fun q => by have := hfk.2.2.2; rw [q] at this; simp at this
          simp only [s143_22c4, s143_183, s143_185, s143_188, s143_189, s143_190, s143_193, s143_196, s143_197, s143_198, s143_201, s143_204, s143_205, s143_207, s143_210, s143_213, s143_214, s143_216, s143_219, s143_220, s143_224, s143_226, mGate r1', mHost r1', mNode r1', hfk.1, hfk.2.1, hfk.2.2.1, if_neg hca, ir_b_t, ir_k_i, ir_tl_i, i_10, if_false]
        · have hfk : (isHo ρ a && inr b 4) = true := hfk
          rw [Bool.and_eq_true] at hfk
          simp only [s143_22c5, s143_229, s143_231, s143_234, s143_235, s143_236, s143_239, s143_242, s143_243, s143_246, s143_249, s143_250, s143_254, s143_256, mHost r1', m126, hfk.1, hfk.2, ir_b_t, ir_k_i, ir_tl_i, i_10, if_false]
        · obtain ⟨h0, h1, h2, h3, h4, h5⟩ := out6 hv
          unfold fkB at hfk
          rw [if_neg h0, if_neg h1, if_neg h2, if_neg h3, if_neg h4, if_neg h5] at hfk
          cases hfk
      have hn : ∀ q, q ≠ 33 → q ≠ 42 → q ≠ 43 → q ≠ 44 → q ≠ 45 → (ir_up (ir_up (ir_up (ir_up (ir_up (ir_up (ir_up τ 33 0 0) 33 34 (-1)) 42 F k) 43 F a) 44 F b) 45 F c) 33 12 (nI (F + 1))) q = τ q := fun q a b c d e => by rw [u_n _ _ _ a, u_n _ _ _ e, u_n _ _ _ d, u_n _ _ _ c, u_n _ _ _ b, u_n _ _ _ a, u_n _ _ _ a]
      have h33 : ∀ j, j ≠ 0 → j ≠ 34 → j ≠ 12 → (ir_up (ir_up (ir_up (ir_up (ir_up (ir_up (ir_up τ 33 0 0) 33 34 (-1)) 42 F k) 43 F a) 44 F b) 45 F c) 33 12 (nI (F + 1))) 33 j = σ 33 j := fun j a b c => by
        rw [← e33]
        simp (disch := omega) only [u_s, upd_n, u_n]
      have f42 : (ir_up (ir_up (ir_up (ir_up (ir_up (ir_up (ir_up τ 33 0 0) 33 34 (-1)) 42 F k) 43 F a) 44 F b) 45 F c) 33 12 (nI (F + 1))) 42 = upd (σ 42) F k := by
        rw [← en 42 (by decide) (by decide) (by decide) (by decide)]
        simp (disch := omega) only [u_s, u_n]
      have f43 : (ir_up (ir_up (ir_up (ir_up (ir_up (ir_up (ir_up τ 33 0 0) 33 34 (-1)) 42 F k) 43 F a) 44 F b) 45 F c) 33 12 (nI (F + 1))) 43 = upd (σ 43) F a := by
        rw [← en 43 (by decide) (by decide) (by decide) (by decide)]
        simp (disch := omega) only [u_s, u_n]
      have f44 : (ir_up (ir_up (ir_up (ir_up (ir_up (ir_up (ir_up τ 33 0 0) 33 34 (-1)) 42 F k) 43 F a) 44 F b) 45 F c) 33 12 (nI (F + 1))) 44 = upd (σ 44) F b := by
        rw [← en 44 (by decide) (by decide) (by decide) (by decide)]
        simp (disch := omega) only [u_s, u_n]
      have f45 : (ir_up (ir_up (ir_up (ir_up (ir_up (ir_up (ir_up τ 33 0 0) 33 34 (-1)) 42 F k) 43 F a) 44 F b) 45 F c) 33 12 (nI (F + 1))) 45 = upd (σ 45) F c := by
        rw [← en 45 (by decide) (by decide) (by decide) (by decide)]
        simp (disch := omega) only [u_s, u_n]
      have f12 : (ir_up (ir_up (ir_up (ir_up (ir_up (ir_up (ir_up τ 33 0 0) 33 34 (-1)) 42 F k) 43 F a) 44 F b) 45 F c) 33 12 (nI (F + 1))) 33 12 = nI (F + 1) := by rw [u_s, upd_s]
      have f34 : (ir_up (ir_up (ir_up (ir_up (ir_up (ir_up (ir_up τ 33 0 0) 33 34 (-1)) 42 F k) 43 F a) 44 F b) 45 F c) 33 12 (nI (F + 1))) 33 34 = -1 := by simp (disch := omega) only [u_s, u_n, upd_s, upd_n]
      have hpred : nI (F + 1) - 1 = nI F := nI_pred F
      refine ⟨nI F, τ, ir_up (ir_up (ir_up (ir_up (ir_up (ir_up (ir_up τ 33 0 0) 33 34 (-1)) 42 F k) 43 F a) 44 F b) 45 F c) 33 12 (nI (F + 1)), hc1, hq _ ?_, ?_⟩
      · simp (disch := omega) only [s143_262, s143_264, s143_269, s143_270, s143_273, s143_274, s143_277, s143_278, s143_281, s143_282, s143_283, s143_284, s143_287, s143_288, s143_291, s143_292, s143_293, s143_294, s143_297, s143_298, s143_301, s143_302, s143_303, s143_304, s143_307, s143_308, s143_311, s143_313, s143_314, s143_315i, s143_315r, s143_316, s143_319, s143_320, s143_321, s143_324, s143_325, s143_328, s143_329, s143_330, xA42, xL42, xa42, xA43, xL43, xa43, xA44, xL44, xa44, xA45, xL45, xa45, u_s, u_n, upd_s, upd_n, e33, x12, m129, n_lt_0, n_le_0, n_tl_0, n_el_0, n_eq_0, n_ad_0, n_lt_1, n_le_1, n_tl_1, n_el_1, n_eq_1, n_ad_1, n_lt_2, n_le_2, n_tl_2, n_el_2, n_eq_2, n_ad_2, n_lt_3, n_le_3, n_tl_3, n_el_3, n_eq_3, n_ad_3, n_lt_4, n_le_4, n_tl_4, n_el_4, n_eq_4, n_ad_4, n_lt_5, n_le_5, n_tl_5, n_el_5, n_eq_5, n_ad_5, n_lt_6, n_le_6, n_tl_6, n_el_6, n_eq_6, n_ad_6, n_lt_10, n_le_10, n_tl_10, n_el_10, n_eq_10, n_ad_10, n_lt_11, n_le_11, n_tl_11, n_el_11, n_eq_11, n_ad_11, n_lt_12, n_le_12, n_tl_12, n_el_12, n_eq_12, n_ad_12, n_lt_13, n_le_13, n_tl_13, n_el_13, n_eq_13, n_ad_13, n_lt_15, n_le_15, n_tl_15, n_el_15, n_eq_15, n_ad_15, n_lt_20, n_le_20, n_tl_20, n_el_20, n_eq_20, n_ad_20, n_lt_30, n_le_30, n_tl_30, n_el_30, n_eq_30, n_ad_30, n_lt_31, n_le_31, n_tl_31, n_el_31, n_eq_31, n_ad_31, n_lt_32, n_le_32, n_tl_32, n_el_32, n_eq_32, n_ad_32, n_lt_60, n_le_60, n_tl_60, n_el_60, n_eq_60, n_ad_60, n_lt_99, n_le_99, n_tl_99, n_el_99, n_eq_99, n_ad_99, n_lt_100, n_le_100, n_tl_100, n_el_100, n_eq_100, n_ad_100, n_lt_144, n_le_144, n_tl_144, n_el_144, n_eq_144, n_ad_144, n_lt_4096, n_le_4096, n_tl_4096, n_el_4096, n_eq_4096, n_ad_4096, n_mulK, nI_add, pk_mul, n_lt, n_le, n_eq, n_eqM, n_ix, n_cl, hF12, hpred, decide_true, ir_k_v, ir_tl_v, i_10, if_true, if_false]
      · generalize (ir_up (ir_up (ir_up (ir_up (ir_up (ir_up (ir_up τ 33 0 0) 33 34 (-1)) 42 F k) 43 F a) 44 F b) 45 F c) 33 12 (nI (F + 1))) = ρ at *
        have hnn : ∀ q, q ≠ 33 → (q < 42 ∨ 45 < q) → q ≠ 18 → q ≠ 19 → q ≠ 25 → q ≠ 30 → ρ q = σ q := fun q a b e f g h => by rw [hn q a (by omega) (by omega) (by omega) (by omega), en q e f g h]
        have e2 : ρ 2 = σ 2 := hnn 2 (by decide) (by omega) (by decide) (by decide) (by decide) (by decide)
        have e19 : ρ 19 = τ 19 := hn 19 (by decide) (by decide) (by decide) (by decide) (by decide)
        refine RR_of (RA_ch (F' := F + 1) (C' := C) r ⟨R1_c (fun c hc => ?_) (h33 1 (by decide) (by decide) (by decide)) (h33 3 (by decide) (by decide) (by decide)) r.1.1, R2_c (fun c hc => ?_) (h33 10 (by decide) (by decide) (by decide)) r.1.2.1, ?_, ?_, R5_c (fun c hc => ?_) (h33 26 (by decide) (by decide) (by decide)) r.1.2.2.2.2⟩ (hnn 31 (by decide) (by omega) (by decide) (by decide) (by decide) (by decide)) (hnn 32 (by decide) (by omega) (by decide) (by decide) (by decide) (by decide)) (hnn 49 (by decide) (by omega) (by decide) (by decide) (by decide) (by decide)) (h33 22 (by decide) (by decide) (by decide)) (by rw [hn 25 (by decide) (by decide) (by decide) (by decide) (by decide)]; exact e25) (by rw [hn 30 (by decide) (by decide) (by decide) (by decide) (by decide)]; exact e30) f34)
        · have : c = 1 ∨ c = 2 ∨ c = 3 ∨ c = 4 ∨ c = 5 ∨ c = 34 ∨ c = 35 ∨ c = 36 := by simpa using hc
          exact hnn c (by omega) (by omega) (by omega) (by omega) (by omega) (by omega)
        · have : c = 2 ∨ c = 6 ∨ c = 7 ∨ c = 8 ∨ c = 9 ∨ c = 10 ∨ c = 37 ∨ c = 38 ∨ c = 39 ∨ c = 40 := by simpa using hc
          exact hnn c (by omega) (by omega) (by omega) (by omega) (by omega) (by omega)
        · refine ⟨by omega, by rw [hn 18 (by decide) (by decide) (by decide) (by decide) (by decide)]; exact e18, f12, fun f hf => ?_⟩
          unfold faultN fK fA fB fC
          rw [f42, f43, f44, f45, e19, e2]
          by_cases e : f = F
          · subst e
            rw [e190, e191, e192, e193, upd_s, upd_s, upd_s, upd_s]
            exact ⟨rfl, rfl, rfl, rfl, fkB_N r.1.1 hk⟩
          · rw [upd_n _ _ e, upd_n _ _ e, upd_n _ _ e, upd_n _ _ e]
            have g0 := e19o f 0 (by omega) (by decide)
            rw [Nat.add_zero] at g0
            rw [g0, e19o f 1 (by omega) (by decide), e19o f 2 (by omega) (by decide), e19o f 3 (by omega) (by decide)]
            exact r.1.2.2.1.2.2.2 f (by omega)
        · have h4 := r.1.2.2.2.1
          refine ⟨h4.1, by rw [hnn 20 (by decide) (by omega) (by decide) (by decide) (by decide) (by decide)]; exact h4.2.1, by rw [h33 17 (by decide) (by decide) (by decide)]; exact h4.2.2.1, fun c hc => ?_⟩
          rw [hnn 46 (by decide) (by omega) (by decide) (by decide) (by decide) (by decide), hnn 47 (by decide) (by omega) (by decide) (by decide) (by decide) (by decide), hnn 21 (by decide) (by omega) (by decide) (by decide) (by decide) (by decide)]
          obtain ⟨y1, y2, ⟨f, hf, y3⟩, y4, y5⟩ := h4.2.2.2 c hc
          exact ⟨y1, y2, ⟨f, by omega, y3⟩, nod_mono (by omega) y4, y5⟩
        · have : c = 22 ∨ c = 23 ∨ c = 51 ∨ c = 52 ∨ c = 53 ∨ c = 54 ∨ c = 55 := by simpa using hc
          exact hnn c (by omega) (by omega) (by omega) (by omega) (by omega) (by omega)
end FL
