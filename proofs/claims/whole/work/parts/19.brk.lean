/-! Teller.tell -/
def lookV (kd a b c : Int32) : Prop := ((kd = 0 ∨ kd = 1) ∧ (∃ x, x < 12 ∧ a = nI x) ∧ ∃ y, y < 12 ∧ b = nI y) ∨ (kd = 2 ∧ (∃ x, x < 12 ∧ a = nI x) ∧ (∃ y, y < 6 ∧ b = nI y) ∧ ∃ z, z < 4 ∧ c = nI z) ∨ (kd = 3 ∧ (∃ x, x < 12 ∧ a = nI x) ∧ ∃ y, y < 12 ∧ b = nI y) ∨ (kd = 4 ∧ ∃ x, x < 20 ∧ a = nI x)
def cAns (σ : ir_S) (B : Nat) (kd : Int32) (a b c : Nat) : Int32 :=
  if kd = 0 then ir_b (cB σ B 0 a b) else if kd = 1 then nI ((cW σ B 0 a b 30 a 1 (fun _ => nI a)).2.1 - 1) + (if cC σ B 0 a b = true then 100 else 0)
  else if kd = 2 then cCall σ B a b c else if kd = 3 then (if cH σ B a b = -1 then 99 else cH σ B a b) else ir_b (!ir_bit (σ B 5) a)
def cLk (σ : ir_S) (B l : Nat) : Int32 := cAns σ B (σ 23 (l * 5)) (σ 23 (l * 5 + 1)).toNatClampNeg (σ 23 (l * 5 + 2)).toNatClampNeg (σ 23 (l * 5 + 3)).toNatClampNeg
theorem c71_6 {d l : Nat} {σ : ir_S} (hl : l < 12) (hv : lookV (σ 23 (l * 5)) (σ 23 (l * 5 + 1)) (σ 23 (l * 5 + 2)) (σ 23 (l * 5 + 3))) (hs : setB σ 6) : ∃ σ', ir_ev (d + 5) 71 [.ref 24, .int (nI l), .ref 6] σ = some (some (.int (cLk σ 6 l)), σ') ∧ (∀ c, c ≠ 16 → c ≠ 17 → σ' c = σ c) := by
  have k0 : ir_ev (d + 4) 5 [.ref 22, .int (nI l), .int 0] σ = some (some (.int (σ 23 (l * 5))), σ) := c5_22 (f := 0) hl (by decide)
  have k1 : ir_ev (d + 4) 5 [.ref 22, .int (nI l), .int 1] σ = some (some (.int (σ 23 (l * 5 + 1))), σ) := c5_22 (f := 1) hl (by decide)
  have k2 : ir_ev (d + 4) 5 [.ref 22, .int (nI l), .int 2] σ = some (some (.int (σ 23 (l * 5 + 2))), σ) := c5_22 (f := 2) hl (by decide)
  have k3 : ir_ev (d + 4) 5 [.ref 22, .int (nI l), .int 3] σ = some (some (.int (σ 23 (l * 5 + 3))), σ) := c5_22 (f := 3) hl (by decide)
  unfold cLk
  rcases hv with ⟨hk, ⟨x, hx, ha⟩, y, hy, hb⟩ | ⟨hk, ⟨x, hx, ha⟩, ⟨y, hy, hb⟩, z, hz, hc⟩ | ⟨hk, ⟨x, hx, ha⟩, y, hy, hb⟩ | ⟨hk, x, hx, ha⟩
  · rcases hk with hk | hk
    · obtain ⟨σ1, a1, a2⟩ := c35_6 (d := d + 1) (s := 0) hx hy hs.1
      have a1 : ir_ev (d + 4) 35 [.ref 16, .ref 6, .int 0, .int (nI x), .int (nI y)] σ = some (some (.int (ir_b (cB σ 6 0 x y))), σ1) := a1
      refine ⟨σ1, ?_, a2⟩
      rw [ha] at k1
      rw [hb] at k2
      rw [hk] at k0
      rw [hk, ha, hb, n_cl (by omega), n_cl (by omega)]
      simp (disch := omega) only [e71, s71_0, s71_1, s71_4, s71_5, s71_6_18, s71_6_20, s71_6_22, s71_9, s71_10, s71_11, s71_14, s71_15, s71_16_18, s71_16_20, s71_16_22, s71_19, s71_21, s71_22, s71_25, s71_26, s71_27_18, s71_27_20, s71_27_22, s71_30c0, s71_30c1, s71_30c2, s71_30c3, s71_30c4, s71_30d, s71_64, s71_85, s71_94, s71_112, s71_139, s71_153, s71_65, s71_86, s71_95, s71_113, s71_140, s71_154, s71_68, s71_87, s71_96, s71_116, s71_141_6, s71_141_11, s71_69, s71_88, s71_97, s71_117, s71_144, s71_70, s71_90, s71_99, s71_118, s71_151, s71_147, s71_71, s71_93, s71_100, s71_120, s71_152, s71_148, s71_73, s71_103, s71_123, s71_76, s71_104, s71_125, s71_83, s71_79, s71_105_18, s71_105_20, s71_105_22, s71_127, s71_84, s71_80, s71_108, s71_128, s71_111, s71_136, s71_131, s71_138, s71_133, k0, k1, k2, a1, ir_k_i, ir_tl_i]
      cases hq : cB σ 6 0 x y <;> simp [cAns, hq, ir_b]
    · obtain ⟨σ1, a1, a2⟩ := c72_6 (d := d + 1) hx hy hs.1
      refine ⟨σ1, ?_, a2⟩
      rw [ha] at k1
      rw [hb] at k2
      rw [hk] at k0
      rw [hk, ha, hb, n_cl (by omega), n_cl (by omega)]
      simp (disch := omega) only [e71, s71_0, s71_1, s71_4, s71_5, s71_6_18, s71_6_20, s71_6_22, s71_9, s71_10, s71_11, s71_14, s71_15, s71_16_18, s71_16_20, s71_16_22, s71_19, s71_21, s71_22, s71_25, s71_26, s71_27_18, s71_27_20, s71_27_22, s71_30c0, s71_30c1, s71_30c2, s71_30c3, s71_30c4, s71_30d, s71_64, s71_85, s71_94, s71_112, s71_139, s71_153, s71_65, s71_86, s71_95, s71_113, s71_140, s71_154, s71_68, s71_87, s71_96, s71_116, s71_141_6, s71_141_11, s71_69, s71_88, s71_97, s71_117, s71_144, s71_70, s71_90, s71_99, s71_118, s71_151, s71_147, s71_71, s71_93, s71_100, s71_120, s71_152, s71_148, s71_73, s71_103, s71_123, s71_76, s71_104, s71_125, s71_83, s71_79, s71_105_18, s71_105_20, s71_105_22, s71_127, s71_84, s71_80, s71_108, s71_128, s71_111, s71_136, s71_131, s71_138, s71_133, k0, k1, k2, a1, ir_k_i, ir_tl_i]
      simp [cAns]
  · obtain ⟨σ1, a1, a2⟩ := c73_6 (d := d) hx hy hs (s := z)
    refine ⟨σ1, ?_, a2⟩
    rw [ha] at k1
    rw [hb] at k2
    rw [hc] at k3
    rw [hk] at k0
    rw [hk, ha, hb, hc, n_cl (by omega), n_cl (by omega), n_cl (by omega)]
    simp (disch := omega) only [e71, s71_0, s71_1, s71_4, s71_5, s71_6_18, s71_6_20, s71_6_22, s71_9, s71_10, s71_11, s71_14, s71_15, s71_16_18, s71_16_20, s71_16_22, s71_19, s71_21, s71_22, s71_25, s71_26, s71_27_18, s71_27_20, s71_27_22, s71_30c0, s71_30c1, s71_30c2, s71_30c3, s71_30c4, s71_30d, s71_64, s71_85, s71_94, s71_112, s71_139, s71_153, s71_65, s71_86, s71_95, s71_113, s71_140, s71_154, s71_68, s71_87, s71_96, s71_116, s71_141_6, s71_141_11, s71_69, s71_88, s71_97, s71_117, s71_144, s71_70, s71_90, s71_99, s71_118, s71_151, s71_147, s71_71, s71_93, s71_100, s71_120, s71_152, s71_148, s71_73, s71_103, s71_123, s71_76, s71_104, s71_125, s71_83, s71_79, s71_105_18, s71_105_20, s71_105_22, s71_127, s71_84, s71_80, s71_108, s71_128, s71_111, s71_136, s71_131, s71_138, s71_133, k0, k1, k2, k3, a1, ir_k_i, ir_tl_i]
    simp [cAns]
  · refine ⟨σ, ?_, fun _ _ _ => rfl⟩
    rw [ha] at k1
    rw [hb] at k2
    rw [hk] at k0
    rw [hk, ha, hb, n_cl (by omega), n_cl (by omega)]
    simp (disch := omega) only [e71, s71_0, s71_1, s71_4, s71_5, s71_6_18, s71_6_20, s71_6_22, s71_9, s71_10, s71_11, s71_14, s71_15, s71_16_18, s71_16_20, s71_16_22, s71_19, s71_21, s71_22, s71_25, s71_26, s71_27_18, s71_27_20, s71_27_22, s71_30c0, s71_30c1, s71_30c2, s71_30c3, s71_30c4, s71_30d, s71_64, s71_85, s71_94, s71_112, s71_139, s71_153, s71_65, s71_86, s71_95, s71_113, s71_140, s71_154, s71_68, s71_87, s71_96, s71_116, s71_141_6, s71_141_11, s71_69, s71_88, s71_97, s71_117, s71_144, s71_70, s71_90, s71_99, s71_118, s71_151, s71_147, s71_71, s71_93, s71_100, s71_120, s71_152, s71_148, s71_73, s71_103, s71_123, s71_76, s71_104, s71_125, s71_83, s71_79, s71_105_18, s71_105_20, s71_105_22, s71_127, s71_84, s71_80, s71_108, s71_128, s71_111, s71_136, s71_131, s71_138, s71_133, k0, k1, k2, c33_6, ir_k_i, ir_tl_i]
    by_cases hq : cH σ 6 x y = -1 <;> simp [cAns, hq]
  · refine ⟨σ, ?_, fun _ _ _ => rfl⟩
    rw [ha] at k1
    rw [hk] at k0
    rw [hk, ha, n_cl (by omega)]
    simp (disch := omega) only [e71, s71_0, s71_1, s71_4, s71_5, s71_6_18, s71_6_20, s71_6_22, s71_9, s71_10, s71_11, s71_14, s71_15, s71_16_18, s71_16_20, s71_16_22, s71_19, s71_21, s71_22, s71_25, s71_26, s71_27_18, s71_27_20, s71_27_22, s71_30c0, s71_30c1, s71_30c2, s71_30c3, s71_30c4, s71_30d, s71_64, s71_85, s71_94, s71_112, s71_139, s71_153, s71_65, s71_86, s71_95, s71_113, s71_140, s71_154, s71_68, s71_87, s71_96, s71_116, s71_141_6, s71_141_11, s71_69, s71_88, s71_97, s71_117, s71_144, s71_70, s71_90, s71_99, s71_118, s71_151, s71_147, s71_71, s71_93, s71_100, s71_120, s71_152, s71_148, s71_73, s71_103, s71_123, s71_76, s71_104, s71_125, s71_83, s71_79, s71_105_18, s71_105_20, s71_105_22, s71_127, s71_84, s71_80, s71_108, s71_128, s71_111, s71_136, s71_131, s71_138, s71_133, k0, k1, k2, c55_6, ir_k_i, ir_tl_i]
    cases hq : ir_bit (σ 6 5) x <;> simp [cAns, hq, ir_b]
theorem c71_11 {d l : Nat} {σ : ir_S} (hl : l < 12) (hv : lookV (σ 23 (l * 5)) (σ 23 (l * 5 + 1)) (σ 23 (l * 5 + 2)) (σ 23 (l * 5 + 3))) (hs : setB σ 11) : ∃ σ', ir_ev (d + 5) 71 [.ref 24, .int (nI l), .ref 11] σ = some (some (.int (cLk σ 11 l)), σ') ∧ (∀ c, c ≠ 16 → c ≠ 17 → σ' c = σ c) := by
  have k0 : ir_ev (d + 4) 5 [.ref 22, .int (nI l), .int 0] σ = some (some (.int (σ 23 (l * 5))), σ) := c5_22 (f := 0) hl (by decide)
  have k1 : ir_ev (d + 4) 5 [.ref 22, .int (nI l), .int 1] σ = some (some (.int (σ 23 (l * 5 + 1))), σ) := c5_22 (f := 1) hl (by decide)
  have k2 : ir_ev (d + 4) 5 [.ref 22, .int (nI l), .int 2] σ = some (some (.int (σ 23 (l * 5 + 2))), σ) := c5_22 (f := 2) hl (by decide)
  have k3 : ir_ev (d + 4) 5 [.ref 22, .int (nI l), .int 3] σ = some (some (.int (σ 23 (l * 5 + 3))), σ) := c5_22 (f := 3) hl (by decide)
  unfold cLk
  rcases hv with ⟨hk, ⟨x, hx, ha⟩, y, hy, hb⟩ | ⟨hk, ⟨x, hx, ha⟩, ⟨y, hy, hb⟩, z, hz, hc⟩ | ⟨hk, ⟨x, hx, ha⟩, y, hy, hb⟩ | ⟨hk, x, hx, ha⟩
  · rcases hk with hk | hk
    · obtain ⟨σ1, a1, a2⟩ := c35_11 (d := d + 1) (s := 0) hx hy hs.1
      have a1 : ir_ev (d + 4) 35 [.ref 16, .ref 11, .int 0, .int (nI x), .int (nI y)] σ = some (some (.int (ir_b (cB σ 11 0 x y))), σ1) := a1
      refine ⟨σ1, ?_, a2⟩
      rw [ha] at k1
      rw [hb] at k2
      rw [hk] at k0
      rw [hk, ha, hb, n_cl (by omega), n_cl (by omega)]
      simp (disch := omega) only [e71, s71_0, s71_1, s71_4, s71_5, s71_6_18, s71_6_20, s71_6_22, s71_9, s71_10, s71_11, s71_14, s71_15, s71_16_18, s71_16_20, s71_16_22, s71_19, s71_21, s71_22, s71_25, s71_26, s71_27_18, s71_27_20, s71_27_22, s71_30c0, s71_30c1, s71_30c2, s71_30c3, s71_30c4, s71_30d, s71_64, s71_85, s71_94, s71_112, s71_139, s71_153, s71_65, s71_86, s71_95, s71_113, s71_140, s71_154, s71_68, s71_87, s71_96, s71_116, s71_141_6, s71_141_11, s71_69, s71_88, s71_97, s71_117, s71_144, s71_70, s71_90, s71_99, s71_118, s71_151, s71_147, s71_71, s71_93, s71_100, s71_120, s71_152, s71_148, s71_73, s71_103, s71_123, s71_76, s71_104, s71_125, s71_83, s71_79, s71_105_18, s71_105_20, s71_105_22, s71_127, s71_84, s71_80, s71_108, s71_128, s71_111, s71_136, s71_131, s71_138, s71_133, k0, k1, k2, a1, ir_k_i, ir_tl_i]
      cases hq : cB σ 11 0 x y <;> simp [cAns, hq, ir_b]
    · obtain ⟨σ1, a1, a2⟩ := c72_11 (d := d + 1) hx hy hs.1
      refine ⟨σ1, ?_, a2⟩
      rw [ha] at k1
      rw [hb] at k2
      rw [hk] at k0
      rw [hk, ha, hb, n_cl (by omega), n_cl (by omega)]
      simp (disch := omega) only [e71, s71_0, s71_1, s71_4, s71_5, s71_6_18, s71_6_20, s71_6_22, s71_9, s71_10, s71_11, s71_14, s71_15, s71_16_18, s71_16_20, s71_16_22, s71_19, s71_21, s71_22, s71_25, s71_26, s71_27_18, s71_27_20, s71_27_22, s71_30c0, s71_30c1, s71_30c2, s71_30c3, s71_30c4, s71_30d, s71_64, s71_85, s71_94, s71_112, s71_139, s71_153, s71_65, s71_86, s71_95, s71_113, s71_140, s71_154, s71_68, s71_87, s71_96, s71_116, s71_141_6, s71_141_11, s71_69, s71_88, s71_97, s71_117, s71_144, s71_70, s71_90, s71_99, s71_118, s71_151, s71_147, s71_71, s71_93, s71_100, s71_120, s71_152, s71_148, s71_73, s71_103, s71_123, s71_76, s71_104, s71_125, s71_83, s71_79, s71_105_18, s71_105_20, s71_105_22, s71_127, s71_84, s71_80, s71_108, s71_128, s71_111, s71_136, s71_131, s71_138, s71_133, k0, k1, k2, a1, ir_k_i, ir_tl_i]
      simp [cAns]
  · obtain ⟨σ1, a1, a2⟩ := c73_11 (d := d) hx hy hs (s := z)
    refine ⟨σ1, ?_, a2⟩
    rw [ha] at k1
    rw [hb] at k2
    rw [hc] at k3
    rw [hk] at k0
    rw [hk, ha, hb, hc, n_cl (by omega), n_cl (by omega), n_cl (by omega)]
    simp (disch := omega) only [e71, s71_0, s71_1, s71_4, s71_5, s71_6_18, s71_6_20, s71_6_22, s71_9, s71_10, s71_11, s71_14, s71_15, s71_16_18, s71_16_20, s71_16_22, s71_19, s71_21, s71_22, s71_25, s71_26, s71_27_18, s71_27_20, s71_27_22, s71_30c0, s71_30c1, s71_30c2, s71_30c3, s71_30c4, s71_30d, s71_64, s71_85, s71_94, s71_112, s71_139, s71_153, s71_65, s71_86, s71_95, s71_113, s71_140, s71_154, s71_68, s71_87, s71_96, s71_116, s71_141_6, s71_141_11, s71_69, s71_88, s71_97, s71_117, s71_144, s71_70, s71_90, s71_99, s71_118, s71_151, s71_147, s71_71, s71_93, s71_100, s71_120, s71_152, s71_148, s71_73, s71_103, s71_123, s71_76, s71_104, s71_125, s71_83, s71_79, s71_105_18, s71_105_20, s71_105_22, s71_127, s71_84, s71_80, s71_108, s71_128, s71_111, s71_136, s71_131, s71_138, s71_133, k0, k1, k2, k3, a1, ir_k_i, ir_tl_i]
    simp [cAns]
  · refine ⟨σ, ?_, fun _ _ _ => rfl⟩
    rw [ha] at k1
    rw [hb] at k2
    rw [hk] at k0
    rw [hk, ha, hb, n_cl (by omega), n_cl (by omega)]
    simp (disch := omega) only [e71, s71_0, s71_1, s71_4, s71_5, s71_6_18, s71_6_20, s71_6_22, s71_9, s71_10, s71_11, s71_14, s71_15, s71_16_18, s71_16_20, s71_16_22, s71_19, s71_21, s71_22, s71_25, s71_26, s71_27_18, s71_27_20, s71_27_22, s71_30c0, s71_30c1, s71_30c2, s71_30c3, s71_30c4, s71_30d, s71_64, s71_85, s71_94, s71_112, s71_139, s71_153, s71_65, s71_86, s71_95, s71_113, s71_140, s71_154, s71_68, s71_87, s71_96, s71_116, s71_141_6, s71_141_11, s71_69, s71_88, s71_97, s71_117, s71_144, s71_70, s71_90, s71_99, s71_118, s71_151, s71_147, s71_71, s71_93, s71_100, s71_120, s71_152, s71_148, s71_73, s71_103, s71_123, s71_76, s71_104, s71_125, s71_83, s71_79, s71_105_18, s71_105_20, s71_105_22, s71_127, s71_84, s71_80, s71_108, s71_128, s71_111, s71_136, s71_131, s71_138, s71_133, k0, k1, k2, c33_11, ir_k_i, ir_tl_i]
    by_cases hq : cH σ 11 x y = -1 <;> simp [cAns, hq]
  · refine ⟨σ, ?_, fun _ _ _ => rfl⟩
    rw [ha] at k1
    rw [hk] at k0
    rw [hk, ha, n_cl (by omega)]
    simp (disch := omega) only [e71, s71_0, s71_1, s71_4, s71_5, s71_6_18, s71_6_20, s71_6_22, s71_9, s71_10, s71_11, s71_14, s71_15, s71_16_18, s71_16_20, s71_16_22, s71_19, s71_21, s71_22, s71_25, s71_26, s71_27_18, s71_27_20, s71_27_22, s71_30c0, s71_30c1, s71_30c2, s71_30c3, s71_30c4, s71_30d, s71_64, s71_85, s71_94, s71_112, s71_139, s71_153, s71_65, s71_86, s71_95, s71_113, s71_140, s71_154, s71_68, s71_87, s71_96, s71_116, s71_141_6, s71_141_11, s71_69, s71_88, s71_97, s71_117, s71_144, s71_70, s71_90, s71_99, s71_118, s71_151, s71_147, s71_71, s71_93, s71_100, s71_120, s71_152, s71_148, s71_73, s71_103, s71_123, s71_76, s71_104, s71_125, s71_83, s71_79, s71_105_18, s71_105_20, s71_105_22, s71_127, s71_84, s71_80, s71_108, s71_128, s71_111, s71_136, s71_131, s71_138, s71_133, k0, k1, k2, c55_11, ir_k_i, ir_tl_i]
    cases hq : ir_bit (σ 11 5) x <;> simp [cAns, hq, ir_b]
/-! Setting.copy -/
theorem c43 {d : Nat} {σ : ir_S} : ∃ σ', ir_ev (d + 1) 43 [.ref 11, .ref 6] σ = some (none, σ') ∧ (∀ c, c < 11 ∨ 15 < c → σ' c = σ c) ∧ (∀ i, i < 144 → σ' 12 i = σ 7 i) ∧ (∀ i, i < 144 → σ' 13 i = σ 8 i) ∧ (∀ i, i < 12 → σ' 14 i = σ 9 i) ∧ (∀ i, i < 6 → σ' 15 i = σ 10 i) ∧ σ' 11 4 = σ 6 4 ∧ σ' 11 5 = σ 6 5 ∧ σ' 11 6 = σ 6 6 := by
  have x1 : ir_xc 7 12 144 = true := by decide
  have x2 : ir_xc 8 13 144 = true := by decide
  have x3 : ir_xc 9 14 12 = true := by decide
  have x4 : ir_xc 10 15 6 = true := by decide
  have y1 : (144 : Int32).toNatClampNeg = 144 := by decide
  have y2 : (12 : Int32).toNatClampNeg = 12 := by decide
  have y3 : (6 : Int32).toNatClampNeg = 6 := by decide
  refine ⟨?s, ?h, ?_⟩
  case h =>
    simp only [e43, s43_0, s43_1_6, s43_1_11, s43_4, s43_5, s43_6_6, s43_6_11, s43_9, s43_10, s43_13, s43_16, s43_17_6, s43_17_11, s43_20, s43_21, s43_22_6, s43_22_11, s43_25, s43_26, s43_29, s43_32, s43_33_6, s43_33_11, s43_36, s43_37, s43_38_6, s43_38_11, s43_41, s43_42, s43_44, s43_47, s43_48_6, s43_48_11, s43_51, s43_52, s43_53_6, s43_53_11, s43_56, s43_57, s43_59, s43_62, s43_63, s43_64_6, s43_64_11, s43_67_6, s43_67_11, s43_70, s43_71, s43_72_6, s43_72_11, s43_75_6, s43_75_11, s43_78, s43_79, s43_80_6, s43_80_11, s43_83_6, s43_83_11, s43_86, x1, x2, x3, x4, y1, y2, y3, if_true]
    rfl
  refine ⟨fun c hc => ?_, fun i hi => ?_, fun i hi => ?_, fun i hi => ?_, fun i hi => ?_, ?_, ?_, ?_⟩
  · rw [u_n _ _ _ (by omega), u_n _ _ _ (by omega), u_n _ _ _ (by omega), ir_row_ne _ _ (by omega), ir_row_ne _ _ (by omega), ir_row_ne _ _ (by omega), ir_row_ne _ _ (by omega)]
  · simp (disch := omega) only [u_n, ir_row_ne, ir_row_self]
    simp [va_cpy, hi]
  · simp (disch := omega) only [u_n, ir_row_ne, ir_row_self]
    simp [va_cpy, hi]
  · simp (disch := omega) only [u_n, ir_row_ne, ir_row_self]
    simp [va_cpy, hi]
  · simp (disch := omega) only [u_n, ir_row_ne, ir_row_self]
    simp [va_cpy, hi]
  · simp (disch := omega) only [u_n, u_s, upd_s, upd_n, ir_row_ne, ir_row_self]
  · simp (disch := omega) only [u_n, u_s, upd_s, upd_n, ir_row_ne, ir_row_self]
  · simp (disch := omega) only [u_n, u_s, upd_s, upd_n, ir_row_ne, ir_row_self]
