/-! look -/
section LK
variable {σ σ' : ir_S} {N m F C K : Nat} {LA LB : Nat → Nat}
def lkB (σ : ir_S) (m : Nat) (k a b c : Int32) : Bool :=
  if k = 0 ∨ k = 1 then isHo σ a && isHo σ b && !decide (a = b) else if k = 2 then isHo σ a && (inr b 6 && inr c 4) else if k = 3 then isGa σ a && isHo σ b
  else if k = 4 then inr a (nI m) else false
def prB (p : Int32) : Bool := decide (¬ p ≤ 0) && decide (¬ 100 < p)
theorem lt1 (p : Int32) : (p < 1) = (p ≤ 0) := by
  have h0 : (0 : Int32).toInt = 0 := by decide
  have h1 : (1 : Int32).toInt = 1 := by decide
  apply propext
  rw [Int32.lt_iff_toInt_lt, Int32.le_iff_toInt_le]
  omega
theorem cases5 (v : Int32) : (v = 0 ∨ v = 1 ∨ v = 2 ∨ v = 3 ∨ v = 4) ∨ (v.toInt < 0 ∨ 4 < v.toInt) := by
  by_cases h : ∃ k, k ≤ 4 ∧ v = nI k
  · left
    obtain ⟨k, hk, rfl⟩ := h
    have : k = 0 ∨ k = 1 ∨ k = 2 ∨ k = 3 ∨ k = 4 := by omega
    rcases this with rfl | rfl | rfl | rfl | rfl
    · exact Or.inl rfl
    · exact Or.inr (Or.inl rfl)
    · exact Or.inr (Or.inr (Or.inl rfl))
    · exact Or.inr (Or.inr (Or.inr (Or.inl rfl)))
    · exact Or.inr (Or.inr (Or.inr (Or.inr rfl)))
  · exact Or.inr (sw_out (n := 4) (fun k hk e => h ⟨k, hk, e⟩))
theorem out5 {k : Int32} (h : k.toInt < 0 ∨ 4 < k.toInt) : ¬ k = 0 ∧ ¬ k = 1 ∧ ¬ k = 2 ∧ ¬ k = 3 ∧ ¬ k = 4 := by
  have h0 : (0 : Int32).toInt = 0 := by decide
  have h1 : (1 : Int32).toInt = 1 := by decide
  have h2 : (2 : Int32).toInt = 2 := by decide
  have h3 : (3 : Int32).toInt = 3 := by decide
  have h4 : (4 : Int32).toInt = 4 := by decide
  refine ⟨?_, ?_, ?_, ?_, ?_⟩ <;> (intro e; subst e; omega)
theorem c109 {d : Nat} {k a b c : Int32} (r : R1 σ N m LA LB) : ir_ev (d + 3) 109 [.ref 0, .int k, .int a, .int b, .int c] σ = some (some (.int (ir_b (lkB σ m k a b c))), σ) := by
  have q := q14 r
  rcases cases5 k with (rfl | rfl | rfl | rfl | rfl) | hv
  · simp only [e109, s109_0, s109_1c0, s109_36, s109_37, s109_38, s109_39, s109_42z, s109_42o, s109_42b, c105 r, ir_k_i, ir_tl_i]
    rfl
  · simp only [e109, s109_0, s109_1c1, s109_36, s109_37, s109_38, s109_39, s109_42z, s109_42o, s109_42b, c105 r, ir_k_i, ir_tl_i]
    rfl
  · have e : lkB σ m 2 a b c = (isHo σ a && (inr b 6 && inr c 4)) := rfl
    rw [e]
    simp only [e109, s109_0, s109_1c2, s109_43, s109_44, s109_47, s109_48, s109_51, s109_54, s109_55, s109_58, s109_61, s109_63, s109_66, s109_69, s109_70, s109_73, s109_74z, s109_74o, s109_74b, c24 q, c104, c103, ir_k_i, ir_tl_i]
    cases isHo σ a <;> cases inr b 6 <;> cases inr c 4 <;> simp [ir_b]
  · have e : lkB σ m 3 a b c = (isGa σ a && isHo σ b) := rfl
    rw [e]
    simp only [e109, s109_0, s109_1c3, s109_75, s109_76, s109_79, s109_80, s109_83, s109_86, s109_87, s109_90, s109_91, s109_94, s109_97, s109_98, s109_101, s109_102z, s109_102o, s109_102b, c26 q, c24 q, ir_k_i, ir_tl_i]
    cases isGa σ a <;> cases isHo σ b <;> simp [ir_b]
  · simp only [e109, s109_0, s109_1c4, s109_103, s109_104, s109_107, s109_108, s109_111z, s109_111o, s109_111b, cLine r, ir_k_i, ir_tl_i]
    rfl
  · obtain ⟨h0, h1, h2, h3, h4⟩ := out5 hv
    have e : lkB σ m k a b c = false := by unfold lkB; rw [if_neg (fun q => q.elim h0 h1), if_neg h2, if_neg h3, if_neg h4]
    rw [e]
    simp only [e109, s109_0, s109_1d hv, s109_112, s109_113z, s109_113o, s109_113b]
    rfl
theorem k_100 : (100 : Int64) = (100 : Int32).toInt64 := by decide
theorem mPrice {d : Nat} {p : Int32} : ir_ev (d + 1) 119 [.long p.toInt64, .long 1, .long 100] σ = some (some (.int (ir_b (prB p))), σ) := by
  rw [c119, k_100, in_1k]; rfl
theorem mKind {d : Nat} {k : Int32} : ir_ev (d + 1) 119 [.long k.toInt64, .long 0, .long 4] σ = some (some (.int (ir_b (inr k 5))), σ) := by
  rw [c119, k_4, in_k1 (show 0 ≤ (5 : Int32).toInt by decide)]
theorem st1 {d : Nat} {k a b c p : Int32} {f : Bool} (r : R1 σ N m LA LB) : ir_run (ir_ev (d + 4)) 155 (46, [.ref 33, .int k, .int a, .int b, .int c, .int p, .int (ir_b f)], [], σ) = ir_run (ir_ev (d + 4)) 155 (84, [.ref 33, .int k, .int a, .int b, .int c, .int p, .int (ir_b (f && (decide (1 < k) || (isHo σ a && (isHo σ b && !decide (a = b))))))], [], σ) := by
  simp only [s155_46, s155_48, s155_51, s155_52, s155_53, s155_56, s155_57, s155_58, s155_61, s155_64, s155_65, s155_66, s155_69, s155_72, s155_73, s155_74, s155_77, s155_78, s155_81, s155_82, mHost r, ir_k_i, ir_tl_i]
  by_cases hk : 1 < k <;> by_cases hab : a = b <;> cases f <;> cases isHo σ a <;> cases isHo σ b <;> simp [ir_b, hk, hab]
theorem st2 {d : Nat} {k a b c p : Int32} {f : Bool} (r : R1 σ N m LA LB) : ir_run (ir_ev (d + 4)) 155 (84, [.ref 33, .int k, .int a, .int b, .int c, .int p, .int (ir_b f)], [], σ) = ir_run (ir_ev (d + 4)) 155 (124, [.ref 33, .int k, .int a, .int b, .int c, .int p, .int (ir_b (f && (!decide (k = 2) || (isHo σ a && (inr b 6 && inr c 4)))))], [], σ) := by
  simp only [s155_84, s155_86, s155_89, s155_90, s155_91, s155_94, s155_95, s155_96, s155_99, s155_102, s155_103, s155_106, s155_109, s155_111, s155_114, s155_117, s155_118, s155_121, s155_122, mHost r, m127, m126, ir_k_i, ir_tl_i]
  by_cases hk : k = 2 <;> cases f <;> cases isHo σ a <;> cases inr b 6 <;> cases inr c 4 <;> simp [ir_b, hk]
theorem st3 {d : Nat} {k a b c p : Int32} {f : Bool} (r : R1 σ N m LA LB) : ir_run (ir_ev (d + 4)) 155 (124, [.ref 33, .int k, .int a, .int b, .int c, .int p, .int (ir_b f)], [], σ) = ir_run (ir_ev (d + 4)) 155 (157, [.ref 33, .int k, .int a, .int b, .int c, .int p, .int (ir_b (f && (!decide (k = 3) || (isGa σ a && isHo σ b))))], [], σ) := by
  simp only [s155_124, s155_126, s155_129, s155_130, s155_131, s155_134, s155_135, s155_136, s155_139, s155_142, s155_143, s155_144, s155_147, s155_150, s155_151, s155_154, s155_155, mHost r, mGate r, ir_k_i, ir_tl_i]
  by_cases hk : k = 3 <;> cases f <;> cases isGa σ a <;> cases isHo σ b <;> simp [ir_b, hk]
theorem st4 {d : Nat} {k a b c p : Int32} {f : Bool} (r : R1 σ N m LA LB) : ir_run (ir_ev (d + 4)) 155 (157, [.ref 33, .int k, .int a, .int b, .int c, .int p, .int (ir_b f)], [], σ) = ir_run (ir_ev (d + 4)) 155 (190, [.ref 33, .int k, .int a, .int b, .int c, .int p, .int (ir_b (f && (!decide (k = 4) || inr a (nI m))))], [], σ) := by
  have e3 := r.2.2.2.2.2.1
  simp only [s155_157, s155_159, s155_162, s155_163, s155_164, s155_167, s155_168, s155_169, s155_170, s155_171, s155_174, s155_175, s155_176, s155_177, s155_180, s155_183, s155_184, s155_187, s155_188, e3, mLine r, ir_k_i, ir_tl_i]
  by_cases hk : k = 4 <;> cases f <;> cases inr a (nI m) <;> simp [ir_b, hk]
theorem st0 {d : Nat} {k a b c p : Int32} (hK : K ≤ 12) (h26 : σ 33 26 = nI K) : ir_run (ir_ev (d + 4)) 155 (5, [.ref 33, .int k, .int a, .int b, .int c, .int p, .null], [], σ) = ir_run (ir_ev (d + 4)) 155 (46, [.ref 33, .int k, .int a, .int b, .int c, .int p, .int (ir_b (decide (K < 12) && (prB p && inr k 5)))], [], σ) := by
  by_cases hf : K < 12
  · have hf' : ¬ 12 ≤ K := by omega
    cases hp : prB p <;> cases hk : inr k 5 <;> simp (disch := omega) only [s155_5, s155_6, s155_9, s155_11, s155_14, s155_16, s155_17, s155_18, s155_21, s155_24, s155_27, s155_28, s155_29, s155_30, s155_33, s155_36, s155_39, s155_40, s155_43, s155_44, h26, mPrice, mKind, hp, hk, n_lt_0, n_le_0, n_tl_0, n_el_0, n_eq_0, n_ad_0, n_lt_1, n_le_1, n_tl_1, n_el_1, n_eq_1, n_ad_1, n_lt_2, n_le_2, n_tl_2, n_el_2, n_eq_2, n_ad_2, n_lt_3, n_le_3, n_tl_3, n_el_3, n_eq_3, n_ad_3, n_lt_4, n_le_4, n_tl_4, n_el_4, n_eq_4, n_ad_4, n_lt_5, n_le_5, n_tl_5, n_el_5, n_eq_5, n_ad_5, n_lt_6, n_le_6, n_tl_6, n_el_6, n_eq_6, n_ad_6, n_lt_10, n_le_10, n_tl_10, n_el_10, n_eq_10, n_ad_10, n_lt_11, n_le_11, n_tl_11, n_el_11, n_eq_11, n_ad_11, n_lt_12, n_le_12, n_tl_12, n_el_12, n_eq_12, n_ad_12, n_lt_13, n_le_13, n_tl_13, n_el_13, n_eq_13, n_ad_13, n_lt_15, n_le_15, n_tl_15, n_el_15, n_eq_15, n_ad_15, n_lt_20, n_le_20, n_tl_20, n_el_20, n_eq_20, n_ad_20, n_lt_30, n_le_30, n_tl_30, n_el_30, n_eq_30, n_ad_30, n_lt_31, n_le_31, n_tl_31, n_el_31, n_eq_31, n_ad_31, n_lt_32, n_le_32, n_tl_32, n_el_32, n_eq_32, n_ad_32, n_lt_60, n_le_60, n_tl_60, n_el_60, n_eq_60, n_ad_60, n_lt_99, n_le_99, n_tl_99, n_el_99, n_eq_99, n_ad_99, n_lt_100, n_le_100, n_tl_100, n_el_100, n_eq_100, n_ad_100, n_lt_144, n_le_144, n_tl_144, n_el_144, n_eq_144, n_ad_144, n_lt_4096, n_le_4096, n_tl_4096, n_el_4096, n_eq_4096, n_ad_4096, n_mulK, nI_add, pk_mul, n_lt, n_le, n_eq, n_eqM, n_ix, n_cl, if_neg hf', hf, decide_true, ir_b_t, ir_b_f, ir_k_i, ir_tl_i, i_10, if_true, if_false, Bool.true_and, Bool.false_and, Bool.and_false]
  · have hf' : 12 ≤ K := by omega
    simp (disch := omega) only [s155_5, s155_6, s155_9, s155_11, s155_43, s155_44, h26, n_lt_0, n_le_0, n_tl_0, n_el_0, n_eq_0, n_ad_0, n_lt_1, n_le_1, n_tl_1, n_el_1, n_eq_1, n_ad_1, n_lt_2, n_le_2, n_tl_2, n_el_2, n_eq_2, n_ad_2, n_lt_3, n_le_3, n_tl_3, n_el_3, n_eq_3, n_ad_3, n_lt_4, n_le_4, n_tl_4, n_el_4, n_eq_4, n_ad_4, n_lt_5, n_le_5, n_tl_5, n_el_5, n_eq_5, n_ad_5, n_lt_6, n_le_6, n_tl_6, n_el_6, n_eq_6, n_ad_6, n_lt_10, n_le_10, n_tl_10, n_el_10, n_eq_10, n_ad_10, n_lt_11, n_le_11, n_tl_11, n_el_11, n_eq_11, n_ad_11, n_lt_12, n_le_12, n_tl_12, n_el_12, n_eq_12, n_ad_12, n_lt_13, n_le_13, n_tl_13, n_el_13, n_eq_13, n_ad_13, n_lt_15, n_le_15, n_tl_15, n_el_15, n_eq_15, n_ad_15, n_lt_20, n_le_20, n_tl_20, n_el_20, n_eq_20, n_ad_20, n_lt_30, n_le_30, n_tl_30, n_el_30, n_eq_30, n_ad_30, n_lt_31, n_le_31, n_tl_31, n_el_31, n_eq_31, n_ad_31, n_lt_32, n_le_32, n_tl_32, n_el_32, n_eq_32, n_ad_32, n_lt_60, n_le_60, n_tl_60, n_el_60, n_eq_60, n_ad_60, n_lt_99, n_le_99, n_tl_99, n_el_99, n_eq_99, n_ad_99, n_lt_100, n_le_100, n_tl_100, n_el_100, n_eq_100, n_ad_100, n_lt_144, n_le_144, n_tl_144, n_el_144, n_eq_144, n_ad_144, n_lt_4096, n_le_4096, n_tl_4096, n_el_4096, n_eq_4096, n_ad_4096, n_mulK, nI_add, pk_mul, n_lt, n_le, n_eq, n_eqM, n_ix, n_cl, if_pos hf', hf, decide_false, Bool.false_and, ir_b_f]
theorem lk_all {k a b c : Int32} : (inr k 5 && ((decide (1 < k) || (isHo σ a && (isHo σ b && !decide (a = b)))) && ((!decide (k = 2) || (isHo σ a && (inr b 6 && inr c 4))) && ((!decide (k = 3) || (isGa σ a && isHo σ b)) && (!decide (k = 4) || inr a (nI m)))))) = lkB σ m k a b c := by
  rcases cases5 k with (rfl | rfl | rfl | rfl | rfl) | hv
  · have e : lkB σ m 0 a b c = (isHo σ a && isHo σ b && !decide (a = b)) := rfl
    have h1 : inr 0 5 = true := by decide
    have h2 : decide ((1 : Int32) < 0) = false := by decide
    have h3 : decide ((0 : Int32) = 2) = false := by decide
    have h4 : decide ((0 : Int32) = 3) = false := by decide
    have h5 : decide ((0 : Int32) = 4) = false := by decide
    rw [e, h1, h2, h3, h4, h5]
    cases isHo σ a <;> cases isHo σ b <;> cases decide (a = b) <;> rfl
  · have e : lkB σ m 1 a b c = (isHo σ a && isHo σ b && !decide (a = b)) := rfl
    have h1 : inr 1 5 = true := by decide
    have h2 : decide ((1 : Int32) < 1) = false := by decide
    have h3 : decide ((1 : Int32) = 2) = false := by decide
    have h4 : decide ((1 : Int32) = 3) = false := by decide
    have h5 : decide ((1 : Int32) = 4) = false := by decide
    rw [e, h1, h2, h3, h4, h5]
    cases isHo σ a <;> cases isHo σ b <;> cases decide (a = b) <;> rfl
  · have e : lkB σ m 2 a b c = (isHo σ a && (inr b 6 && inr c 4)) := rfl
    have h1 : inr 2 5 = true := by decide
    have h2 : decide ((1 : Int32) < 2) = true := by decide
    have h3 : decide ((2 : Int32) = 2) = true := by decide
    have h4 : decide ((2 : Int32) = 3) = false := by decide
    have h5 : decide ((2 : Int32) = 4) = false := by decide
    rw [e, h1, h2, h3, h4, h5]
    cases isHo σ a <;> cases inr b 6 <;> cases inr c 4 <;> rfl
  · have e : lkB σ m 3 a b c = (isGa σ a && isHo σ b) := rfl
    have h1 : inr 3 5 = true := by decide
    have h2 : decide ((1 : Int32) < 3) = true := by decide
    have h3 : decide ((3 : Int32) = 2) = false := by decide
    have h4 : decide ((3 : Int32) = 3) = true := by decide
    have h5 : decide ((3 : Int32) = 4) = false := by decide
    rw [e, h1, h2, h3, h4, h5]
    cases isGa σ a <;> cases isHo σ b <;> rfl
  · have e : lkB σ m 4 a b c = inr a (nI m) := rfl
    have h1 : inr 4 5 = true := by decide
    have h2 : decide ((1 : Int32) < 4) = true := by decide
    have h3 : decide ((4 : Int32) = 2) = false := by decide
    have h4 : decide ((4 : Int32) = 3) = false := by decide
    have h5 : decide ((4 : Int32) = 4) = true := by decide
    rw [e, h1, h2, h3, h4, h5]
    cases inr a (nI m) <;> rfl
  · obtain ⟨h0, h1, h2, h3, h4⟩ := out5 hv
    have e : lkB σ m k a b c = false := by unfold lkB; rw [if_neg (fun q => q.elim h0 h1), if_neg h2, if_neg h3, if_neg h4]
    have hi : inr k 5 = false := by
      cases h : inr k 5 with
      | false => rfl
      | true =>
        obtain ⟨x, hx, rfl⟩ := inr_nI (n := 5) (by omega) h
        rw [nI_toInt (by omega)] at hv
        omega
    rw [e, hi, Bool.false_and]
theorem m155_mid {d : Nat} {k a b c p : Int32} (r : R1 σ N m LA LB) (hK : K ≤ 12) (h26 : σ 33 26 = nI K) : ir_run (ir_ev (d + 4)) 155 (5, [.ref 33, .int k, .int a, .int b, .int c, .int p, .null], [], σ) = ir_run (ir_ev (d + 4)) 155 (190, [.ref 33, .int k, .int a, .int b, .int c, .int p, .int (ir_b (decide (K < 12) && (prB p && lkB σ m k a b c)))], [], σ) := by
  rw [st0 hK h26, st1 r, st2 r, st3 r, st4 r, ← lk_all]
  congr 7
  simp only [Bool.and_assoc]
theorem lkB_N {k a b c : Int32} (r : R1 σ N m LA LB) (h : lkB σ m k a b c = true) : lookN N k a b c ∧ (k = 3 → a ≠ b) := by
  have hN := r.1
  have hm := r.2.1
  rcases cases5 k with (rfl | rfl | rfl | rfl | rfl) | hv
  · have h : (isHo σ a && isHo σ b && !decide (a = b)) = true := h
    rw [Bool.and_eq_true, Bool.and_eq_true] at h
    obtain ⟨x, hx, rfl, _⟩ := isHo_k r h.1.1
    obtain ⟨y, hy, rfl, _⟩ := isHo_k r h.1.2
    exact ⟨Or.inl ⟨Or.inl rfl, ⟨x, hx, rfl⟩, y, hy, rfl⟩, fun q => absurd q (by decide)⟩
  · have h : (isHo σ a && isHo σ b && !decide (a = b)) = true := h
    rw [Bool.and_eq_true, Bool.and_eq_true] at h
    obtain ⟨x, hx, rfl, _⟩ := isHo_k r h.1.1
    obtain ⟨y, hy, rfl, _⟩ := isHo_k r h.1.2
    exact ⟨Or.inl ⟨Or.inr rfl, ⟨x, hx, rfl⟩, y, hy, rfl⟩, fun q => absurd q (by decide)⟩
  · have h : (isHo σ a && (inr b 6 && inr c 4)) = true := h
    rw [Bool.and_eq_true, Bool.and_eq_true] at h
    obtain ⟨x, hx, rfl, _⟩ := isHo_k r h.1
    obtain ⟨y, hy, rfl⟩ := inr_nI (n := 6) (by omega) h.2.1
    obtain ⟨z, hz, rfl⟩ := inr_nI (n := 4) (by omega) h.2.2
    exact ⟨Or.inr (Or.inl ⟨rfl, ⟨x, hx, rfl⟩, ⟨y, hy, rfl⟩, z, hz, rfl⟩), fun q => absurd q (by decide)⟩
  · have h : (isGa σ a && isHo σ b) = true := h
    rw [Bool.and_eq_true] at h
    obtain ⟨x, hx, rfl, hx2⟩ := isGa_k r h.1
    obtain ⟨y, hy, rfl, hy2⟩ := isHo_k r h.2
    refine ⟨Or.inr (Or.inr (Or.inl ⟨rfl, ⟨x, hx, rfl⟩, y, hy, rfl⟩)), fun _ e => ?_⟩
    have : x = y := (nI_eq (by omega) (by omega)).mp e
    subst this
    rw [hy2] at hx2
    exact absurd hx2 (by decide)
  · have h : inr a (nI m) = true := h
    obtain ⟨x, hx, rfl⟩ := inr_nI (by omega) h
    exact ⟨Or.inr (Or.inr (Or.inr ⟨rfl, x, by omega, rfl⟩)), fun q => absurd q (by decide)⟩
  · obtain ⟨h0, h1, h2, h3, h4⟩ := out5 hv
    unfold lkB at h
    rw [if_neg (fun q => q.elim h0 h1), if_neg h2, if_neg h3, if_neg h4] at h
    cases h
theorem lkB_c {k a b c : Int32} (h1 : σ' 1 = σ 1) (h2 : σ' 2 = σ 2) : lkB σ' m k a b c = lkB σ m k a b c := by
  unfold lkB isHo isGa isN
  rw [h1, h2]
theorem prB_k {p : Int32} (h : prB p = true) : ∃ x, 1 ≤ x ∧ x ≤ 100 ∧ p = nI x := by
  unfold prB at h
  rw [Bool.and_eq_true, decide_eq_true_iff, decide_eq_true_iff] at h
  have h0 : ¬ p < 0 := fun q => h.1 (Int32.le_of_lt q)
  obtain ⟨k, hk, rfl⟩ := nI_of h0
  have h1 := h.1
  have h2 := h.2
  rw [n_le_0 (by omega)] at h1
  rw [n_tl_100 (by omega)] at h2
  exact ⟨k, by omega, by omega, rfl⟩
theorem p_look {d : Nat} {k a b c p : Int32} (h : RR σ) : PAIR d 86 155 [.int k, .int a, .int b, .int c, .int p] σ := by
  obtain ⟨N, m, F, C, K, LA, LB, r⟩ := h
  have hK := r.1.2.2.2.2.1
  have r0 := RA_frR (frR_33 (v := 0)) r
  have hrf : ∀ (τ : ir_S) (z : Option ir_R), R1 (ir_up τ 33 0 0) N m LA LB → (ir_up τ 33 0 0) 33 26 = nI K → ir_run (ir_ev (d + 49)) 155 (190, [.ref 33, .int k, .int a, .int b, .int c, .int p, .int (ir_b (decide (K < 12) && (prB p && lkB (ir_up τ 33 0 0) m k a b c)))], [], ir_up τ 33 0 0) = z → ir_ev (d + 50) 155 [.ref 33, .int k, .int a, .int b, .int c, .int p] τ = z := by
    intro τ z rτ h26 hz
    simp only [e155, s155_0, s155_1, s155_2]
    exact Eq.trans (m155_mid (d := d + 45) rτ hK h26) hz
  have lkc : ∀ τ : ir_S, τ 1 = σ 1 → τ 2 = σ 2 → lkB (ir_up τ 33 0 0) m k a b c = lkB σ m k a b c := fun τ h1 h2 => by
    rw [lkB_c (σ := τ) (u_n _ _ _ (by decide)) (u_n _ _ _ (by decide)), lkB_c h1 h2]
  have hcl : ∀ z : Option ir_R, ir_run (ir_ev (d + 49)) 86 (32, [.ref 0, .int k, .int a, .int b, .int c, .int p, .int (ir_b (prB p && lkB σ m k a b c))], [], σ) = z → ir_ev (d + 50) 86 [.ref 0, .int k, .int a, .int b, .int c, .int p] σ = z := by
    intro z hz
    refine Eq.trans ?_ hz
    unfold prB
    simp only [e86, s86_0, s86_2, s86_3, s86_6, s86_8, s86_10, s86_13, s86_14, s86_15, s86_16, s86_17, s86_19, s86_22, s86_25, s86_26, s86_29, s86_30, c109 r.1.1, lt1, ir_k_i, ir_tl_i]
    by_cases h1 : p ≤ 0 <;> by_cases h2 : 100 < p <;> cases lkB σ m k a b c <;> simp [h1, h2, ir_b]
  by_cases hok : (prB p && lkB σ m k a b c) = true
  · by_cases hfull : K = 12
    · have hnf : ¬ K < 12 := by omega
      refine ⟨-1, σ, _, hcl _ ?_, hrf _ _ r0.1.1 r0.1.2.2.2.2.2.2.1 ?_, RR_of r0⟩
      · have k4 := c4f_22 (d := d + 48) (k := k) (a := a) (b := b) (c := c) (p := p) r.1.2.2.2.2.2.1 (by omega) (by omega)
        simp only [s86_32, s86_34, s86_37, s86_38, s86_39, s86_42, s86_43, s86_44, s86_45, s86_47, s86_49_18, s86_49_20, s86_49_22, s86_52, s86_55, s86_59, hok, k4, c110m, ir_b_t, ir_k_i, ir_tl_i, i_10, if_false]
      · simp only [s155_190, s155_192, s155_195, s155_196, hnf, decide_false, Bool.false_and, ir_b_f, if_true]
    · have hK12 : K < 12 := by omega
      have k4 := c4_22 (d := d + 48) (k := k) (a := a) (b := b) (c := c) (p := p) r.1.2.2.2.2.2.1 hK12
      have k4 : ir_ev (d + 49) 4 [.ref 22, .int k, .int a, .int b, .int c, .int p] σ = some (some (.int (nI K)), ent σ 22 K k a b c p) := k4
      have hne := oI_m1 (b := K) (by omega)
      have en : ∀ q, q ≠ 22 → q ≠ 23 → q ≠ 25 → q ≠ 30 → (ir_up (ir_up (ent σ 22 K k a b c p) 25 6 0) 30 0 0) q = σ q := fun q a b c e => by rw [u_n _ _ _ e, u_n _ _ _ c, ent_n a b]
      have e22 : (ir_up (ir_up (ent σ 22 K k a b c p) 25 6 0) 30 0 0) 22 1 = nI (K + 1) := by rw [u_n _ _ _ (by decide), u_n _ _ _ (by decide)]; exact ent_e
      have e23o : ∀ i f, i < K → f < 5 → (ir_up (ir_up (ent σ 22 K k a b c p) 25 6 0) 30 0 0) 23 (i * 5 + f) = σ 23 (i * 5 + f) := fun i f hi hf => by rw [u_n _ _ _ (by decide), u_n _ _ _ (by decide)]; exact ent_o hi hf
      have e230 : (ir_up (ir_up (ent σ 22 K k a b c p) 25 6 0) 30 0 0) 23 (K * 5) = k := by rw [u_n _ _ _ (by decide), u_n _ _ _ (by decide)]; exact ent_0
      have e231 : (ir_up (ir_up (ent σ 22 K k a b c p) 25 6 0) 30 0 0) 23 (K * 5 + 1) = a := by rw [u_n _ _ _ (by decide), u_n _ _ _ (by decide)]; exact ent_1
      have e232 : (ir_up (ir_up (ent σ 22 K k a b c p) 25 6 0) 30 0 0) 23 (K * 5 + 2) = b := by rw [u_n _ _ _ (by decide), u_n _ _ _ (by decide)]; exact ent_2
      have e233 : (ir_up (ir_up (ent σ 22 K k a b c p) 25 6 0) 30 0 0) 23 (K * 5 + 3) = c := by rw [u_n _ _ _ (by decide), u_n _ _ _ (by decide)]; exact ent_3
      have e234 : (ir_up (ir_up (ent σ 22 K k a b c p) 25 6 0) 30 0 0) 23 (K * 5 + 4) = p := by rw [u_n _ _ _ (by decide), u_n _ _ _ (by decide)]; exact ent_4
      have e25 : (ir_up (ir_up (ent σ 22 K k a b c p) 25 6 0) 30 0 0) 25 6 = 0 := by rw [u_n _ _ _ (by decide), u_s, upd_s]
      have e30 : (ir_up (ir_up (ent σ 22 K k a b c p) 25 6 0) 30 0 0) 30 0 = 0 := by rw [u_s, upd_s]
      have hc1 : ir_ev (d + 50) 86 [.ref 0, .int k, .int a, .int b, .int c, .int p] σ = some (some (.int (nI K)), ir_up (ir_up (ent σ 22 K k a b c p) 25 6 0) 30 0 0) := by
        apply hcl
        simp only [s86_32, s86_34, s86_37, s86_38, s86_39, s86_42, s86_43, s86_44, s86_45, s86_47, s86_49_18, s86_49_20, s86_49_22, s86_52, s86_55, s86_59, hok, k4, c110 hne, ir_b_t, ir_k_i, ir_tl_i, i_10, if_false]
      generalize (ir_up (ir_up (ent σ 22 K k a b c p) 25 6 0) 30 0 0) = τ at *
      have e33 : τ 33 = σ 33 := en 33 (by decide) (by decide) (by decide) (by decide)
      have x26 : σ 33 26 = nI K := r.1.2.2.2.2.2.2.1
      have r1' : R1 (ir_up τ 33 0 0) N m LA LB := R1_c (fun c hc => by
        have : c = 1 ∨ c = 2 ∨ c = 3 ∨ c = 4 ∨ c = 5 ∨ c = 34 ∨ c = 35 ∨ c = 36 := by simpa using hc
        rw [u_n _ _ _ (by omega), en c (by omega) (by omega) (by omega) (by omega)]) (by rw [u_s, upd_n _ _ (by decide), e33]) (by rw [u_s, upd_n _ _ (by decide), e33]) r.1.1
      have hlk : (decide (K < 12) && (prB p && lkB (ir_up τ 33 0 0) m k a b c)) = true := by
        rw [lkc τ (en 1 (by decide) (by decide) (by decide) (by decide)) (en 2 (by decide) (by decide) (by decide) (by decide)), hok]
        simp [hK12]
      have hn : ∀ q, q ≠ 33 → (q < 51 ∨ 55 < q) → (ir_up (ir_up (ir_up (ir_up (ir_up (ir_up (ir_up (ir_up τ 33 0 0) 33 34 (-1)) 51 K k) 52 K a) 53 K b) 54 K c) 55 K p) 33 26 (nI (K + 1))) q = τ q := fun q a b => by rw [u_n _ _ _ a, u_n _ _ _ (by omega), u_n _ _ _ (by omega), u_n _ _ _ (by omega), u_n _ _ _ (by omega), u_n _ _ _ (by omega), u_n _ _ _ a, u_n _ _ _ a]
      have h33 : ∀ j, j ≠ 0 → j ≠ 34 → j ≠ 26 → (ir_up (ir_up (ir_up (ir_up (ir_up (ir_up (ir_up (ir_up τ 33 0 0) 33 34 (-1)) 51 K k) 52 K a) 53 K b) 54 K c) 55 K p) 33 26 (nI (K + 1))) 33 j = σ 33 j := fun j a b c => by
        rw [← e33]
        simp (disch := omega) only [u_s, upd_n, u_n]
      have f51 : (ir_up (ir_up (ir_up (ir_up (ir_up (ir_up (ir_up (ir_up τ 33 0 0) 33 34 (-1)) 51 K k) 52 K a) 53 K b) 54 K c) 55 K p) 33 26 (nI (K + 1))) 51 = upd (σ 51) K k := by
        rw [← en 51 (by decide) (by decide) (by decide) (by decide)]
        simp (disch := omega) only [u_s, u_n]
      have f52 : (ir_up (ir_up (ir_up (ir_up (ir_up (ir_up (ir_up (ir_up τ 33 0 0) 33 34 (-1)) 51 K k) 52 K a) 53 K b) 54 K c) 55 K p) 33 26 (nI (K + 1))) 52 = upd (σ 52) K a := by
        rw [← en 52 (by decide) (by decide) (by decide) (by decide)]
        simp (disch := omega) only [u_s, u_n]
      have f53 : (ir_up (ir_up (ir_up (ir_up (ir_up (ir_up (ir_up (ir_up τ 33 0 0) 33 34 (-1)) 51 K k) 52 K a) 53 K b) 54 K c) 55 K p) 33 26 (nI (K + 1))) 53 = upd (σ 53) K b := by
        rw [← en 53 (by decide) (by decide) (by decide) (by decide)]
        simp (disch := omega) only [u_s, u_n]
      have f54 : (ir_up (ir_up (ir_up (ir_up (ir_up (ir_up (ir_up (ir_up τ 33 0 0) 33 34 (-1)) 51 K k) 52 K a) 53 K b) 54 K c) 55 K p) 33 26 (nI (K + 1))) 54 = upd (σ 54) K c := by
        rw [← en 54 (by decide) (by decide) (by decide) (by decide)]
        simp (disch := omega) only [u_s, u_n]
      have f55 : (ir_up (ir_up (ir_up (ir_up (ir_up (ir_up (ir_up (ir_up τ 33 0 0) 33 34 (-1)) 51 K k) 52 K a) 53 K b) 54 K c) 55 K p) 33 26 (nI (K + 1))) 55 = upd (σ 55) K p := by
        rw [← en 55 (by decide) (by decide) (by decide) (by decide)]
        simp (disch := omega) only [u_s, u_n]
      have f26 : (ir_up (ir_up (ir_up (ir_up (ir_up (ir_up (ir_up (ir_up τ 33 0 0) 33 34 (-1)) 51 K k) 52 K a) 53 K b) 54 K c) 55 K p) 33 26 (nI (K + 1))) 33 26 = nI (K + 1) := by rw [u_s, upd_s]
      have f34 : (ir_up (ir_up (ir_up (ir_up (ir_up (ir_up (ir_up (ir_up τ 33 0 0) 33 34 (-1)) 51 K k) 52 K a) 53 K b) 54 K c) 55 K p) 33 26 (nI (K + 1))) 33 34 = -1 := by simp (disch := omega) only [u_s, u_n, upd_s, upd_n]
      have hpred : nI (K + 1) - 1 = nI K := nI_pred K
      refine ⟨nI K, τ, ir_up (ir_up (ir_up (ir_up (ir_up (ir_up (ir_up (ir_up τ 33 0 0) 33 34 (-1)) 51 K k) 52 K a) 53 K b) 54 K c) 55 K p) 33 26 (nI (K + 1)), hc1, hrf _ _ r1' (by rw [u_s, upd_n _ _ (by decide), e33]; exact x26) ?_, ?_⟩
      · rw [hlk]
        simp (disch := omega) only [s155_190, s155_192, s155_197, s155_198, s155_201, s155_202, s155_205, s155_206, s155_209, s155_210, s155_211, s155_212, s155_215, s155_216, s155_219, s155_220, s155_221, s155_222, s155_225, s155_226, s155_229, s155_230, s155_231, s155_232, s155_235, s155_236, s155_239, s155_241, s155_242, s155_243, s155_246, s155_247, s155_250, s155_252, s155_253, s155_254i, s155_254r, s155_255, s155_258, s155_259, s155_260, s155_263, s155_264, s155_267, s155_268, s155_269, xA51, xL51, xa51, xA52, xL52, xa52, xA53, xL53, xa53, xA54, xL54, xa54, xA55, xL55, xa55, u_s, u_n, upd_s, upd_n, e33, x26, m129, n_lt_0, n_le_0, n_tl_0, n_el_0, n_eq_0, n_ad_0, n_lt_1, n_le_1, n_tl_1, n_el_1, n_eq_1, n_ad_1, n_lt_2, n_le_2, n_tl_2, n_el_2, n_eq_2, n_ad_2, n_lt_3, n_le_3, n_tl_3, n_el_3, n_eq_3, n_ad_3, n_lt_4, n_le_4, n_tl_4, n_el_4, n_eq_4, n_ad_4, n_lt_5, n_le_5, n_tl_5, n_el_5, n_eq_5, n_ad_5, n_lt_6, n_le_6, n_tl_6, n_el_6, n_eq_6, n_ad_6, n_lt_10, n_le_10, n_tl_10, n_el_10, n_eq_10, n_ad_10, n_lt_11, n_le_11, n_tl_11, n_el_11, n_eq_11, n_ad_11, n_lt_12, n_le_12, n_tl_12, n_el_12, n_eq_12, n_ad_12, n_lt_13, n_le_13, n_tl_13, n_el_13, n_eq_13, n_ad_13, n_lt_15, n_le_15, n_tl_15, n_el_15, n_eq_15, n_ad_15, n_lt_20, n_le_20, n_tl_20, n_el_20, n_eq_20, n_ad_20, n_lt_30, n_le_30, n_tl_30, n_el_30, n_eq_30, n_ad_30, n_lt_31, n_le_31, n_tl_31, n_el_31, n_eq_31, n_ad_31, n_lt_32, n_le_32, n_tl_32, n_el_32, n_eq_32, n_ad_32, n_lt_60, n_le_60, n_tl_60, n_el_60, n_eq_60, n_ad_60, n_lt_99, n_le_99, n_tl_99, n_el_99, n_eq_99, n_ad_99, n_lt_100, n_le_100, n_tl_100, n_el_100, n_eq_100, n_ad_100, n_lt_144, n_le_144, n_tl_144, n_el_144, n_eq_144, n_ad_144, n_lt_4096, n_le_4096, n_tl_4096, n_el_4096, n_eq_4096, n_ad_4096, n_mulK, nI_add, pk_mul, n_lt, n_le, n_eq, n_eqM, n_ix, n_cl, hK12, hpred, decide_true, ir_b_t, ir_k_v, ir_tl_v, i_10, if_true, if_false]
      · generalize (ir_up (ir_up (ir_up (ir_up (ir_up (ir_up (ir_up (ir_up τ 33 0 0) 33 34 (-1)) 51 K k) 52 K a) 53 K b) 54 K c) 55 K p) 33 26 (nI (K + 1))) = ρ at *
        have hnn : ∀ q, q ≠ 33 → (q < 51 ∨ 55 < q) → q ≠ 22 → q ≠ 23 → q ≠ 25 → q ≠ 30 → ρ q = σ q := fun q a b e f g h => by rw [hn q a b, en q e f g h]
        have e23 : ρ 23 = τ 23 := hn 23 (by decide) (by omega)
        rw [Bool.and_eq_true] at hok
        refine RR_of (RA_ch (K' := K + 1) r ⟨R1_c (fun c hc => ?_) (h33 1 (by decide) (by decide) (by decide)) (h33 3 (by decide) (by decide) (by decide)) r.1.1, R2_c (fun c hc => ?_) (h33 10 (by decide) (by decide) (by decide)) r.1.2.1, R3_c (fun c hc => ?_) (h33 12 (by decide) (by decide) (by decide)) r.1.2.2.1, R4_c (fun c hc => ?_) (h33 17 (by decide) (by decide) (by decide)) r.1.2.2.2.1, ?_⟩ (hnn 31 (by decide) (by omega) (by decide) (by decide) (by decide) (by decide)) (hnn 32 (by decide) (by omega) (by decide) (by decide) (by decide) (by decide)) (hnn 49 (by decide) (by omega) (by decide) (by decide) (by decide) (by decide)) (h33 22 (by decide) (by decide) (by decide)) (by rw [hn 25 (by decide) (by omega)]; exact e25) (by rw [hn 30 (by decide) (by omega)]; exact e30) f34)
        · have : c = 1 ∨ c = 2 ∨ c = 3 ∨ c = 4 ∨ c = 5 ∨ c = 34 ∨ c = 35 ∨ c = 36 := by simpa using hc
          exact hnn c (by omega) (by omega) (by omega) (by omega) (by omega) (by omega)
        · have : c = 2 ∨ c = 6 ∨ c = 7 ∨ c = 8 ∨ c = 9 ∨ c = 10 ∨ c = 37 ∨ c = 38 ∨ c = 39 ∨ c = 40 := by simpa using hc
          exact hnn c (by omega) (by omega) (by omega) (by omega) (by omega) (by omega)
        · have : c = 2 ∨ c = 18 ∨ c = 19 ∨ c = 42 ∨ c = 43 ∨ c = 44 ∨ c = 45 := by simpa using hc
          exact hnn c (by omega) (by omega) (by omega) (by omega) (by omega) (by omega)
        · have : c = 20 ∨ c = 21 ∨ c = 46 ∨ c = 47 := by simpa using hc
          exact hnn c (by omega) (by omega) (by omega) (by omega) (by omega) (by omega)
        · refine ⟨by omega, by rw [hn 22 (by decide) (by omega)]; exact e22, f26, fun l hl => ?_⟩
          rw [f51, f52, f53, f54, f55, e23]
          by_cases e : l = K
          · subst e
            rw [e230, e231, e232, e233, e234, upd_s, upd_s, upd_s, upd_s, upd_s]
            obtain ⟨g1, g2⟩ := lkB_N r.1.1 hok.2
            exact ⟨rfl, rfl, rfl, rfl, rfl, prB_k hok.1, g1, g2⟩
          · have g0 := e23o l 0 (by omega) (by decide)
            rw [Nat.add_zero] at g0
            rw [upd_n _ _ e, upd_n _ _ e, upd_n _ _ e, upd_n _ _ e, upd_n _ _ e, g0, e23o l 1 (by omega) (by decide), e23o l 2 (by omega) (by decide), e23o l 3 (by omega) (by decide), e23o l 4 (by omega) (by decide)]
            exact r.1.2.2.2.2.2.2.2 l (by omega)
  · have hok : (prB p && lkB σ m k a b c) = false := by simpa using hok
    refine ⟨-1, σ, _, hcl _ ?_, hrf _ _ r0.1.1 r0.1.2.2.2.2.2.2.1 ?_, RR_of r0⟩
    · simp only [s86_32, s86_34, s86_58, s86_59, hok, ir_b_f, if_true]
    · rw [lkc σ rfl rfl, hok, Bool.and_false]
      simp only [s155_190, s155_192, s155_195, s155_196, ir_b_f, if_true]
end LK
