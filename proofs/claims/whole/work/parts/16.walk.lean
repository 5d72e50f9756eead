/-! a letter's way, as both sides step it: hst: hosts; nr, ln, rt: nearest, line, route told (-1: none); den: denied; cut: a line that carries nothing (-1 too) -/
def wkH (rt nr : Nat → Nat → Int32) (a t : Nat) : Int32 := if rt a t = -1 then nr a t else rt a t
def wk (hst : Nat → Bool) (nr ln rt : Nat → Nat → Int32) (den : Nat → Nat → Bool) (cut : Int32 → Bool) (f t : Nat) : Nat → Nat → Nat → (Nat → Int32) → Bool × Nat × (Nat → Int32)
  | 0, a, n, p => (decide (a = t), n, p)
  | k + 1, a, n, p => if a = t then (true, n, p) else if ((decide (a ≠ f) && hst a) || den a t) = true then (false, n, p) else
      if wkH rt nr a t = -1 then (false, n, p) else if cut (ln a (wkH rt nr a t).toNatClampNeg) = true then (false, n, p)
      else wk hst nr ln rt den cut f t k (wkH rt nr a t).toNatClampNeg (n + 1) (upd p n (wkH rt nr a t))
def cutB (x : Int32) (v : Int32) : Bool := if v = -1 then true else ir_bit x v.toNatClampNeg
/-- a place or none -/
def nod (m : Nat) (v : Int32) : Prop := v = -1 ∨ ∃ k, k < m ∧ v = nI k
/-- the class's net, as far as letters need it, at a Setting B -/
def netB (σ : ir_S) (B : Nat) : Prop := (σ 1 4).toInt ≤ 12 ∧ (∀ i, i < 144 → nod 12 (σ 5 i)) ∧ (∀ i, i < 144 → nod 20 (σ 4 i)) ∧ (∀ i, i < 144 → nod 12 (σ (B + 1) i))
def cW (σ : ir_S) (B s f t : Nat) : Nat → Nat → Nat → (Nat → Int32) → Bool × Nat × (Nat → Int32) :=
  wk (fun a => isHo σ (nI a)) (fun a b => σ 5 (a * 12 + b)) (fun a b => σ 4 (a * 12 + b)) (fun a b => σ (B + 1) (a * 12 + b)) (fun a b => ir_bit (σ (B + 2) (a * 12 + b)) s) (cutB (σ B 5)) f t
theorem isHo_ag {σ σ' : ir_S} (h1 : σ' 1 = σ 1) (h2 : σ' 2 = σ 2) (n : Int32) : isHo σ' n = isHo σ n := by unfold isHo isN; rw [h1, h2]
set_option maxHeartbeats 4000000 in
theorem c34_6_loop {d s f t : Nat} {σ0 : ir_S} (hf : f < 12) (ht : t < 12) (hn : netB σ0 6) : ∀ (k a n : Nat) (p : Nat → Int32) (σ : ir_S) (l6 l7 : Value), n + k = 31 → a < 12 → (∀ c, c ≠ 16 → c ≠ 17 → σ c = σ0 c) → σ 16 2 = nI n → (∀ i, i < n → σ 17 i = p i) →
    ∃ σ', ir_run (ir_ev (d + 1)) 34 (15, [.ref 16, .ref 6, .int (nI s), .int (nI f), .int (nI t), .int (nI a), l6, l7], [], σ) = some (some (.int (ir_b ((cW σ0 6 s f t k a n p).1 && !ir_bit (σ0 6 6) t))), σ') ∧ (∀ c, c ≠ 16 → c ≠ 17 → σ' c = σ0 c) ∧ σ' 16 2 = nI (cW σ0 6 s f t k a n p).2.1 ∧ (cW σ0 6 s f t k a n p).2.1 ≤ 31 ∧ (1 ≤ n → 1 ≤ (cW σ0 6 s f t k a n p).2.1) ∧ ∀ i, i < (cW σ0 6 s f t k a n p).2.1 → σ' 17 i = (cW σ0 6 s f t k a n p).2.2 i := by
  intro k
  induction k with
  | zero =>
    intro a n p σ l6 l7 hnk ha hag hlen hp
    have hn31 : n = 31 := by omega
    subst hn31
    have e6 : σ 6 = σ0 6 := hag 6 (by decide) (by decide)
    by_cases hat : a = t
    · subst hat
      refine ⟨σ, ?_, hag, hlen, Nat.le_refl _, fun h => h, hp⟩
      rw [s34_15]
      simp (disch := omega) only [e34, s34_0, s34_1, s34_3, s34_4, s34_7, s34_8, s34_9, s34_10, s34_11, s34_12, s34_17, s34_19, s34_147, s34_22, s34_149, s34_23, s34_151, s34_26, s34_167, s34_154, s34_27, s34_168z, s34_168o, s34_168b, s34_155, s34_30, s34_157_6, s34_157_11, s34_31, s34_160, s34_34, s34_163, s34_36, s34_164, s34_37, s34_56, s34_40, s34_57, s34_41, s34_59, s34_44, s34_61, s34_46, s34_76, s34_64, s34_49, s34_77z, s34_77o, s34_77b, s34_65, s34_52, s34_67, s34_53, s34_69, s34_70_6, s34_70_11, s34_73, s34_78, s34_79, s34_81, s34_83, s34_84, s34_87, s34_89, s34_91, s34_94_6, s34_94_11, s34_97, s34_99, s34_100, s34_101, s34_104, s34_106, s34_108, s34_111_6, s34_111_11, s34_114, s34_119, s34_117, s34_121, s34_118z, s34_118o, s34_118b, s34_123, s34_124, s34_127, s34_128, s34_131, s34_133, s34_134, s34_135i, s34_135r, s34_136, s34_139, s34_140, s34_141, s34_144, c56_6, ir_k_i, ir_tl_i, n_lt_0, n_le_0, n_tl_0, n_el_0, n_eq_0, n_ad_0, n_lt_1, n_le_1, n_tl_1, n_el_1, n_eq_1, n_ad_1, n_lt_2, n_le_2, n_tl_2, n_el_2, n_eq_2, n_ad_2, n_lt_3, n_le_3, n_tl_3, n_el_3, n_eq_3, n_ad_3, n_lt_4, n_le_4, n_tl_4, n_el_4, n_eq_4, n_ad_4, n_lt_5, n_le_5, n_tl_5, n_el_5, n_eq_5, n_ad_5, n_lt_6, n_le_6, n_tl_6, n_el_6, n_eq_6, n_ad_6, n_lt_10, n_le_10, n_tl_10, n_el_10, n_eq_10, n_ad_10, n_lt_11, n_le_11, n_tl_11, n_el_11, n_eq_11, n_ad_11, n_lt_12, n_le_12, n_tl_12, n_el_12, n_eq_12, n_ad_12, n_lt_13, n_le_13, n_tl_13, n_el_13, n_eq_13, n_ad_13, n_lt_15, n_le_15, n_tl_15, n_el_15, n_eq_15, n_ad_15, n_lt_20, n_le_20, n_tl_20, n_el_20, n_eq_20, n_ad_20, n_lt_30, n_le_30, n_tl_30, n_el_30, n_eq_30, n_ad_30, n_lt_31, n_le_31, n_tl_31, n_el_31, n_eq_31, n_ad_31, n_lt_32, n_le_32, n_tl_32, n_el_32, n_eq_32, n_ad_32, n_lt_60, n_le_60, n_tl_60, n_el_60, n_eq_60, n_ad_60, n_lt_99, n_le_99, n_tl_99, n_el_99, n_eq_99, n_ad_99, n_lt_100, n_le_100, n_tl_100, n_el_100, n_eq_100, n_ad_100, n_lt_144, n_le_144, n_tl_144, n_el_144, n_eq_144, n_ad_144, n_lt_4096, n_le_4096, n_tl_4096, n_el_4096, n_eq_4096, n_ad_4096, n_mulK, nI_add, pk_mul, n_lt, n_le, n_eq, n_eqM, n_ix, n_cl, e6]
      by_cases hb : ir_bit (σ0 6 6) a = true
      · simp [hb, cW, wk, ir_b]
      · simp [hb, cW, wk, ir_b]
    · refine ⟨σ, ?_, hag, hlen, Nat.le_refl _, fun h => h, hp⟩
      rw [s34_15]
      simp (disch := omega) only [e34, s34_0, s34_1, s34_3, s34_4, s34_7, s34_8, s34_9, s34_10, s34_11, s34_12, s34_17, s34_19, s34_147, s34_22, s34_149, s34_23, s34_151, s34_26, s34_167, s34_154, s34_27, s34_168z, s34_168o, s34_168b, s34_155, s34_30, s34_157_6, s34_157_11, s34_31, s34_160, s34_34, s34_163, s34_36, s34_164, s34_37, s34_56, s34_40, s34_57, s34_41, s34_59, s34_44, s34_61, s34_46, s34_76, s34_64, s34_49, s34_77z, s34_77o, s34_77b, s34_65, s34_52, s34_67, s34_53, s34_69, s34_70_6, s34_70_11, s34_73, s34_78, s34_79, s34_81, s34_83, s34_84, s34_87, s34_89, s34_91, s34_94_6, s34_94_11, s34_97, s34_99, s34_100, s34_101, s34_104, s34_106, s34_108, s34_111_6, s34_111_11, s34_114, s34_119, s34_117, s34_121, s34_118z, s34_118o, s34_118b, s34_123, s34_124, s34_127, s34_128, s34_131, s34_133, s34_134, s34_135i, s34_135r, s34_136, s34_139, s34_140, s34_141, s34_144, xA17, xL17, xa17, n_lt_0, n_le_0, n_tl_0, n_el_0, n_eq_0, n_ad_0, n_lt_1, n_le_1, n_tl_1, n_el_1, n_eq_1, n_ad_1, n_lt_2, n_le_2, n_tl_2, n_el_2, n_eq_2, n_ad_2, n_lt_3, n_le_3, n_tl_3, n_el_3, n_eq_3, n_ad_3, n_lt_4, n_le_4, n_tl_4, n_el_4, n_eq_4, n_ad_4, n_lt_5, n_le_5, n_tl_5, n_el_5, n_eq_5, n_ad_5, n_lt_6, n_le_6, n_tl_6, n_el_6, n_eq_6, n_ad_6, n_lt_10, n_le_10, n_tl_10, n_el_10, n_eq_10, n_ad_10, n_lt_11, n_le_11, n_tl_11, n_el_11, n_eq_11, n_ad_11, n_lt_12, n_le_12, n_tl_12, n_el_12, n_eq_12, n_ad_12, n_lt_13, n_le_13, n_tl_13, n_el_13, n_eq_13, n_ad_13, n_lt_15, n_le_15, n_tl_15, n_el_15, n_eq_15, n_ad_15, n_lt_20, n_le_20, n_tl_20, n_el_20, n_eq_20, n_ad_20, n_lt_30, n_le_30, n_tl_30, n_el_30, n_eq_30, n_ad_30, n_lt_31, n_le_31, n_tl_31, n_el_31, n_eq_31, n_ad_31, n_lt_32, n_le_32, n_tl_32, n_el_32, n_eq_32, n_ad_32, n_lt_60, n_le_60, n_tl_60, n_el_60, n_eq_60, n_ad_60, n_lt_99, n_le_99, n_tl_99, n_el_99, n_eq_99, n_ad_99, n_lt_100, n_le_100, n_tl_100, n_el_100, n_eq_100, n_ad_100, n_lt_144, n_le_144, n_tl_144, n_el_144, n_eq_144, n_ad_144, n_lt_4096, n_le_4096, n_tl_4096, n_el_4096, n_eq_4096, n_ad_4096, n_mulK, nI_add, pk_mul, n_lt, n_le, n_eq, n_eqM, n_ix, n_cl, hlen]
      simp [hat, cW, wk, ir_b]
  | succ k ih =>
    intro a n p σ l6 l7 hnk ha hag hlen hp
    have e6 : σ 6 = σ0 6 := hag 6 (by decide) (by decide)
    have e7 : σ 7 = σ0 7 := hag 7 (by decide) (by decide)
    have e8 : σ 8 = σ0 8 := hag 8 (by decide) (by decide)
    have e1 : σ 1 = σ0 1 := hag 1 (by decide) (by decide)
    have e2 : σ 2 = σ0 2 := hag 2 (by decide) (by decide)
    have e4 : σ 4 = σ0 4 := hag 4 (by decide) (by decide)
    have e5 : σ 5 = σ0 5 := hag 5 (by decide) (by decide)
    have hN : (σ 1 4).toInt ≤ 12 := by rw [e1]; exact hn.1
    have hho : isHo σ (nI a) = isHo σ0 (nI a) := isHo_ag e1 e2 _
    by_cases hat : a = t
    · subst hat
      refine ⟨σ, ?_, hag, ?_⟩
      · rw [s34_15]
        simp (disch := omega) only [e34, s34_0, s34_1, s34_3, s34_4, s34_7, s34_8, s34_9, s34_10, s34_11, s34_12, s34_17, s34_19, s34_147, s34_22, s34_149, s34_23, s34_151, s34_26, s34_167, s34_154, s34_27, s34_168z, s34_168o, s34_168b, s34_155, s34_30, s34_157_6, s34_157_11, s34_31, s34_160, s34_34, s34_163, s34_36, s34_164, s34_37, s34_56, s34_40, s34_57, s34_41, s34_59, s34_44, s34_61, s34_46, s34_76, s34_64, s34_49, s34_77z, s34_77o, s34_77b, s34_65, s34_52, s34_67, s34_53, s34_69, s34_70_6, s34_70_11, s34_73, s34_78, s34_79, s34_81, s34_83, s34_84, s34_87, s34_89, s34_91, s34_94_6, s34_94_11, s34_97, s34_99, s34_100, s34_101, s34_104, s34_106, s34_108, s34_111_6, s34_111_11, s34_114, s34_119, s34_117, s34_121, s34_118z, s34_118o, s34_118b, s34_123, s34_124, s34_127, s34_128, s34_131, s34_133, s34_134, s34_135i, s34_135r, s34_136, s34_139, s34_140, s34_141, s34_144, c56_6, ir_k_i, ir_tl_i, n_lt_0, n_le_0, n_tl_0, n_el_0, n_eq_0, n_ad_0, n_lt_1, n_le_1, n_tl_1, n_el_1, n_eq_1, n_ad_1, n_lt_2, n_le_2, n_tl_2, n_el_2, n_eq_2, n_ad_2, n_lt_3, n_le_3, n_tl_3, n_el_3, n_eq_3, n_ad_3, n_lt_4, n_le_4, n_tl_4, n_el_4, n_eq_4, n_ad_4, n_lt_5, n_le_5, n_tl_5, n_el_5, n_eq_5, n_ad_5, n_lt_6, n_le_6, n_tl_6, n_el_6, n_eq_6, n_ad_6, n_lt_10, n_le_10, n_tl_10, n_el_10, n_eq_10, n_ad_10, n_lt_11, n_le_11, n_tl_11, n_el_11, n_eq_11, n_ad_11, n_lt_12, n_le_12, n_tl_12, n_el_12, n_eq_12, n_ad_12, n_lt_13, n_le_13, n_tl_13, n_el_13, n_eq_13, n_ad_13, n_lt_15, n_le_15, n_tl_15, n_el_15, n_eq_15, n_ad_15, n_lt_20, n_le_20, n_tl_20, n_el_20, n_eq_20, n_ad_20, n_lt_30, n_le_30, n_tl_30, n_el_30, n_eq_30, n_ad_30, n_lt_31, n_le_31, n_tl_31, n_el_31, n_eq_31, n_ad_31, n_lt_32, n_le_32, n_tl_32, n_el_32, n_eq_32, n_ad_32, n_lt_60, n_le_60, n_tl_60, n_el_60, n_eq_60, n_ad_60, n_lt_99, n_le_99, n_tl_99, n_el_99, n_eq_99, n_ad_99, n_lt_100, n_le_100, n_tl_100, n_el_100, n_eq_100, n_ad_100, n_lt_144, n_le_144, n_tl_144, n_el_144, n_eq_144, n_ad_144, n_lt_4096, n_le_4096, n_tl_4096, n_el_4096, n_eq_4096, n_ad_4096, n_mulK, nI_add, pk_mul, n_lt, n_le, n_eq, n_eqM, n_ix, n_cl, e6]
        by_cases hb : ir_bit (σ0 6 6) a = true
        · simp [hb, cW, wk, ir_b]
        · simp [hb, cW, wk, ir_b]
      · simp only [cW, wk, if_true]
        exact ⟨hlen, by omega, fun h => h, hp⟩
    · have hl31 : ¬ 31 ≤ n := by omega
      by_cases hst : ((decide (a ≠ f) && isHo σ0 (nI a)) || ir_bit (σ0 8 (a * 12 + t)) s) = true
      · refine ⟨σ, ?_, hag, ?_⟩
        · rw [s34_15]
          simp (disch := omega) only [e34, s34_0, s34_1, s34_3, s34_4, s34_7, s34_8, s34_9, s34_10, s34_11, s34_12, s34_17, s34_19, s34_147, s34_22, s34_149, s34_23, s34_151, s34_26, s34_167, s34_154, s34_27, s34_168z, s34_168o, s34_168b, s34_155, s34_30, s34_157_6, s34_157_11, s34_31, s34_160, s34_34, s34_163, s34_36, s34_164, s34_37, s34_56, s34_40, s34_57, s34_41, s34_59, s34_44, s34_61, s34_46, s34_76, s34_64, s34_49, s34_77z, s34_77o, s34_77b, s34_65, s34_52, s34_67, s34_53, s34_69, s34_70_6, s34_70_11, s34_73, s34_78, s34_79, s34_81, s34_83, s34_84, s34_87, s34_89, s34_91, s34_94_6, s34_94_11, s34_97, s34_99, s34_100, s34_101, s34_104, s34_106, s34_108, s34_111_6, s34_111_11, s34_114, s34_119, s34_117, s34_121, s34_118z, s34_118o, s34_118b, s34_123, s34_124, s34_127, s34_128, s34_131, s34_133, s34_134, s34_135i, s34_135r, s34_136, s34_139, s34_140, s34_141, s34_144, xA17, xL17, xa17, n_lt_0, n_le_0, n_tl_0, n_el_0, n_eq_0, n_ad_0, n_lt_1, n_le_1, n_tl_1, n_el_1, n_eq_1, n_ad_1, n_lt_2, n_le_2, n_tl_2, n_el_2, n_eq_2, n_ad_2, n_lt_3, n_le_3, n_tl_3, n_el_3, n_eq_3, n_ad_3, n_lt_4, n_le_4, n_tl_4, n_el_4, n_eq_4, n_ad_4, n_lt_5, n_le_5, n_tl_5, n_el_5, n_eq_5, n_ad_5, n_lt_6, n_le_6, n_tl_6, n_el_6, n_eq_6, n_ad_6, n_lt_10, n_le_10, n_tl_10, n_el_10, n_eq_10, n_ad_10, n_lt_11, n_le_11, n_tl_11, n_el_11, n_eq_11, n_ad_11, n_lt_12, n_le_12, n_tl_12, n_el_12, n_eq_12, n_ad_12, n_lt_13, n_le_13, n_tl_13, n_el_13, n_eq_13, n_ad_13, n_lt_15, n_le_15, n_tl_15, n_el_15, n_eq_15, n_ad_15, n_lt_20, n_le_20, n_tl_20, n_el_20, n_eq_20, n_ad_20, n_lt_30, n_le_30, n_tl_30, n_el_30, n_eq_30, n_ad_30, n_lt_31, n_le_31, n_tl_31, n_el_31, n_eq_31, n_ad_31, n_lt_32, n_le_32, n_tl_32, n_el_32, n_eq_32, n_ad_32, n_lt_60, n_le_60, n_tl_60, n_el_60, n_eq_60, n_ad_60, n_lt_99, n_le_99, n_tl_99, n_el_99, n_eq_99, n_ad_99, n_lt_100, n_le_100, n_tl_100, n_el_100, n_eq_100, n_ad_100, n_lt_144, n_le_144, n_tl_144, n_el_144, n_eq_144, n_ad_144, n_lt_4096, n_le_4096, n_tl_4096, n_el_4096, n_eq_4096, n_ad_4096, n_mulK, nI_add, pk_mul, n_lt, n_le, n_eq, n_eqM, n_ix, n_cl, hlen, c24 hN, c51_6, ir_k_i, ir_tl_i, hho, e8]
          by_cases haf : a = f
          · have h9 : ir_bit (σ0 8 (a * 12 + t)) s = true := by simpa [haf] using hst
            simp [hat, hl31, haf, cW, wk, ir_b]
            simp [haf] at h9 hat
            simp [h9, hat]
          · cases h8 : isHo σ0 (nI a) with
            | true => simp [hat, hl31, haf, h8, cW, wk, ir_b]
            | false =>
              have h9 : ir_bit (σ0 8 (a * 12 + t)) s = true := by simpa [h8] using hst
              simp [hat, hl31, haf, h8, h9, cW, wk, ir_b]
        · simp only [cW, wk, if_neg hat, if_pos hst]
          exact ⟨hlen, by omega, fun h => h, hp⟩
      · have hh1 : ¬ (¬ a = f ∧ isHo σ0 (nI a) = true) := fun h => hst (by simp [h.1, h.2])
        have hh2 : ir_bit (σ0 8 (a * 12 + t)) s = false := by
          cases h9 : ir_bit (σ0 8 (a * 12 + t)) s with
          | false => rfl
          | true => exact absurd (by simp [h9]) hst
        have hidx : a * 12 + t < 144 := by omega
        have hnod : nod 12 (wkH (fun a b => σ0 7 (a * 12 + b)) (fun a b => σ0 5 (a * 12 + b)) a t) := by
          unfold wkH
          by_cases h0 : σ0 7 (a * 12 + t) = -1
          · rw [if_pos h0]; exact hn.2.1 _ hidx
          · rw [if_neg h0]; exact hn.2.2.2 _ hidx
        have hg : ∀ z : Option ir_R, (ir_run (ir_ev (d + 1)) 34 (78, [.ref 16, .ref 6, .int (nI s), .int (nI f), .int (nI t), .int (nI a), .int 0, l7], [], σ) = z) → ir_run (ir_ev (d + 1)) 34 (15, [.ref 16, .ref 6, .int (nI s), .int (nI f), .int (nI t), .int (nI a), l6, l7], [], σ) = z := by
          intro z hz
          rw [s34_15]
          simp (disch := omega) only [e34, s34_0, s34_1, s34_3, s34_4, s34_7, s34_8, s34_9, s34_10, s34_11, s34_12, s34_17, s34_19, s34_147, s34_22, s34_149, s34_23, s34_151, s34_26, s34_167, s34_154, s34_27, s34_168z, s34_168o, s34_168b, s34_155, s34_30, s34_157_6, s34_157_11, s34_31, s34_160, s34_34, s34_163, s34_36, s34_164, s34_37, s34_56, s34_40, s34_57, s34_41, s34_59, s34_44, s34_61, s34_46, s34_76, s34_64, s34_49, s34_77z, s34_77o, s34_77b, s34_65, s34_52, s34_67, s34_53, s34_69, s34_70_6, s34_70_11, s34_73, s34_79, s34_81, s34_83, s34_84, s34_87, s34_89, s34_91, s34_94_6, s34_94_11, s34_97, s34_99, s34_100, s34_101, s34_104, s34_106, s34_108, s34_111_6, s34_111_11, s34_114, s34_119, s34_117, s34_121, s34_118z, s34_118o, s34_118b, s34_123, s34_124, s34_127, s34_128, s34_131, s34_133, s34_134, s34_135i, s34_135r, s34_136, s34_139, s34_140, s34_141, s34_144, xA17, xL17, xa17, n_lt_0, n_le_0, n_tl_0, n_el_0, n_eq_0, n_ad_0, n_lt_1, n_le_1, n_tl_1, n_el_1, n_eq_1, n_ad_1, n_lt_2, n_le_2, n_tl_2, n_el_2, n_eq_2, n_ad_2, n_lt_3, n_le_3, n_tl_3, n_el_3, n_eq_3, n_ad_3, n_lt_4, n_le_4, n_tl_4, n_el_4, n_eq_4, n_ad_4, n_lt_5, n_le_5, n_tl_5, n_el_5, n_eq_5, n_ad_5, n_lt_6, n_le_6, n_tl_6, n_el_6, n_eq_6, n_ad_6, n_lt_10, n_le_10, n_tl_10, n_el_10, n_eq_10, n_ad_10, n_lt_11, n_le_11, n_tl_11, n_el_11, n_eq_11, n_ad_11, n_lt_12, n_le_12, n_tl_12, n_el_12, n_eq_12, n_ad_12, n_lt_13, n_le_13, n_tl_13, n_el_13, n_eq_13, n_ad_13, n_lt_15, n_le_15, n_tl_15, n_el_15, n_eq_15, n_ad_15, n_lt_20, n_le_20, n_tl_20, n_el_20, n_eq_20, n_ad_20, n_lt_30, n_le_30, n_tl_30, n_el_30, n_eq_30, n_ad_30, n_lt_31, n_le_31, n_tl_31, n_el_31, n_eq_31, n_ad_31, n_lt_32, n_le_32, n_tl_32, n_el_32, n_eq_32, n_ad_32, n_lt_60, n_le_60, n_tl_60, n_el_60, n_eq_60, n_ad_60, n_lt_99, n_le_99, n_tl_99, n_el_99, n_eq_99, n_ad_99, n_lt_100, n_le_100, n_tl_100, n_el_100, n_eq_100, n_ad_100, n_lt_144, n_le_144, n_tl_144, n_el_144, n_eq_144, n_ad_144, n_lt_4096, n_le_4096, n_tl_4096, n_el_4096, n_eq_4096, n_ad_4096, n_mulK, nI_add, pk_mul, n_lt, n_le, n_eq, n_eqM, n_ix, n_cl, hlen, c24 hN, c51_6, ir_k_i, ir_tl_i, hho, e8, hh2]
          by_cases haf : a = f
          · subst haf
            simp [hat, hl31, ir_b]
            exact hz
          · have h8 : isHo σ0 (nI a) = false := by
              cases h8 : isHo σ0 (nI a) with
              | false => rfl
              | true => exact absurd ⟨haf, h8⟩ hh1
            simp [hat, hl31, haf, h8, ir_b]
            exact hz
        rcases hnod with hm | ⟨h', hh', hH⟩
        · have hHe : (if σ0 7 (a * 12 + t) = -1 then σ0 5 (a * 12 + t) else σ0 7 (a * 12 + t)) = -1 := hm
          refine ⟨σ, ?_, hag, ?_⟩
          · apply hg
            rw [s34_78]
            simp (disch := omega) only [e34, s34_0, s34_1, s34_3, s34_4, s34_7, s34_8, s34_9, s34_10, s34_11, s34_12, s34_17, s34_19, s34_147, s34_22, s34_149, s34_23, s34_151, s34_26, s34_167, s34_154, s34_27, s34_168z, s34_168o, s34_168b, s34_155, s34_30, s34_157_6, s34_157_11, s34_31, s34_160, s34_34, s34_163, s34_36, s34_164, s34_37, s34_56, s34_40, s34_57, s34_41, s34_59, s34_44, s34_61, s34_46, s34_76, s34_64, s34_49, s34_77z, s34_77o, s34_77b, s34_65, s34_52, s34_67, s34_53, s34_69, s34_70_6, s34_70_11, s34_73, s34_79, s34_81, s34_83, s34_84, s34_87, s34_89, s34_91, s34_94_6, s34_94_11, s34_97, s34_99, s34_100, s34_101, s34_104, s34_106, s34_108, s34_111_6, s34_111_11, s34_114, s34_119, s34_117, s34_121, s34_118z, s34_118o, s34_118b, s34_123, s34_124, s34_127, s34_128, s34_131, s34_133, s34_134, s34_135i, s34_135r, s34_136, s34_139, s34_140, s34_141, s34_144, c31, c50_6, c32m, c55m_6, ir_k_i, ir_tl_i, e5, e7, hHe]
            simp [cW, wk, hat, hst, hm, ir_b]
          · simp only [cW, wk, if_neg hat, if_neg hst, if_pos hm]
            exact ⟨hlen, by omega, fun h => h, hp⟩
        · have hHe : (if σ0 7 (a * 12 + t) = -1 then σ0 5 (a * 12 + t) else σ0 7 (a * 12 + t)) = nI h' := hH
          have hne : ¬ nI h' = (-1 : Int32) := by rw [n_eqM (by omega)]; exact fun h => h
          have hcl : (nI h').toNatClampNeg = h' := n_cl (by omega)
          have hidx2 : a * 12 + h' < 144 := by omega
          by_cases hcut : cutB (σ0 6 5) (σ0 4 (a * 12 + h')) = true
          · refine ⟨σ, ?_, hag, ?_⟩
            · apply hg
              rw [s34_78]
              rcases hn.2.2.1 _ hidx2 with hl | ⟨q, hq, hl⟩
              · simp (disch := omega) only [e34, s34_0, s34_1, s34_3, s34_4, s34_7, s34_8, s34_9, s34_10, s34_11, s34_12, s34_17, s34_19, s34_147, s34_22, s34_149, s34_23, s34_151, s34_26, s34_167, s34_154, s34_27, s34_168z, s34_168o, s34_168b, s34_155, s34_30, s34_157_6, s34_157_11, s34_31, s34_160, s34_34, s34_163, s34_36, s34_164, s34_37, s34_56, s34_40, s34_57, s34_41, s34_59, s34_44, s34_61, s34_46, s34_76, s34_64, s34_49, s34_77z, s34_77o, s34_77b, s34_65, s34_52, s34_67, s34_53, s34_69, s34_70_6, s34_70_11, s34_73, s34_79, s34_81, s34_83, s34_84, s34_87, s34_89, s34_91, s34_94_6, s34_94_11, s34_97, s34_99, s34_100, s34_101, s34_104, s34_106, s34_108, s34_111_6, s34_111_11, s34_114, s34_119, s34_117, s34_121, s34_118z, s34_118o, s34_118b, s34_123, s34_124, s34_127, s34_128, s34_131, s34_133, s34_134, s34_135i, s34_135r, s34_136, s34_139, s34_140, s34_141, s34_144, c31, c50_6, c32, c55m_6, ir_k_i, ir_tl_i, e5, e7, e4, hHe, hl]
                simp [cW, wk, hat, hst, hH, hne, hcl, hcut, ir_b]
              · have hbit : ir_bit (σ0 6 5) q = true := by
                  have h9 := hcut
                  unfold cutB at h9
                  rw [hl, if_neg (by rw [n_eqM (by omega)]; exact fun h => h), n_cl (by omega)] at h9
                  exact h9
                simp (disch := omega) only [e34, s34_0, s34_1, s34_3, s34_4, s34_7, s34_8, s34_9, s34_10, s34_11, s34_12, s34_17, s34_19, s34_147, s34_22, s34_149, s34_23, s34_151, s34_26, s34_167, s34_154, s34_27, s34_168z, s34_168o, s34_168b, s34_155, s34_30, s34_157_6, s34_157_11, s34_31, s34_160, s34_34, s34_163, s34_36, s34_164, s34_37, s34_56, s34_40, s34_57, s34_41, s34_59, s34_44, s34_61, s34_46, s34_76, s34_64, s34_49, s34_77z, s34_77o, s34_77b, s34_65, s34_52, s34_67, s34_53, s34_69, s34_70_6, s34_70_11, s34_73, s34_79, s34_81, s34_83, s34_84, s34_87, s34_89, s34_91, s34_94_6, s34_94_11, s34_97, s34_99, s34_100, s34_101, s34_104, s34_106, s34_108, s34_111_6, s34_111_11, s34_114, s34_119, s34_117, s34_121, s34_118z, s34_118o, s34_118b, s34_123, s34_124, s34_127, s34_128, s34_131, s34_133, s34_134, s34_135i, s34_135r, s34_136, s34_139, s34_140, s34_141, s34_144, c31, c50_6, c32, c55_6, ir_k_i, ir_tl_i, e5, e7, e4, e6, hHe, hl, hbit]
                simp [cW, wk, hat, hst, hH, hne, hcl, hcut, ir_b]
            · simp only [cW, wk, if_neg hat, if_neg hst, hH, if_neg hne, hcl, if_pos hcut]
              exact ⟨hlen, by omega, fun h => h, hp⟩
          · obtain ⟨q, hq, hl⟩ : ∃ q, q < 20 ∧ σ0 4 (a * 12 + h') = nI q := by
              rcases hn.2.2.1 _ hidx2 with hl | hl
              · exact absurd (by unfold cutB; rw [if_pos hl]) hcut
              · exact hl
            have hbit : ir_bit (σ0 6 5) q = false := by
              have h9 := hcut
              unfold cutB at h9
              rw [hl, if_neg (by rw [n_eqM (by omega)]; exact fun h => h), n_cl (by omega)] at h9
              simpa using h9
            have hn31 : n < 31 := by omega
            have hih := ih h' (n + 1) (upd p n (nI h')) (ir_up (ir_up σ 17 n (nI h')) 16 2 (nI (n + 1))) (.int 0) (.int (nI h')) (by omega) hh'
              (fun c h1 h2 => by rw [u_n _ _ _ h1, u_n _ _ _ h2]; exact hag c h1 h2) (by rw [u_s, upd_s]) (fun i hi => by
                rw [u_n _ _ _ (by decide), u_s]
                by_cases hin : i = n
                · rw [hin, upd_s, upd_s]
                · rw [upd_n _ _ hin, upd_n _ _ hin]
                  exact hp i (by omega))
            have hWk : cW σ0 6 s f t (k + 1) a n p = cW σ0 6 s f t k h' (n + 1) (upd p n (nI h')) := by
              simp only [cW, wk, if_neg hat, if_neg hst, hH, if_neg hne, hcl, if_neg hcut]
            rw [hWk]
            obtain ⟨σ', h1, h2, h3, h4, h5, h6⟩ := hih
            refine ⟨σ', ?_, h2, h3, h4, fun _ => h5 (by omega), h6⟩
            apply hg
            rw [s34_78]
            simp (disch := omega) only [e34, s34_0, s34_1, s34_3, s34_4, s34_7, s34_8, s34_9, s34_10, s34_11, s34_12, s34_17, s34_19, s34_147, s34_22, s34_149, s34_23, s34_151, s34_26, s34_167, s34_154, s34_27, s34_168z, s34_168o, s34_168b, s34_155, s34_30, s34_157_6, s34_157_11, s34_31, s34_160, s34_34, s34_163, s34_36, s34_164, s34_37, s34_56, s34_40, s34_57, s34_41, s34_59, s34_44, s34_61, s34_46, s34_76, s34_64, s34_49, s34_77z, s34_77o, s34_77b, s34_65, s34_52, s34_67, s34_53, s34_69, s34_70_6, s34_70_11, s34_73, s34_79, s34_81, s34_83, s34_84, s34_87, s34_89, s34_91, s34_94_6, s34_94_11, s34_97, s34_99, s34_100, s34_101, s34_104, s34_106, s34_108, s34_111_6, s34_111_11, s34_114, s34_119, s34_117, s34_121, s34_118z, s34_118o, s34_118b, s34_123, s34_124, s34_127, s34_128, s34_131, s34_133, s34_134, s34_135i, s34_135r, s34_136, s34_139, s34_140, s34_141, s34_144, xA17, xL17, xa17, c31, c50_6, c32, c55_6, ir_k_i, ir_tl_i, e5, e7, e4, e6, hHe, hl, hbit, hlen, n_lt_0, n_le_0, n_tl_0, n_el_0, n_eq_0, n_ad_0, n_lt_1, n_le_1, n_tl_1, n_el_1, n_eq_1, n_ad_1, n_lt_2, n_le_2, n_tl_2, n_el_2, n_eq_2, n_ad_2, n_lt_3, n_le_3, n_tl_3, n_el_3, n_eq_3, n_ad_3, n_lt_4, n_le_4, n_tl_4, n_el_4, n_eq_4, n_ad_4, n_lt_5, n_le_5, n_tl_5, n_el_5, n_eq_5, n_ad_5, n_lt_6, n_le_6, n_tl_6, n_el_6, n_eq_6, n_ad_6, n_lt_10, n_le_10, n_tl_10, n_el_10, n_eq_10, n_ad_10, n_lt_11, n_le_11, n_tl_11, n_el_11, n_eq_11, n_ad_11, n_lt_12, n_le_12, n_tl_12, n_el_12, n_eq_12, n_ad_12, n_lt_13, n_le_13, n_tl_13, n_el_13, n_eq_13, n_ad_13, n_lt_15, n_le_15, n_tl_15, n_el_15, n_eq_15, n_ad_15, n_lt_20, n_le_20, n_tl_20, n_el_20, n_eq_20, n_ad_20, n_lt_30, n_le_30, n_tl_30, n_el_30, n_eq_30, n_ad_30, n_lt_31, n_le_31, n_tl_31, n_el_31, n_eq_31, n_ad_31, n_lt_32, n_le_32, n_tl_32, n_el_32, n_eq_32, n_ad_32, n_lt_60, n_le_60, n_tl_60, n_el_60, n_eq_60, n_ad_60, n_lt_99, n_le_99, n_tl_99, n_el_99, n_eq_99, n_ad_99, n_lt_100, n_le_100, n_tl_100, n_el_100, n_eq_100, n_ad_100, n_lt_144, n_le_144, n_tl_144, n_el_144, n_eq_144, n_ad_144, n_lt_4096, n_le_4096, n_tl_4096, n_el_4096, n_eq_4096, n_ad_4096, n_mulK, nI_add, pk_mul, n_lt, n_le, n_eq, n_eqM, n_ix, n_cl, u_n]
            simp only [ir_b_f, hn31, decide_true, if_true]
            exact h1
theorem c34_6 {d s f t : Nat} {σ : ir_S} (hf : f < 12) (ht : t < 12) (hn : netB σ 6) : ∃ σ', ir_ev (d + 2) 34 [.ref 16, .ref 6, .int (nI s), .int (nI f), .int (nI t)] σ = some (some (.int (ir_b ((cW σ 6 s f t 30 f 1 (fun _ => nI f)).1 && !ir_bit (σ 6 6) t))), σ') ∧ (∀ c, c ≠ 16 → c ≠ 17 → σ' c = σ c) ∧ σ' 16 2 = nI (cW σ 6 s f t 30 f 1 (fun _ => nI f)).2.1 ∧ (cW σ 6 s f t 30 f 1 (fun _ => nI f)).2.1 ≤ 31 ∧ 1 ≤ (cW σ 6 s f t 30 f 1 (fun _ => nI f)).2.1 ∧ ∀ i, i < (cW σ 6 s f t 30 f 1 (fun _ => nI f)).2.1 → σ' 17 i = (cW σ 6 s f t 30 f 1 (fun _ => nI f)).2.2 i := by
  have hl := c34_6_loop (d := d) (s := s) hf ht hn 30 f 1 (fun _ => nI f) (ir_up (ir_up σ 17 0 (nI f)) 16 2 1) .null .null rfl hf (fun c h1 h2 => by rw [u_n _ _ _ h1, u_n _ _ _ h2]) (by rw [u_s, upd_s]; rfl) (fun i hi => by
    rw [u_n _ _ _ (by decide), u_s, show i = 0 by omega, upd_s])
  obtain ⟨σ', h1, h2, h3, h4, h5, h6⟩ := hl
  refine ⟨σ', ?_, h2, h3, h4, h5 (Nat.le_refl _), h6⟩
  have e0 : (0 : Int32).toNatClampNeg = 0 := sb_cl0
  have e1 : ir_ixb 0 31 = true := by decide
  simp only [e34, s34_0, s34_1, s34_3, s34_4, s34_7, s34_8, s34_9, s34_10, s34_11, s34_12, s34_17, s34_19, s34_147, s34_22, s34_149, s34_23, s34_151, s34_26, s34_167, s34_154, s34_27, s34_168z, s34_168o, s34_168b, s34_155, s34_30, s34_157_6, s34_157_11, s34_31, s34_160, s34_34, s34_163, s34_36, s34_164, s34_37, s34_56, s34_40, s34_57, s34_41, s34_59, s34_44, s34_61, s34_46, s34_76, s34_64, s34_49, s34_77z, s34_77o, s34_77b, s34_65, s34_52, s34_67, s34_53, s34_69, s34_70_6, s34_70_11, s34_73, s34_78, s34_79, s34_81, s34_83, s34_84, s34_87, s34_89, s34_91, s34_94_6, s34_94_11, s34_97, s34_99, s34_100, s34_101, s34_104, s34_106, s34_108, s34_111_6, s34_111_11, s34_114, s34_119, s34_117, s34_121, s34_118z, s34_118o, s34_118b, s34_123, s34_124, s34_127, s34_128, s34_131, s34_133, s34_134, s34_135i, s34_135r, s34_136, s34_139, s34_140, s34_141, s34_144, xA17, xL17, xa17, e0, e1, if_true]
  exact h1
set_option maxHeartbeats 4000000 in
theorem c34_11_loop {d s f t : Nat} {σ0 : ir_S} (hf : f < 12) (ht : t < 12) (hn : netB σ0 11) : ∀ (k a n : Nat) (p : Nat → Int32) (σ : ir_S) (l6 l7 : Value), n + k = 31 → a < 12 → (∀ c, c ≠ 16 → c ≠ 17 → σ c = σ0 c) → σ 16 2 = nI n → (∀ i, i < n → σ 17 i = p i) →
    ∃ σ', ir_run (ir_ev (d + 1)) 34 (15, [.ref 16, .ref 11, .int (nI s), .int (nI f), .int (nI t), .int (nI a), l6, l7], [], σ) = some (some (.int (ir_b ((cW σ0 11 s f t k a n p).1 && !ir_bit (σ0 11 6) t))), σ') ∧ (∀ c, c ≠ 16 → c ≠ 17 → σ' c = σ0 c) ∧ σ' 16 2 = nI (cW σ0 11 s f t k a n p).2.1 ∧ (cW σ0 11 s f t k a n p).2.1 ≤ 31 ∧ (1 ≤ n → 1 ≤ (cW σ0 11 s f t k a n p).2.1) ∧ ∀ i, i < (cW σ0 11 s f t k a n p).2.1 → σ' 17 i = (cW σ0 11 s f t k a n p).2.2 i := by
  intro k
  induction k with
  | zero =>
    intro a n p σ l6 l7 hnk ha hag hlen hp
    have hn31 : n = 31 := by omega
    subst hn31
    have e6 : σ 11 = σ0 11 := hag 11 (by decide) (by decide)
    by_cases hat : a = t
    · subst hat
      refine ⟨σ, ?_, hag, hlen, Nat.le_refl _, fun h => h, hp⟩
      rw [s34_15]
      simp (disch := omega) only [e34, s34_0, s34_1, s34_3, s34_4, s34_7, s34_8, s34_9, s34_10, s34_11, s34_12, s34_17, s34_19, s34_147, s34_22, s34_149, s34_23, s34_151, s34_26, s34_167, s34_154, s34_27, s34_168z, s34_168o, s34_168b, s34_155, s34_30, s34_157_6, s34_157_11, s34_31, s34_160, s34_34, s34_163, s34_36, s34_164, s34_37, s34_56, s34_40, s34_57, s34_41, s34_59, s34_44, s34_61, s34_46, s34_76, s34_64, s34_49, s34_77z, s34_77o, s34_77b, s34_65, s34_52, s34_67, s34_53, s34_69, s34_70_6, s34_70_11, s34_73, s34_78, s34_79, s34_81, s34_83, s34_84, s34_87, s34_89, s34_91, s34_94_6, s34_94_11, s34_97, s34_99, s34_100, s34_101, s34_104, s34_106, s34_108, s34_111_6, s34_111_11, s34_114, s34_119, s34_117, s34_121, s34_118z, s34_118o, s34_118b, s34_123, s34_124, s34_127, s34_128, s34_131, s34_133, s34_134, s34_135i, s34_135r, s34_136, s34_139, s34_140, s34_141, s34_144, c56_11, ir_k_i, ir_tl_i, n_lt_0, n_le_0, n_tl_0, n_el_0, n_eq_0, n_ad_0, n_lt_1, n_le_1, n_tl_1, n_el_1, n_eq_1, n_ad_1, n_lt_2, n_le_2, n_tl_2, n_el_2, n_eq_2, n_ad_2, n_lt_3, n_le_3, n_tl_3, n_el_3, n_eq_3, n_ad_3, n_lt_4, n_le_4, n_tl_4, n_el_4, n_eq_4, n_ad_4, n_lt_5, n_le_5, n_tl_5, n_el_5, n_eq_5, n_ad_5, n_lt_6, n_le_6, n_tl_6, n_el_6, n_eq_6, n_ad_6, n_lt_10, n_le_10, n_tl_10, n_el_10, n_eq_10, n_ad_10, n_lt_11, n_le_11, n_tl_11, n_el_11, n_eq_11, n_ad_11, n_lt_12, n_le_12, n_tl_12, n_el_12, n_eq_12, n_ad_12, n_lt_13, n_le_13, n_tl_13, n_el_13, n_eq_13, n_ad_13, n_lt_15, n_le_15, n_tl_15, n_el_15, n_eq_15, n_ad_15, n_lt_20, n_le_20, n_tl_20, n_el_20, n_eq_20, n_ad_20, n_lt_30, n_le_30, n_tl_30, n_el_30, n_eq_30, n_ad_30, n_lt_31, n_le_31, n_tl_31, n_el_31, n_eq_31, n_ad_31, n_lt_32, n_le_32, n_tl_32, n_el_32, n_eq_32, n_ad_32, n_lt_60, n_le_60, n_tl_60, n_el_60, n_eq_60, n_ad_60, n_lt_99, n_le_99, n_tl_99, n_el_99, n_eq_99, n_ad_99, n_lt_100, n_le_100, n_tl_100, n_el_100, n_eq_100, n_ad_100, n_lt_144, n_le_144, n_tl_144, n_el_144, n_eq_144, n_ad_144, n_lt_4096, n_le_4096, n_tl_4096, n_el_4096, n_eq_4096, n_ad_4096, n_mulK, nI_add, pk_mul, n_lt, n_le, n_eq, n_eqM, n_ix, n_cl, e6]
      by_cases hb : ir_bit (σ0 11 6) a = true
      · simp [hb, cW, wk, ir_b]
      · simp [hb, cW, wk, ir_b]
    · refine ⟨σ, ?_, hag, hlen, Nat.le_refl _, fun h => h, hp⟩
      rw [s34_15]
      simp (disch := omega) only [e34, s34_0, s34_1, s34_3, s34_4, s34_7, s34_8, s34_9, s34_10, s34_11, s34_12, s34_17, s34_19, s34_147, s34_22, s34_149, s34_23, s34_151, s34_26, s34_167, s34_154, s34_27, s34_168z, s34_168o, s34_168b, s34_155, s34_30, s34_157_6, s34_157_11, s34_31, s34_160, s34_34, s34_163, s34_36, s34_164, s34_37, s34_56, s34_40, s34_57, s34_41, s34_59, s34_44, s34_61, s34_46, s34_76, s34_64, s34_49, s34_77z, s34_77o, s34_77b, s34_65, s34_52, s34_67, s34_53, s34_69, s34_70_6, s34_70_11, s34_73, s34_78, s34_79, s34_81, s34_83, s34_84, s34_87, s34_89, s34_91, s34_94_6, s34_94_11, s34_97, s34_99, s34_100, s34_101, s34_104, s34_106, s34_108, s34_111_6, s34_111_11, s34_114, s34_119, s34_117, s34_121, s34_118z, s34_118o, s34_118b, s34_123, s34_124, s34_127, s34_128, s34_131, s34_133, s34_134, s34_135i, s34_135r, s34_136, s34_139, s34_140, s34_141, s34_144, xA17, xL17, xa17, n_lt_0, n_le_0, n_tl_0, n_el_0, n_eq_0, n_ad_0, n_lt_1, n_le_1, n_tl_1, n_el_1, n_eq_1, n_ad_1, n_lt_2, n_le_2, n_tl_2, n_el_2, n_eq_2, n_ad_2, n_lt_3, n_le_3, n_tl_3, n_el_3, n_eq_3, n_ad_3, n_lt_4, n_le_4, n_tl_4, n_el_4, n_eq_4, n_ad_4, n_lt_5, n_le_5, n_tl_5, n_el_5, n_eq_5, n_ad_5, n_lt_6, n_le_6, n_tl_6, n_el_6, n_eq_6, n_ad_6, n_lt_10, n_le_10, n_tl_10, n_el_10, n_eq_10, n_ad_10, n_lt_11, n_le_11, n_tl_11, n_el_11, n_eq_11, n_ad_11, n_lt_12, n_le_12, n_tl_12, n_el_12, n_eq_12, n_ad_12, n_lt_13, n_le_13, n_tl_13, n_el_13, n_eq_13, n_ad_13, n_lt_15, n_le_15, n_tl_15, n_el_15, n_eq_15, n_ad_15, n_lt_20, n_le_20, n_tl_20, n_el_20, n_eq_20, n_ad_20, n_lt_30, n_le_30, n_tl_30, n_el_30, n_eq_30, n_ad_30, n_lt_31, n_le_31, n_tl_31, n_el_31, n_eq_31, n_ad_31, n_lt_32, n_le_32, n_tl_32, n_el_32, n_eq_32, n_ad_32, n_lt_60, n_le_60, n_tl_60, n_el_60, n_eq_60, n_ad_60, n_lt_99, n_le_99, n_tl_99, n_el_99, n_eq_99, n_ad_99, n_lt_100, n_le_100, n_tl_100, n_el_100, n_eq_100, n_ad_100, n_lt_144, n_le_144, n_tl_144, n_el_144, n_eq_144, n_ad_144, n_lt_4096, n_le_4096, n_tl_4096, n_el_4096, n_eq_4096, n_ad_4096, n_mulK, nI_add, pk_mul, n_lt, n_le, n_eq, n_eqM, n_ix, n_cl, hlen]
      simp [hat, cW, wk, ir_b]
  | succ k ih =>
    intro a n p σ l6 l7 hnk ha hag hlen hp
    have e6 : σ 11 = σ0 11 := hag 11 (by decide) (by decide)
    have e7 : σ 12 = σ0 12 := hag 12 (by decide) (by decide)
    have e8 : σ 13 = σ0 13 := hag 13 (by decide) (by decide)
    have e1 : σ 1 = σ0 1 := hag 1 (by decide) (by decide)
    have e2 : σ 2 = σ0 2 := hag 2 (by decide) (by decide)
    have e4 : σ 4 = σ0 4 := hag 4 (by decide) (by decide)
    have e5 : σ 5 = σ0 5 := hag 5 (by decide) (by decide)
    have hN : (σ 1 4).toInt ≤ 12 := by rw [e1]; exact hn.1
    have hho : isHo σ (nI a) = isHo σ0 (nI a) := isHo_ag e1 e2 _
    by_cases hat : a = t
    · subst hat
      refine ⟨σ, ?_, hag, ?_⟩
      · rw [s34_15]
        simp (disch := omega) only [e34, s34_0, s34_1, s34_3, s34_4, s34_7, s34_8, s34_9, s34_10, s34_11, s34_12, s34_17, s34_19, s34_147, s34_22, s34_149, s34_23, s34_151, s34_26, s34_167, s34_154, s34_27, s34_168z, s34_168o, s34_168b, s34_155, s34_30, s34_157_6, s34_157_11, s34_31, s34_160, s34_34, s34_163, s34_36, s34_164, s34_37, s34_56, s34_40, s34_57, s34_41, s34_59, s34_44, s34_61, s34_46, s34_76, s34_64, s34_49, s34_77z, s34_77o, s34_77b, s34_65, s34_52, s34_67, s34_53, s34_69, s34_70_6, s34_70_11, s34_73, s34_78, s34_79, s34_81, s34_83, s34_84, s34_87, s34_89, s34_91, s34_94_6, s34_94_11, s34_97, s34_99, s34_100, s34_101, s34_104, s34_106, s34_108, s34_111_6, s34_111_11, s34_114, s34_119, s34_117, s34_121, s34_118z, s34_118o, s34_118b, s34_123, s34_124, s34_127, s34_128, s34_131, s34_133, s34_134, s34_135i, s34_135r, s34_136, s34_139, s34_140, s34_141, s34_144, c56_11, ir_k_i, ir_tl_i, n_lt_0, n_le_0, n_tl_0, n_el_0, n_eq_0, n_ad_0, n_lt_1, n_le_1, n_tl_1, n_el_1, n_eq_1, n_ad_1, n_lt_2, n_le_2, n_tl_2, n_el_2, n_eq_2, n_ad_2, n_lt_3, n_le_3, n_tl_3, n_el_3, n_eq_3, n_ad_3, n_lt_4, n_le_4, n_tl_4, n_el_4, n_eq_4, n_ad_4, n_lt_5, n_le_5, n_tl_5, n_el_5, n_eq_5, n_ad_5, n_lt_6, n_le_6, n_tl_6, n_el_6, n_eq_6, n_ad_6, n_lt_10, n_le_10, n_tl_10, n_el_10, n_eq_10, n_ad_10, n_lt_11, n_le_11, n_tl_11, n_el_11, n_eq_11, n_ad_11, n_lt_12, n_le_12, n_tl_12, n_el_12, n_eq_12, n_ad_12, n_lt_13, n_le_13, n_tl_13, n_el_13, n_eq_13, n_ad_13, n_lt_15, n_le_15, n_tl_15, n_el_15, n_eq_15, n_ad_15, n_lt_20, n_le_20, n_tl_20, n_el_20, n_eq_20, n_ad_20, n_lt_30, n_le_30, n_tl_30, n_el_30, n_eq_30, n_ad_30, n_lt_31, n_le_31, n_tl_31, n_el_31, n_eq_31, n_ad_31, n_lt_32, n_le_32, n_tl_32, n_el_32, n_eq_32, n_ad_32, n_lt_60, n_le_60, n_tl_60, n_el_60, n_eq_60, n_ad_60, n_lt_99, n_le_99, n_tl_99, n_el_99, n_eq_99, n_ad_99, n_lt_100, n_le_100, n_tl_100, n_el_100, n_eq_100, n_ad_100, n_lt_144, n_le_144, n_tl_144, n_el_144, n_eq_144, n_ad_144, n_lt_4096, n_le_4096, n_tl_4096, n_el_4096, n_eq_4096, n_ad_4096, n_mulK, nI_add, pk_mul, n_lt, n_le, n_eq, n_eqM, n_ix, n_cl, e6]
        by_cases hb : ir_bit (σ0 11 6) a = true
        · simp [hb, cW, wk, ir_b]
        · simp [hb, cW, wk, ir_b]
      · simp only [cW, wk, if_true]
        exact ⟨hlen, by omega, fun h => h, hp⟩
    · have hl31 : ¬ 31 ≤ n := by omega
      by_cases hst : ((decide (a ≠ f) && isHo σ0 (nI a)) || ir_bit (σ0 13 (a * 12 + t)) s) = true
      · refine ⟨σ, ?_, hag, ?_⟩
        · rw [s34_15]
          simp (disch := omega) only [e34, s34_0, s34_1, s34_3, s34_4, s34_7, s34_8, s34_9, s34_10, s34_11, s34_12, s34_17, s34_19, s34_147, s34_22, s34_149, s34_23, s34_151, s34_26, s34_167, s34_154, s34_27, s34_168z, s34_168o, s34_168b, s34_155, s34_30, s34_157_6, s34_157_11, s34_31, s34_160, s34_34, s34_163, s34_36, s34_164, s34_37, s34_56, s34_40, s34_57, s34_41, s34_59, s34_44, s34_61, s34_46, s34_76, s34_64, s34_49, s34_77z, s34_77o, s34_77b, s34_65, s34_52, s34_67, s34_53, s34_69, s34_70_6, s34_70_11, s34_73, s34_78, s34_79, s34_81, s34_83, s34_84, s34_87, s34_89, s34_91, s34_94_6, s34_94_11, s34_97, s34_99, s34_100, s34_101, s34_104, s34_106, s34_108, s34_111_6, s34_111_11, s34_114, s34_119, s34_117, s34_121, s34_118z, s34_118o, s34_118b, s34_123, s34_124, s34_127, s34_128, s34_131, s34_133, s34_134, s34_135i, s34_135r, s34_136, s34_139, s34_140, s34_141, s34_144, xA17, xL17, xa17, n_lt_0, n_le_0, n_tl_0, n_el_0, n_eq_0, n_ad_0, n_lt_1, n_le_1, n_tl_1, n_el_1, n_eq_1, n_ad_1, n_lt_2, n_le_2, n_tl_2, n_el_2, n_eq_2, n_ad_2, n_lt_3, n_le_3, n_tl_3, n_el_3, n_eq_3, n_ad_3, n_lt_4, n_le_4, n_tl_4, n_el_4, n_eq_4, n_ad_4, n_lt_5, n_le_5, n_tl_5, n_el_5, n_eq_5, n_ad_5, n_lt_6, n_le_6, n_tl_6, n_el_6, n_eq_6, n_ad_6, n_lt_10, n_le_10, n_tl_10, n_el_10, n_eq_10, n_ad_10, n_lt_11, n_le_11, n_tl_11, n_el_11, n_eq_11, n_ad_11, n_lt_12, n_le_12, n_tl_12, n_el_12, n_eq_12, n_ad_12, n_lt_13, n_le_13, n_tl_13, n_el_13, n_eq_13, n_ad_13, n_lt_15, n_le_15, n_tl_15, n_el_15, n_eq_15, n_ad_15, n_lt_20, n_le_20, n_tl_20, n_el_20, n_eq_20, n_ad_20, n_lt_30, n_le_30, n_tl_30, n_el_30, n_eq_30, n_ad_30, n_lt_31, n_le_31, n_tl_31, n_el_31, n_eq_31, n_ad_31, n_lt_32, n_le_32, n_tl_32, n_el_32, n_eq_32, n_ad_32, n_lt_60, n_le_60, n_tl_60, n_el_60, n_eq_60, n_ad_60, n_lt_99, n_le_99, n_tl_99, n_el_99, n_eq_99, n_ad_99, n_lt_100, n_le_100, n_tl_100, n_el_100, n_eq_100, n_ad_100, n_lt_144, n_le_144, n_tl_144, n_el_144, n_eq_144, n_ad_144, n_lt_4096, n_le_4096, n_tl_4096, n_el_4096, n_eq_4096, n_ad_4096, n_mulK, nI_add, pk_mul, n_lt, n_le, n_eq, n_eqM, n_ix, n_cl, hlen, c24 hN, c51_11, ir_k_i, ir_tl_i, hho, e8]
          by_cases haf : a = f
          · have h9 : ir_bit (σ0 13 (a * 12 + t)) s = true := by simpa [haf] using hst
            simp [hat, hl31, haf, cW, wk, ir_b]
            simp [haf] at h9 hat
            simp [h9, hat]
          · cases h8 : isHo σ0 (nI a) with
            | true => simp [hat, hl31, haf, h8, cW, wk, ir_b]
            | false =>
              have h9 : ir_bit (σ0 13 (a * 12 + t)) s = true := by simpa [h8] using hst
              simp [hat, hl31, haf, h8, h9, cW, wk, ir_b]
        · simp only [cW, wk, if_neg hat, if_pos hst]
          exact ⟨hlen, by omega, fun h => h, hp⟩
      · have hh1 : ¬ (¬ a = f ∧ isHo σ0 (nI a) = true) := fun h => hst (by simp [h.1, h.2])
        have hh2 : ir_bit (σ0 13 (a * 12 + t)) s = false := by
          cases h9 : ir_bit (σ0 13 (a * 12 + t)) s with
          | false => rfl
          | true => exact absurd (by simp [h9]) hst
        have hidx : a * 12 + t < 144 := by omega
        have hnod : nod 12 (wkH (fun a b => σ0 12 (a * 12 + b)) (fun a b => σ0 5 (a * 12 + b)) a t) := by
          unfold wkH
          by_cases h0 : σ0 12 (a * 12 + t) = -1
          · rw [if_pos h0]; exact hn.2.1 _ hidx
          · rw [if_neg h0]; exact hn.2.2.2 _ hidx
        have hg : ∀ z : Option ir_R, (ir_run (ir_ev (d + 1)) 34 (78, [.ref 16, .ref 11, .int (nI s), .int (nI f), .int (nI t), .int (nI a), .int 0, l7], [], σ) = z) → ir_run (ir_ev (d + 1)) 34 (15, [.ref 16, .ref 11, .int (nI s), .int (nI f), .int (nI t), .int (nI a), l6, l7], [], σ) = z := by
          intro z hz
          rw [s34_15]
          simp (disch := omega) only [e34, s34_0, s34_1, s34_3, s34_4, s34_7, s34_8, s34_9, s34_10, s34_11, s34_12, s34_17, s34_19, s34_147, s34_22, s34_149, s34_23, s34_151, s34_26, s34_167, s34_154, s34_27, s34_168z, s34_168o, s34_168b, s34_155, s34_30, s34_157_6, s34_157_11, s34_31, s34_160, s34_34, s34_163, s34_36, s34_164, s34_37, s34_56, s34_40, s34_57, s34_41, s34_59, s34_44, s34_61, s34_46, s34_76, s34_64, s34_49, s34_77z, s34_77o, s34_77b, s34_65, s34_52, s34_67, s34_53, s34_69, s34_70_6, s34_70_11, s34_73, s34_79, s34_81, s34_83, s34_84, s34_87, s34_89, s34_91, s34_94_6, s34_94_11, s34_97, s34_99, s34_100, s34_101, s34_104, s34_106, s34_108, s34_111_6, s34_111_11, s34_114, s34_119, s34_117, s34_121, s34_118z, s34_118o, s34_118b, s34_123, s34_124, s34_127, s34_128, s34_131, s34_133, s34_134, s34_135i, s34_135r, s34_136, s34_139, s34_140, s34_141, s34_144, xA17, xL17, xa17, n_lt_0, n_le_0, n_tl_0, n_el_0, n_eq_0, n_ad_0, n_lt_1, n_le_1, n_tl_1, n_el_1, n_eq_1, n_ad_1, n_lt_2, n_le_2, n_tl_2, n_el_2, n_eq_2, n_ad_2, n_lt_3, n_le_3, n_tl_3, n_el_3, n_eq_3, n_ad_3, n_lt_4, n_le_4, n_tl_4, n_el_4, n_eq_4, n_ad_4, n_lt_5, n_le_5, n_tl_5, n_el_5, n_eq_5, n_ad_5, n_lt_6, n_le_6, n_tl_6, n_el_6, n_eq_6, n_ad_6, n_lt_10, n_le_10, n_tl_10, n_el_10, n_eq_10, n_ad_10, n_lt_11, n_le_11, n_tl_11, n_el_11, n_eq_11, n_ad_11, n_lt_12, n_le_12, n_tl_12, n_el_12, n_eq_12, n_ad_12, n_lt_13, n_le_13, n_tl_13, n_el_13, n_eq_13, n_ad_13, n_lt_15, n_le_15, n_tl_15, n_el_15, n_eq_15, n_ad_15, n_lt_20, n_le_20, n_tl_20, n_el_20, n_eq_20, n_ad_20, n_lt_30, n_le_30, n_tl_30, n_el_30, n_eq_30, n_ad_30, n_lt_31, n_le_31, n_tl_31, n_el_31, n_eq_31, n_ad_31, n_lt_32, n_le_32, n_tl_32, n_el_32, n_eq_32, n_ad_32, n_lt_60, n_le_60, n_tl_60, n_el_60, n_eq_60, n_ad_60, n_lt_99, n_le_99, n_tl_99, n_el_99, n_eq_99, n_ad_99, n_lt_100, n_le_100, n_tl_100, n_el_100, n_eq_100, n_ad_100, n_lt_144, n_le_144, n_tl_144, n_el_144, n_eq_144, n_ad_144, n_lt_4096, n_le_4096, n_tl_4096, n_el_4096, n_eq_4096, n_ad_4096, n_mulK, nI_add, pk_mul, n_lt, n_le, n_eq, n_eqM, n_ix, n_cl, hlen, c24 hN, c51_11, ir_k_i, ir_tl_i, hho, e8, hh2]
          by_cases haf : a = f
          · subst haf
            simp [hat, hl31, ir_b]
            exact hz
          · have h8 : isHo σ0 (nI a) = false := by
              cases h8 : isHo σ0 (nI a) with
              | false => rfl
              | true => exact absurd ⟨haf, h8⟩ hh1
            simp [hat, hl31, haf, h8, ir_b]
            exact hz
        rcases hnod with hm | ⟨h', hh', hH⟩
        · have hHe : (if σ0 12 (a * 12 + t) = -1 then σ0 5 (a * 12 + t) else σ0 12 (a * 12 + t)) = -1 := hm
          refine ⟨σ, ?_, hag, ?_⟩
          · apply hg
            rw [s34_78]
            simp (disch := omega) only [e34, s34_0, s34_1, s34_3, s34_4, s34_7, s34_8, s34_9, s34_10, s34_11, s34_12, s34_17, s34_19, s34_147, s34_22, s34_149, s34_23, s34_151, s34_26, s34_167, s34_154, s34_27, s34_168z, s34_168o, s34_168b, s34_155, s34_30, s34_157_6, s34_157_11, s34_31, s34_160, s34_34, s34_163, s34_36, s34_164, s34_37, s34_56, s34_40, s34_57, s34_41, s34_59, s34_44, s34_61, s34_46, s34_76, s34_64, s34_49, s34_77z, s34_77o, s34_77b, s34_65, s34_52, s34_67, s34_53, s34_69, s34_70_6, s34_70_11, s34_73, s34_79, s34_81, s34_83, s34_84, s34_87, s34_89, s34_91, s34_94_6, s34_94_11, s34_97, s34_99, s34_100, s34_101, s34_104, s34_106, s34_108, s34_111_6, s34_111_11, s34_114, s34_119, s34_117, s34_121, s34_118z, s34_118o, s34_118b, s34_123, s34_124, s34_127, s34_128, s34_131, s34_133, s34_134, s34_135i, s34_135r, s34_136, s34_139, s34_140, s34_141, s34_144, c31, c50_11, c32m, c55m_11, ir_k_i, ir_tl_i, e5, e7, hHe]
            simp [cW, wk, hat, hst, hm, ir_b]
          · simp only [cW, wk, if_neg hat, if_neg hst, if_pos hm]
            exact ⟨hlen, by omega, fun h => h, hp⟩
        · have hHe : (if σ0 12 (a * 12 + t) = -1 then σ0 5 (a * 12 + t) else σ0 12 (a * 12 + t)) = nI h' := hH
          have hne : ¬ nI h' = (-1 : Int32) := by rw [n_eqM (by omega)]; exact fun h => h
          have hcl : (nI h').toNatClampNeg = h' := n_cl (by omega)
          have hidx2 : a * 12 + h' < 144 := by omega
          by_cases hcut : cutB (σ0 11 5) (σ0 4 (a * 12 + h')) = true
          · refine ⟨σ, ?_, hag, ?_⟩
            · apply hg
              rw [s34_78]
              rcases hn.2.2.1 _ hidx2 with hl | ⟨q, hq, hl⟩
              · simp (disch := omega) only [e34, s34_0, s34_1, s34_3, s34_4, s34_7, s34_8, s34_9, s34_10, s34_11, s34_12, s34_17, s34_19, s34_147, s34_22, s34_149, s34_23, s34_151, s34_26, s34_167, s34_154, s34_27, s34_168z, s34_168o, s34_168b, s34_155, s34_30, s34_157_6, s34_157_11, s34_31, s34_160, s34_34, s34_163, s34_36, s34_164, s34_37, s34_56, s34_40, s34_57, s34_41, s34_59, s34_44, s34_61, s34_46, s34_76, s34_64, s34_49, s34_77z, s34_77o, s34_77b, s34_65, s34_52, s34_67, s34_53, s34_69, s34_70_6, s34_70_11, s34_73, s34_79, s34_81, s34_83, s34_84, s34_87, s34_89, s34_91, s34_94_6, s34_94_11, s34_97, s34_99, s34_100, s34_101, s34_104, s34_106, s34_108, s34_111_6, s34_111_11, s34_114, s34_119, s34_117, s34_121, s34_118z, s34_118o, s34_118b, s34_123, s34_124, s34_127, s34_128, s34_131, s34_133, s34_134, s34_135i, s34_135r, s34_136, s34_139, s34_140, s34_141, s34_144, c31, c50_11, c32, c55m_11, ir_k_i, ir_tl_i, e5, e7, e4, hHe, hl]
                simp [cW, wk, hat, hst, hH, hne, hcl, hcut, ir_b]
              · have hbit : ir_bit (σ0 11 5) q = true := by
                  have h9 := hcut
                  unfold cutB at h9
                  rw [hl, if_neg (by rw [n_eqM (by omega)]; exact fun h => h), n_cl (by omega)] at h9
                  exact h9
                simp (disch := omega) only [e34, s34_0, s34_1, s34_3, s34_4, s34_7, s34_8, s34_9, s34_10, s34_11, s34_12, s34_17, s34_19, s34_147, s34_22, s34_149, s34_23, s34_151, s34_26, s34_167, s34_154, s34_27, s34_168z, s34_168o, s34_168b, s34_155, s34_30, s34_157_6, s34_157_11, s34_31, s34_160, s34_34, s34_163, s34_36, s34_164, s34_37, s34_56, s34_40, s34_57, s34_41, s34_59, s34_44, s34_61, s34_46, s34_76, s34_64, s34_49, s34_77z, s34_77o, s34_77b, s34_65, s34_52, s34_67, s34_53, s34_69, s34_70_6, s34_70_11, s34_73, s34_79, s34_81, s34_83, s34_84, s34_87, s34_89, s34_91, s34_94_6, s34_94_11, s34_97, s34_99, s34_100, s34_101, s34_104, s34_106, s34_108, s34_111_6, s34_111_11, s34_114, s34_119, s34_117, s34_121, s34_118z, s34_118o, s34_118b, s34_123, s34_124, s34_127, s34_128, s34_131, s34_133, s34_134, s34_135i, s34_135r, s34_136, s34_139, s34_140, s34_141, s34_144, c31, c50_11, c32, c55_11, ir_k_i, ir_tl_i, e5, e7, e4, e6, hHe, hl, hbit]
                simp [cW, wk, hat, hst, hH, hne, hcl, hcut, ir_b]
            · simp only [cW, wk, if_neg hat, if_neg hst, hH, if_neg hne, hcl, if_pos hcut]
              exact ⟨hlen, by omega, fun h => h, hp⟩
          · obtain ⟨q, hq, hl⟩ : ∃ q, q < 20 ∧ σ0 4 (a * 12 + h') = nI q := by
              rcases hn.2.2.1 _ hidx2 with hl | hl
              · exact absurd (by unfold cutB; rw [if_pos hl]) hcut
              · exact hl
            have hbit : ir_bit (σ0 11 5) q = false := by
              have h9 := hcut
              unfold cutB at h9
              rw [hl, if_neg (by rw [n_eqM (by omega)]; exact fun h => h), n_cl (by omega)] at h9
              simpa using h9
            have hn31 : n < 31 := by omega
            have hih := ih h' (n + 1) (upd p n (nI h')) (ir_up (ir_up σ 17 n (nI h')) 16 2 (nI (n + 1))) (.int 0) (.int (nI h')) (by omega) hh'
              (fun c h1 h2 => by rw [u_n _ _ _ h1, u_n _ _ _ h2]; exact hag c h1 h2) (by rw [u_s, upd_s]) (fun i hi => by
                rw [u_n _ _ _ (by decide), u_s]
                by_cases hin : i = n
                · rw [hin, upd_s, upd_s]
                · rw [upd_n _ _ hin, upd_n _ _ hin]
                  exact hp i (by omega))
            have hWk : cW σ0 11 s f t (k + 1) a n p = cW σ0 11 s f t k h' (n + 1) (upd p n (nI h')) := by
              simp only [cW, wk, if_neg hat, if_neg hst, hH, if_neg hne, hcl, if_neg hcut]
            rw [hWk]
            obtain ⟨σ', h1, h2, h3, h4, h5, h6⟩ := hih
            refine ⟨σ', ?_, h2, h3, h4, fun _ => h5 (by omega), h6⟩
            apply hg
            rw [s34_78]
            simp (disch := omega) only [e34, s34_0, s34_1, s34_3, s34_4, s34_7, s34_8, s34_9, s34_10, s34_11, s34_12, s34_17, s34_19, s34_147, s34_22, s34_149, s34_23, s34_151, s34_26, s34_167, s34_154, s34_27, s34_168z, s34_168o, s34_168b, s34_155, s34_30, s34_157_6, s34_157_11, s34_31, s34_160, s34_34, s34_163, s34_36, s34_164, s34_37, s34_56, s34_40, s34_57, s34_41, s34_59, s34_44, s34_61, s34_46, s34_76, s34_64, s34_49, s34_77z, s34_77o, s34_77b, s34_65, s34_52, s34_67, s34_53, s34_69, s34_70_6, s34_70_11, s34_73, s34_79, s34_81, s34_83, s34_84, s34_87, s34_89, s34_91, s34_94_6, s34_94_11, s34_97, s34_99, s34_100, s34_101, s34_104, s34_106, s34_108, s34_111_6, s34_111_11, s34_114, s34_119, s34_117, s34_121, s34_118z, s34_118o, s34_118b, s34_123, s34_124, s34_127, s34_128, s34_131, s34_133, s34_134, s34_135i, s34_135r, s34_136, s34_139, s34_140, s34_141, s34_144, xA17, xL17, xa17, c31, c50_11, c32, c55_11, ir_k_i, ir_tl_i, e5, e7, e4, e6, hHe, hl, hbit, hlen, n_lt_0, n_le_0, n_tl_0, n_el_0, n_eq_0, n_ad_0, n_lt_1, n_le_1, n_tl_1, n_el_1, n_eq_1, n_ad_1, n_lt_2, n_le_2, n_tl_2, n_el_2, n_eq_2, n_ad_2, n_lt_3, n_le_3, n_tl_3, n_el_3, n_eq_3, n_ad_3, n_lt_4, n_le_4, n_tl_4, n_el_4, n_eq_4, n_ad_4, n_lt_5, n_le_5, n_tl_5, n_el_5, n_eq_5, n_ad_5, n_lt_6, n_le_6, n_tl_6, n_el_6, n_eq_6, n_ad_6, n_lt_10, n_le_10, n_tl_10, n_el_10, n_eq_10, n_ad_10, n_lt_11, n_le_11, n_tl_11, n_el_11, n_eq_11, n_ad_11, n_lt_12, n_le_12, n_tl_12, n_el_12, n_eq_12, n_ad_12, n_lt_13, n_le_13, n_tl_13, n_el_13, n_eq_13, n_ad_13, n_lt_15, n_le_15, n_tl_15, n_el_15, n_eq_15, n_ad_15, n_lt_20, n_le_20, n_tl_20, n_el_20, n_eq_20, n_ad_20, n_lt_30, n_le_30, n_tl_30, n_el_30, n_eq_30, n_ad_30, n_lt_31, n_le_31, n_tl_31, n_el_31, n_eq_31, n_ad_31, n_lt_32, n_le_32, n_tl_32, n_el_32, n_eq_32, n_ad_32, n_lt_60, n_le_60, n_tl_60, n_el_60, n_eq_60, n_ad_60, n_lt_99, n_le_99, n_tl_99, n_el_99, n_eq_99, n_ad_99, n_lt_100, n_le_100, n_tl_100, n_el_100, n_eq_100, n_ad_100, n_lt_144, n_le_144, n_tl_144, n_el_144, n_eq_144, n_ad_144, n_lt_4096, n_le_4096, n_tl_4096, n_el_4096, n_eq_4096, n_ad_4096, n_mulK, nI_add, pk_mul, n_lt, n_le, n_eq, n_eqM, n_ix, n_cl, u_n]
            simp only [ir_b_f, hn31, decide_true, if_true]
            exact h1
theorem c34_11 {d s f t : Nat} {σ : ir_S} (hf : f < 12) (ht : t < 12) (hn : netB σ 11) : ∃ σ', ir_ev (d + 2) 34 [.ref 16, .ref 11, .int (nI s), .int (nI f), .int (nI t)] σ = some (some (.int (ir_b ((cW σ 11 s f t 30 f 1 (fun _ => nI f)).1 && !ir_bit (σ 11 6) t))), σ') ∧ (∀ c, c ≠ 16 → c ≠ 17 → σ' c = σ c) ∧ σ' 16 2 = nI (cW σ 11 s f t 30 f 1 (fun _ => nI f)).2.1 ∧ (cW σ 11 s f t 30 f 1 (fun _ => nI f)).2.1 ≤ 31 ∧ 1 ≤ (cW σ 11 s f t 30 f 1 (fun _ => nI f)).2.1 ∧ ∀ i, i < (cW σ 11 s f t 30 f 1 (fun _ => nI f)).2.1 → σ' 17 i = (cW σ 11 s f t 30 f 1 (fun _ => nI f)).2.2 i := by
  have hl := c34_11_loop (d := d) (s := s) hf ht hn 30 f 1 (fun _ => nI f) (ir_up (ir_up σ 17 0 (nI f)) 16 2 1) .null .null rfl hf (fun c h1 h2 => by rw [u_n _ _ _ h1, u_n _ _ _ h2]) (by rw [u_s, upd_s]; rfl) (fun i hi => by
    rw [u_n _ _ _ (by decide), u_s, show i = 0 by omega, upd_s])
  obtain ⟨σ', h1, h2, h3, h4, h5, h6⟩ := hl
  refine ⟨σ', ?_, h2, h3, h4, h5 (Nat.le_refl _), h6⟩
  have e0 : (0 : Int32).toNatClampNeg = 0 := sb_cl0
  have e1 : ir_ixb 0 31 = true := by decide
  simp only [e34, s34_0, s34_1, s34_3, s34_4, s34_7, s34_8, s34_9, s34_10, s34_11, s34_12, s34_17, s34_19, s34_147, s34_22, s34_149, s34_23, s34_151, s34_26, s34_167, s34_154, s34_27, s34_168z, s34_168o, s34_168b, s34_155, s34_30, s34_157_6, s34_157_11, s34_31, s34_160, s34_34, s34_163, s34_36, s34_164, s34_37, s34_56, s34_40, s34_57, s34_41, s34_59, s34_44, s34_61, s34_46, s34_76, s34_64, s34_49, s34_77z, s34_77o, s34_77b, s34_65, s34_52, s34_67, s34_53, s34_69, s34_70_6, s34_70_11, s34_73, s34_78, s34_79, s34_81, s34_83, s34_84, s34_87, s34_89, s34_91, s34_94_6, s34_94_11, s34_97, s34_99, s34_100, s34_101, s34_104, s34_106, s34_108, s34_111_6, s34_111_11, s34_114, s34_119, s34_117, s34_121, s34_118z, s34_118o, s34_118b, s34_123, s34_124, s34_127, s34_128, s34_131, s34_133, s34_134, s34_135i, s34_135r, s34_136, s34_139, s34_140, s34_141, s34_144, xA17, xL17, xa17, e0, e1, if_true]
  exact h1
