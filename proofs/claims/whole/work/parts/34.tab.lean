/-! the class's table -/
def TBL (σ : ir_S) (K C : Nat) (AL : Nat → Nat → Nat) (pr : Nat → Nat) : Prop := K ≤ 12 ∧ C ≤ 12 ∧ σ 25 4 = nI K ∧ σ 25 5 = nI C ∧ (∀ l c, l < K → c < C → σ 27 (l * 12 + c) = nI (AL l c) ∧ AL l c < 2 ^ C ∧ (AL l c).testBit c = true) ∧ ∀ l, l < K → σ 28 l = nI (pr l) ∧ pr l ≤ 100
def MEM (σ : ir_S) (C : Nat) (W : Nat → Nat) : Prop := ∀ s, 0 < s → s < 2 ^ C → σ 29 s = -1 ∨ σ 29 s = nI (W s)
theorem TBL_ag {σ σ' : ir_S} {K C : Nat} {AL : Nat → Nat → Nat} {pr : Nat → Nat} (h : ∀ c, c ≠ 29 → σ' c = σ c) (ht : TBL σ K C AL pr) : TBL σ' K C AL pr := by
  unfold TBL
  rw [h 25 (by decide), h 27 (by decide), h 28 (by decide)]
  exact ht
theorem c62 {d l c : Nat} {σ : ir_S} (hl : l < 12) (hc : c < 12) : ir_ev (d + 1) 62 [.ref 25, .int (nI l), .int (nI c)] σ = some (some (.int (σ 27 (l * 12 + c))), σ) := by
  have h1 : ¬ 144 ≤ l * 12 + c := by omega
  have h2 : l * 12 + c < 144 := by omega
  simp (disch := omega) only [e62, s62_0, s62_1, s62_3, s62_4, s62_5, s62_6, s62_7, s62_8, s62_29, s62_11, s62_30, s62_12, s62_13, s62_16, s62_17, s62_20, s62_21, s62_24, s62_25, s62_26, xA27, xL27, xa27, n_lt_0, n_le_0, n_tl_0, n_el_0, n_eq_0, n_ad_0, n_lt_1, n_le_1, n_tl_1, n_el_1, n_eq_1, n_ad_1, n_lt_2, n_le_2, n_tl_2, n_el_2, n_eq_2, n_ad_2, n_lt_3, n_le_3, n_tl_3, n_el_3, n_eq_3, n_ad_3, n_lt_4, n_le_4, n_tl_4, n_el_4, n_eq_4, n_ad_4, n_lt_5, n_le_5, n_tl_5, n_el_5, n_eq_5, n_ad_5, n_lt_6, n_le_6, n_tl_6, n_el_6, n_eq_6, n_ad_6, n_lt_10, n_le_10, n_tl_10, n_el_10, n_eq_10, n_ad_10, n_lt_11, n_le_11, n_tl_11, n_el_11, n_eq_11, n_ad_11, n_lt_12, n_le_12, n_tl_12, n_el_12, n_eq_12, n_ad_12, n_lt_13, n_le_13, n_tl_13, n_el_13, n_eq_13, n_ad_13, n_lt_15, n_le_15, n_tl_15, n_el_15, n_eq_15, n_ad_15, n_lt_20, n_le_20, n_tl_20, n_el_20, n_eq_20, n_ad_20, n_lt_30, n_le_30, n_tl_30, n_el_30, n_eq_30, n_ad_30, n_lt_31, n_le_31, n_tl_31, n_el_31, n_eq_31, n_ad_31, n_lt_32, n_le_32, n_tl_32, n_el_32, n_eq_32, n_ad_32, n_lt_60, n_le_60, n_tl_60, n_el_60, n_eq_60, n_ad_60, n_lt_99, n_le_99, n_tl_99, n_el_99, n_eq_99, n_ad_99, n_lt_100, n_le_100, n_tl_100, n_el_100, n_eq_100, n_ad_100, n_lt_144, n_le_144, n_tl_144, n_el_144, n_eq_144, n_ad_144, n_lt_4096, n_le_4096, n_tl_4096, n_el_4096, n_eq_4096, n_ad_4096, n_mulK, nI_add, pk_mul, n_lt, n_le, n_eq, n_eqM, n_ix, n_cl]
  simp [h1, h2]
theorem pC {C : Nat} (hC : C ≤ 12) : 2 ^ C ≤ 4096 := show 2 ^ C ≤ 2 ^ 12 from Nat.pow_le_pow_right (by decide) hC
theorem low_C {C r : Nat} (hC : C ≤ 12) (hr : r < 2 ^ C) (h0 : r ≠ 0) : lowN r < C := by
  have h4 := pC hC
  rcases Nat.lt_or_ge (lowN r) C with h | h
  · exact h
  · have h1 := (low_bit r (by omega) h0).1
    rw [Nat.testBit_lt_two_pow (Nat.lt_of_lt_of_le hr (Nat.pow_le_pow_right (by decide) h))] at h1
    cases h1
theorem ir_max_n {a b : Nat} (ha : a < 2147483648) (hb : b < 2147483648) : ir_max (nI a) (nI b) = nI (max a b) := by
  unfold ir_max
  by_cases h : a < b
  · rw [if_pos (by rw [n_lt ha hb]; exact h), Nat.max_eq_right (by omega)]
  · rw [if_neg (by rw [n_lt ha hb]; exact h), Nat.max_eq_left (by omega)]
