/-! nearest -/
theorem lnF_val {A B : Nat → Int32} {a b : Int32} : ∀ {n i : Nat}, lnF A B a b n i = -1 ∨ ∃ l, i ≤ l ∧ l < i + n ∧ lnF A B a b n i = nI l := by
  intro n
  induction n with
  | zero => intro i; exact Or.inl rfl
  | succ n ih =>
    intro i
    unfold lnF
    by_cases h : (A i = a ∧ B i = b) ∨ (A i = b ∧ B i = a)
    · rw [if_pos h]; exact Or.inr ⟨i, Nat.le_refl _, by omega, rfl⟩
    · rw [if_neg h]
      rcases ih (i := i + 1) with h1 | ⟨l, h1, h2, h3⟩
      · exact Or.inl h1
      · exact Or.inr ⟨l, by omega, by omega, h3⟩
theorem lnM_neg {σ : ir_S} {m a b : Nat} (hm : m ≤ 20) : (lnF (σ 35) (σ 36) (nI a) (nI b) m 0 < 0) = (adjM σ m a b = false) := by
  unfold adjM
  rcases lnF_val (A := σ 35) (B := σ 36) (a := nI a) (b := nI b) (n := m) (i := 0) with h | ⟨l, h1, h2, h3⟩
  · rw [h]; simp
  · rw [h3, n_lt_0 (by omega)]
    simp (disch := omega) [n_eqM]
def bst (N m a i : Nat) (adj : Nat → Nat → Bool) (x : Nat → Nat) (v : Int32) : Prop :=
  (v = -1 ∧ ∀ n, n < i → adj a n = true → ¬ x n < FAR) ∨ ∃ b, v = nI b ∧ b < i ∧ adj a b = true ∧ x b < FAR ∧ ∀ n, n < i → adj a n = true → x n < FAR → x b ≤ x n ∧ (n < b → x b < x n)
theorem m141_loop {d N m a : Nat} {T : Value} {σ : ir_S} {x : Nat → Nat} (hN : N ≤ 12) (hm : m ≤ 20) (hnn : σ 33 1 = nI N) (hlm : σ 33 3 = nI m) (hx : FR σ N x) : ∀ n i v, i + n = N → bst N m a i (adjM σ m) x v → ∃ w, ir_run (ir_ev (d + 1)) 141 (10, [.ref 33, .int (nI a), T, .int v, .int (nI i)], [], σ) = some (some (.int w), σ) ∧ bst N m a N (adjM σ m) x w := by
  intro n
  induction n with
  | zero =>
    intro i v hi hv
    have hi : i = N := by omega
    subst hi
    refine ⟨v, ?_, hv⟩
    rw [s141_10]
    simp (disch := omega) only [e141, s141_0, s141_1, s141_2, s141_5, s141_6, s141_7, s141_8, s141_12, s141_13, s141_16, s141_70, s141_19, s141_71, s141_20, s141_21, s141_23, s141_26, s141_64, s141_29, s141_67, s141_30, s141_33, s141_35, s141_36, s141_38, s141_41, s141_42, s141_61, s141_45, s141_63, s141_46, s141_49, s141_51, s141_52, s141_53, s141_56, s141_57, s141_58, hnn, n_lt_0, n_le_0, n_tl_0, n_el_0, n_eq_0, n_ad_0, n_lt_1, n_le_1, n_tl_1, n_el_1, n_eq_1, n_ad_1, n_lt_2, n_le_2, n_tl_2, n_el_2, n_eq_2, n_ad_2, n_lt_3, n_le_3, n_tl_3, n_el_3, n_eq_3, n_ad_3, n_lt_4, n_le_4, n_tl_4, n_el_4, n_eq_4, n_ad_4, n_lt_5, n_le_5, n_tl_5, n_el_5, n_eq_5, n_ad_5, n_lt_6, n_le_6, n_tl_6, n_el_6, n_eq_6, n_ad_6, n_lt_10, n_le_10, n_tl_10, n_el_10, n_eq_10, n_ad_10, n_lt_11, n_le_11, n_tl_11, n_el_11, n_eq_11, n_ad_11, n_lt_12, n_le_12, n_tl_12, n_el_12, n_eq_12, n_ad_12, n_lt_13, n_le_13, n_tl_13, n_el_13, n_eq_13, n_ad_13, n_lt_15, n_le_15, n_tl_15, n_el_15, n_eq_15, n_ad_15, n_lt_20, n_le_20, n_tl_20, n_el_20, n_eq_20, n_ad_20, n_lt_30, n_le_30, n_tl_30, n_el_30, n_eq_30, n_ad_30, n_lt_31, n_le_31, n_tl_31, n_el_31, n_eq_31, n_ad_31, n_lt_32, n_le_32, n_tl_32, n_el_32, n_eq_32, n_ad_32, n_lt_60, n_le_60, n_tl_60, n_el_60, n_eq_60, n_ad_60, n_lt_99, n_le_99, n_tl_99, n_el_99, n_eq_99, n_ad_99, n_lt_100, n_le_100, n_tl_100, n_el_100, n_eq_100, n_ad_100, n_lt_144, n_le_144, n_tl_144, n_el_144, n_eq_144, n_ad_144, n_lt_4096, n_le_4096, n_tl_4096, n_el_4096, n_eq_4096, n_ad_4096, n_mulK, nI_add, pk_mul, n_lt, n_le, n_eq, n_eqM, n_ix, n_cl, Nat.le_refl, if_true]
  | succ n ih =>
    intro i v hi hv
    have q1 : ¬ N ≤ i := by omega
    have q2 : i < 12 := by omega
    obtain ⟨x1, x2⟩ := hx i (by omega)
    have hF : (268435456 : Int32) = nI FAR := rfl
    have hFe : FAR = 268435456 := rfl
    by_cases ha : adjM σ m a i = true
    · by_cases hxi : x i < FAR
      · rcases hv with ⟨rfl, hv⟩ | ⟨b, rfl, hb, h1, h2, h3⟩
        · obtain ⟨w, z1, z2⟩ := ih (i + 1) (nI i) (by omega) (Or.inr ⟨i, rfl, by omega, ha, hxi, fun n hn hn2 hn3 => by
            rcases Nat.lt_or_ge n i with q | q
            · exact absurd hn3 (hv n q hn2)
            · rw [show n = i by omega]; exact ⟨Nat.le_refl _, fun q => by omega⟩⟩)
          refine ⟨w, ?_, z2⟩
          rw [s141_10]
          simp (disch := omega) only [e141, s141_0, s141_1, s141_2, s141_5, s141_6, s141_7, s141_8, s141_12, s141_13, s141_16, s141_70, s141_19, s141_71, s141_20, s141_21, s141_23, s141_26, s141_64, s141_29, s141_67, s141_30, s141_33, s141_35, s141_36, s141_38, s141_41, s141_42, s141_61, s141_45, s141_63, s141_46, s141_49, s141_51, s141_52, s141_53, s141_56, s141_57, s141_58, xA41, xL41, xa41, hnn, n_lt_0, n_le_0, n_tl_0, n_el_0, n_eq_0, n_ad_0, n_lt_1, n_le_1, n_tl_1, n_el_1, n_eq_1, n_ad_1, n_lt_2, n_le_2, n_tl_2, n_el_2, n_eq_2, n_ad_2, n_lt_3, n_le_3, n_tl_3, n_el_3, n_eq_3, n_ad_3, n_lt_4, n_le_4, n_tl_4, n_el_4, n_eq_4, n_ad_4, n_lt_5, n_le_5, n_tl_5, n_el_5, n_eq_5, n_ad_5, n_lt_6, n_le_6, n_tl_6, n_el_6, n_eq_6, n_ad_6, n_lt_10, n_le_10, n_tl_10, n_el_10, n_eq_10, n_ad_10, n_lt_11, n_le_11, n_tl_11, n_el_11, n_eq_11, n_ad_11, n_lt_12, n_le_12, n_tl_12, n_el_12, n_eq_12, n_ad_12, n_lt_13, n_le_13, n_tl_13, n_el_13, n_eq_13, n_ad_13, n_lt_15, n_le_15, n_tl_15, n_el_15, n_eq_15, n_ad_15, n_lt_20, n_le_20, n_tl_20, n_el_20, n_eq_20, n_ad_20, n_lt_30, n_le_30, n_tl_30, n_el_30, n_eq_30, n_ad_30, n_lt_31, n_le_31, n_tl_31, n_el_31, n_eq_31, n_ad_31, n_lt_32, n_le_32, n_tl_32, n_el_32, n_eq_32, n_ad_32, n_lt_60, n_le_60, n_tl_60, n_el_60, n_eq_60, n_ad_60, n_lt_99, n_le_99, n_tl_99, n_el_99, n_eq_99, n_ad_99, n_lt_100, n_le_100, n_tl_100, n_el_100, n_eq_100, n_ad_100, n_lt_144, n_le_144, n_tl_144, n_el_144, n_eq_144, n_ad_144, n_lt_4096, n_le_4096, n_tl_4096, n_el_4096, n_eq_4096, n_ad_4096, n_mulK, nI_add, pk_mul, n_lt, n_le, n_eq, n_eqM, n_ix, n_cl, if_neg q1, m128 hm hlm, ir_k_i, ir_tl_i, lnM_neg hm, ha, x1, hF, q2, decide_true, if_true]
          simp (disch := omega) [n_le, Nat.not_le.mpr hxi]
          exact z1
        · obtain ⟨y1, y2⟩ := hx b (by omega)
          have q3 : b < 12 := by omega
          by_cases hlt : x i < x b
          · obtain ⟨w, z1, z2⟩ := ih (i + 1) (nI i) (by omega) (Or.inr ⟨i, rfl, by omega, ha, hxi, fun n hn hn2 hn3 => by
              rcases Nat.lt_or_ge n i with q | q
              · have := (h3 n q hn2 hn3).1
                exact ⟨by omega, fun _ => by omega⟩
              · rw [show n = i by omega]; exact ⟨Nat.le_refl _, fun q => by omega⟩⟩)
            refine ⟨w, ?_, z2⟩
            rw [s141_10]
            simp (disch := omega) only [e141, s141_0, s141_1, s141_2, s141_5, s141_6, s141_7, s141_8, s141_12, s141_13, s141_16, s141_70, s141_19, s141_71, s141_20, s141_21, s141_23, s141_26, s141_64, s141_29, s141_67, s141_30, s141_33, s141_35, s141_36, s141_38, s141_41, s141_42, s141_61, s141_45, s141_63, s141_46, s141_49, s141_51, s141_52, s141_53, s141_56, s141_57, s141_58, xA41, xL41, xa41, hnn, n_lt_0, n_le_0, n_tl_0, n_el_0, n_eq_0, n_ad_0, n_lt_1, n_le_1, n_tl_1, n_el_1, n_eq_1, n_ad_1, n_lt_2, n_le_2, n_tl_2, n_el_2, n_eq_2, n_ad_2, n_lt_3, n_le_3, n_tl_3, n_el_3, n_eq_3, n_ad_3, n_lt_4, n_le_4, n_tl_4, n_el_4, n_eq_4, n_ad_4, n_lt_5, n_le_5, n_tl_5, n_el_5, n_eq_5, n_ad_5, n_lt_6, n_le_6, n_tl_6, n_el_6, n_eq_6, n_ad_6, n_lt_10, n_le_10, n_tl_10, n_el_10, n_eq_10, n_ad_10, n_lt_11, n_le_11, n_tl_11, n_el_11, n_eq_11, n_ad_11, n_lt_12, n_le_12, n_tl_12, n_el_12, n_eq_12, n_ad_12, n_lt_13, n_le_13, n_tl_13, n_el_13, n_eq_13, n_ad_13, n_lt_15, n_le_15, n_tl_15, n_el_15, n_eq_15, n_ad_15, n_lt_20, n_le_20, n_tl_20, n_el_20, n_eq_20, n_ad_20, n_lt_30, n_le_30, n_tl_30, n_el_30, n_eq_30, n_ad_30, n_lt_31, n_le_31, n_tl_31, n_el_31, n_eq_31, n_ad_31, n_lt_32, n_le_32, n_tl_32, n_el_32, n_eq_32, n_ad_32, n_lt_60, n_le_60, n_tl_60, n_el_60, n_eq_60, n_ad_60, n_lt_99, n_le_99, n_tl_99, n_el_99, n_eq_99, n_ad_99, n_lt_100, n_le_100, n_tl_100, n_el_100, n_eq_100, n_ad_100, n_lt_144, n_le_144, n_tl_144, n_el_144, n_eq_144, n_ad_144, n_lt_4096, n_le_4096, n_tl_4096, n_el_4096, n_eq_4096, n_ad_4096, n_mulK, nI_add, pk_mul, n_lt, n_le, n_eq, n_eqM, n_ix, n_cl, if_neg q1, m128 hm hlm, ir_k_i, ir_tl_i, lnM_neg hm, ha, x1, y1, hF, q2, q3, decide_true, if_true]
            simp (disch := omega) [n_le, Nat.not_le.mpr hxi, Nat.not_le.mpr hlt]
            exact z1
          · obtain ⟨w, z1, z2⟩ := ih (i + 1) (nI b) (by omega) (Or.inr ⟨b, rfl, by omega, h1, h2, fun n hn hn2 hn3 => by
              rcases Nat.lt_or_ge n i with q | q
              · exact h3 n q hn2 hn3
              · rw [show n = i by omega]; exact ⟨by omega, fun q => by omega⟩⟩)
            refine ⟨w, ?_, z2⟩
            have q5 : x b ≤ x i := by omega
            rw [s141_10]
            simp (disch := omega) only [e141, s141_0, s141_1, s141_2, s141_5, s141_6, s141_7, s141_8, s141_12, s141_13, s141_16, s141_70, s141_19, s141_71, s141_20, s141_21, s141_23, s141_26, s141_64, s141_29, s141_67, s141_30, s141_33, s141_35, s141_36, s141_38, s141_41, s141_42, s141_61, s141_45, s141_63, s141_46, s141_49, s141_51, s141_52, s141_53, s141_56, s141_57, s141_58, xA41, xL41, xa41, hnn, n_lt_0, n_le_0, n_tl_0, n_el_0, n_eq_0, n_ad_0, n_lt_1, n_le_1, n_tl_1, n_el_1, n_eq_1, n_ad_1, n_lt_2, n_le_2, n_tl_2, n_el_2, n_eq_2, n_ad_2, n_lt_3, n_le_3, n_tl_3, n_el_3, n_eq_3, n_ad_3, n_lt_4, n_le_4, n_tl_4, n_el_4, n_eq_4, n_ad_4, n_lt_5, n_le_5, n_tl_5, n_el_5, n_eq_5, n_ad_5, n_lt_6, n_le_6, n_tl_6, n_el_6, n_eq_6, n_ad_6, n_lt_10, n_le_10, n_tl_10, n_el_10, n_eq_10, n_ad_10, n_lt_11, n_le_11, n_tl_11, n_el_11, n_eq_11, n_ad_11, n_lt_12, n_le_12, n_tl_12, n_el_12, n_eq_12, n_ad_12, n_lt_13, n_le_13, n_tl_13, n_el_13, n_eq_13, n_ad_13, n_lt_15, n_le_15, n_tl_15, n_el_15, n_eq_15, n_ad_15, n_lt_20, n_le_20, n_tl_20, n_el_20, n_eq_20, n_ad_20, n_lt_30, n_le_30, n_tl_30, n_el_30, n_eq_30, n_ad_30, n_lt_31, n_le_31, n_tl_31, n_el_31, n_eq_31, n_ad_31, n_lt_32, n_le_32, n_tl_32, n_el_32, n_eq_32, n_ad_32, n_lt_60, n_le_60, n_tl_60, n_el_60, n_eq_60, n_ad_60, n_lt_99, n_le_99, n_tl_99, n_el_99, n_eq_99, n_ad_99, n_lt_100, n_le_100, n_tl_100, n_el_100, n_eq_100, n_ad_100, n_lt_144, n_le_144, n_tl_144, n_el_144, n_eq_144, n_ad_144, n_lt_4096, n_le_4096, n_tl_4096, n_el_4096, n_eq_4096, n_ad_4096, n_mulK, nI_add, pk_mul, n_lt, n_le, n_eq, n_eqM, n_ix, n_cl, if_neg q1, m128 hm hlm, ir_k_i, ir_tl_i, lnM_neg hm, ha, x1, y1, hF, q2, q3, decide_true, if_true]
            simp (disch := omega) [n_le, Nat.not_le.mpr hxi, q5]
            exact z1
      · have hv' : bst N m a (i + 1) (adjM σ m) x v := by
          rcases hv with ⟨e, hv⟩ | ⟨b, e, hb, h1, h2, h3⟩
          · refine Or.inl ⟨e, fun n hn hn2 => ?_⟩
            rcases Nat.lt_or_ge n i with q | q
            · exact hv n q hn2
            · rw [show n = i by omega]; exact hxi
          · refine Or.inr ⟨b, e, by omega, h1, h2, fun n hn hn2 hn3 => ?_⟩
            rcases Nat.lt_or_ge n i with q | q
            · exact h3 n q hn2 hn3
            · rw [show n = i by omega] at hn3; exact absurd hn3 hxi
        obtain ⟨w, z1, z2⟩ := ih (i + 1) v (by omega) hv'
        refine ⟨w, ?_, z2⟩
        have q5 : FAR ≤ x i := by omega
        rw [s141_10]
        simp (disch := omega) only [e141, s141_0, s141_1, s141_2, s141_5, s141_6, s141_7, s141_8, s141_12, s141_13, s141_16, s141_70, s141_19, s141_71, s141_20, s141_21, s141_23, s141_26, s141_64, s141_29, s141_67, s141_30, s141_33, s141_35, s141_36, s141_38, s141_41, s141_42, s141_61, s141_45, s141_63, s141_46, s141_49, s141_51, s141_52, s141_53, s141_56, s141_57, s141_58, xA41, xL41, xa41, hnn, n_lt_0, n_le_0, n_tl_0, n_el_0, n_eq_0, n_ad_0, n_lt_1, n_le_1, n_tl_1, n_el_1, n_eq_1, n_ad_1, n_lt_2, n_le_2, n_tl_2, n_el_2, n_eq_2, n_ad_2, n_lt_3, n_le_3, n_tl_3, n_el_3, n_eq_3, n_ad_3, n_lt_4, n_le_4, n_tl_4, n_el_4, n_eq_4, n_ad_4, n_lt_5, n_le_5, n_tl_5, n_el_5, n_eq_5, n_ad_5, n_lt_6, n_le_6, n_tl_6, n_el_6, n_eq_6, n_ad_6, n_lt_10, n_le_10, n_tl_10, n_el_10, n_eq_10, n_ad_10, n_lt_11, n_le_11, n_tl_11, n_el_11, n_eq_11, n_ad_11, n_lt_12, n_le_12, n_tl_12, n_el_12, n_eq_12, n_ad_12, n_lt_13, n_le_13, n_tl_13, n_el_13, n_eq_13, n_ad_13, n_lt_15, n_le_15, n_tl_15, n_el_15, n_eq_15, n_ad_15, n_lt_20, n_le_20, n_tl_20, n_el_20, n_eq_20, n_ad_20, n_lt_30, n_le_30, n_tl_30, n_el_30, n_eq_30, n_ad_30, n_lt_31, n_le_31, n_tl_31, n_el_31, n_eq_31, n_ad_31, n_lt_32, n_le_32, n_tl_32, n_el_32, n_eq_32, n_ad_32, n_lt_60, n_le_60, n_tl_60, n_el_60, n_eq_60, n_ad_60, n_lt_99, n_le_99, n_tl_99, n_el_99, n_eq_99, n_ad_99, n_lt_100, n_le_100, n_tl_100, n_el_100, n_eq_100, n_ad_100, n_lt_144, n_le_144, n_tl_144, n_el_144, n_eq_144, n_ad_144, n_lt_4096, n_le_4096, n_tl_4096, n_el_4096, n_eq_4096, n_ad_4096, n_mulK, nI_add, pk_mul, n_lt, n_le, n_eq, n_eqM, n_ix, n_cl, if_neg q1, m128 hm hlm, ir_k_i, ir_tl_i, lnM_neg hm, ha, x1, hF, q2, decide_true, if_true]
        simp (disch := omega) [n_le, q5]
        exact z1
    · have ha : adjM σ m a i = false := by simpa using ha
      have hv' : bst N m a (i + 1) (adjM σ m) x v := by
        rcases hv with ⟨e, hv⟩ | ⟨b, e, hb, h1, h2, h3⟩
        · refine Or.inl ⟨e, fun n hn hn2 => ?_⟩
          rcases Nat.lt_or_ge n i with q | q
          · exact hv n q hn2
          · rw [show n = i by omega, ha] at hn2; cases hn2
        · refine Or.inr ⟨b, e, by omega, h1, h2, fun n hn hn2 hn3 => ?_⟩
          rcases Nat.lt_or_ge n i with q | q
          · exact h3 n q hn2 hn3
          · rw [show n = i by omega, ha] at hn2; cases hn2
      obtain ⟨w, z1, z2⟩ := ih (i + 1) v (by omega) hv'
      refine ⟨w, ?_, z2⟩
      rw [s141_10]
      simp (disch := omega) only [e141, s141_0, s141_1, s141_2, s141_5, s141_6, s141_7, s141_8, s141_12, s141_13, s141_16, s141_70, s141_19, s141_71, s141_20, s141_21, s141_23, s141_26, s141_64, s141_29, s141_67, s141_30, s141_33, s141_35, s141_36, s141_38, s141_41, s141_42, s141_61, s141_45, s141_63, s141_46, s141_49, s141_51, s141_52, s141_53, s141_56, s141_57, s141_58, xA41, xL41, xa41, hnn, n_lt_0, n_le_0, n_tl_0, n_el_0, n_eq_0, n_ad_0, n_lt_1, n_le_1, n_tl_1, n_el_1, n_eq_1, n_ad_1, n_lt_2, n_le_2, n_tl_2, n_el_2, n_eq_2, n_ad_2, n_lt_3, n_le_3, n_tl_3, n_el_3, n_eq_3, n_ad_3, n_lt_4, n_le_4, n_tl_4, n_el_4, n_eq_4, n_ad_4, n_lt_5, n_le_5, n_tl_5, n_el_5, n_eq_5, n_ad_5, n_lt_6, n_le_6, n_tl_6, n_el_6, n_eq_6, n_ad_6, n_lt_10, n_le_10, n_tl_10, n_el_10, n_eq_10, n_ad_10, n_lt_11, n_le_11, n_tl_11, n_el_11, n_eq_11, n_ad_11, n_lt_12, n_le_12, n_tl_12, n_el_12, n_eq_12, n_ad_12, n_lt_13, n_le_13, n_tl_13, n_el_13, n_eq_13, n_ad_13, n_lt_15, n_le_15, n_tl_15, n_el_15, n_eq_15, n_ad_15, n_lt_20, n_le_20, n_tl_20, n_el_20, n_eq_20, n_ad_20, n_lt_30, n_le_30, n_tl_30, n_el_30, n_eq_30, n_ad_30, n_lt_31, n_le_31, n_tl_31, n_el_31, n_eq_31, n_ad_31, n_lt_32, n_le_32, n_tl_32, n_el_32, n_eq_32, n_ad_32, n_lt_60, n_le_60, n_tl_60, n_el_60, n_eq_60, n_ad_60, n_lt_99, n_le_99, n_tl_99, n_el_99, n_eq_99, n_ad_99, n_lt_100, n_le_100, n_tl_100, n_el_100, n_eq_100, n_ad_100, n_lt_144, n_le_144, n_tl_144, n_el_144, n_eq_144, n_ad_144, n_lt_4096, n_le_4096, n_tl_4096, n_el_4096, n_eq_4096, n_ad_4096, n_mulK, nI_add, pk_mul, n_lt, n_le, n_eq, n_eqM, n_ix, n_cl, if_neg q1, m128 hm hlm, ir_k_i, ir_tl_i, lnM_neg hm, ha, if_true]
      exact z1
theorem bst_NR {N m a t : Nat} {adj : Nat → Nat → Bool} {rel : Nat → Bool} {x : Nat → Nat} {v : Int32} (hN : N ≤ 12) (ht : t < N) (hb : bst N m a N adj x v) (hS : Snd N adj rel t x) (hC : Cmp N adj rel t N x) : isNR N adj rel t a v := by
  have hFe : FAR = 268435456 := rfl
  rcases hb with ⟨rfl, h⟩ | ⟨b, rfl, hb, h1, h2, h3⟩
  · refine Or.inl ⟨rfl, fun k n hn ha => ?_⟩
    cases hl : lev N adj rel t k n with
    | false => rfl
    | true =>
      have := hC n (N - 1) hn (by omega) (lev_sat ht hn hl)
      exact absurd (by omega) (h n hn ha)
  · have hlb := (hS b hb).2 h2
    have hxb := hC b (N - 1) hb (by omega) (lev_sat ht hb hlb)
    refine Or.inr ⟨x b, b, rfl, hb, h1, hlb, fun j n hj hn ha => ?_, fun n hn ha => ?_⟩
    · cases hl : lev N adj rel t j n with
      | false => rfl
      | true =>
        have q1 := hC n j hn (by omega) hl
        have q2 := (h3 n hn ha (by omega)).1
        omega
    · cases hl : lev N adj rel t (x b) n with
      | false => rfl
      | true =>
        have q1 := hC n (x b) (by omega) (by omega) hl
        have q2 := (h3 n (by omega) ha (by omega)).2 hn
        omega
theorem m141 {d N m a t : Nat} {σ : ir_S} {LA LB : Nat → Nat} (hN : N ≤ 12) (hm : m ≤ 20) (ht : t < N) (hnn : σ 33 1 = nI N) (hlm : σ 33 3 = nI m) (hL : LN σ m N LA LB) : ∃ σ' v, ir_ev (d + 3) 141 [.ref 33, .int (nI a), .int (nI t)] σ = some (some (.int v), σ') ∧ (∀ c, c ≠ 41 → σ' c = σ c) ∧ isNR N (adjM σ m) (relM σ) t a v := by
  obtain ⟨σ1, x, a1, a2, a3, a4, a5⟩ := m139 (d := d) hN hm ht hnn hlm hL
  have e33 := a2 33 (by decide)
  have hadj : adjM σ1 m = adjM σ m := by unfold adjM; rw [a2 35 (by decide), a2 36 (by decide)]
  obtain ⟨w, b1, b2⟩ := m141_loop (d := d + 1) (a := a) (T := .int (nI t)) (σ := σ1) (x := x) hN hm (by rw [e33]; exact hnn) (by rw [e33]; exact hlm) a3 N 0 (-1) (by omega) (Or.inl ⟨rfl, fun n hn => by omega⟩)
  rw [hadj] at b2
  refine ⟨σ1, w, ?_, a2, bst_NR hN ht b2 a4 a5⟩
  simp only [e141, s141_0, s141_1, s141_2, s141_5, s141_6, s141_7, s141_8, s141_12, s141_13, s141_16, s141_70, s141_19, s141_71, s141_20, s141_21, s141_23, s141_26, s141_64, s141_29, s141_67, s141_30, s141_33, s141_35, s141_36, s141_38, s141_41, s141_42, s141_61, s141_45, s141_63, s141_46, s141_49, s141_51, s141_52, s141_53, s141_56, s141_57, s141_58, a1, ir_k_v, ir_tl_v]
  exact b1
/-- the nearest, as a number -/
noncomputable def nrV (N : Nat) (adj : Nat → Nat → Bool) (rel : Nat → Bool) (a t : Nat) : Int32 := @dite Int32 (∃ v, isNR N adj rel t a v) (Classical.propDecidable _) (fun h => Classical.choose h) (fun _ => -1)
theorem nrV_eq {N : Nat} {adj : Nat → Nat → Bool} {rel : Nat → Bool} {a t : Nat} {v : Int32} (h : isNR N adj rel t a v) : nrV N adj rel a t = v := by
  have hh : ∃ v, isNR N adj rel t a v := ⟨v, h⟩
  unfold nrV
  rw [dif_pos hh]
  exact isNR_u (Classical.choose_spec hh) h
