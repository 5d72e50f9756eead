/-! Arrays.fill, the resets, clear -/
theorem c184_3_loop {E : Nat → List Value → ir_S → Option ir_R} {v : Int32} : ∀ n i σ, i + n = 12 → (∀ j, j < i → σ 3 j = v) → ∃ σ', ir_run E 184 (5, [.ref 3, .int v, .int (nI i), .int (nI 12)], [], σ) = some (none, σ') ∧ (∀ c, c ≠ 3 → σ' c = σ c) ∧ ∀ j, j < 12 → σ' 3 j = v := by
  intro n
  induction n with
  | zero =>
    intro i σ hi hm
    have q : 12 ≤ i := by omega
    refine ⟨σ, ?_, fun _ _ => rfl, fun j hj => hm j (by omega)⟩
    rw [s184_5]
    simp (disch := omega) only [s184_6, s184_7, s184_20, n_lt_0, n_le_0, n_tl_0, n_el_0, n_eq_0, n_ad_0, n_lt_1, n_le_1, n_tl_1, n_el_1, n_eq_1, n_ad_1, n_lt_2, n_le_2, n_tl_2, n_el_2, n_eq_2, n_ad_2, n_lt_3, n_le_3, n_tl_3, n_el_3, n_eq_3, n_ad_3, n_lt_4, n_le_4, n_tl_4, n_el_4, n_eq_4, n_ad_4, n_lt_5, n_le_5, n_tl_5, n_el_5, n_eq_5, n_ad_5, n_lt_6, n_le_6, n_tl_6, n_el_6, n_eq_6, n_ad_6, n_lt_10, n_le_10, n_tl_10, n_el_10, n_eq_10, n_ad_10, n_lt_11, n_le_11, n_tl_11, n_el_11, n_eq_11, n_ad_11, n_lt_12, n_le_12, n_tl_12, n_el_12, n_eq_12, n_ad_12, n_lt_13, n_le_13, n_tl_13, n_el_13, n_eq_13, n_ad_13, n_lt_15, n_le_15, n_tl_15, n_el_15, n_eq_15, n_ad_15, n_lt_20, n_le_20, n_tl_20, n_el_20, n_eq_20, n_ad_20, n_lt_30, n_le_30, n_tl_30, n_el_30, n_eq_30, n_ad_30, n_lt_31, n_le_31, n_tl_31, n_el_31, n_eq_31, n_ad_31, n_lt_32, n_le_32, n_tl_32, n_el_32, n_eq_32, n_ad_32, n_lt_60, n_le_60, n_tl_60, n_el_60, n_eq_60, n_ad_60, n_lt_99, n_le_99, n_tl_99, n_el_99, n_eq_99, n_ad_99, n_lt_100, n_le_100, n_tl_100, n_el_100, n_eq_100, n_ad_100, n_lt_144, n_le_144, n_tl_144, n_el_144, n_eq_144, n_ad_144, n_lt_4096, n_le_4096, n_tl_4096, n_el_4096, n_eq_4096, n_ad_4096, n_mulK, nI_add, pk_mul, n_lt, n_le, n_eq, n_eqM, n_ix, n_cl, q, if_true]
  | succ n ih =>
    intro i σ hi hm
    have q1 : ¬ 12 ≤ i := by omega
    have q2 : i < 12 := by omega
    obtain ⟨σ', z1, z2, z3⟩ := ih (i + 1) (ir_up σ 3 i v) (by omega) (fun j hj => by
      rw [u_s]
      by_cases e : j = i
      · rw [e, upd_s]
      · rw [upd_n _ _ e]; exact hm j (by omega))
    refine ⟨σ', ?_, fun c hc => by rw [z2 c hc, u_n _ _ _ hc], z3⟩
    rw [s184_5]
    simp (disch := omega) only [s184_6, s184_7, s184_10, s184_11, s184_12, s184_13, s184_14, s184_17, xA3, xL3, xa3, n_lt_0, n_le_0, n_tl_0, n_el_0, n_eq_0, n_ad_0, n_lt_1, n_le_1, n_tl_1, n_el_1, n_eq_1, n_ad_1, n_lt_2, n_le_2, n_tl_2, n_el_2, n_eq_2, n_ad_2, n_lt_3, n_le_3, n_tl_3, n_el_3, n_eq_3, n_ad_3, n_lt_4, n_le_4, n_tl_4, n_el_4, n_eq_4, n_ad_4, n_lt_5, n_le_5, n_tl_5, n_el_5, n_eq_5, n_ad_5, n_lt_6, n_le_6, n_tl_6, n_el_6, n_eq_6, n_ad_6, n_lt_10, n_le_10, n_tl_10, n_el_10, n_eq_10, n_ad_10, n_lt_11, n_le_11, n_tl_11, n_el_11, n_eq_11, n_ad_11, n_lt_12, n_le_12, n_tl_12, n_el_12, n_eq_12, n_ad_12, n_lt_13, n_le_13, n_tl_13, n_el_13, n_eq_13, n_ad_13, n_lt_15, n_le_15, n_tl_15, n_el_15, n_eq_15, n_ad_15, n_lt_20, n_le_20, n_tl_20, n_el_20, n_eq_20, n_ad_20, n_lt_30, n_le_30, n_tl_30, n_el_30, n_eq_30, n_ad_30, n_lt_31, n_le_31, n_tl_31, n_el_31, n_eq_31, n_ad_31, n_lt_32, n_le_32, n_tl_32, n_el_32, n_eq_32, n_ad_32, n_lt_60, n_le_60, n_tl_60, n_el_60, n_eq_60, n_ad_60, n_lt_99, n_le_99, n_tl_99, n_el_99, n_eq_99, n_ad_99, n_lt_100, n_le_100, n_tl_100, n_el_100, n_eq_100, n_ad_100, n_lt_144, n_le_144, n_tl_144, n_el_144, n_eq_144, n_ad_144, n_lt_4096, n_le_4096, n_tl_4096, n_el_4096, n_eq_4096, n_ad_4096, n_mulK, nI_add, pk_mul, n_lt, n_le, n_eq, n_eqM, n_ix, n_cl, if_neg q1, q2, decide_true, if_true]
    exact z1
theorem c184_3 {d : Nat} {v : Int32} {σ : ir_S} : ∃ σ', ir_ev (d + 1) 184 [.ref 3, .int v] σ = some (none, σ') ∧ (∀ c, c ≠ 3 → σ' c = σ c) ∧ ∀ j, j < 12 → σ' 3 j = v := by
  obtain ⟨σ', z1, z2⟩ := c184_3_loop (E := ir_ev d) (v := v) 12 0 σ (by omega) (fun j hj => by omega)
  refine ⟨σ', ?_, z2⟩
  simp only [e184, s184_0, s184_1, s184_2, s184_3, s184_4, xA3, xL3, xa3, if_true]
  exact z1
theorem c184_4_loop {E : Nat → List Value → ir_S → Option ir_R} {v : Int32} : ∀ n i σ, i + n = 144 → (∀ j, j < i → σ 4 j = v) → ∃ σ', ir_run E 184 (5, [.ref 4, .int v, .int (nI i), .int (nI 144)], [], σ) = some (none, σ') ∧ (∀ c, c ≠ 4 → σ' c = σ c) ∧ ∀ j, j < 144 → σ' 4 j = v := by
  intro n
  induction n with
  | zero =>
    intro i σ hi hm
    have q : 144 ≤ i := by omega
    refine ⟨σ, ?_, fun _ _ => rfl, fun j hj => hm j (by omega)⟩
    rw [s184_5]
    simp (disch := omega) only [s184_6, s184_7, s184_20, n_lt_0, n_le_0, n_tl_0, n_el_0, n_eq_0, n_ad_0, n_lt_1, n_le_1, n_tl_1, n_el_1, n_eq_1, n_ad_1, n_lt_2, n_le_2, n_tl_2, n_el_2, n_eq_2, n_ad_2, n_lt_3, n_le_3, n_tl_3, n_el_3, n_eq_3, n_ad_3, n_lt_4, n_le_4, n_tl_4, n_el_4, n_eq_4, n_ad_4, n_lt_5, n_le_5, n_tl_5, n_el_5, n_eq_5, n_ad_5, n_lt_6, n_le_6, n_tl_6, n_el_6, n_eq_6, n_ad_6, n_lt_10, n_le_10, n_tl_10, n_el_10, n_eq_10, n_ad_10, n_lt_11, n_le_11, n_tl_11, n_el_11, n_eq_11, n_ad_11, n_lt_12, n_le_12, n_tl_12, n_el_12, n_eq_12, n_ad_12, n_lt_13, n_le_13, n_tl_13, n_el_13, n_eq_13, n_ad_13, n_lt_15, n_le_15, n_tl_15, n_el_15, n_eq_15, n_ad_15, n_lt_20, n_le_20, n_tl_20, n_el_20, n_eq_20, n_ad_20, n_lt_30, n_le_30, n_tl_30, n_el_30, n_eq_30, n_ad_30, n_lt_31, n_le_31, n_tl_31, n_el_31, n_eq_31, n_ad_31, n_lt_32, n_le_32, n_tl_32, n_el_32, n_eq_32, n_ad_32, n_lt_60, n_le_60, n_tl_60, n_el_60, n_eq_60, n_ad_60, n_lt_99, n_le_99, n_tl_99, n_el_99, n_eq_99, n_ad_99, n_lt_100, n_le_100, n_tl_100, n_el_100, n_eq_100, n_ad_100, n_lt_144, n_le_144, n_tl_144, n_el_144, n_eq_144, n_ad_144, n_lt_4096, n_le_4096, n_tl_4096, n_el_4096, n_eq_4096, n_ad_4096, n_mulK, nI_add, pk_mul, n_lt, n_le, n_eq, n_eqM, n_ix, n_cl, q, if_true]
  | succ n ih =>
    intro i σ hi hm
    have q1 : ¬ 144 ≤ i := by omega
    have q2 : i < 144 := by omega
    obtain ⟨σ', z1, z2, z3⟩ := ih (i + 1) (ir_up σ 4 i v) (by omega) (fun j hj => by
      rw [u_s]
      by_cases e : j = i
      · rw [e, upd_s]
      · rw [upd_n _ _ e]; exact hm j (by omega))
    refine ⟨σ', ?_, fun c hc => by rw [z2 c hc, u_n _ _ _ hc], z3⟩
    rw [s184_5]
    simp (disch := omega) only [s184_6, s184_7, s184_10, s184_11, s184_12, s184_13, s184_14, s184_17, xA4, xL4, xa4, n_lt_0, n_le_0, n_tl_0, n_el_0, n_eq_0, n_ad_0, n_lt_1, n_le_1, n_tl_1, n_el_1, n_eq_1, n_ad_1, n_lt_2, n_le_2, n_tl_2, n_el_2, n_eq_2, n_ad_2, n_lt_3, n_le_3, n_tl_3, n_el_3, n_eq_3, n_ad_3, n_lt_4, n_le_4, n_tl_4, n_el_4, n_eq_4, n_ad_4, n_lt_5, n_le_5, n_tl_5, n_el_5, n_eq_5, n_ad_5, n_lt_6, n_le_6, n_tl_6, n_el_6, n_eq_6, n_ad_6, n_lt_10, n_le_10, n_tl_10, n_el_10, n_eq_10, n_ad_10, n_lt_11, n_le_11, n_tl_11, n_el_11, n_eq_11, n_ad_11, n_lt_12, n_le_12, n_tl_12, n_el_12, n_eq_12, n_ad_12, n_lt_13, n_le_13, n_tl_13, n_el_13, n_eq_13, n_ad_13, n_lt_15, n_le_15, n_tl_15, n_el_15, n_eq_15, n_ad_15, n_lt_20, n_le_20, n_tl_20, n_el_20, n_eq_20, n_ad_20, n_lt_30, n_le_30, n_tl_30, n_el_30, n_eq_30, n_ad_30, n_lt_31, n_le_31, n_tl_31, n_el_31, n_eq_31, n_ad_31, n_lt_32, n_le_32, n_tl_32, n_el_32, n_eq_32, n_ad_32, n_lt_60, n_le_60, n_tl_60, n_el_60, n_eq_60, n_ad_60, n_lt_99, n_le_99, n_tl_99, n_el_99, n_eq_99, n_ad_99, n_lt_100, n_le_100, n_tl_100, n_el_100, n_eq_100, n_ad_100, n_lt_144, n_le_144, n_tl_144, n_el_144, n_eq_144, n_ad_144, n_lt_4096, n_le_4096, n_tl_4096, n_el_4096, n_eq_4096, n_ad_4096, n_mulK, nI_add, pk_mul, n_lt, n_le, n_eq, n_eqM, n_ix, n_cl, if_neg q1, q2, decide_true, if_true]
    exact z1
theorem c184_4 {d : Nat} {v : Int32} {σ : ir_S} : ∃ σ', ir_ev (d + 1) 184 [.ref 4, .int v] σ = some (none, σ') ∧ (∀ c, c ≠ 4 → σ' c = σ c) ∧ ∀ j, j < 144 → σ' 4 j = v := by
  obtain ⟨σ', z1, z2⟩ := c184_4_loop (E := ir_ev d) (v := v) 144 0 σ (by omega) (fun j hj => by omega)
  refine ⟨σ', ?_, z2⟩
  simp only [e184, s184_0, s184_1, s184_2, s184_3, s184_4, xA4, xL4, xa4, if_true]
  exact z1
theorem c184_5_loop {E : Nat → List Value → ir_S → Option ir_R} {v : Int32} : ∀ n i σ, i + n = 144 → (∀ j, j < i → σ 5 j = v) → ∃ σ', ir_run E 184 (5, [.ref 5, .int v, .int (nI i), .int (nI 144)], [], σ) = some (none, σ') ∧ (∀ c, c ≠ 5 → σ' c = σ c) ∧ ∀ j, j < 144 → σ' 5 j = v := by
  intro n
  induction n with
  | zero =>
    intro i σ hi hm
    have q : 144 ≤ i := by omega
    refine ⟨σ, ?_, fun _ _ => rfl, fun j hj => hm j (by omega)⟩
    rw [s184_5]
    simp (disch := omega) only [s184_6, s184_7, s184_20, n_lt_0, n_le_0, n_tl_0, n_el_0, n_eq_0, n_ad_0, n_lt_1, n_le_1, n_tl_1, n_el_1, n_eq_1, n_ad_1, n_lt_2, n_le_2, n_tl_2, n_el_2, n_eq_2, n_ad_2, n_lt_3, n_le_3, n_tl_3, n_el_3, n_eq_3, n_ad_3, n_lt_4, n_le_4, n_tl_4, n_el_4, n_eq_4, n_ad_4, n_lt_5, n_le_5, n_tl_5, n_el_5, n_eq_5, n_ad_5, n_lt_6, n_le_6, n_tl_6, n_el_6, n_eq_6, n_ad_6, n_lt_10, n_le_10, n_tl_10, n_el_10, n_eq_10, n_ad_10, n_lt_11, n_le_11, n_tl_11, n_el_11, n_eq_11, n_ad_11, n_lt_12, n_le_12, n_tl_12, n_el_12, n_eq_12, n_ad_12, n_lt_13, n_le_13, n_tl_13, n_el_13, n_eq_13, n_ad_13, n_lt_15, n_le_15, n_tl_15, n_el_15, n_eq_15, n_ad_15, n_lt_20, n_le_20, n_tl_20, n_el_20, n_eq_20, n_ad_20, n_lt_30, n_le_30, n_tl_30, n_el_30, n_eq_30, n_ad_30, n_lt_31, n_le_31, n_tl_31, n_el_31, n_eq_31, n_ad_31, n_lt_32, n_le_32, n_tl_32, n_el_32, n_eq_32, n_ad_32, n_lt_60, n_le_60, n_tl_60, n_el_60, n_eq_60, n_ad_60, n_lt_99, n_le_99, n_tl_99, n_el_99, n_eq_99, n_ad_99, n_lt_100, n_le_100, n_tl_100, n_el_100, n_eq_100, n_ad_100, n_lt_144, n_le_144, n_tl_144, n_el_144, n_eq_144, n_ad_144, n_lt_4096, n_le_4096, n_tl_4096, n_el_4096, n_eq_4096, n_ad_4096, n_mulK, nI_add, pk_mul, n_lt, n_le, n_eq, n_eqM, n_ix, n_cl, q, if_true]
  | succ n ih =>
    intro i σ hi hm
    have q1 : ¬ 144 ≤ i := by omega
    have q2 : i < 144 := by omega
    obtain ⟨σ', z1, z2, z3⟩ := ih (i + 1) (ir_up σ 5 i v) (by omega) (fun j hj => by
      rw [u_s]
      by_cases e : j = i
      · rw [e, upd_s]
      · rw [upd_n _ _ e]; exact hm j (by omega))
    refine ⟨σ', ?_, fun c hc => by rw [z2 c hc, u_n _ _ _ hc], z3⟩
    rw [s184_5]
    simp (disch := omega) only [s184_6, s184_7, s184_10, s184_11, s184_12, s184_13, s184_14, s184_17, xA5, xL5, xa5, n_lt_0, n_le_0, n_tl_0, n_el_0, n_eq_0, n_ad_0, n_lt_1, n_le_1, n_tl_1, n_el_1, n_eq_1, n_ad_1, n_lt_2, n_le_2, n_tl_2, n_el_2, n_eq_2, n_ad_2, n_lt_3, n_le_3, n_tl_3, n_el_3, n_eq_3, n_ad_3, n_lt_4, n_le_4, n_tl_4, n_el_4, n_eq_4, n_ad_4, n_lt_5, n_le_5, n_tl_5, n_el_5, n_eq_5, n_ad_5, n_lt_6, n_le_6, n_tl_6, n_el_6, n_eq_6, n_ad_6, n_lt_10, n_le_10, n_tl_10, n_el_10, n_eq_10, n_ad_10, n_lt_11, n_le_11, n_tl_11, n_el_11, n_eq_11, n_ad_11, n_lt_12, n_le_12, n_tl_12, n_el_12, n_eq_12, n_ad_12, n_lt_13, n_le_13, n_tl_13, n_el_13, n_eq_13, n_ad_13, n_lt_15, n_le_15, n_tl_15, n_el_15, n_eq_15, n_ad_15, n_lt_20, n_le_20, n_tl_20, n_el_20, n_eq_20, n_ad_20, n_lt_30, n_le_30, n_tl_30, n_el_30, n_eq_30, n_ad_30, n_lt_31, n_le_31, n_tl_31, n_el_31, n_eq_31, n_ad_31, n_lt_32, n_le_32, n_tl_32, n_el_32, n_eq_32, n_ad_32, n_lt_60, n_le_60, n_tl_60, n_el_60, n_eq_60, n_ad_60, n_lt_99, n_le_99, n_tl_99, n_el_99, n_eq_99, n_ad_99, n_lt_100, n_le_100, n_tl_100, n_el_100, n_eq_100, n_ad_100, n_lt_144, n_le_144, n_tl_144, n_el_144, n_eq_144, n_ad_144, n_lt_4096, n_le_4096, n_tl_4096, n_el_4096, n_eq_4096, n_ad_4096, n_mulK, nI_add, pk_mul, n_lt, n_le, n_eq, n_eqM, n_ix, n_cl, if_neg q1, q2, decide_true, if_true]
    exact z1
theorem c184_5 {d : Nat} {v : Int32} {σ : ir_S} : ∃ σ', ir_ev (d + 1) 184 [.ref 5, .int v] σ = some (none, σ') ∧ (∀ c, c ≠ 5 → σ' c = σ c) ∧ ∀ j, j < 144 → σ' 5 j = v := by
  obtain ⟨σ', z1, z2⟩ := c184_5_loop (E := ir_ev d) (v := v) 144 0 σ (by omega) (fun j hj => by omega)
  refine ⟨σ', ?_, z2⟩
  simp only [e184, s184_0, s184_1, s184_2, s184_3, s184_4, xA5, xL5, xa5, if_true]
  exact z1
theorem c184_7_loop {E : Nat → List Value → ir_S → Option ir_R} {v : Int32} : ∀ n i σ, i + n = 144 → (∀ j, j < i → σ 7 j = v) → ∃ σ', ir_run E 184 (5, [.ref 7, .int v, .int (nI i), .int (nI 144)], [], σ) = some (none, σ') ∧ (∀ c, c ≠ 7 → σ' c = σ c) ∧ ∀ j, j < 144 → σ' 7 j = v := by
  intro n
  induction n with
  | zero =>
    intro i σ hi hm
    have q : 144 ≤ i := by omega
    refine ⟨σ, ?_, fun _ _ => rfl, fun j hj => hm j (by omega)⟩
    rw [s184_5]
    simp (disch := omega) only [s184_6, s184_7, s184_20, n_lt_0, n_le_0, n_tl_0, n_el_0, n_eq_0, n_ad_0, n_lt_1, n_le_1, n_tl_1, n_el_1, n_eq_1, n_ad_1, n_lt_2, n_le_2, n_tl_2, n_el_2, n_eq_2, n_ad_2, n_lt_3, n_le_3, n_tl_3, n_el_3, n_eq_3, n_ad_3, n_lt_4, n_le_4, n_tl_4, n_el_4, n_eq_4, n_ad_4, n_lt_5, n_le_5, n_tl_5, n_el_5, n_eq_5, n_ad_5, n_lt_6, n_le_6, n_tl_6, n_el_6, n_eq_6, n_ad_6, n_lt_10, n_le_10, n_tl_10, n_el_10, n_eq_10, n_ad_10, n_lt_11, n_le_11, n_tl_11, n_el_11, n_eq_11, n_ad_11, n_lt_12, n_le_12, n_tl_12, n_el_12, n_eq_12, n_ad_12, n_lt_13, n_le_13, n_tl_13, n_el_13, n_eq_13, n_ad_13, n_lt_15, n_le_15, n_tl_15, n_el_15, n_eq_15, n_ad_15, n_lt_20, n_le_20, n_tl_20, n_el_20, n_eq_20, n_ad_20, n_lt_30, n_le_30, n_tl_30, n_el_30, n_eq_30, n_ad_30, n_lt_31, n_le_31, n_tl_31, n_el_31, n_eq_31, n_ad_31, n_lt_32, n_le_32, n_tl_32, n_el_32, n_eq_32, n_ad_32, n_lt_60, n_le_60, n_tl_60, n_el_60, n_eq_60, n_ad_60, n_lt_99, n_le_99, n_tl_99, n_el_99, n_eq_99, n_ad_99, n_lt_100, n_le_100, n_tl_100, n_el_100, n_eq_100, n_ad_100, n_lt_144, n_le_144, n_tl_144, n_el_144, n_eq_144, n_ad_144, n_lt_4096, n_le_4096, n_tl_4096, n_el_4096, n_eq_4096, n_ad_4096, n_mulK, nI_add, pk_mul, n_lt, n_le, n_eq, n_eqM, n_ix, n_cl, q, if_true]
  | succ n ih =>
    intro i σ hi hm
    have q1 : ¬ 144 ≤ i := by omega
    have q2 : i < 144 := by omega
    obtain ⟨σ', z1, z2, z3⟩ := ih (i + 1) (ir_up σ 7 i v) (by omega) (fun j hj => by
      rw [u_s]
      by_cases e : j = i
      · rw [e, upd_s]
      · rw [upd_n _ _ e]; exact hm j (by omega))
    refine ⟨σ', ?_, fun c hc => by rw [z2 c hc, u_n _ _ _ hc], z3⟩
    rw [s184_5]
    simp (disch := omega) only [s184_6, s184_7, s184_10, s184_11, s184_12, s184_13, s184_14, s184_17, xA7, xL7, xa7, n_lt_0, n_le_0, n_tl_0, n_el_0, n_eq_0, n_ad_0, n_lt_1, n_le_1, n_tl_1, n_el_1, n_eq_1, n_ad_1, n_lt_2, n_le_2, n_tl_2, n_el_2, n_eq_2, n_ad_2, n_lt_3, n_le_3, n_tl_3, n_el_3, n_eq_3, n_ad_3, n_lt_4, n_le_4, n_tl_4, n_el_4, n_eq_4, n_ad_4, n_lt_5, n_le_5, n_tl_5, n_el_5, n_eq_5, n_ad_5, n_lt_6, n_le_6, n_tl_6, n_el_6, n_eq_6, n_ad_6, n_lt_10, n_le_10, n_tl_10, n_el_10, n_eq_10, n_ad_10, n_lt_11, n_le_11, n_tl_11, n_el_11, n_eq_11, n_ad_11, n_lt_12, n_le_12, n_tl_12, n_el_12, n_eq_12, n_ad_12, n_lt_13, n_le_13, n_tl_13, n_el_13, n_eq_13, n_ad_13, n_lt_15, n_le_15, n_tl_15, n_el_15, n_eq_15, n_ad_15, n_lt_20, n_le_20, n_tl_20, n_el_20, n_eq_20, n_ad_20, n_lt_30, n_le_30, n_tl_30, n_el_30, n_eq_30, n_ad_30, n_lt_31, n_le_31, n_tl_31, n_el_31, n_eq_31, n_ad_31, n_lt_32, n_le_32, n_tl_32, n_el_32, n_eq_32, n_ad_32, n_lt_60, n_le_60, n_tl_60, n_el_60, n_eq_60, n_ad_60, n_lt_99, n_le_99, n_tl_99, n_el_99, n_eq_99, n_ad_99, n_lt_100, n_le_100, n_tl_100, n_el_100, n_eq_100, n_ad_100, n_lt_144, n_le_144, n_tl_144, n_el_144, n_eq_144, n_ad_144, n_lt_4096, n_le_4096, n_tl_4096, n_el_4096, n_eq_4096, n_ad_4096, n_mulK, nI_add, pk_mul, n_lt, n_le, n_eq, n_eqM, n_ix, n_cl, if_neg q1, q2, decide_true, if_true]
    exact z1
theorem c184_7 {d : Nat} {v : Int32} {σ : ir_S} : ∃ σ', ir_ev (d + 1) 184 [.ref 7, .int v] σ = some (none, σ') ∧ (∀ c, c ≠ 7 → σ' c = σ c) ∧ ∀ j, j < 144 → σ' 7 j = v := by
  obtain ⟨σ', z1, z2⟩ := c184_7_loop (E := ir_ev d) (v := v) 144 0 σ (by omega) (fun j hj => by omega)
  refine ⟨σ', ?_, z2⟩
  simp only [e184, s184_0, s184_1, s184_2, s184_3, s184_4, xA7, xL7, xa7, if_true]
  exact z1
theorem c184_8_loop {E : Nat → List Value → ir_S → Option ir_R} {v : Int32} : ∀ n i σ, i + n = 144 → (∀ j, j < i → σ 8 j = v) → ∃ σ', ir_run E 184 (5, [.ref 8, .int v, .int (nI i), .int (nI 144)], [], σ) = some (none, σ') ∧ (∀ c, c ≠ 8 → σ' c = σ c) ∧ ∀ j, j < 144 → σ' 8 j = v := by
  intro n
  induction n with
  | zero =>
    intro i σ hi hm
    have q : 144 ≤ i := by omega
    refine ⟨σ, ?_, fun _ _ => rfl, fun j hj => hm j (by omega)⟩
    rw [s184_5]
    simp (disch := omega) only [s184_6, s184_7, s184_20, n_lt_0, n_le_0, n_tl_0, n_el_0, n_eq_0, n_ad_0, n_lt_1, n_le_1, n_tl_1, n_el_1, n_eq_1, n_ad_1, n_lt_2, n_le_2, n_tl_2, n_el_2, n_eq_2, n_ad_2, n_lt_3, n_le_3, n_tl_3, n_el_3, n_eq_3, n_ad_3, n_lt_4, n_le_4, n_tl_4, n_el_4, n_eq_4, n_ad_4, n_lt_5, n_le_5, n_tl_5, n_el_5, n_eq_5, n_ad_5, n_lt_6, n_le_6, n_tl_6, n_el_6, n_eq_6, n_ad_6, n_lt_10, n_le_10, n_tl_10, n_el_10, n_eq_10, n_ad_10, n_lt_11, n_le_11, n_tl_11, n_el_11, n_eq_11, n_ad_11, n_lt_12, n_le_12, n_tl_12, n_el_12, n_eq_12, n_ad_12, n_lt_13, n_le_13, n_tl_13, n_el_13, n_eq_13, n_ad_13, n_lt_15, n_le_15, n_tl_15, n_el_15, n_eq_15, n_ad_15, n_lt_20, n_le_20, n_tl_20, n_el_20, n_eq_20, n_ad_20, n_lt_30, n_le_30, n_tl_30, n_el_30, n_eq_30, n_ad_30, n_lt_31, n_le_31, n_tl_31, n_el_31, n_eq_31, n_ad_31, n_lt_32, n_le_32, n_tl_32, n_el_32, n_eq_32, n_ad_32, n_lt_60, n_le_60, n_tl_60, n_el_60, n_eq_60, n_ad_60, n_lt_99, n_le_99, n_tl_99, n_el_99, n_eq_99, n_ad_99, n_lt_100, n_le_100, n_tl_100, n_el_100, n_eq_100, n_ad_100, n_lt_144, n_le_144, n_tl_144, n_el_144, n_eq_144, n_ad_144, n_lt_4096, n_le_4096, n_tl_4096, n_el_4096, n_eq_4096, n_ad_4096, n_mulK, nI_add, pk_mul, n_lt, n_le, n_eq, n_eqM, n_ix, n_cl, q, if_true]
  | succ n ih =>
    intro i σ hi hm
    have q1 : ¬ 144 ≤ i := by omega
    have q2 : i < 144 := by omega
    obtain ⟨σ', z1, z2, z3⟩ := ih (i + 1) (ir_up σ 8 i v) (by omega) (fun j hj => by
      rw [u_s]
      by_cases e : j = i
      · rw [e, upd_s]
      · rw [upd_n _ _ e]; exact hm j (by omega))
    refine ⟨σ', ?_, fun c hc => by rw [z2 c hc, u_n _ _ _ hc], z3⟩
    rw [s184_5]
    simp (disch := omega) only [s184_6, s184_7, s184_10, s184_11, s184_12, s184_13, s184_14, s184_17, xA8, xL8, xa8, n_lt_0, n_le_0, n_tl_0, n_el_0, n_eq_0, n_ad_0, n_lt_1, n_le_1, n_tl_1, n_el_1, n_eq_1, n_ad_1, n_lt_2, n_le_2, n_tl_2, n_el_2, n_eq_2, n_ad_2, n_lt_3, n_le_3, n_tl_3, n_el_3, n_eq_3, n_ad_3, n_lt_4, n_le_4, n_tl_4, n_el_4, n_eq_4, n_ad_4, n_lt_5, n_le_5, n_tl_5, n_el_5, n_eq_5, n_ad_5, n_lt_6, n_le_6, n_tl_6, n_el_6, n_eq_6, n_ad_6, n_lt_10, n_le_10, n_tl_10, n_el_10, n_eq_10, n_ad_10, n_lt_11, n_le_11, n_tl_11, n_el_11, n_eq_11, n_ad_11, n_lt_12, n_le_12, n_tl_12, n_el_12, n_eq_12, n_ad_12, n_lt_13, n_le_13, n_tl_13, n_el_13, n_eq_13, n_ad_13, n_lt_15, n_le_15, n_tl_15, n_el_15, n_eq_15, n_ad_15, n_lt_20, n_le_20, n_tl_20, n_el_20, n_eq_20, n_ad_20, n_lt_30, n_le_30, n_tl_30, n_el_30, n_eq_30, n_ad_30, n_lt_31, n_le_31, n_tl_31, n_el_31, n_eq_31, n_ad_31, n_lt_32, n_le_32, n_tl_32, n_el_32, n_eq_32, n_ad_32, n_lt_60, n_le_60, n_tl_60, n_el_60, n_eq_60, n_ad_60, n_lt_99, n_le_99, n_tl_99, n_el_99, n_eq_99, n_ad_99, n_lt_100, n_le_100, n_tl_100, n_el_100, n_eq_100, n_ad_100, n_lt_144, n_le_144, n_tl_144, n_el_144, n_eq_144, n_ad_144, n_lt_4096, n_le_4096, n_tl_4096, n_el_4096, n_eq_4096, n_ad_4096, n_mulK, nI_add, pk_mul, n_lt, n_le, n_eq, n_eqM, n_ix, n_cl, if_neg q1, q2, decide_true, if_true]
    exact z1
theorem c184_8 {d : Nat} {v : Int32} {σ : ir_S} : ∃ σ', ir_ev (d + 1) 184 [.ref 8, .int v] σ = some (none, σ') ∧ (∀ c, c ≠ 8 → σ' c = σ c) ∧ ∀ j, j < 144 → σ' 8 j = v := by
  obtain ⟨σ', z1, z2⟩ := c184_8_loop (E := ir_ev d) (v := v) 144 0 σ (by omega) (fun j hj => by omega)
  refine ⟨σ', ?_, z2⟩
  simp only [e184, s184_0, s184_1, s184_2, s184_3, s184_4, xA8, xL8, xa8, if_true]
  exact z1
theorem c184_9_loop {E : Nat → List Value → ir_S → Option ir_R} {v : Int32} : ∀ n i σ, i + n = 12 → (∀ j, j < i → σ 9 j = v) → ∃ σ', ir_run E 184 (5, [.ref 9, .int v, .int (nI i), .int (nI 12)], [], σ) = some (none, σ') ∧ (∀ c, c ≠ 9 → σ' c = σ c) ∧ ∀ j, j < 12 → σ' 9 j = v := by
  intro n
  induction n with
  | zero =>
    intro i σ hi hm
    have q : 12 ≤ i := by omega
    refine ⟨σ, ?_, fun _ _ => rfl, fun j hj => hm j (by omega)⟩
    rw [s184_5]
    simp (disch := omega) only [s184_6, s184_7, s184_20, n_lt_0, n_le_0, n_tl_0, n_el_0, n_eq_0, n_ad_0, n_lt_1, n_le_1, n_tl_1, n_el_1, n_eq_1, n_ad_1, n_lt_2, n_le_2, n_tl_2, n_el_2, n_eq_2, n_ad_2, n_lt_3, n_le_3, n_tl_3, n_el_3, n_eq_3, n_ad_3, n_lt_4, n_le_4, n_tl_4, n_el_4, n_eq_4, n_ad_4, n_lt_5, n_le_5, n_tl_5, n_el_5, n_eq_5, n_ad_5, n_lt_6, n_le_6, n_tl_6, n_el_6, n_eq_6, n_ad_6, n_lt_10, n_le_10, n_tl_10, n_el_10, n_eq_10, n_ad_10, n_lt_11, n_le_11, n_tl_11, n_el_11, n_eq_11, n_ad_11, n_lt_12, n_le_12, n_tl_12, n_el_12, n_eq_12, n_ad_12, n_lt_13, n_le_13, n_tl_13, n_el_13, n_eq_13, n_ad_13, n_lt_15, n_le_15, n_tl_15, n_el_15, n_eq_15, n_ad_15, n_lt_20, n_le_20, n_tl_20, n_el_20, n_eq_20, n_ad_20, n_lt_30, n_le_30, n_tl_30, n_el_30, n_eq_30, n_ad_30, n_lt_31, n_le_31, n_tl_31, n_el_31, n_eq_31, n_ad_31, n_lt_32, n_le_32, n_tl_32, n_el_32, n_eq_32, n_ad_32, n_lt_60, n_le_60, n_tl_60, n_el_60, n_eq_60, n_ad_60, n_lt_99, n_le_99, n_tl_99, n_el_99, n_eq_99, n_ad_99, n_lt_100, n_le_100, n_tl_100, n_el_100, n_eq_100, n_ad_100, n_lt_144, n_le_144, n_tl_144, n_el_144, n_eq_144, n_ad_144, n_lt_4096, n_le_4096, n_tl_4096, n_el_4096, n_eq_4096, n_ad_4096, n_mulK, nI_add, pk_mul, n_lt, n_le, n_eq, n_eqM, n_ix, n_cl, q, if_true]
  | succ n ih =>
    intro i σ hi hm
    have q1 : ¬ 12 ≤ i := by omega
    have q2 : i < 12 := by omega
    obtain ⟨σ', z1, z2, z3⟩ := ih (i + 1) (ir_up σ 9 i v) (by omega) (fun j hj => by
      rw [u_s]
      by_cases e : j = i
      · rw [e, upd_s]
      · rw [upd_n _ _ e]; exact hm j (by omega))
    refine ⟨σ', ?_, fun c hc => by rw [z2 c hc, u_n _ _ _ hc], z3⟩
    rw [s184_5]
    simp (disch := omega) only [s184_6, s184_7, s184_10, s184_11, s184_12, s184_13, s184_14, s184_17, xA9, xL9, xa9, n_lt_0, n_le_0, n_tl_0, n_el_0, n_eq_0, n_ad_0, n_lt_1, n_le_1, n_tl_1, n_el_1, n_eq_1, n_ad_1, n_lt_2, n_le_2, n_tl_2, n_el_2, n_eq_2, n_ad_2, n_lt_3, n_le_3, n_tl_3, n_el_3, n_eq_3, n_ad_3, n_lt_4, n_le_4, n_tl_4, n_el_4, n_eq_4, n_ad_4, n_lt_5, n_le_5, n_tl_5, n_el_5, n_eq_5, n_ad_5, n_lt_6, n_le_6, n_tl_6, n_el_6, n_eq_6, n_ad_6, n_lt_10, n_le_10, n_tl_10, n_el_10, n_eq_10, n_ad_10, n_lt_11, n_le_11, n_tl_11, n_el_11, n_eq_11, n_ad_11, n_lt_12, n_le_12, n_tl_12, n_el_12, n_eq_12, n_ad_12, n_lt_13, n_le_13, n_tl_13, n_el_13, n_eq_13, n_ad_13, n_lt_15, n_le_15, n_tl_15, n_el_15, n_eq_15, n_ad_15, n_lt_20, n_le_20, n_tl_20, n_el_20, n_eq_20, n_ad_20, n_lt_30, n_le_30, n_tl_30, n_el_30, n_eq_30, n_ad_30, n_lt_31, n_le_31, n_tl_31, n_el_31, n_eq_31, n_ad_31, n_lt_32, n_le_32, n_tl_32, n_el_32, n_eq_32, n_ad_32, n_lt_60, n_le_60, n_tl_60, n_el_60, n_eq_60, n_ad_60, n_lt_99, n_le_99, n_tl_99, n_el_99, n_eq_99, n_ad_99, n_lt_100, n_le_100, n_tl_100, n_el_100, n_eq_100, n_ad_100, n_lt_144, n_le_144, n_tl_144, n_el_144, n_eq_144, n_ad_144, n_lt_4096, n_le_4096, n_tl_4096, n_el_4096, n_eq_4096, n_ad_4096, n_mulK, nI_add, pk_mul, n_lt, n_le, n_eq, n_eqM, n_ix, n_cl, if_neg q1, q2, decide_true, if_true]
    exact z1
theorem c184_9 {d : Nat} {v : Int32} {σ : ir_S} : ∃ σ', ir_ev (d + 1) 184 [.ref 9, .int v] σ = some (none, σ') ∧ (∀ c, c ≠ 9 → σ' c = σ c) ∧ ∀ j, j < 12 → σ' 9 j = v := by
  obtain ⟨σ', z1, z2⟩ := c184_9_loop (E := ir_ev d) (v := v) 12 0 σ (by omega) (fun j hj => by omega)
  refine ⟨σ', ?_, z2⟩
  simp only [e184, s184_0, s184_1, s184_2, s184_3, s184_4, xA9, xL9, xa9, if_true]
  exact z1
theorem c184_10_loop {E : Nat → List Value → ir_S → Option ir_R} {v : Int32} : ∀ n i σ, i + n = 6 → (∀ j, j < i → σ 10 j = v) → ∃ σ', ir_run E 184 (5, [.ref 10, .int v, .int (nI i), .int (nI 6)], [], σ) = some (none, σ') ∧ (∀ c, c ≠ 10 → σ' c = σ c) ∧ ∀ j, j < 6 → σ' 10 j = v := by
  intro n
  induction n with
  | zero =>
    intro i σ hi hm
    have q : 6 ≤ i := by omega
    refine ⟨σ, ?_, fun _ _ => rfl, fun j hj => hm j (by omega)⟩
    rw [s184_5]
    simp (disch := omega) only [s184_6, s184_7, s184_20, n_lt_0, n_le_0, n_tl_0, n_el_0, n_eq_0, n_ad_0, n_lt_1, n_le_1, n_tl_1, n_el_1, n_eq_1, n_ad_1, n_lt_2, n_le_2, n_tl_2, n_el_2, n_eq_2, n_ad_2, n_lt_3, n_le_3, n_tl_3, n_el_3, n_eq_3, n_ad_3, n_lt_4, n_le_4, n_tl_4, n_el_4, n_eq_4, n_ad_4, n_lt_5, n_le_5, n_tl_5, n_el_5, n_eq_5, n_ad_5, n_lt_6, n_le_6, n_tl_6, n_el_6, n_eq_6, n_ad_6, n_lt_10, n_le_10, n_tl_10, n_el_10, n_eq_10, n_ad_10, n_lt_11, n_le_11, n_tl_11, n_el_11, n_eq_11, n_ad_11, n_lt_12, n_le_12, n_tl_12, n_el_12, n_eq_12, n_ad_12, n_lt_13, n_le_13, n_tl_13, n_el_13, n_eq_13, n_ad_13, n_lt_15, n_le_15, n_tl_15, n_el_15, n_eq_15, n_ad_15, n_lt_20, n_le_20, n_tl_20, n_el_20, n_eq_20, n_ad_20, n_lt_30, n_le_30, n_tl_30, n_el_30, n_eq_30, n_ad_30, n_lt_31, n_le_31, n_tl_31, n_el_31, n_eq_31, n_ad_31, n_lt_32, n_le_32, n_tl_32, n_el_32, n_eq_32, n_ad_32, n_lt_60, n_le_60, n_tl_60, n_el_60, n_eq_60, n_ad_60, n_lt_99, n_le_99, n_tl_99, n_el_99, n_eq_99, n_ad_99, n_lt_100, n_le_100, n_tl_100, n_el_100, n_eq_100, n_ad_100, n_lt_144, n_le_144, n_tl_144, n_el_144, n_eq_144, n_ad_144, n_lt_4096, n_le_4096, n_tl_4096, n_el_4096, n_eq_4096, n_ad_4096, n_mulK, nI_add, pk_mul, n_lt, n_le, n_eq, n_eqM, n_ix, n_cl, q, if_true]
  | succ n ih =>
    intro i σ hi hm
    have q1 : ¬ 6 ≤ i := by omega
    have q2 : i < 6 := by omega
    obtain ⟨σ', z1, z2, z3⟩ := ih (i + 1) (ir_up σ 10 i v) (by omega) (fun j hj => by
      rw [u_s]
      by_cases e : j = i
      · rw [e, upd_s]
      · rw [upd_n _ _ e]; exact hm j (by omega))
    refine ⟨σ', ?_, fun c hc => by rw [z2 c hc, u_n _ _ _ hc], z3⟩
    rw [s184_5]
    simp (disch := omega) only [s184_6, s184_7, s184_10, s184_11, s184_12, s184_13, s184_14, s184_17, xA10, xL10, xa10, n_lt_0, n_le_0, n_tl_0, n_el_0, n_eq_0, n_ad_0, n_lt_1, n_le_1, n_tl_1, n_el_1, n_eq_1, n_ad_1, n_lt_2, n_le_2, n_tl_2, n_el_2, n_eq_2, n_ad_2, n_lt_3, n_le_3, n_tl_3, n_el_3, n_eq_3, n_ad_3, n_lt_4, n_le_4, n_tl_4, n_el_4, n_eq_4, n_ad_4, n_lt_5, n_le_5, n_tl_5, n_el_5, n_eq_5, n_ad_5, n_lt_6, n_le_6, n_tl_6, n_el_6, n_eq_6, n_ad_6, n_lt_10, n_le_10, n_tl_10, n_el_10, n_eq_10, n_ad_10, n_lt_11, n_le_11, n_tl_11, n_el_11, n_eq_11, n_ad_11, n_lt_12, n_le_12, n_tl_12, n_el_12, n_eq_12, n_ad_12, n_lt_13, n_le_13, n_tl_13, n_el_13, n_eq_13, n_ad_13, n_lt_15, n_le_15, n_tl_15, n_el_15, n_eq_15, n_ad_15, n_lt_20, n_le_20, n_tl_20, n_el_20, n_eq_20, n_ad_20, n_lt_30, n_le_30, n_tl_30, n_el_30, n_eq_30, n_ad_30, n_lt_31, n_le_31, n_tl_31, n_el_31, n_eq_31, n_ad_31, n_lt_32, n_le_32, n_tl_32, n_el_32, n_eq_32, n_ad_32, n_lt_60, n_le_60, n_tl_60, n_el_60, n_eq_60, n_ad_60, n_lt_99, n_le_99, n_tl_99, n_el_99, n_eq_99, n_ad_99, n_lt_100, n_le_100, n_tl_100, n_el_100, n_eq_100, n_ad_100, n_lt_144, n_le_144, n_tl_144, n_el_144, n_eq_144, n_ad_144, n_lt_4096, n_le_4096, n_tl_4096, n_el_4096, n_eq_4096, n_ad_4096, n_mulK, nI_add, pk_mul, n_lt, n_le, n_eq, n_eqM, n_ix, n_cl, if_neg q1, q2, decide_true, if_true]
    exact z1
theorem c184_10 {d : Nat} {v : Int32} {σ : ir_S} : ∃ σ', ir_ev (d + 1) 184 [.ref 10, .int v] σ = some (none, σ') ∧ (∀ c, c ≠ 10 → σ' c = σ c) ∧ ∀ j, j < 6 → σ' 10 j = v := by
  obtain ⟨σ', z1, z2⟩ := c184_10_loop (E := ir_ev d) (v := v) 6 0 σ (by omega) (fun j hj => by omega)
  refine ⟨σ', ?_, z2⟩
  simp only [e184, s184_0, s184_1, s184_2, s184_3, s184_4, xA10, xL10, xa10, if_true]
  exact z1
theorem c20 {d : Nat} {σ : ir_S} : ∃ σ', ir_ev (d + 2) 20 [.ref 1] σ = some (none, σ') ∧ (∀ c, c ≠ 1 → c ≠ 3 → c ≠ 4 → c ≠ 5 → σ' c = σ c) ∧ σ' 1 4 = 0 ∧ σ' 1 5 = 0 ∧ σ' 1 6 = 0 ∧ (∀ j, j < 12 → σ' 3 j = 0) ∧ (∀ j, j < 144 → σ' 4 j = -1) ∧ ∀ j, j < 144 → σ' 5 j = -1 := by
  obtain ⟨σ1, a1, a2, a3⟩ := c184_3 (d := d) (v := 0) (σ := ir_up (ir_up (ir_up σ 1 4 0) 1 5 0) 1 6 0)
  obtain ⟨σ2, b1, b2, b3⟩ := c184_4 (d := d) (v := -1) (σ := σ1)
  obtain ⟨σ3, c1, c2, c3⟩ := c184_5 (d := d) (v := -1) (σ := σ2)
  have e1 : σ3 1 = (ir_up (ir_up (ir_up σ 1 4 0) 1 5 0) 1 6 0) 1 := by rw [c2 1 (by decide), b2 1 (by decide), a2 1 (by decide)]
  refine ⟨σ3, ?_, fun c q1 q3 q4 q5 => by rw [c2 c q5, b2 c q4, a2 c q3, u_n _ _ _ q1, u_n _ _ _ q1, u_n _ _ _ q1], ?_, ?_, ?_, fun j hj => by rw [c2 3 (by decide), b2 3 (by decide)]; exact a3 j hj, fun j hj => by rw [c2 4 (by decide)]; exact b3 j hj, c3⟩
  · simp only [e20, s20_0, s20_1, s20_2, s20_5, s20_6, s20_7, s20_10, s20_11, s20_12, s20_15, s20_16, s20_19, s20_20, s20_23, s20_24, s20_27, s20_28, s20_31, s20_32, s20_35, s20_36, s20_39, a1, b1, c1, ir_k_v, ir_tl_v]
  · rw [e1]; simp (disch := omega) only [u_s, upd_s, upd_n]
  · rw [e1]; simp (disch := omega) only [u_s, upd_s, upd_n]
  · rw [e1]; simp (disch := omega) only [u_s, upd_s, upd_n]
theorem c42_6 {d : Nat} {σ : ir_S} : ∃ σ', ir_ev (d + 2) 42 [.ref 6] σ = some (none, σ') ∧ (∀ c, c < 6 ∨ 10 < c → σ' c = σ c) ∧ σ' 6 4 = -1 ∧ σ' 6 5 = 0 ∧ σ' 6 6 = 0 ∧ (∀ j, j < 144 → σ' 7 j = -1) ∧ (∀ j, j < 144 → σ' 8 j = 0) ∧ (∀ j, j < 12 → σ' 9 j = 15) ∧ ∀ j, j < 6 → σ' 10 j = -1 := by
  obtain ⟨σ1, a1, a2, a3⟩ := c184_7 (d := d) (v := -1) (σ := σ)
  obtain ⟨σ2, b1, b2, b3⟩ := c184_8 (d := d) (v := 0) (σ := σ1)
  obtain ⟨σ3, c1, c2, c3⟩ := c184_9 (d := d) (v := 15) (σ := σ2)
  obtain ⟨σ4, e1, e2, e3⟩ := c184_10 (d := d) (v := -1) (σ := σ3)
  refine ⟨ir_up (ir_up (ir_up σ4 6 4 (-1)) 6 5 0) 6 6 0, ?_, fun c q => ?_, ?_, ?_, ?_, fun j hj => ?_, fun j hj => ?_, fun j hj => ?_, fun j hj => ?_⟩
  · simp only [e42, s42_0, s42_1_6, s42_1_11, s42_4, s42_5, s42_8, s42_9_6, s42_9_11, s42_12, s42_13, s42_16, s42_17_6, s42_17_11, s42_20, s42_22, s42_25, s42_26_6, s42_26_11, s42_29, s42_30, s42_33, s42_34, s42_35_6, s42_35_11, s42_38, s42_39, s42_40_6, s42_40_11, s42_43, s42_44, s42_45_6, s42_45_11, s42_48, a1, b1, c1, e1, ir_k_v, ir_tl_v]
  · rw [u_n _ _ _ (by omega), u_n _ _ _ (by omega), u_n _ _ _ (by omega), e2 c (by omega), c2 c (by omega), b2 c (by omega), a2 c (by omega)]
  · simp (disch := omega) only [u_s, upd_s, upd_n]
  · simp (disch := omega) only [u_s, upd_s, upd_n]
  · simp (disch := omega) only [u_s, upd_s, upd_n]
  · simp (disch := omega) only [u_n]
    rw [e2 7 (by decide), c2 7 (by decide), b2 7 (by decide)]; exact a3 j hj
  · simp (disch := omega) only [u_n]
    rw [e2 8 (by decide), c2 8 (by decide)]; exact b3 j hj
  · simp (disch := omega) only [u_n]
    rw [e2 9 (by decide)]; exact c3 j hj
  · simp (disch := omega) only [u_n]
    exact e3 j hj
section EM
variable {E : Nat → List Value → ir_S → Option ir_R}
theorem m121_a : ∀ n i σ, i + n = 144 → (∀ j, j < i → σ 37 j = -1 ∧ σ 38 j = 0) → ∃ σ', ir_run E 121 (42, [.ref 33, .int (nI i)], [], σ) = ir_run E 121 (69, [.ref 33, .int (nI 144)], [], σ') ∧ (∀ c, c ≠ 37 → c ≠ 38 → σ' c = σ c) ∧ ∀ j, j < 144 → σ' 37 j = -1 ∧ σ' 38 j = 0 := by
  intro n
  induction n with
  | zero =>
    intro i σ hi hm
    have hi : i = 144 := by omega
    subst hi
    refine ⟨σ, ?_, fun _ _ _ => rfl, hm⟩
    rw [s121_42]
    simp (disch := omega) only [s121_43, s121_46, n_lt_0, n_le_0, n_tl_0, n_el_0, n_eq_0, n_ad_0, n_lt_1, n_le_1, n_tl_1, n_el_1, n_eq_1, n_ad_1, n_lt_2, n_le_2, n_tl_2, n_el_2, n_eq_2, n_ad_2, n_lt_3, n_le_3, n_tl_3, n_el_3, n_eq_3, n_ad_3, n_lt_4, n_le_4, n_tl_4, n_el_4, n_eq_4, n_ad_4, n_lt_5, n_le_5, n_tl_5, n_el_5, n_eq_5, n_ad_5, n_lt_6, n_le_6, n_tl_6, n_el_6, n_eq_6, n_ad_6, n_lt_10, n_le_10, n_tl_10, n_el_10, n_eq_10, n_ad_10, n_lt_11, n_le_11, n_tl_11, n_el_11, n_eq_11, n_ad_11, n_lt_12, n_le_12, n_tl_12, n_el_12, n_eq_12, n_ad_12, n_lt_13, n_le_13, n_tl_13, n_el_13, n_eq_13, n_ad_13, n_lt_15, n_le_15, n_tl_15, n_el_15, n_eq_15, n_ad_15, n_lt_20, n_le_20, n_tl_20, n_el_20, n_eq_20, n_ad_20, n_lt_30, n_le_30, n_tl_30, n_el_30, n_eq_30, n_ad_30, n_lt_31, n_le_31, n_tl_31, n_el_31, n_eq_31, n_ad_31, n_lt_32, n_le_32, n_tl_32, n_el_32, n_eq_32, n_ad_32, n_lt_60, n_le_60, n_tl_60, n_el_60, n_eq_60, n_ad_60, n_lt_99, n_le_99, n_tl_99, n_el_99, n_eq_99, n_ad_99, n_lt_100, n_le_100, n_tl_100, n_el_100, n_eq_100, n_ad_100, n_lt_144, n_le_144, n_tl_144, n_el_144, n_eq_144, n_ad_144, n_lt_4096, n_le_4096, n_tl_4096, n_el_4096, n_eq_4096, n_ad_4096, n_mulK, nI_add, pk_mul, n_lt, n_le, n_eq, n_eqM, n_ix, n_cl, Nat.le_refl, if_true]
  | succ n ih =>
    intro i σ hi hm
    have q1 : ¬ 144 ≤ i := by omega
    have q2 : i < 144 := by omega
    obtain ⟨σ', z1, z2, z3⟩ := ih (i + 1) (ir_up (ir_up σ 37 i (-1)) 38 i 0) (by omega) (fun j hj => by
      rw [u_n _ _ _ (by decide), u_s, u_s, u_n _ _ _ (by decide)]
      by_cases e : j = i
      · rw [e, upd_s, upd_s]; exact ⟨rfl, rfl⟩
      · rw [upd_n _ _ e, upd_n _ _ e]; exact hm j (by omega))
    refine ⟨σ', ?_, fun c h1 h2 => by rw [z2 c h1 h2, u_n _ _ _ h2, u_n _ _ _ h1], z3⟩
    rw [s121_42]
    simp (disch := omega) only [s121_43, s121_46, s121_49, s121_50, s121_53, s121_54, s121_55, s121_56, s121_57, s121_60, s121_61, s121_62, s121_63, s121_66, xA37, xL37, xa37, xA38, xL38, xa38, n_lt_0, n_le_0, n_tl_0, n_el_0, n_eq_0, n_ad_0, n_lt_1, n_le_1, n_tl_1, n_el_1, n_eq_1, n_ad_1, n_lt_2, n_le_2, n_tl_2, n_el_2, n_eq_2, n_ad_2, n_lt_3, n_le_3, n_tl_3, n_el_3, n_eq_3, n_ad_3, n_lt_4, n_le_4, n_tl_4, n_el_4, n_eq_4, n_ad_4, n_lt_5, n_le_5, n_tl_5, n_el_5, n_eq_5, n_ad_5, n_lt_6, n_le_6, n_tl_6, n_el_6, n_eq_6, n_ad_6, n_lt_10, n_le_10, n_tl_10, n_el_10, n_eq_10, n_ad_10, n_lt_11, n_le_11, n_tl_11, n_el_11, n_eq_11, n_ad_11, n_lt_12, n_le_12, n_tl_12, n_el_12, n_eq_12, n_ad_12, n_lt_13, n_le_13, n_tl_13, n_el_13, n_eq_13, n_ad_13, n_lt_15, n_le_15, n_tl_15, n_el_15, n_eq_15, n_ad_15, n_lt_20, n_le_20, n_tl_20, n_el_20, n_eq_20, n_ad_20, n_lt_30, n_le_30, n_tl_30, n_el_30, n_eq_30, n_ad_30, n_lt_31, n_le_31, n_tl_31, n_el_31, n_eq_31, n_ad_31, n_lt_32, n_le_32, n_tl_32, n_el_32, n_eq_32, n_ad_32, n_lt_60, n_le_60, n_tl_60, n_el_60, n_eq_60, n_ad_60, n_lt_99, n_le_99, n_tl_99, n_el_99, n_eq_99, n_ad_99, n_lt_100, n_le_100, n_tl_100, n_el_100, n_eq_100, n_ad_100, n_lt_144, n_le_144, n_tl_144, n_el_144, n_eq_144, n_ad_144, n_lt_4096, n_le_4096, n_tl_4096, n_el_4096, n_eq_4096, n_ad_4096, n_mulK, nI_add, pk_mul, n_lt, n_le, n_eq, n_eqM, n_ix, n_cl, if_neg q1, q2, decide_true, if_true]
    exact z1
theorem m121_b : ∀ n i σ, i + n = 12 → (∀ j, j < i → σ 39 j = 15) → ∃ σ', ir_run E 121 (71, [.ref 33, .int (nI i)], [], σ) = ir_run E 121 (91, [.ref 33, .int (nI 12)], [], σ') ∧ (∀ c, c ≠ 39 → σ' c = σ c) ∧ ∀ j, j < 12 → σ' 39 j = 15 := by
  intro n
  induction n with
  | zero =>
    intro i σ hi hm
    have hi : i = 12 := by omega
    subst hi
    refine ⟨σ, ?_, fun _ _ => rfl, hm⟩
    rw [s121_71]
    simp (disch := omega) only [s121_72, s121_74, n_lt_0, n_le_0, n_tl_0, n_el_0, n_eq_0, n_ad_0, n_lt_1, n_le_1, n_tl_1, n_el_1, n_eq_1, n_ad_1, n_lt_2, n_le_2, n_tl_2, n_el_2, n_eq_2, n_ad_2, n_lt_3, n_le_3, n_tl_3, n_el_3, n_eq_3, n_ad_3, n_lt_4, n_le_4, n_tl_4, n_el_4, n_eq_4, n_ad_4, n_lt_5, n_le_5, n_tl_5, n_el_5, n_eq_5, n_ad_5, n_lt_6, n_le_6, n_tl_6, n_el_6, n_eq_6, n_ad_6, n_lt_10, n_le_10, n_tl_10, n_el_10, n_eq_10, n_ad_10, n_lt_11, n_le_11, n_tl_11, n_el_11, n_eq_11, n_ad_11, n_lt_12, n_le_12, n_tl_12, n_el_12, n_eq_12, n_ad_12, n_lt_13, n_le_13, n_tl_13, n_el_13, n_eq_13, n_ad_13, n_lt_15, n_le_15, n_tl_15, n_el_15, n_eq_15, n_ad_15, n_lt_20, n_le_20, n_tl_20, n_el_20, n_eq_20, n_ad_20, n_lt_30, n_le_30, n_tl_30, n_el_30, n_eq_30, n_ad_30, n_lt_31, n_le_31, n_tl_31, n_el_31, n_eq_31, n_ad_31, n_lt_32, n_le_32, n_tl_32, n_el_32, n_eq_32, n_ad_32, n_lt_60, n_le_60, n_tl_60, n_el_60, n_eq_60, n_ad_60, n_lt_99, n_le_99, n_tl_99, n_el_99, n_eq_99, n_ad_99, n_lt_100, n_le_100, n_tl_100, n_el_100, n_eq_100, n_ad_100, n_lt_144, n_le_144, n_tl_144, n_el_144, n_eq_144, n_ad_144, n_lt_4096, n_le_4096, n_tl_4096, n_el_4096, n_eq_4096, n_ad_4096, n_mulK, nI_add, pk_mul, n_lt, n_le, n_eq, n_eqM, n_ix, n_cl, Nat.le_refl, if_true]
  | succ n ih =>
    intro i σ hi hm
    have q1 : ¬ 12 ≤ i := by omega
    have q2 : i < 12 := by omega
    obtain ⟨σ', z1, z2, z3⟩ := ih (i + 1) (ir_up σ 39 i 15) (by omega) (fun j hj => by
      rw [u_s]
      by_cases e : j = i
      · rw [e, upd_s]
      · rw [upd_n _ _ e]; exact hm j (by omega))
    refine ⟨σ', ?_, fun c h1 => by rw [z2 c h1, u_n _ _ _ h1], z3⟩
    rw [s121_71]
    simp (disch := omega) only [s121_72, s121_74, s121_77, s121_78, s121_81, s121_82, s121_84, s121_85, s121_88, xA39, xL39, xa39, n_lt_0, n_le_0, n_tl_0, n_el_0, n_eq_0, n_ad_0, n_lt_1, n_le_1, n_tl_1, n_el_1, n_eq_1, n_ad_1, n_lt_2, n_le_2, n_tl_2, n_el_2, n_eq_2, n_ad_2, n_lt_3, n_le_3, n_tl_3, n_el_3, n_eq_3, n_ad_3, n_lt_4, n_le_4, n_tl_4, n_el_4, n_eq_4, n_ad_4, n_lt_5, n_le_5, n_tl_5, n_el_5, n_eq_5, n_ad_5, n_lt_6, n_le_6, n_tl_6, n_el_6, n_eq_6, n_ad_6, n_lt_10, n_le_10, n_tl_10, n_el_10, n_eq_10, n_ad_10, n_lt_11, n_le_11, n_tl_11, n_el_11, n_eq_11, n_ad_11, n_lt_12, n_le_12, n_tl_12, n_el_12, n_eq_12, n_ad_12, n_lt_13, n_le_13, n_tl_13, n_el_13, n_eq_13, n_ad_13, n_lt_15, n_le_15, n_tl_15, n_el_15, n_eq_15, n_ad_15, n_lt_20, n_le_20, n_tl_20, n_el_20, n_eq_20, n_ad_20, n_lt_30, n_le_30, n_tl_30, n_el_30, n_eq_30, n_ad_30, n_lt_31, n_le_31, n_tl_31, n_el_31, n_eq_31, n_ad_31, n_lt_32, n_le_32, n_tl_32, n_el_32, n_eq_32, n_ad_32, n_lt_60, n_le_60, n_tl_60, n_el_60, n_eq_60, n_ad_60, n_lt_99, n_le_99, n_tl_99, n_el_99, n_eq_99, n_ad_99, n_lt_100, n_le_100, n_tl_100, n_el_100, n_eq_100, n_ad_100, n_lt_144, n_le_144, n_tl_144, n_el_144, n_eq_144, n_ad_144, n_lt_4096, n_le_4096, n_tl_4096, n_el_4096, n_eq_4096, n_ad_4096, n_mulK, nI_add, pk_mul, n_lt, n_le, n_eq, n_eqM, n_ix, n_cl, if_neg q1, q2, decide_true, if_true]
    exact z1
theorem m121_c : ∀ n i σ, i + n = 6 → (∀ j, j < i → σ 40 j = -1) → ∃ σ', ir_run E 121 (93, [.ref 33, .int (nI i)], [], σ) = some (none, σ') ∧ (∀ c, c ≠ 40 → σ' c = σ c) ∧ ∀ j, j < 6 → σ' 40 j = -1 := by
  intro n
  induction n with
  | zero =>
    intro i σ hi hm
    have hi : i = 6 := by omega
    subst hi
    refine ⟨σ, ?_, fun _ _ => rfl, hm⟩
    rw [s121_93]
    simp (disch := omega) only [s121_94, s121_96, s121_112, n_lt_0, n_le_0, n_tl_0, n_el_0, n_eq_0, n_ad_0, n_lt_1, n_le_1, n_tl_1, n_el_1, n_eq_1, n_ad_1, n_lt_2, n_le_2, n_tl_2, n_el_2, n_eq_2, n_ad_2, n_lt_3, n_le_3, n_tl_3, n_el_3, n_eq_3, n_ad_3, n_lt_4, n_le_4, n_tl_4, n_el_4, n_eq_4, n_ad_4, n_lt_5, n_le_5, n_tl_5, n_el_5, n_eq_5, n_ad_5, n_lt_6, n_le_6, n_tl_6, n_el_6, n_eq_6, n_ad_6, n_lt_10, n_le_10, n_tl_10, n_el_10, n_eq_10, n_ad_10, n_lt_11, n_le_11, n_tl_11, n_el_11, n_eq_11, n_ad_11, n_lt_12, n_le_12, n_tl_12, n_el_12, n_eq_12, n_ad_12, n_lt_13, n_le_13, n_tl_13, n_el_13, n_eq_13, n_ad_13, n_lt_15, n_le_15, n_tl_15, n_el_15, n_eq_15, n_ad_15, n_lt_20, n_le_20, n_tl_20, n_el_20, n_eq_20, n_ad_20, n_lt_30, n_le_30, n_tl_30, n_el_30, n_eq_30, n_ad_30, n_lt_31, n_le_31, n_tl_31, n_el_31, n_eq_31, n_ad_31, n_lt_32, n_le_32, n_tl_32, n_el_32, n_eq_32, n_ad_32, n_lt_60, n_le_60, n_tl_60, n_el_60, n_eq_60, n_ad_60, n_lt_99, n_le_99, n_tl_99, n_el_99, n_eq_99, n_ad_99, n_lt_100, n_le_100, n_tl_100, n_el_100, n_eq_100, n_ad_100, n_lt_144, n_le_144, n_tl_144, n_el_144, n_eq_144, n_ad_144, n_lt_4096, n_le_4096, n_tl_4096, n_el_4096, n_eq_4096, n_ad_4096, n_mulK, nI_add, pk_mul, n_lt, n_le, n_eq, n_eqM, n_ix, n_cl, Nat.le_refl, if_true]
  | succ n ih =>
    intro i σ hi hm
    have q1 : ¬ 6 ≤ i := by omega
    have q2 : i < 6 := by omega
    obtain ⟨σ', z1, z2, z3⟩ := ih (i + 1) (ir_up σ 40 i (-1)) (by omega) (fun j hj => by
      rw [u_s]
      by_cases e : j = i
      · rw [e, upd_s]
      · rw [upd_n _ _ e]; exact hm j (by omega))
    refine ⟨σ', ?_, fun c h1 => by rw [z2 c h1, u_n _ _ _ h1], z3⟩
    rw [s121_93]
    simp (disch := omega) only [s121_94, s121_96, s121_99, s121_100, s121_103, s121_104, s121_105, s121_106, s121_109, xA40, xL40, xa40, n_lt_0, n_le_0, n_tl_0, n_el_0, n_eq_0, n_ad_0, n_lt_1, n_le_1, n_tl_1, n_el_1, n_eq_1, n_ad_1, n_lt_2, n_le_2, n_tl_2, n_el_2, n_eq_2, n_ad_2, n_lt_3, n_le_3, n_tl_3, n_el_3, n_eq_3, n_ad_3, n_lt_4, n_le_4, n_tl_4, n_el_4, n_eq_4, n_ad_4, n_lt_5, n_le_5, n_tl_5, n_el_5, n_eq_5, n_ad_5, n_lt_6, n_le_6, n_tl_6, n_el_6, n_eq_6, n_ad_6, n_lt_10, n_le_10, n_tl_10, n_el_10, n_eq_10, n_ad_10, n_lt_11, n_le_11, n_tl_11, n_el_11, n_eq_11, n_ad_11, n_lt_12, n_le_12, n_tl_12, n_el_12, n_eq_12, n_ad_12, n_lt_13, n_le_13, n_tl_13, n_el_13, n_eq_13, n_ad_13, n_lt_15, n_le_15, n_tl_15, n_el_15, n_eq_15, n_ad_15, n_lt_20, n_le_20, n_tl_20, n_el_20, n_eq_20, n_ad_20, n_lt_30, n_le_30, n_tl_30, n_el_30, n_eq_30, n_ad_30, n_lt_31, n_le_31, n_tl_31, n_el_31, n_eq_31, n_ad_31, n_lt_32, n_le_32, n_tl_32, n_el_32, n_eq_32, n_ad_32, n_lt_60, n_le_60, n_tl_60, n_el_60, n_eq_60, n_ad_60, n_lt_99, n_le_99, n_tl_99, n_el_99, n_eq_99, n_ad_99, n_lt_100, n_le_100, n_tl_100, n_el_100, n_eq_100, n_ad_100, n_lt_144, n_le_144, n_tl_144, n_el_144, n_eq_144, n_ad_144, n_lt_4096, n_le_4096, n_tl_4096, n_el_4096, n_eq_4096, n_ad_4096, n_mulK, nI_add, pk_mul, n_lt, n_le, n_eq, n_eqM, n_ix, n_cl, if_neg q1, q2, decide_true, if_true]
    exact z1
end EM
theorem m121 {d : Nat} {σ : ir_S} : ∃ σ', ir_ev (d + 1) 121 [.ref 33] σ = some (none, σ') ∧ (∀ c, c ≠ 33 → c ≠ 37 → c ≠ 38 → c ≠ 39 → c ≠ 40 → σ' c = σ c) ∧ σ' 33 1 = 0 ∧ σ' 33 3 = 0 ∧ σ' 33 12 = 0 ∧ σ' 33 17 = 0 ∧ σ' 33 26 = 0 ∧ σ' 33 22 = 0 ∧ σ' 33 34 = -1 ∧ σ' 33 10 = -1 ∧ (∀ j, j < 144 → σ' 37 j = -1) ∧ (∀ j, j < 144 → σ' 38 j = 0) ∧ (∀ j, j < 12 → σ' 39 j = 15) ∧ ∀ j, j < 6 → σ' 40 j = -1 := by
  obtain ⟨σ1, a1, a2, a3⟩ := m121_a (E := ir_ev d) 144 0 (ir_up (ir_up (ir_up (ir_up (ir_up (ir_up (ir_up (ir_up σ 33 1 0) 33 3 0) 33 12 0) 33 17 0) 33 26 0) 33 22 0) 33 34 (-1)) 33 10 (-1)) (by omega) (fun j hj => by omega)
  obtain ⟨σ2, b1, b2, b3⟩ := m121_b (E := ir_ev d) 12 0 σ1 (by omega) (fun j hj => by omega)
  obtain ⟨σ3, c1, c2, c3⟩ := m121_c (E := ir_ev d) 6 0 σ2 (by omega) (fun j hj => by omega)
  have e33 : σ3 33 = (ir_up (ir_up (ir_up (ir_up (ir_up (ir_up (ir_up (ir_up σ 33 1 0) 33 3 0) 33 12 0) 33 17 0) 33 26 0) 33 22 0) 33 34 (-1)) 33 10 (-1)) 33 := by rw [c2 33 (by decide), b2 33 (by decide), a2 33 (by decide) (by decide)]
  refine ⟨σ3, ?_, fun c q1 q2 q3 q4 q5 => by rw [c2 c q5, b2 c q4, a2 c q2 q3, u_n _ _ _ q1, u_n _ _ _ q1, u_n _ _ _ q1, u_n _ _ _ q1, u_n _ _ _ q1, u_n _ _ _ q1, u_n _ _ _ q1, u_n _ _ _ q1], ?_, ?_, ?_, ?_, ?_, ?_, ?_, ?_, fun j hj => by rw [c2 37 (by decide), b2 37 (by decide)]; exact (a3 j hj).1, fun j hj => by rw [c2 38 (by decide), b2 38 (by decide)]; exact (a3 j hj).2, fun j hj => by rw [c2 39 (by decide)]; exact b3 j hj, c3⟩
  · simp only [e121, s121_0, s121_1, s121_2, s121_5, s121_6, s121_7, s121_10, s121_11, s121_12, s121_15, s121_16, s121_17, s121_20, s121_21, s121_22, s121_25, s121_26, s121_27, s121_30, s121_31, s121_32, s121_35, s121_36, s121_37, s121_40, s121_41]
    refine Eq.trans a1 ?_
    simp only [s121_69, s121_70]
    refine Eq.trans b1 ?_
    simp only [s121_91, s121_92]
    exact c1
  · rw [e33]; simp (disch := omega) only [u_s, upd_s, upd_n]
  · rw [e33]; simp (disch := omega) only [u_s, upd_s, upd_n]
  · rw [e33]; simp (disch := omega) only [u_s, upd_s, upd_n]
  · rw [e33]; simp (disch := omega) only [u_s, upd_s, upd_n]
  · rw [e33]; simp (disch := omega) only [u_s, upd_s, upd_n]
  · rw [e33]; simp (disch := omega) only [u_s, upd_s, upd_n]
  · rw [e33]; simp (disch := omega) only [u_s, upd_s, upd_n]
  · rw [e33]; simp (disch := omega) only [u_s, upd_s, upd_n]
/-- nothing built, nothing told: the relation holds -/
theorem R0_new {σ : ir_S} (a1 : σ 1 4 = 0) (a2 : σ 1 5 = 0) (a3 : σ 1 6 = 0) (a4 : ∀ j, j < 12 → σ 3 j = 0) (a5 : ∀ j, j < 144 → σ 4 j = -1) (a6 : ∀ j, j < 144 → σ 5 j = -1) (b1 : σ 6 4 = -1) (b2 : σ 6 5 = 0) (b3 : σ 6 6 = 0) (b4 : ∀ j, j < 144 → σ 7 j = -1) (b5 : ∀ j, j < 144 → σ 8 j = 0) (b6 : ∀ j, j < 12 → σ 9 j = 15) (b7 : ∀ j, j < 6 → σ 10 j = -1)
    (c1 : σ 33 1 = 0) (c2 : σ 33 3 = 0) (c3 : σ 33 12 = 0) (c4 : σ 33 17 = 0) (c5 : σ 33 26 = 0) (c6 : σ 33 10 = -1) (c7 : ∀ j, j < 144 → σ 37 j = -1) (c8 : ∀ j, j < 144 → σ 38 j = 0) (c9 : ∀ j, j < 12 → σ 39 j = 15) (c10 : ∀ j, j < 6 → σ 40 j = -1) (d1 : σ 18 1 = 0) (d2 : σ 20 1 = 0) (d3 : σ 22 1 = 0) : R0 σ 0 0 0 0 0 (fun _ => 0) (fun _ => 0) := by
  have z : (0 : Int32) = nI 0 := rfl
  refine ⟨⟨by omega, by omega, by rw [a1]; rfl, by rw [c1]; rfl, by rw [a2]; rfl, by rw [c2]; rfl, fun l hl => by omega, fun j hj => by omega, fun j hj => ?_, fun a b ha hb => by rw [a5 _ (by omega)]; rfl, fun a b ha hb => ?_, fun i hi => Or.inl (a6 i hi), fun a t ha => by omega, fun a t ha ht _ => a6 _ (by omega)⟩, ⟨fun i hi => by rw [c7 i hi, b4 i hi], fun i hi => by rw [c8 i hi, b5 i hi], fun i hi => by rw [c9 i hi, b6 i hi], fun i hi => by rw [c10 i hi, b7 i hi], by rw [c6, b1], b2, b3, fun a b ha hb => Or.inl (b4 _ (by omega)), fun a b s ha hb hs h => ?_, fun n hn => Or.inl (b7 n hn), Or.inl b1⟩, ⟨by omega, by rw [d1]; rfl, by rw [c3]; rfl, fun f hf => by omega⟩, ⟨by omega, by rw [d2]; rfl, by rw [c4]; rfl, fun f hf => by omega⟩, ⟨by omega, by rw [d3]; rfl, by rw [c5]; rfl, fun f hf => by omega⟩⟩
  · rw [a3, ir_bit_0 hj]; simp
  · rw [a4 a ha, ir_bit_0 hb]
    have : adjM σ 0 a b = false := by unfold adjM; simp [lnF]
    rw [this, Bool.and_false]
  · rw [b5 _ (by omega), ir_bit_0 (by omega)] at h
    cases h
theorem p_clear {d : Nat} {σ : ir_S} (h : RR σ) : PAIR d 81 137 [] σ := by
  obtain ⟨N, m, F, C, K, LA, LB, r⟩ := h
  have e4 := r.1.1.2.2.1
  have x1 : σ 33 1 = nI N := r.1.1.2.2.2.1
  obtain ⟨σ1, a1, a2, a3, a4, a5, a6, a7, a8⟩ := c20 (d := d + 47) (σ := σ)
  obtain ⟨σ2, b1, b2, b3, b4, b5, b6, b7, b8, b9⟩ := c42_6 (d := d + 47) (σ := σ1)
  have hc1 : ir_ev (d + 50) 81 [.ref 0] σ = some (some (.int (nI N)), ir_up (ir_up (ir_up (ir_up (ir_up (ir_up σ2 18 1 0) 20 1 0) 22 1 0) 31 1 0) 25 6 0) 30 0 0) := by
    simp only [e81, s81_0, s81_1, s81_4, s81_7, s81_8, s81_9, s81_12, s81_15, s81_16, s81_19_6, s81_19_11, s81_22, s81_23, s81_26_18, s81_26_20, s81_26_22, s81_29, s81_30, s81_33_18, s81_33_20, s81_33_22, s81_36, s81_37, s81_40_18, s81_40_20, s81_40_22, s81_43, s81_44, s81_47, s81_50, s81_51, s81_54, s81_55, c21, e4, a1, b1, c0_18, c0_20, c0_22, c38, c111, ir_k_i, ir_tl_i, ir_k_v, ir_tl_v]
  have en : ∀ q, q ≠ 18 → q ≠ 20 → q ≠ 22 → q ≠ 31 → q ≠ 25 → q ≠ 30 → (ir_up (ir_up (ir_up (ir_up (ir_up (ir_up σ2 18 1 0) 20 1 0) 22 1 0) 31 1 0) 25 6 0) 30 0 0) q = σ2 q := fun q a b c e f g => by rw [u_n _ _ _ g, u_n _ _ _ f, u_n _ _ _ e, u_n _ _ _ c, u_n _ _ _ b, u_n _ _ _ a]
  have e18 : (ir_up (ir_up (ir_up (ir_up (ir_up (ir_up σ2 18 1 0) 20 1 0) 22 1 0) 31 1 0) 25 6 0) 30 0 0) 18 1 = 0 := by simp (disch := omega) only [u_n, u_s, upd_s]
  have e20 : (ir_up (ir_up (ir_up (ir_up (ir_up (ir_up σ2 18 1 0) 20 1 0) 22 1 0) 31 1 0) 25 6 0) 30 0 0) 20 1 = 0 := by simp (disch := omega) only [u_n, u_s, upd_s]
  have e22 : (ir_up (ir_up (ir_up (ir_up (ir_up (ir_up σ2 18 1 0) 20 1 0) 22 1 0) 31 1 0) 25 6 0) 30 0 0) 22 1 = 0 := by simp (disch := omega) only [u_n, u_s, upd_s]
  have e31 : (ir_up (ir_up (ir_up (ir_up (ir_up (ir_up σ2 18 1 0) 20 1 0) 22 1 0) 31 1 0) 25 6 0) 30 0 0) 31 1 = 0 := by simp (disch := omega) only [u_n, u_s, upd_s]
  have e25 : (ir_up (ir_up (ir_up (ir_up (ir_up (ir_up σ2 18 1 0) 20 1 0) 22 1 0) 31 1 0) 25 6 0) 30 0 0) 25 6 = 0 := by simp (disch := omega) only [u_n, u_s, upd_s]
  have e30 : (ir_up (ir_up (ir_up (ir_up (ir_up (ir_up σ2 18 1 0) 20 1 0) 22 1 0) 31 1 0) 25 6 0) 30 0 0) 30 0 = 0 := by simp (disch := omega) only [u_n, u_s, upd_s]
  generalize (ir_up (ir_up (ir_up (ir_up (ir_up (ir_up σ2 18 1 0) 20 1 0) 22 1 0) 31 1 0) 25 6 0) 30 0 0) = τ at *
  have x33 : τ 33 1 = nI N := by rw [en 33 (by decide) (by decide) (by decide) (by decide) (by decide) (by decide), b2 33 (by omega), a2 33 (by decide) (by decide) (by decide) (by decide)]; exact x1
  obtain ⟨ρ, g1, g2, h1, h2, h3, h4, h5, h6, h7, h8, h9, h10, h11, h12⟩ := m121 (d := d + 48) (σ := ir_up τ 33 0 0)
  have gn : ∀ q, q < 33 → q ≠ 18 → q ≠ 20 → q ≠ 22 → q ≠ 31 → q ≠ 25 → q ≠ 30 → ρ q = σ2 q := fun q z a b c e f g => by rw [g2 q (by omega) (by omega) (by omega) (by omega) (by omega), u_n _ _ _ (by omega), en q a b c e f g]
  have gt : ∀ q, q < 33 → ρ q = τ q := fun q z => by rw [g2 q (by omega) (by omega) (by omega) (by omega) (by omega), u_n _ _ _ (by omega)]
  have p1 : ρ 1 = σ1 1 := by rw [gn 1 (by decide) (by decide) (by decide) (by decide) (by decide) (by decide) (by decide), b2 1 (by omega)]
  have p3 : ρ 3 = σ1 3 := by rw [gn 3 (by decide) (by decide) (by decide) (by decide) (by decide) (by decide) (by decide), b2 3 (by omega)]
  have p4 : ρ 4 = σ1 4 := by rw [gn 4 (by decide) (by decide) (by decide) (by decide) (by decide) (by decide) (by decide), b2 4 (by omega)]
  have p5 : ρ 5 = σ1 5 := by rw [gn 5 (by decide) (by decide) (by decide) (by decide) (by decide) (by decide) (by decide), b2 5 (by omega)]
  have p6 := gn 6 (by decide) (by decide) (by decide) (by decide) (by decide) (by decide) (by decide)
  have p7 := gn 7 (by decide) (by decide) (by decide) (by decide) (by decide) (by decide) (by decide)
  have p8 := gn 8 (by decide) (by decide) (by decide) (by decide) (by decide) (by decide) (by decide)
  have p9 := gn 9 (by decide) (by decide) (by decide) (by decide) (by decide) (by decide) (by decide)
  have p10 := gn 10 (by decide) (by decide) (by decide) (by decide) (by decide) (by decide) (by decide)
  refine ⟨nI N, τ, ρ, hc1, ?_, ?_⟩
  · simp (disch := omega) only [e137, s137_0, s137_1, s137_2, s137_5, s137_6, s137_9, s137_10, s137_11, s137_14, s137_15, u_s, upd_n, x33, g1, ir_k_v, ir_tl_v]
  · refine RR_of ⟨R0_new (by rw [p1]; exact a3) (by rw [p1]; exact a4) (by rw [p1]; exact a5) (by rw [p3]; exact a6) (by rw [p4]; exact a7) (by rw [p5]; exact a8) (by rw [p6]; exact b3) (by rw [p6]; exact b4) (by rw [p6]; exact b5) (by rw [p7]; exact b6) (by rw [p8]; exact b7) (by rw [p9]; exact b8) (by rw [p10]; exact b9) h1 h2 h3 h4 h5 h8 h9 h10 h11 h12 (by rw [gt 18 (by decide)]; exact e18) (by rw [gt 20 (by decide)]; exact e20) (by rw [gt 22 (by decide)]; exact e22), ⟨0, by omega, by rw [gt 31 (by decide), e31]; rfl, by rw [h6]; rfl, fun i hi => by omega⟩, Or.inl ⟨by rw [gt 30 (by decide)]; exact e30, h7⟩, Or.inl (by rw [gt 25 (by decide)]; exact e25)⟩
