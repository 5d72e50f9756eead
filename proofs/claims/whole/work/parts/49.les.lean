/-! a lesson's calls -/
def RB (σ : ir_S) (N m F C K : Nat) (LA LB : Nat → Nat) : Prop := R0 σ N m F C K LA LB ∧ RW σ ∧ TBR σ N m C K
def frB (σ σ' : ir_S) : Prop := (∀ q, q < 11 ∨ (17 < q ∧ q ≠ 30 ∧ q ≠ 33 ∧ q ≠ 41 ∧ q ≠ 48 ∧ q ≠ 50 ∧ q ≠ 56 ∧ q ≠ 57) → σ' q = σ q) ∧ ∀ k, k ≠ 0 → k ≠ 20 → k ≠ 25 → k < 34 → σ' 33 k = σ 33 k
theorem frB_rf (σ : ir_S) : frB σ σ := ⟨fun _ _ => rfl, fun _ _ _ _ _ => rfl⟩
theorem frB_tr {σ σ1 σ2 : ir_S} (h1 : frB σ σ1) (h2 : frB σ1 σ2) : frB σ σ2 := ⟨fun q h => by rw [h2.1 q h, h1.1 q h], fun k a b c e => by rw [h2.2 k a b c e, h1.2 k a b c e]⟩
theorem frB_R {σ σ' : ir_S} (h : frR σ σ') : frB σ σ' := ⟨fun q hq => h.1 q (by omega) (by omega) (by omega) (by omega) (by omega) (by omega), fun k a b c _ => h.2 k a b c⟩
theorem frB_30 {σ : ir_S} {k : Nat} {v : Int32} : frB σ (ir_up σ 30 k v) := ⟨fun q hq => u_n _ _ _ (by omega), fun k _ _ _ _ => by rw [u_n _ _ _ (by decide)]⟩
theorem frB_33 {σ : ir_S} {k : Nat} {v : Int32} (hk : k = 0 ∨ k = 20 ∨ k = 25 ∨ 34 ≤ k) : frB σ (ir_up σ 33 k v) := ⟨fun q hq => u_n _ _ _ (by omega), fun j a b c e => by rw [u_s, upd_n _ _ (by omega)]⟩
theorem frB_BR {σ σ' : ir_S} {fs : List Nat} (h : BR σ fs σ') : frB σ σ' := ⟨fun q hq => h.2.2.2.2.2.2.2 q (by omega), fun k _ _ _ _ => by rw [h.2.2.2.2.2.2.2 33 (by omega)]⟩
theorem frB_17 {σ σ' : ir_S} (h : ∀ c, c ≠ 16 → c ≠ 17 → σ' c = σ c) : frB σ σ' := ⟨fun q hq => h q (by omega) (by omega), fun k _ _ _ _ => by rw [h 33 (by decide) (by decide)]⟩
theorem agS_frB {σ σ' : ir_S} (h : frB σ σ') : agS σ σ' := by
  refine agS_of (fun c hc h3 => h.1 c ?_) (fun j hj => h.2 j (dy_nf hj rfl) (dy_nf hj rfl) (dy_nf hj rfl) ?_)
  · have h30 := dy_ne hc (k := 30) rfl
    have h41 := dy_ne hc (k := 41) rfl
    have h48 := dy_ne hc (k := 48) rfl
    have h50 := dy_ne hc (k := 50) rfl
    have h56 := dy_ne hc (k := 56) rfl
    have h57 := dy_ne hc (k := 57) rfl
    apply Classical.byContradiction
    intro hn
    have h1 : Nat.ble 11 c = true := Nat.ble_eq.mpr (by omega)
    have h2 : Nat.ble c 17 = true := Nat.ble_eq.mpr (by omega)
    unfold dynC at hc
    rw [h1, h2] at hc
    simp at hc
  · apply Classical.byContradiction
    intro hn
    unfold dynF at hj
    simp only [Bool.not_eq_false', Bool.or_eq_true, Nat.beq_eq] at hj
    omega
section LS
variable {σ σ' : ir_S} {N m F C K : Nat} {LA LB : Nat → Nat}
theorem RB_frB (h : frB σ σ') (r : RB σ N m F C K LA LB) : RB σ' N m F C K LA LB := by
  obtain ⟨r0, rw_, rt⟩ := r
  have ag := agS_frB h
  refine ⟨R0_ag ag r0, ?_, ?_⟩
  · unfold RW at *
    rw [h.1 31 (by omega), h.1 32 (by omega), h.1 49 (by omega), h.2 22 (by decide) (by decide) (by decide) (by decide)]
    exact rw_
  · unfold TBR at *
    rw [h.1 25 (by omega)]
    rcases rt with rt | ⟨rt, t⟩
    · exact Or.inl rt
    · exact Or.inr ⟨rt, TB_ag ag (h.1 25 (by omega)) (h.1 27 (by omega)) (h.1 28 (by omega)) (h.1 29 (by omega)) t⟩
theorem RB_of (r : RA σ N m F C K LA LB) : RB σ N m F C K LA LB := ⟨r.1, r.2.1, r.2.2.2⟩
theorem RA_of (r : RB σ N m F C K LA LB) (l : LES σ F C) : RA σ N m F C K LA LB := ⟨r.1, r.2.1, l, r.2.2⟩
theorem m1_lt : ((-1 : Int32) < 0) = True := by decide
theorem m1_ge : ((0 : Int32) ≤ -1) = False := by decide
theorem i_10 : ((1 : Int32) = 0) = False := by decide
theorem g_f {d : Nat} (h : σ 30 0 = 0) : ir_ev (d + 1) 8 [.ref 30] σ = some (some (.int 0), σ) := c8 (g := false) h
theorem g_t {d : Nat} (h : σ 30 0 = 1) : ir_ev (d + 1) 8 [.ref 30] σ = some (some (.int 1), σ) := c8 (g := true) h
theorem p_left {d : Nat} (h : RR σ) : PAIR d 97 176 [] σ := by
  obtain ⟨N, m, F, C, K, LA, LB, r⟩ := h
  have hC := r.1.2.2.2.1.1
  have r0 := RR_of (RA_frR (frR_33 (v := 0)) r)
  rcases r.2.2.1 with ⟨h1, h2⟩ | ⟨h1, c, s, mm, hc, hs, hmm, l1, l2, l3, l4, l5, l6, l7, l8, l9, l10⟩
  · refine ⟨-2, σ, _, ?_, ?_, r0⟩
    · simp only [e97, s97_0, s97_1, s97_4, s97_7, s97_20, s97_10, s97_22, s97_11, s97_14, s97_17, g_f h1, ir_k_i, ir_tl_i, if_true]
    · simp (disch := omega) only [e176, s176_0, s176_1, s176_2, s176_5, s176_6, s176_9, s176_17, s176_12, s176_18, s176_14, s176_21, u_s, upd_n, h2, m1_ge, if_false]
  · refine ⟨nI s, σ, _, ?_, ?_, r0⟩
    · simp only [e97, s97_0, s97_1, s97_4, s97_7, s97_20, s97_10, s97_22, s97_11, s97_14, s97_17, g_t h1, c12, l6, ir_k_i, ir_tl_i, i_10, if_false]
    · have q : 0 ≤ c := Nat.zero_le _
      simp (disch := omega) only [e176, s176_0, s176_1, s176_2, s176_5, s176_6, s176_9, s176_17, s176_12, s176_18, s176_14, s176_21, u_s, upd_n, l2, l7, n_lt_0, n_le_0, n_tl_0, n_el_0, n_eq_0, n_ad_0, n_lt_1, n_le_1, n_tl_1, n_el_1, n_eq_1, n_ad_1, n_lt_2, n_le_2, n_tl_2, n_el_2, n_eq_2, n_ad_2, n_lt_3, n_le_3, n_tl_3, n_el_3, n_eq_3, n_ad_3, n_lt_4, n_le_4, n_tl_4, n_el_4, n_eq_4, n_ad_4, n_lt_5, n_le_5, n_tl_5, n_el_5, n_eq_5, n_ad_5, n_lt_6, n_le_6, n_tl_6, n_el_6, n_eq_6, n_ad_6, n_lt_10, n_le_10, n_tl_10, n_el_10, n_eq_10, n_ad_10, n_lt_11, n_le_11, n_tl_11, n_el_11, n_eq_11, n_ad_11, n_lt_12, n_le_12, n_tl_12, n_el_12, n_eq_12, n_ad_12, n_lt_13, n_le_13, n_tl_13, n_el_13, n_eq_13, n_ad_13, n_lt_15, n_le_15, n_tl_15, n_el_15, n_eq_15, n_ad_15, n_lt_20, n_le_20, n_tl_20, n_el_20, n_eq_20, n_ad_20, n_lt_30, n_le_30, n_tl_30, n_el_30, n_eq_30, n_ad_30, n_lt_31, n_le_31, n_tl_31, n_el_31, n_eq_31, n_ad_31, n_lt_32, n_le_32, n_tl_32, n_el_32, n_eq_32, n_ad_32, n_lt_60, n_le_60, n_tl_60, n_el_60, n_eq_60, n_ad_60, n_lt_99, n_le_99, n_tl_99, n_el_99, n_eq_99, n_ad_99, n_lt_100, n_le_100, n_tl_100, n_el_100, n_eq_100, n_ad_100, n_lt_144, n_le_144, n_tl_144, n_el_144, n_eq_144, n_ad_144, n_lt_4096, n_le_4096, n_tl_4096, n_el_4096, n_eq_4096, n_ad_4096, n_mulK, nI_add, pk_mul, n_lt, n_le, n_eq, n_eqM, n_ix, n_cl, q, if_true]
theorem p_begin {d : Nat} {v : Int32} (h : RR σ) : PAIR d 95 174 [.int v] σ := by
  obtain ⟨N, m, F, C, K, LA, LB, r⟩ := h
  have hC := r.1.2.2.2.1.1
  have r0 := RA_frR (frR_33 (v := 0)) r
  have hE : isE σ 20 v = inr v (nI C) := by rw [isE_inr, r.1.2.2.2.1.2.1]
  cases hv : inr v (nI C) with
  | false =>
    refine ⟨0, σ, ir_up σ 33 0 0, ?_, ?_, RR_of r0⟩
    · simp only [e95, s95_0, s95_1, s95_4, s95_5_18, s95_5_20, s95_5_22, s95_8, s95_13, s95_11, s95_14, s95_12z, s95_12o, s95_12b, s95_17, s95_18, s95_19, s95_22_18, s95_22_20, s95_22_22, s95_25, s95_28, s95_29z, s95_29o, s95_29b, c2_20, hE, hv, ir_b_f, ir_k_i, ir_tl_i, if_true]
    · simp only [e174, s174_0, s174_1, s174_2, s174_5, s174_6, s174_7, s174_10, s174_15, s174_13, s174_16, s174_14z, s174_14o, s174_14b, s174_17, s174_20, s174_21, s174_22, s174_25, s174_26, s174_27, s174_30, s174_31, s174_32, s174_35, s174_36, s174_37, s174_40, s174_41, s174_42, s174_45, s174_46, s174_47, s174_48, s174_51, s174_52, s174_53, s174_54, s174_57, s174_58z, s174_58o, s174_58b, h17 r0.1.2.2.2.1.2.2.1 hC, hv, ir_b_f, ir_k_i, ir_tl_i, if_true]
  | true =>
    obtain ⟨c, hc, rfl⟩ := inr_nI (by omega) hv
    have hp : 0 < 2 ^ C := Nat.pow_pos (by decide)
    have k6 := c6 (d := d + 48) (σ := σ) (c := nI c) (a := nI (2 ^ C - 1))
    have hc1 : ir_ev (d + 50) 95 [.ref 0, .int (nI c)] σ = some (some (.int 1), ir_up (ir_up (ir_up (ir_up (ir_up (ir_up (ir_up (ir_up σ 30 0 1) 30 1 (nI c)) 30 2 0) 30 3 0) 30 4 (nI (2 ^ C - 1))) 30 5 0) 30 6 0) 30 7 0) := by
      simp only [e95, s95_0, s95_1, s95_4, s95_5_18, s95_5_20, s95_5_22, s95_8, s95_13, s95_11, s95_14, s95_12z, s95_12o, s95_12b, s95_17, s95_18, s95_19, s95_22_18, s95_22_20, s95_22_22, s95_25, s95_28, s95_29z, s95_29o, s95_29b, c2_20, hE, hv, c3_20, r.1.2.2.2.1.2.1, s_all hC, k6, ir_b_t, ir_k_i, ir_tl_i, ir_k_v, ir_tl_v, i_10, if_false]
    have f1 : frB σ (ir_up (ir_up (ir_up (ir_up (ir_up (ir_up (ir_up (ir_up σ 30 0 1) 30 1 (nI c)) 30 2 0) 30 3 0) 30 4 (nI (2 ^ C - 1))) 30 5 0) 30 6 0) 30 7 0) := frB_tr (frB_tr (frB_tr (frB_tr (frB_tr (frB_tr (frB_tr frB_30 frB_30) frB_30) frB_30) frB_30) frB_30) frB_30) frB_30
    have v30 : ∀ k, (ir_up (ir_up (ir_up (ir_up (ir_up (ir_up (ir_up (ir_up σ 30 0 1) 30 1 (nI c)) 30 2 0) 30 3 0) 30 4 (nI (2 ^ C - 1))) 30 5 0) 30 6 0) 30 7 0) 30 k = upd (upd (upd (upd (upd (upd (upd (upd (σ 30) 0 1) 1 (nI c)) 2 0) 3 0) 4 (nI (2 ^ C - 1))) 5 0) 6 0) 7 0 k := by intro k; simp only [u_s]
    generalize (ir_up (ir_up (ir_up (ir_up (ir_up (ir_up (ir_up (ir_up σ 30 0 1) 30 1 (nI c)) 30 2 0) 30 3 0) 30 4 (nI (2 ^ C - 1))) 30 5 0) 30 6 0) 30 7 0) = σ1 at *
    have r1 := RB_frB f1 (RB_of r)
    have r10 := RB_frB (frB_33 (v := 0) (Or.inl rfl)) r1
    have e17 : (ir_up σ1 33 0 0) 33 17 = nI C := r10.1.2.2.2.1.2.2.1
    have e17' : σ1 33 17 = nI C := r1.1.2.2.2.1.2.2.1
    refine ⟨1, σ1, ir_up (ir_up (ir_up (ir_up (ir_up (ir_up (ir_up (ir_up σ1 33 0 0) 33 34 (nI c)) 33 35 0) 33 36 0) 33 37 0) 33 38 0) 33 39 0) 33 40 (nI (2 ^ C - 1)), hc1, ?_, RR_of (RA_of (RB_frB (frB_tr (frB_tr (frB_tr (frB_tr (frB_tr (frB_tr (frB_tr (frB_33 (by omega)) (frB_33 (by omega))) (frB_33 (by omega))) (frB_33 (by omega))) (frB_33 (by omega))) (frB_33 (by omega))) (frB_33 (by omega))) (frB_33 (by omega))) r1) (Or.inr ?_))⟩
    · simp (disch := omega) only [e174, s174_0, s174_1, s174_2, s174_5, s174_6, s174_7, s174_10, s174_15, s174_13, s174_16, s174_14z, s174_14o, s174_14b, s174_17, s174_20, s174_21, s174_22, s174_25, s174_26, s174_27, s174_30, s174_31, s174_32, s174_35, s174_36, s174_37, s174_40, s174_41, s174_42, s174_45, s174_46, s174_47, s174_48, s174_51, s174_52, s174_53, s174_54, s174_57, s174_58z, s174_58o, s174_58b, h17 e17 hC, hv, u_s, upd_n, e17', s_all hC, ir_b_t, ir_k_i, ir_tl_i, i_10, if_false]
    · have z0 : (0 : Int32) = nI 0 := rfl
      simp (disch := omega) only [u_n, v30, u_s, upd_s, upd_n]
      exact ⟨trivial, c, 2 ^ C - 1, 0, hc, by omega, by omega, rfl, rfl, rfl, rfl, trivial, rfl, rfl, trivial, trivial, trivial⟩
theorem c114 {d k : Nat} : ir_ev (d + 3) 114 [.ref 0, .int (nI k)] σ = some (some (.int (if ir_bit (σ 30 2) k = true then 0 else 1)), σ) ∨ 12 ≤ k := by
  rcases Nat.lt_or_ge k 12 with q | q
  · left
    have hne : ¬ nI k = (-1 : Int32) := by rw [n_eqM (by omega)]; exact fun h => h
    simp only [e114, s114_0, s114_1, s114_2, s114_20, s114_5, s114_21, s114_6, s114_9, s114_10, s114_13, s114_16, s114_17, if_neg hne, c11, ir_k_i, ir_tl_i]
    cases ir_bit (σ 30 2) k <;> simp [ir_b]
  · exact Or.inr q
theorem c114m {d : Nat} : ir_ev (d + 3) 114 [.ref 0, .int (-1)] σ = some (some (.int 0), σ) := by
  simp only [e114, s114_0, s114_1, s114_2, s114_20, s114_5, s114_21, s114_6, s114_9, s114_10, s114_13, s114_16, s114_17, if_true]
theorem mact_len {v mm : Int32} {F : Nat} (hF : F ≤ 12) (hv : nod F v) : ir_ev 0 0 [] σ = none → nI (mact1 v mm).length = if v = -1 then 0 else if ir_bit mm v.toNatClampNeg = true then 0 else 1 := by
  intro _
  unfold mact1
  by_cases h : v = -1
  · rw [if_pos h, if_pos h]; rfl
  · rw [if_neg h, if_neg h]
    by_cases q : ir_bit mm v.toNatClampNeg = true
    · rw [if_pos q, if_pos q]; rfl
    · rw [if_neg q, if_neg q]; rfl
theorem unm {d : Nat} {v : Int32} (hF : F ≤ 12) (hv : nod F v) : ir_ev (d + 3) 114 [.ref 0, .int v] σ = some (some (.int (nI (mact1 v (σ 30 2)).length)), σ) := by
  rcases hv with rfl | ⟨k, hk, rfl⟩
  · rw [c114m]; rfl
  · have hne : ¬ nI k = (-1 : Int32) := by rw [n_eqM (by omega)]; exact fun h => h
    rcases c114 (σ := σ) (d := d) (k := k) with h | h
    · rw [h]
      unfold mact1
      rw [if_neg hne, n_cl (by omega)]
      by_cases q : ir_bit (σ 30 2) k = true
      · rw [if_pos q, if_pos q]; rfl
      · rw [if_neg q, if_neg q]; rfl
    · omega
theorem h12 {v : Int32} {d : Nat} (h : σ 33 12 = nI F) (hF : F ≤ 12) : ir_ev (d + 2) 144 [.ref 33, .int v] σ = some (some (.int (ir_b (inr v (nI F)))), σ) := by
  have := m144 (σ := σ) (d := d) (n := v) (by rw [h]; exact n_nn (by omega))
  rw [h] at this
  exact this
theorem h26 {v : Int32} {d : Nat} (h : σ 33 26 = nI K) (hK : K ≤ 12) : ir_ev (d + 2) 156 [.ref 33, .int v] σ = some (some (.int (ir_b (inr v (nI K)))), σ) := by
  have := m156 (σ := σ) (d := d) (n := v) (by rw [h]; exact n_nn (by omega))
  rw [h] at this
  exact this
theorem p_mend {d : Nat} {v : Int32} (h : RR σ) : PAIR d 98 177 [.int v] σ := by
  obtain ⟨N, m, F, C, K, LA, LB, r⟩ := h
  have hC := r.1.2.2.2.1.1
  have hF := r.1.2.2.1.1
  have r0 := RA_frR (frR_33 (v := 0)) r
  have hE : isE σ 18 v = inr v (nI F) := by rw [isE_inr, r.1.2.2.1.2.1]
  rcases r.2.2.1 with ⟨h1, h2⟩ | ⟨h1, c, s, mm, hc, hs, hmm, l1, l2, l3, l4, l5, l6, l7, l8, l9, l10⟩
  · refine ⟨-2, σ, _, ?_, ?_, RR_of r0⟩
    · simp only [s98_0, e98, s98_1, s98_4, s98_7, s98_21, s98_23, g_f h1, ir_k_i, ir_tl_i, if_true]
    · simp (disch := omega) only [e177, s177_0, s177_1, s177_2, s177_5, s177_6, s177_9, s177_20, s177_22, u_s, upd_n, h2, m1_lt, if_true]
  have q34 : ¬ c < 0 := Nat.not_lt_zero _
  cases hv : inr v (nI F) with
  | false =>
    refine ⟨-2, σ, _, ?_, ?_, RR_of r0⟩
    · simp only [e98, s98_0, s98_1, s98_4, s98_7, s98_10, s98_11, s98_14, s98_15_18, s98_15_20, s98_15_22, s98_18, s98_21, s98_23, g_t h1, c2_18, hE, hv, ir_b_f, ir_k_i, ir_tl_i, i_10, if_true, if_false]
    · simp (disch := omega) only [e177, s177_0, s177_1, s177_2, s177_5, s177_6, s177_9, s177_12, s177_13, s177_14, s177_17, s177_20, s177_22, u_s, upd_n, l2, n_lt_0, n_le_0, n_tl_0, n_el_0, n_eq_0, n_ad_0, n_lt_1, n_le_1, n_tl_1, n_el_1, n_eq_1, n_ad_1, n_lt_2, n_le_2, n_tl_2, n_el_2, n_eq_2, n_ad_2, n_lt_3, n_le_3, n_tl_3, n_el_3, n_eq_3, n_ad_3, n_lt_4, n_le_4, n_tl_4, n_el_4, n_eq_4, n_ad_4, n_lt_5, n_le_5, n_tl_5, n_el_5, n_eq_5, n_ad_5, n_lt_6, n_le_6, n_tl_6, n_el_6, n_eq_6, n_ad_6, n_lt_10, n_le_10, n_tl_10, n_el_10, n_eq_10, n_ad_10, n_lt_11, n_le_11, n_tl_11, n_el_11, n_eq_11, n_ad_11, n_lt_12, n_le_12, n_tl_12, n_el_12, n_eq_12, n_ad_12, n_lt_13, n_le_13, n_tl_13, n_el_13, n_eq_13, n_ad_13, n_lt_15, n_le_15, n_tl_15, n_el_15, n_eq_15, n_ad_15, n_lt_20, n_le_20, n_tl_20, n_el_20, n_eq_20, n_ad_20, n_lt_30, n_le_30, n_tl_30, n_el_30, n_eq_30, n_ad_30, n_lt_31, n_le_31, n_tl_31, n_el_31, n_eq_31, n_ad_31, n_lt_32, n_le_32, n_tl_32, n_el_32, n_eq_32, n_ad_32, n_lt_60, n_le_60, n_tl_60, n_el_60, n_eq_60, n_ad_60, n_lt_99, n_le_99, n_tl_99, n_el_99, n_eq_99, n_ad_99, n_lt_100, n_le_100, n_tl_100, n_el_100, n_eq_100, n_ad_100, n_lt_144, n_le_144, n_tl_144, n_el_144, n_eq_144, n_ad_144, n_lt_4096, n_le_4096, n_tl_4096, n_el_4096, n_eq_4096, n_ad_4096, n_mulK, nI_add, pk_mul, n_lt, n_le, n_eq, n_eqM, n_ix, n_cl, q34, h12 r0.1.2.2.1.2.2.1 hF, hv, ir_b_f, ir_k_i, ir_tl_i, if_true, if_false]
  | true =>
    obtain ⟨f, hf, rfl⟩ := inr_nI (by omega) hv
    have hbit : ((nI mm >>> (nI f &&& 31)) &&& 1 = 1) = (mm.testBit f = true) := by rw [bit1, s_bit hmm (by omega)]
    have hb2 : ir_bit (nI mm) f = mm.testBit f := s_bit hmm (by omega)
    cases hm : mm.testBit f with
    | true =>
      rw [hm] at hb2
      refine ⟨-3, σ, _, ?_, ?_, RR_of r0⟩
      · simp only [e98, s98_0, s98_1, s98_4, s98_7, s98_10, s98_11, s98_14, s98_15_18, s98_15_20, s98_15_22, s98_18, s98_24, s98_25, s98_28, s98_29, s98_32, s98_35, s98_37, g_t h1, c2_18, hE, hv, c11, l3, hb2, ir_b_t, ir_k_i, ir_tl_i, i_10, if_false]
      · simp (disch := omega) only [e177, s177_0, s177_1, s177_2, s177_5, s177_6, s177_9, s177_12, s177_13, s177_14, s177_17, s177_23, s177_24, s177_27, s177_28, s177_29, s177_30, s177_31, s177_32, s177_35, s177_37, u_s, upd_n, l2, l4, n_lt_0, n_le_0, n_tl_0, n_el_0, n_eq_0, n_ad_0, n_lt_1, n_le_1, n_tl_1, n_el_1, n_eq_1, n_ad_1, n_lt_2, n_le_2, n_tl_2, n_el_2, n_eq_2, n_ad_2, n_lt_3, n_le_3, n_tl_3, n_el_3, n_eq_3, n_ad_3, n_lt_4, n_le_4, n_tl_4, n_el_4, n_eq_4, n_ad_4, n_lt_5, n_le_5, n_tl_5, n_el_5, n_eq_5, n_ad_5, n_lt_6, n_le_6, n_tl_6, n_el_6, n_eq_6, n_ad_6, n_lt_10, n_le_10, n_tl_10, n_el_10, n_eq_10, n_ad_10, n_lt_11, n_le_11, n_tl_11, n_el_11, n_eq_11, n_ad_11, n_lt_12, n_le_12, n_tl_12, n_el_12, n_eq_12, n_ad_12, n_lt_13, n_le_13, n_tl_13, n_el_13, n_eq_13, n_ad_13, n_lt_15, n_le_15, n_tl_15, n_el_15, n_eq_15, n_ad_15, n_lt_20, n_le_20, n_tl_20, n_el_20, n_eq_20, n_ad_20, n_lt_30, n_le_30, n_tl_30, n_el_30, n_eq_30, n_ad_30, n_lt_31, n_le_31, n_tl_31, n_el_31, n_eq_31, n_ad_31, n_lt_32, n_le_32, n_tl_32, n_el_32, n_eq_32, n_ad_32, n_lt_60, n_le_60, n_tl_60, n_el_60, n_eq_60, n_ad_60, n_lt_99, n_le_99, n_tl_99, n_el_99, n_eq_99, n_ad_99, n_lt_100, n_le_100, n_tl_100, n_el_100, n_eq_100, n_ad_100, n_lt_144, n_le_144, n_tl_144, n_el_144, n_eq_144, n_ad_144, n_lt_4096, n_le_4096, n_tl_4096, n_el_4096, n_eq_4096, n_ad_4096, n_mulK, nI_add, pk_mul, n_lt, n_le, n_eq, n_eqM, n_ix, n_cl, q34, h12 r0.1.2.2.1.2.2.1 hF, hv, ir_b_t, ir_k_i, ir_tl_i, i_10, if_true, if_false, hbit, hm]
    | false =>
      rw [hm] at hb2 hbit
      have hsh := s_shl (k := f) (by omega)
      have hor := s_or hmm (p2_lt (k := f) (by omega))
      have hor4 := or_lt hmm (p2_lt (k := f) (by omega))
      obtain ⟨g1, g2, ⟨f1, hf1, g3⟩, g4, _⟩ := r.1.2.2.2.1.2.2.2 c hc
      have k18 := c18 (σ := σ) (d := d + 48) (k := f)
      rw [l3, hsh, hor] at k18
      have fb : frB σ (ir_up (ir_up σ 30 2 (nI (mm ||| 2 ^ f))) 30 3 (σ 30 3 + 5)) := frB_tr frB_30 frB_30
      have v30 : ∀ k, (ir_up (ir_up σ 30 2 (nI (mm ||| 2 ^ f))) 30 3 (σ 30 3 + 5)) 30 k = upd (upd (σ 30) 2 (nI (mm ||| 2 ^ f))) 3 (σ 30 3 + 5) k := by intro k; simp only [u_s]
      have v33 : (ir_up (ir_up σ 30 2 (nI (mm ||| 2 ^ f))) 30 3 (σ 30 3 + 5)) 33 = σ 33 := by simp (disch := omega) only [u_n]
      have v21 : (ir_up (ir_up σ 30 2 (nI (mm ||| 2 ^ f))) 30 3 (σ 30 3 + 5)) 21 = σ 21 := by simp (disch := omega) only [u_n]
      generalize (ir_up (ir_up σ 30 2 (nI (mm ||| 2 ^ f))) 30 3 (σ 30 3 + 5)) = σ1 at *
      have i1 : σ1 30 1 = nI c := by rw [v30, upd_n _ _ (by decide), upd_n _ _ (by decide)]; exact l1
      have i2 : σ1 30 2 = nI (mm ||| 2 ^ f) := by rw [v30, upd_n _ _ (by decide), upd_s]
      have u1 := unm (σ := σ1) (d := d + 46) hF (Or.inr ⟨f1, hf1, g3⟩ : nod F (σ 21 (c * 5 + 1)))
      have u2 := unm (σ := σ1) (d := d + 46) hF g4
      have t1 : ir_ev (d + 49) 5 [.ref 20, .int (nI c), .int 1] σ1 = some (some (.int (σ 21 (c * 5 + 1))), σ1) := by rw [← v21]; exact c5_20 (f := 1) (by omega) (by decide)
      have t2 : ir_ev (d + 49) 5 [.ref 20, .int (nI c), .int 2] σ1 = some (some (.int (σ 21 (c * 5 + 2))), σ1) := by rw [← v21]; exact c5_20 (f := 2) (by omega) (by decide)
      have k9 : ir_ev (d + 49) 9 [.ref 30] σ1 = some (some (.int (nI c)), σ1) := by rw [← i1]; exact c9
      rw [i2] at u1 u2
      have r1 := RB_frB fb (RB_of r)
      have fb2 : frB σ1 (ir_up (ir_up (ir_up σ1 33 0 0) 33 35 (nI (mm ||| 2 ^ f))) 33 36 (σ1 33 36 + 5)) := frB_tr (frB_tr (frB_33 (by omega)) (frB_33 (by omega))) (frB_33 (by omega))
      have r2 := RB_frB fb2 r1
      obtain ⟨σ3, b1, b2, b3⟩ := brkM (d := d + 48) (mm := nI (mm ||| 2 ^ f)) r2.1 hc
      have hac := (acts_c (mm := nI (mm ||| 2 ^ f)) r2.1.2.2.1 r2.1.2.2.2.1 hc).1
      have r3 := RB_frB (frB_R (frR_5 b2)) r2
      have e46 : (ir_up (ir_up (ir_up σ1 33 0 0) 33 35 (nI (mm ||| 2 ^ f))) 33 36 (σ1 33 36 + 5)) 46 c = σ 21 (c * 5 + 1) := by
        rw [(r2.1.2.2.2.1.2.2.2 c hc).1, u_n _ _ _ (by decide), u_n _ _ _ (by decide), u_n _ _ _ (by decide), v21]
      have e47 : (ir_up (ir_up (ir_up σ1 33 0 0) 33 35 (nI (mm ||| 2 ^ f))) 33 36 (σ1 33 36 + 5)) 47 c = σ 21 (c * 5 + 2) := by
        rw [(r2.1.2.2.2.1.2.2.2 c hc).2.1, u_n _ _ _ (by decide), u_n _ _ _ (by decide), u_n _ _ _ (by decide), v21]
      have hlen : σ3 33 20 = nI (mact1 (σ 21 (c * 5 + 1)) (nI (mm ||| 2 ^ f))).length + nI (mact1 (σ 21 (c * 5 + 2)) (nI (mm ||| 2 ^ f))).length := by
        rw [b3.2.1, hac, e46, e47, List.length_append, nI_add]
      have w33 : ∀ k, k ≠ 0 → k ≠ 35 → k ≠ 36 → k ≠ 20 → σ3 33 k = σ 33 k := fun k q1 q2 q3 q4 => by
        rw [b2.2 k q4, u_s, upd_n _ _ q3, u_s, upd_n _ _ q2, u_s, upd_n _ _ q1, v33]
      refine ⟨nI (mact1 (σ 21 (c * 5 + 1)) (nI (mm ||| 2 ^ f))).length + nI (mact1 (σ 21 (c * 5 + 2)) (nI (mm ||| 2 ^ f))).length, σ1, σ3, ?_, ?_, RR_of (RA_of r3 (Or.inr ?_))⟩
      · simp only [e98, s98_0, s98_1, s98_4, s98_7, s98_10, s98_11, s98_14, s98_15_18, s98_15_20, s98_15_22, s98_18, s98_24, s98_25, s98_28, s98_29, s98_32, s98_38, s98_39, s98_42, s98_43, s98_46, s98_47, s98_48, s98_51, s98_52, s98_55, s98_58, s98_59_18, s98_59_20, s98_59_22, s98_62, s98_65, s98_66, s98_67, s98_70, s98_71, s98_74, s98_77, s98_78_18, s98_78_20, s98_78_22, s98_81, s98_84, s98_85, g_t h1, c2_18, hE, hv, c11, l3, hb2, k18, k9, t1, t2, u1, u2, ir_b_t, ir_b_f, ir_k_i, ir_tl_i, ir_k_v, ir_tl_v, i_10, if_true, if_false]
      · have r10 := RB_frB (frB_33 (v := 0) (Or.inl rfl)) r1
        have hb : ¬ ((nI mm >>> (nI f &&& 31)) &&& 1 = 1) := by rw [hbit]; exact fun h => by cases h
        simp (disch := omega) only [e177, s177_0, s177_1, s177_2, s177_5, s177_6, s177_9, s177_12, s177_13, s177_14, s177_17, s177_23, s177_24, s177_27, s177_28, s177_29, s177_30, s177_31, s177_32, s177_38, s177_39i, s177_39r, s177_40, s177_43, s177_44, s177_45, s177_46, s177_47, s177_50, s177_51i, s177_51r, s177_52, s177_55, s177_56, s177_57, s177_60, s177_61, s177_62, s177_65, s177_66, s177_69, s177_72, s177_73, s177_76, u_s, upd_s, upd_n, v33, l2, l4, n_lt_0, n_le_0, n_tl_0, n_el_0, n_eq_0, n_ad_0, n_lt_1, n_le_1, n_tl_1, n_el_1, n_eq_1, n_ad_1, n_lt_2, n_le_2, n_tl_2, n_el_2, n_eq_2, n_ad_2, n_lt_3, n_le_3, n_tl_3, n_el_3, n_eq_3, n_ad_3, n_lt_4, n_le_4, n_tl_4, n_el_4, n_eq_4, n_ad_4, n_lt_5, n_le_5, n_tl_5, n_el_5, n_eq_5, n_ad_5, n_lt_6, n_le_6, n_tl_6, n_el_6, n_eq_6, n_ad_6, n_lt_10, n_le_10, n_tl_10, n_el_10, n_eq_10, n_ad_10, n_lt_11, n_le_11, n_tl_11, n_el_11, n_eq_11, n_ad_11, n_lt_12, n_le_12, n_tl_12, n_el_12, n_eq_12, n_ad_12, n_lt_13, n_le_13, n_tl_13, n_el_13, n_eq_13, n_ad_13, n_lt_15, n_le_15, n_tl_15, n_el_15, n_eq_15, n_ad_15, n_lt_20, n_le_20, n_tl_20, n_el_20, n_eq_20, n_ad_20, n_lt_30, n_le_30, n_tl_30, n_el_30, n_eq_30, n_ad_30, n_lt_31, n_le_31, n_tl_31, n_el_31, n_eq_31, n_ad_31, n_lt_32, n_le_32, n_tl_32, n_el_32, n_eq_32, n_ad_32, n_lt_60, n_le_60, n_tl_60, n_el_60, n_eq_60, n_ad_60, n_lt_99, n_le_99, n_tl_99, n_el_99, n_eq_99, n_ad_99, n_lt_100, n_le_100, n_tl_100, n_el_100, n_eq_100, n_ad_100, n_lt_144, n_le_144, n_tl_144, n_el_144, n_eq_144, n_ad_144, n_lt_4096, n_le_4096, n_tl_4096, n_el_4096, n_eq_4096, n_ad_4096, n_mulK, nI_add, pk_mul, n_lt, n_le, n_eq, n_eqM, n_ix, n_cl, q34, h12 r10.1.2.2.1.2.2.1 hF, hv, ir_b_t, ir_k_i, ir_tl_i, ir_k_v, ir_tl_v, i_10, if_true, if_false, if_neg hb, hsh, hor]
        have e2 : (ir_up (ir_up (ir_up σ1 33 0 0) 33 35 (nI (mm ||| 2 ^ f))) 33 36 (σ 33 36 + 5)) = (ir_up (ir_up (ir_up σ1 33 0 0) 33 35 (nI (mm ||| 2 ^ f))) 33 36 (σ1 33 36 + 5)) := by rw [v33]
        rw [e2, b1]
        simp only [ir_k_v, ir_tl_v, s177_72, s177_73, s177_76, hlen, nI_add]
      · have e30 : σ3 30 = σ1 30 := by rw [b2.1 30 (by decide) (by decide), u_n _ _ _ (by decide), u_n _ _ _ (by decide), u_n _ _ _ (by decide)]
        have e35 : σ3 33 35 = nI (mm ||| 2 ^ f) := by rw [b2.2 35 (by decide), u_s, upd_n _ _ (by decide), u_s, upd_s]
        have e36 : σ3 33 36 = σ 33 36 + 5 := by rw [b2.2 36 (by decide), u_s, upd_s, v33]
        rw [e30, e35, e36, w33 34 (by decide) (by decide) (by decide) (by decide), w33 40 (by decide) (by decide) (by decide) (by decide), w33 37 (by decide) (by decide) (by decide) (by decide), w33 38 (by decide) (by decide) (by decide) (by decide), w33 39 (by decide) (by decide) (by decide) (by decide)]
        simp (disch := omega) only [v30, upd_s, upd_n]
        exact ⟨h1, c, s, mm ||| 2 ^ f, hc, hs, hor4, l1, l2, rfl, rfl, by rw [l5], l6, l7, l8, l9, l10⟩
end LS
