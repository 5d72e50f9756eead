/-! use, well, claim, mark -/
section LT
variable {σ σ' : ir_S} {N m F C K : Nat} {LA LB : Nat → Nat}
theorem c17 {d p s a mm : Nat} {q3 q5 : Int32} (h2 : σ 30 2 = nI mm) (hmm : mm < 4096) (h4 : σ 30 4 = nI s) (hs : s < 4096) (ha : a < 4096) (h3 : σ 30 3 = q3) (h5 : σ 30 5 = q5) :
    ∃ σ', ir_ev (d + 1) 17 [.ref 30, .int (nI p), .int (nI a)] σ = some (none, σ') ∧ (∀ c, c ≠ 30 → σ' c = σ c) ∧ σ' 30 0 = σ 30 0 ∧ σ' 30 1 = σ 30 1 ∧ σ' 30 2 = σ 30 2 ∧ σ' 30 3 = q3 + nI p ∧ σ' 30 5 = q5 + 1 ∧ σ' 30 7 = σ 30 7 ∧ σ' 30 4 = nI (if mm = 0 then s &&& a else s) ∧ σ' 30 6 = (if mm = 0 ∧ s &&& a ≠ s then σ 30 6 + 1 else σ 30 6) := by
  have hand := s_and hs ha
  have hal : s &&& a < 4096 := and_lt hs
  by_cases e0 : mm = 0
  · subst e0
    by_cases e : s &&& a = s
    · refine ⟨ir_up (ir_up σ 30 3 (q3 + nI p)) 30 5 (q5 + 1), ?_, fun c hc => by rw [u_n _ _ _ hc, u_n _ _ _ hc], ?_⟩
      · simp (disch := omega) only [e17, s17_0, s17_1i, s17_1r, s17_2, s17_5, s17_6, s17_7, s17_10, s17_11i, s17_11r, s17_12, s17_15, s17_16, s17_17, s17_20, s17_21, s17_24, s17_25, s17_26, s17_27, s17_28, s17_31, s17_57, s17_34, s17_35, s17_36, s17_39, s17_42, s17_43, s17_44, s17_47, s17_48i, s17_48r, s17_49, s17_52, s17_53, s17_54, u_s, upd_s, upd_n, h2, h3, h4, h5, hand, n_lt_0, n_le_0, n_tl_0, n_el_0, n_eq_0, n_ad_0, n_lt_1, n_le_1, n_tl_1, n_el_1, n_eq_1, n_ad_1, n_lt_2, n_le_2, n_tl_2, n_el_2, n_eq_2, n_ad_2, n_lt_3, n_le_3, n_tl_3, n_el_3, n_eq_3, n_ad_3, n_lt_4, n_le_4, n_tl_4, n_el_4, n_eq_4, n_ad_4, n_lt_5, n_le_5, n_tl_5, n_el_5, n_eq_5, n_ad_5, n_lt_6, n_le_6, n_tl_6, n_el_6, n_eq_6, n_ad_6, n_lt_10, n_le_10, n_tl_10, n_el_10, n_eq_10, n_ad_10, n_lt_11, n_le_11, n_tl_11, n_el_11, n_eq_11, n_ad_11, n_lt_12, n_le_12, n_tl_12, n_el_12, n_eq_12, n_ad_12, n_lt_13, n_le_13, n_tl_13, n_el_13, n_eq_13, n_ad_13, n_lt_15, n_le_15, n_tl_15, n_el_15, n_eq_15, n_ad_15, n_lt_20, n_le_20, n_tl_20, n_el_20, n_eq_20, n_ad_20, n_lt_30, n_le_30, n_tl_30, n_el_30, n_eq_30, n_ad_30, n_lt_31, n_le_31, n_tl_31, n_el_31, n_eq_31, n_ad_31, n_lt_32, n_le_32, n_tl_32, n_el_32, n_eq_32, n_ad_32, n_lt_60, n_le_60, n_tl_60, n_el_60, n_eq_60, n_ad_60, n_lt_99, n_le_99, n_tl_99, n_el_99, n_eq_99, n_ad_99, n_lt_100, n_le_100, n_tl_100, n_el_100, n_eq_100, n_ad_100, n_lt_144, n_le_144, n_tl_144, n_el_144, n_eq_144, n_ad_144, n_lt_4096, n_le_4096, n_tl_4096, n_el_4096, n_eq_4096, n_ad_4096, n_mulK, nI_add, pk_mul, n_lt, n_le, n_eq, n_eqM, n_ix, n_cl, e, if_true]
      · simp (disch := omega) only [u_s, upd_s, upd_n, h4, e]
        simp
    · refine ⟨ir_up (ir_up (ir_up (ir_up σ 30 3 (q3 + nI p)) 30 5 (q5 + 1)) 30 4 (nI (s &&& a))) 30 6 (σ 30 6 + 1), ?_, fun c hc => by rw [u_n _ _ _ hc, u_n _ _ _ hc, u_n _ _ _ hc, u_n _ _ _ hc], ?_⟩
      · simp (disch := omega) only [e17, s17_0, s17_1i, s17_1r, s17_2, s17_5, s17_6, s17_7, s17_10, s17_11i, s17_11r, s17_12, s17_15, s17_16, s17_17, s17_20, s17_21, s17_24, s17_25, s17_26, s17_27, s17_28, s17_31, s17_57, s17_34, s17_35, s17_36, s17_39, s17_42, s17_43, s17_44, s17_47, s17_48i, s17_48r, s17_49, s17_52, s17_53, s17_54, u_s, upd_s, upd_n, h2, h3, h4, h5, hand, n_lt_0, n_le_0, n_tl_0, n_el_0, n_eq_0, n_ad_0, n_lt_1, n_le_1, n_tl_1, n_el_1, n_eq_1, n_ad_1, n_lt_2, n_le_2, n_tl_2, n_el_2, n_eq_2, n_ad_2, n_lt_3, n_le_3, n_tl_3, n_el_3, n_eq_3, n_ad_3, n_lt_4, n_le_4, n_tl_4, n_el_4, n_eq_4, n_ad_4, n_lt_5, n_le_5, n_tl_5, n_el_5, n_eq_5, n_ad_5, n_lt_6, n_le_6, n_tl_6, n_el_6, n_eq_6, n_ad_6, n_lt_10, n_le_10, n_tl_10, n_el_10, n_eq_10, n_ad_10, n_lt_11, n_le_11, n_tl_11, n_el_11, n_eq_11, n_ad_11, n_lt_12, n_le_12, n_tl_12, n_el_12, n_eq_12, n_ad_12, n_lt_13, n_le_13, n_tl_13, n_el_13, n_eq_13, n_ad_13, n_lt_15, n_le_15, n_tl_15, n_el_15, n_eq_15, n_ad_15, n_lt_20, n_le_20, n_tl_20, n_el_20, n_eq_20, n_ad_20, n_lt_30, n_le_30, n_tl_30, n_el_30, n_eq_30, n_ad_30, n_lt_31, n_le_31, n_tl_31, n_el_31, n_eq_31, n_ad_31, n_lt_32, n_le_32, n_tl_32, n_el_32, n_eq_32, n_ad_32, n_lt_60, n_le_60, n_tl_60, n_el_60, n_eq_60, n_ad_60, n_lt_99, n_le_99, n_tl_99, n_el_99, n_eq_99, n_ad_99, n_lt_100, n_le_100, n_tl_100, n_el_100, n_eq_100, n_ad_100, n_lt_144, n_le_144, n_tl_144, n_el_144, n_eq_144, n_ad_144, n_lt_4096, n_le_4096, n_tl_4096, n_el_4096, n_eq_4096, n_ad_4096, n_mulK, nI_add, pk_mul, n_lt, n_le, n_eq, n_eqM, n_ix, n_cl, if_neg e, if_true]
      · simp (disch := omega) only [u_s, upd_s, upd_n]
        simp [e]
  · refine ⟨ir_up (ir_up σ 30 3 (q3 + nI p)) 30 5 (q5 + 1), ?_, fun c hc => by rw [u_n _ _ _ hc, u_n _ _ _ hc], ?_⟩
    · simp (disch := omega) only [e17, s17_0, s17_1i, s17_1r, s17_2, s17_5, s17_6, s17_7, s17_10, s17_11i, s17_11r, s17_12, s17_15, s17_16, s17_17, s17_20, s17_21, s17_24, s17_25, s17_26, s17_27, s17_28, s17_31, s17_57, s17_34, s17_35, s17_36, s17_39, s17_42, s17_43, s17_44, s17_47, s17_48i, s17_48r, s17_49, s17_52, s17_53, s17_54, u_s, upd_s, upd_n, h2, h3, h4, h5, hand, n_lt_0, n_le_0, n_tl_0, n_el_0, n_eq_0, n_ad_0, n_lt_1, n_le_1, n_tl_1, n_el_1, n_eq_1, n_ad_1, n_lt_2, n_le_2, n_tl_2, n_el_2, n_eq_2, n_ad_2, n_lt_3, n_le_3, n_tl_3, n_el_3, n_eq_3, n_ad_3, n_lt_4, n_le_4, n_tl_4, n_el_4, n_eq_4, n_ad_4, n_lt_5, n_le_5, n_tl_5, n_el_5, n_eq_5, n_ad_5, n_lt_6, n_le_6, n_tl_6, n_el_6, n_eq_6, n_ad_6, n_lt_10, n_le_10, n_tl_10, n_el_10, n_eq_10, n_ad_10, n_lt_11, n_le_11, n_tl_11, n_el_11, n_eq_11, n_ad_11, n_lt_12, n_le_12, n_tl_12, n_el_12, n_eq_12, n_ad_12, n_lt_13, n_le_13, n_tl_13, n_el_13, n_eq_13, n_ad_13, n_lt_15, n_le_15, n_tl_15, n_el_15, n_eq_15, n_ad_15, n_lt_20, n_le_20, n_tl_20, n_el_20, n_eq_20, n_ad_20, n_lt_30, n_le_30, n_tl_30, n_el_30, n_eq_30, n_ad_30, n_lt_31, n_le_31, n_tl_31, n_el_31, n_eq_31, n_ad_31, n_lt_32, n_le_32, n_tl_32, n_el_32, n_eq_32, n_ad_32, n_lt_60, n_le_60, n_tl_60, n_el_60, n_eq_60, n_ad_60, n_lt_99, n_le_99, n_tl_99, n_el_99, n_eq_99, n_ad_99, n_lt_100, n_le_100, n_tl_100, n_el_100, n_eq_100, n_ad_100, n_lt_144, n_le_144, n_tl_144, n_el_144, n_eq_144, n_ad_144, n_lt_4096, n_le_4096, n_tl_4096, n_el_4096, n_eq_4096, n_ad_4096, n_mulK, nI_add, pk_mul, n_lt, n_le, n_eq, n_eqM, n_ix, n_cl, if_neg e0]
    · simp (disch := omega) only [u_s, upd_s, upd_n, h4]
      simp [e0]
theorem p_use {d : Nat} {v : Int32} (h : RR σ) : PAIR d 96 175 [.int v] σ := by
  obtain ⟨N, m, F, C, K, LA, LB, r⟩ := h
  have hC := r.1.2.2.2.1.1
  have hK := r.1.2.2.2.2.1
  have h4 := pC hC
  have r0 := RA_frR (frR_33 (v := 0)) r
  have hE : isE σ 22 v = inr v (nI K) := by rw [isE_inr, r.1.2.2.2.2.2.1]
  rcases r.2.2.1 with ⟨h1, h2⟩ | ⟨h1, c, s, mm, hc, hs, hmm, l1, l2, l3, l4, l5, l6, l7, l8, l9, l10⟩
  · refine ⟨-2, σ, _, ?_, ?_, RR_of r0⟩
    · simp only [s96_0, e96, s96_1, s96_4, s96_7, s96_21, s96_23, g_f h1, ir_k_i, ir_tl_i, if_true]
    · simp (disch := omega) only [e175, s175_0, s175_1, s175_2, s175_5, s175_6, s175_9, s175_20, s175_22, u_s, upd_n, h2, m1_lt, if_true]
  have q34 : ¬ c < 0 := Nat.not_lt_zero _
  cases hv : inr v (nI K) with
  | false =>
    refine ⟨-2, σ, _, ?_, ?_, RR_of r0⟩
    · simp only [e96, s96_0, s96_1, s96_4, s96_7, s96_10, s96_11, s96_14, s96_15_18, s96_15_20, s96_15_22, s96_18, s96_21, s96_23, g_t h1, c2_22, hE, hv, ir_b_f, ir_k_i, ir_tl_i, i_10, if_true, if_false]
    · simp (disch := omega) only [e175, s175_0, s175_1, s175_2, s175_5, s175_6, s175_9, s175_12, s175_13, s175_14, s175_17, s175_20, s175_22, u_s, upd_n, l2, n_lt_0, n_le_0, n_tl_0, n_el_0, n_eq_0, n_ad_0, n_lt_1, n_le_1, n_tl_1, n_el_1, n_eq_1, n_ad_1, n_lt_2, n_le_2, n_tl_2, n_el_2, n_eq_2, n_ad_2, n_lt_3, n_le_3, n_tl_3, n_el_3, n_eq_3, n_ad_3, n_lt_4, n_le_4, n_tl_4, n_el_4, n_eq_4, n_ad_4, n_lt_5, n_le_5, n_tl_5, n_el_5, n_eq_5, n_ad_5, n_lt_6, n_le_6, n_tl_6, n_el_6, n_eq_6, n_ad_6, n_lt_10, n_le_10, n_tl_10, n_el_10, n_eq_10, n_ad_10, n_lt_11, n_le_11, n_tl_11, n_el_11, n_eq_11, n_ad_11, n_lt_12, n_le_12, n_tl_12, n_el_12, n_eq_12, n_ad_12, n_lt_13, n_le_13, n_tl_13, n_el_13, n_eq_13, n_ad_13, n_lt_15, n_le_15, n_tl_15, n_el_15, n_eq_15, n_ad_15, n_lt_20, n_le_20, n_tl_20, n_el_20, n_eq_20, n_ad_20, n_lt_30, n_le_30, n_tl_30, n_el_30, n_eq_30, n_ad_30, n_lt_31, n_le_31, n_tl_31, n_el_31, n_eq_31, n_ad_31, n_lt_32, n_le_32, n_tl_32, n_el_32, n_eq_32, n_ad_32, n_lt_60, n_le_60, n_tl_60, n_el_60, n_eq_60, n_ad_60, n_lt_99, n_le_99, n_tl_99, n_el_99, n_eq_99, n_ad_99, n_lt_100, n_le_100, n_tl_100, n_el_100, n_eq_100, n_ad_100, n_lt_144, n_le_144, n_tl_144, n_el_144, n_eq_144, n_ad_144, n_lt_4096, n_le_4096, n_tl_4096, n_el_4096, n_eq_4096, n_ad_4096, n_mulK, nI_add, pk_mul, n_lt, n_le, n_eq, n_eqM, n_ix, n_cl, q34, h26 r0.1.2.2.2.2.2.2.1 hK, hv, ir_b_f, ir_k_i, ir_tl_i, if_true, if_false]
  | true =>
    obtain ⟨l, hl, rfl⟩ := inr_nI (by omega) hv
    obtain ⟨σ1, a1, a2, a3, a4⟩ := prep (d := d + 43) r.1 r.2.2.2
    have r1 := RB_of (RA_frT a2 a3 a4 r)
    have e30 : σ1 30 = σ 30 := a2 30 (by omega)
    have e33 : σ1 33 = σ 33 := a2 33 (by omega)
    have hpr := PR0_ok r1.1 hl
    have k5 : ir_ev (d + 49) 5 [.ref 22, .int (nI l), .int 4] σ1 = some (some (.int (nI (PR0 σ1 l))), σ1) := by rw [← hpr.1]; exact c5_22 (f := 4) (by omega) (by decide)
    have k9 : ∀ (τ : ir_S), τ 30 1 = nI c → ir_ev (d + 49) 9 [.ref 30] τ = some (some (.int (nI c)), τ) := fun τ h => by rw [← h]; exact c9
    have k10 : ∀ (τ : ir_S), τ 30 2 = nI mm → ir_ev (d + 49) 10 [.ref 30] τ = some (some (.int (nI mm)), τ) := fun τ h => by rw [← h]; exact c10
    have t3 := a4.1.2.2.2.2.1 l c hl hc
    have k62 : ir_ev (d + 49) 62 [.ref 25, .int (nI l), .int (nI c)] σ1 = some (some (.int (nI (AL0 σ1 N m C l c))), σ1) := by rw [← t3.1]; exact c62 (by omega) (by omega)
    obtain ⟨σ2, b1, b2, b3, b4, b5, b6, b7, b8, b9, b10⟩ := c17 (σ := σ1) (d := d + 48) (p := PR0 σ1 l) (s := s) (a := AL0 σ1 N m C l c) (mm := mm) (by rw [e30]; exact l3) hmm (by rw [e30]; exact l6) (by omega) (by omega) rfl rfl
    have fb2 : frB σ1 σ2 := ⟨fun q hq => b2 q (by omega), fun k _ _ _ _ => by rw [b2 33 (by decide)]⟩
    have r2 := RB_frB fb2 r1
    obtain ⟨σ3, g1, g2⟩ := brk (d := d + 45) (c := nI c) (mm := nI mm) r2.1
    have r3 := RB_frB (frB_BR g2) r2
    have g8 := g2.2.2.2.2.2.2.2
    have hac := acts_c (mm := nI mm) r2.1.2.2.1 r2.1.2.2.2.1 hc
    obtain ⟨σ4, j1, j2⟩ := ask_11 (d := d + 44) r2.1 hac.2 hl (BR_VB g2) (g8 23 (by omega))
    have r4 := RB_frB (frB_17 j2) r3
    have ag24 : agS σ2 σ4 := agS_tr (agS_BR g2) (agS_17 j2)
    have ag14 : agS σ1 σ4 := agS_tr (agS_frB fb2) ag24
    -- the reference
    have w33 : σ4 33 = σ 33 := by rw [j2 33 (by decide) (by decide), g8 33 (by omega), b2 33 (by decide), e33]
    have w30 : σ4 30 = σ2 30 := by rw [j2 30 (by decide) (by decide), g8 30 (by omega)]
    have fb5 : frB σ4 (ir_up (ir_up (ir_up σ4 33 0 0) 33 36 (σ 33 36 + nI (PR0 σ1 l))) 33 37 (σ 33 37 + 1)) := frB_tr (frB_tr (frB_33 (by omega)) (frB_33 (by omega))) (frB_33 (by omega))
    have r40 := RB_frB (frB_33 (v := 0) (Or.inl rfl)) r4
    have x55 : σ4 55 l = nI (PR0 σ1 l) := by
      rw [(r4.1.2.2.2.2.2.2.2 l hl).2.2.2.2.1, (PR0_ok r4.1 hl).1, PR0_ag ag14]
    have v33 : ∀ k, (ir_up (ir_up (ir_up σ4 33 0 0) 33 36 (σ 33 36 + nI (PR0 σ1 l))) 33 37 (σ 33 37 + 1)) 33 k = upd (upd (upd (σ 33) 0 0) 36 (σ 33 36 + nI (PR0 σ1 l))) 37 (σ 33 37 + 1) k := by intro k; simp only [u_s, w33]
    have v30 : (ir_up (ir_up (ir_up σ4 33 0 0) 33 36 (σ 33 36 + nI (PR0 σ1 l))) 33 37 (σ 33 37 + 1)) 30 = σ2 30 := by rw [u_n _ _ _ (by decide), u_n _ _ _ (by decide), u_n _ _ _ (by decide), w30]
    have hl12 : l < 12 := by omega
    have hend : ∀ τ, RB τ N m F C K LA LB → agS σ4 τ → τ 30 = σ2 30 → τ 33 34 = nI c → τ 33 35 = nI mm → (∃ τ', ir_run (ir_ev (d + 49)) 175 (100, [.ref 33, .int (nI l), .null], [], τ) = some (some (.int (mLk σ2 N m (acts σ2 (nI c) (nI mm)) l)), τ') ∧ RB τ' N m F C K LA LB ∧ τ' 30 = σ2 30 ∧ ∀ k, k ≠ 20 → k ≠ 25 → τ' 33 k = τ 33 k) ∧ ∀ w, (∃ τ', ir_run (ir_ev (d + 49)) 175 (100, [.ref 33, .int (nI l), .int w], [], τ) = some (some (.int (mLk σ2 N m (acts σ2 (nI c) (nI mm)) l)), τ') ∧ RB τ' N m F C K LA LB ∧ τ' 30 = σ2 30 ∧ ∀ k, k ≠ 20 → k ≠ 25 → τ' 33 k = τ 33 k) := by
      intro τ rτ agτ t30 t34 t35
      obtain ⟨τ1, y1, y2, y3⟩ := brkM (d := d + 48) (mm := nI mm) rτ.1 hc
      have hacτ := acts_c (mm := nI mm) rτ.1.2.2.1 rτ.1.2.2.2.1 hc
      have rτ1 := RB_frB (frB_R (frR_5 y2)) rτ
      obtain ⟨τ2, x1, x2⟩ := askM (d := d + 41) rτ1.1 hacτ.2 y3 hl
      have ag2 : agS σ2 τ := agS_tr ag24 agτ
      rw [mLk_ag (agS_ag5 y2), mLk_ag ag2, acts_ag ag2] at x1
      have fin := RB_frB (frB_R (frR_3 x2)) rτ1
      have f30 : τ2 30 = σ2 30 := by rw [x2.1 30 (by decide) (by decide) (by decide), y2.1 30 (by decide) (by decide), t30]
      have f33 : ∀ k, k ≠ 20 → k ≠ 25 → τ2 33 k = τ 33 k := fun k q1 q2 => by rw [x2.2 k q2, y2.2 k q1]
      refine ⟨⟨τ2, ?_, fin, f30, f33⟩, fun w => ⟨τ2, ?_, fin, f30, f33⟩⟩
      · simp only [s175_100, s175_101, s175_102, s175_105, s175_106, s175_109, s175_112, s175_113, s175_114, s175_117, t34, t35, y1, x1, ir_k_v, ir_tl_v, ir_k_i, ir_tl_i]
      · simp only [s175_100, s175_101, s175_102, s175_105, s175_106, s175_109, s175_112, s175_113, s175_114, s175_117, t34, t35, y1, x1, ir_k_v, ir_tl_v, ir_k_i, ir_tl_i]
    have r5 := RB_frB fb5 r4
    have cls : ir_ev (d + 50) 96 [.ref 0, .int (nI l)] σ = some (some (.int (mLk σ2 N m (acts σ2 (nI c) (nI mm)) l)), σ4) := by
      simp only [e96, s96_0, s96_1, s96_4, s96_7, s96_10, s96_11, s96_14, s96_15_18, s96_15_20, s96_15_22, s96_18, s96_24, s96_25, s96_28, s96_29, s96_32, s96_33, s96_36, s96_37, s96_38_18, s96_38_20, s96_38_22, s96_41, s96_42, s96_45, s96_46, s96_47, s96_50, s96_53, s96_56, s96_59, s96_60, s96_61, s96_64, s96_67, s96_68, s96_71, s96_74, s96_77, s96_78, s96_81, s96_82, s96_83, s96_86, s96_89, g_t h1, c2_22, hE, hv, a1, k5, k9 σ1 (by rw [e30]; exact l1), k62, b1, k9 σ2 (by rw [b4, e30]; exact l1), k10 σ2 (by rw [b5, e30]; exact l3), g1, j1, ir_b_t, ir_k_i, ir_tl_i, ir_k_v, ir_tl_v, i_10, if_false]
    have hst := h26 (d := d + 47) (v := nI l) r40.1.2.2.2.2.2.2.1 hK
    rw [hv] at hst
    by_cases e0 : mm = 0
    · subst e0
      obtain ⟨σ5, p1, p2, p3⟩ := asks (d := d + 40) r5.1
      have r6 := RB_frB (frB_R p2) r5
      have ht := TM_of r5.1 p2 p3
      have k161 := m161 (d := d + 48) (s := s) ht hl (by omega) hc
      have eA : s &&& alN (an0 (ir_up (ir_up (ir_up σ4 33 0 0) 33 36 (σ 33 36 + nI (PR0 σ1 l))) 33 37 (σ 33 37 + 1)) N m l) C c = s &&& AL0 σ1 N m C l c := by
        rw [← AL0_ag ag14, ← AL0_ag (agS_frB fb5)]
        rfl
      rw [eA] at k161
      have x33 : ∀ k, k ≠ 0 → k ≠ 20 → k ≠ 25 → σ5 33 k = upd (upd (upd (σ 33) 0 0) 36 (σ 33 36 + nI (PR0 σ1 l))) 37 (σ 33 37 + 1) k := fun k q1 q2 q3 => by rw [p2.2 k q1 q2 q3, v33]
      have x34 : σ5 33 34 = nI c := by rw [x33 34 (by decide) (by decide) (by decide), upd_n _ _ (by decide), upd_n _ _ (by decide), upd_n _ _ (by decide)]; exact l2
      have x35 : σ5 33 35 = nI 0 := by rw [x33 35 (by decide) (by decide) (by decide), upd_n _ _ (by decide), upd_n _ _ (by decide), upd_n _ _ (by decide)]; exact l4
      have x38 : σ5 33 38 = σ 33 38 := by rw [x33 38 (by decide) (by decide) (by decide), upd_n _ _ (by decide), upd_n _ _ (by decide), upd_n _ _ (by decide)]
      have x40 : σ5 33 40 = nI s := by rw [x33 40 (by decide) (by decide) (by decide), upd_n _ _ (by decide), upd_n _ _ (by decide), upd_n _ _ (by decide)]; exact l7
      have x30 : σ5 30 = σ2 30 := by rw [p2.1 30 (by decide) (by decide) (by decide) (by decide) (by decide) (by decide), v30]
      have hand4 : s &&& AL0 σ1 N m C l c < 4096 := and_lt (by omega)
      have hle : s &&& AL0 σ1 N m C l c ≤ s := Nat.and_le_left
      have fb6 : frB σ5 (ir_up (ir_up σ5 33 38 (if s &&& AL0 σ1 N m C l c ≠ s then σ 33 38 + 1 else σ 33 38)) 33 40 (nI (s &&& AL0 σ1 N m C l c))) := frB_tr (frB_33 (by omega)) (frB_33 (by omega))
      have r7 := RB_frB fb6 r6
      have ag7 : agS σ4 (ir_up (ir_up σ5 33 38 (if s &&& AL0 σ1 N m C l c ≠ s then σ 33 38 + 1 else σ 33 38)) 33 40 (nI (s &&& AL0 σ1 N m C l c))) := agS_tr (agS_tr (agS_frB fb5) (agS_frR p2)) (agS_frB fb6)
      obtain ⟨τ', z1, z2, z3, z4⟩ := (hend _ r7 ag7 (by rw [u_n _ _ _ (by decide), u_n _ _ _ (by decide), x30]) (by rw [u_s, upd_n _ _ (by decide), u_s, upd_n _ _ (by decide)]; exact x34) (by rw [u_s, upd_n _ _ (by decide), u_s, upd_n _ _ (by decide)]; exact x35)).2 (nI (s &&& AL0 σ1 N m C l c))
      refine ⟨_, σ4, τ', cls, ?_, RR_of (RA_of z2 (Or.inr ?_))⟩
      · have hi0 : (nI 0 = (0 : Int32)) := rfl
        by_cases e : s &&& AL0 σ1 N m C l c = s
        · have hz : (ir_up (ir_up σ5 33 38 (if s &&& AL0 σ1 N m C l c ≠ s then σ 33 38 + 1 else σ 33 38)) 33 40 (nI (s &&& AL0 σ1 N m C l c))) = (ir_up (ir_up σ5 33 38 (σ 33 38)) 33 40 (nI s)) := by rw [e, if_neg (fun q => q rfl)]
          rw [hz, e] at z1
          rw [e] at k161
          simp (disch := omega) only [e175, s175_0, s175_1, s175_2, s175_5, s175_6, s175_9, s175_12, s175_13, s175_14, s175_17, s175_23, s175_24i, s175_24r, s175_25, s175_28, s175_29, s175_32, s175_33, s175_34, s175_35, s175_38, s175_39i, s175_39r, s175_40, s175_43, s175_44, s175_45, s175_48, s175_49, s175_52, s175_55, s175_56, s175_59, s175_60, s175_61, s175_62, s175_65, s175_66, s175_69, s175_72, s175_73, s175_74i, s175_74r, s175_75, s175_78, s175_79, s175_80, s175_83, s175_90, s175_91, s175_92, s175_95, s175_96, s175_97, xA55, xL55, xa55, u_s, upd_s, upd_n, u_n, w33, l2, l4, hi0, n_lt_0, n_le_0, n_tl_0, n_el_0, n_eq_0, n_ad_0, n_lt_1, n_le_1, n_tl_1, n_el_1, n_eq_1, n_ad_1, n_lt_2, n_le_2, n_tl_2, n_el_2, n_eq_2, n_ad_2, n_lt_3, n_le_3, n_tl_3, n_el_3, n_eq_3, n_ad_3, n_lt_4, n_le_4, n_tl_4, n_el_4, n_eq_4, n_ad_4, n_lt_5, n_le_5, n_tl_5, n_el_5, n_eq_5, n_ad_5, n_lt_6, n_le_6, n_tl_6, n_el_6, n_eq_6, n_ad_6, n_lt_10, n_le_10, n_tl_10, n_el_10, n_eq_10, n_ad_10, n_lt_11, n_le_11, n_tl_11, n_el_11, n_eq_11, n_ad_11, n_lt_12, n_le_12, n_tl_12, n_el_12, n_eq_12, n_ad_12, n_lt_13, n_le_13, n_tl_13, n_el_13, n_eq_13, n_ad_13, n_lt_15, n_le_15, n_tl_15, n_el_15, n_eq_15, n_ad_15, n_lt_20, n_le_20, n_tl_20, n_el_20, n_eq_20, n_ad_20, n_lt_30, n_le_30, n_tl_30, n_el_30, n_eq_30, n_ad_30, n_lt_31, n_le_31, n_tl_31, n_el_31, n_eq_31, n_ad_31, n_lt_32, n_le_32, n_tl_32, n_el_32, n_eq_32, n_ad_32, n_lt_60, n_le_60, n_tl_60, n_el_60, n_eq_60, n_ad_60, n_lt_99, n_le_99, n_tl_99, n_el_99, n_eq_99, n_ad_99, n_lt_100, n_le_100, n_tl_100, n_el_100, n_eq_100, n_ad_100, n_lt_144, n_le_144, n_tl_144, n_el_144, n_eq_144, n_ad_144, n_lt_4096, n_le_4096, n_tl_4096, n_el_4096, n_eq_4096, n_ad_4096, n_mulK, nI_add, pk_mul, n_lt, n_le, n_eq, n_eqM, n_ix, n_cl, q34, hl12, x55, hst, ir_b_t, ir_k_i, ir_tl_i, ir_k_v, ir_tl_v, i_10, if_true, if_false, decide_true, p1, x40, x34, x38, k161, Int32.add_zero]
          exact z1
        · have hz : (ir_up (ir_up σ5 33 38 (if s &&& AL0 σ1 N m C l c ≠ s then σ 33 38 + 1 else σ 33 38)) 33 40 (nI (s &&& AL0 σ1 N m C l c))) = (ir_up (ir_up σ5 33 38 (σ 33 38 + 1)) 33 40 (nI (s &&& AL0 σ1 N m C l c))) := by rw [if_pos e]
          rw [hz] at z1
          simp (disch := omega) only [e175, s175_0, s175_1, s175_2, s175_5, s175_6, s175_9, s175_12, s175_13, s175_14, s175_17, s175_23, s175_24i, s175_24r, s175_25, s175_28, s175_29, s175_32, s175_33, s175_34, s175_35, s175_38, s175_39i, s175_39r, s175_40, s175_43, s175_44, s175_45, s175_48, s175_49, s175_52, s175_55, s175_56, s175_59, s175_60, s175_61, s175_62, s175_65, s175_66, s175_69, s175_72, s175_73, s175_74i, s175_74r, s175_75, s175_78, s175_79, s175_80, s175_83, s175_86, s175_87, s175_91, s175_92, s175_95, s175_96, s175_97, xA55, xL55, xa55, u_s, upd_s, upd_n, u_n, w33, l2, l4, hi0, n_lt_0, n_le_0, n_tl_0, n_el_0, n_eq_0, n_ad_0, n_lt_1, n_le_1, n_tl_1, n_el_1, n_eq_1, n_ad_1, n_lt_2, n_le_2, n_tl_2, n_el_2, n_eq_2, n_ad_2, n_lt_3, n_le_3, n_tl_3, n_el_3, n_eq_3, n_ad_3, n_lt_4, n_le_4, n_tl_4, n_el_4, n_eq_4, n_ad_4, n_lt_5, n_le_5, n_tl_5, n_el_5, n_eq_5, n_ad_5, n_lt_6, n_le_6, n_tl_6, n_el_6, n_eq_6, n_ad_6, n_lt_10, n_le_10, n_tl_10, n_el_10, n_eq_10, n_ad_10, n_lt_11, n_le_11, n_tl_11, n_el_11, n_eq_11, n_ad_11, n_lt_12, n_le_12, n_tl_12, n_el_12, n_eq_12, n_ad_12, n_lt_13, n_le_13, n_tl_13, n_el_13, n_eq_13, n_ad_13, n_lt_15, n_le_15, n_tl_15, n_el_15, n_eq_15, n_ad_15, n_lt_20, n_le_20, n_tl_20, n_el_20, n_eq_20, n_ad_20, n_lt_30, n_le_30, n_tl_30, n_el_30, n_eq_30, n_ad_30, n_lt_31, n_le_31, n_tl_31, n_el_31, n_eq_31, n_ad_31, n_lt_32, n_le_32, n_tl_32, n_el_32, n_eq_32, n_ad_32, n_lt_60, n_le_60, n_tl_60, n_el_60, n_eq_60, n_ad_60, n_lt_99, n_le_99, n_tl_99, n_el_99, n_eq_99, n_ad_99, n_lt_100, n_le_100, n_tl_100, n_el_100, n_eq_100, n_ad_100, n_lt_144, n_le_144, n_tl_144, n_el_144, n_eq_144, n_ad_144, n_lt_4096, n_le_4096, n_tl_4096, n_el_4096, n_eq_4096, n_ad_4096, n_mulK, nI_add, pk_mul, n_lt, n_le, n_eq, n_eqM, n_ix, n_cl, q34, hl12, x55, hst, ir_b_t, ir_k_i, ir_tl_i, ir_k_v, ir_tl_v, i_10, if_true, if_false, decide_true, p1, x40, x34, x38, k161, if_neg e]
          exact z1
      · have y33 : ∀ k, k ≠ 0 → k ≠ 20 → k ≠ 25 → τ' 33 k = upd (upd (upd (upd (upd (σ 33) 0 0) 36 (σ 33 36 + nI (PR0 σ1 l))) 37 (σ 33 37 + 1)) 38 (if s &&& AL0 σ1 N m C l c ≠ s then σ 33 38 + 1 else σ 33 38)) 40 (nI (s &&& AL0 σ1 N m C l c)) k := fun k q1 q2 q3 => by
          rw [z4 k q2 q3, u_s]
          unfold upd
          by_cases c40 : k = 40
          · simp [c40]
          · rw [if_neg c40, if_neg c40, u_s]
            unfold upd
            by_cases c38 : k = 38
            · simp [c38]
            · rw [if_neg c38, if_neg c38]
              exact x33 k q1 q2 q3
        rw [z3, y33 34 (by decide) (by decide) (by decide), y33 35 (by decide) (by decide) (by decide), y33 36 (by decide) (by decide) (by decide), y33 37 (by decide) (by decide) (by decide), y33 38 (by decide) (by decide) (by decide), y33 39 (by decide) (by decide) (by decide), y33 40 (by decide) (by decide) (by decide)]
        simp (disch := omega) only [upd_s, upd_n, b3, b4, b5, b6, b7, b8, b9, b10, e30]
        refine ⟨h1, c, s &&& AL0 σ1 N m C l c, 0, hc, by omega, by omega, l1, l2, l3, l4, by rw [l5], by simp, rfl, by rw [l8], ?_, l10⟩
        rw [l9]
        simp
    · have x34 : (ir_up (ir_up (ir_up σ4 33 0 0) 33 36 (σ 33 36 + nI (PR0 σ1 l))) 33 37 (σ 33 37 + 1)) 33 34 = nI c := by rw [v33, upd_n _ _ (by decide), upd_n _ _ (by decide), upd_n _ _ (by decide)]; exact l2
      have x35 : (ir_up (ir_up (ir_up σ4 33 0 0) 33 36 (σ 33 36 + nI (PR0 σ1 l))) 33 37 (σ 33 37 + 1)) 33 35 = nI mm := by rw [v33, upd_n _ _ (by decide), upd_n _ _ (by decide), upd_n _ _ (by decide)]; exact l4
      obtain ⟨τ', z1, z2, z3, z4⟩ := (hend _ r5 (agS_frB fb5) v30 x34 x35).1
      refine ⟨_, σ4, τ', cls, ?_, RR_of (RA_of z2 (Or.inr ?_))⟩
      · simp (disch := omega) only [e175, s175_0, s175_1, s175_2, s175_5, s175_6, s175_9, s175_12, s175_13, s175_14, s175_17, s175_23, s175_24i, s175_24r, s175_25, s175_28, s175_29, s175_32, s175_33, s175_34, s175_35, s175_38, s175_39i, s175_39r, s175_40, s175_43, s175_44, s175_45, s175_48, s175_49, s175_52, xA55, xL55, xa55, u_s, upd_s, upd_n, u_n, w33, l2, l4, n_lt_0, n_le_0, n_tl_0, n_el_0, n_eq_0, n_ad_0, n_lt_1, n_le_1, n_tl_1, n_el_1, n_eq_1, n_ad_1, n_lt_2, n_le_2, n_tl_2, n_el_2, n_eq_2, n_ad_2, n_lt_3, n_le_3, n_tl_3, n_el_3, n_eq_3, n_ad_3, n_lt_4, n_le_4, n_tl_4, n_el_4, n_eq_4, n_ad_4, n_lt_5, n_le_5, n_tl_5, n_el_5, n_eq_5, n_ad_5, n_lt_6, n_le_6, n_tl_6, n_el_6, n_eq_6, n_ad_6, n_lt_10, n_le_10, n_tl_10, n_el_10, n_eq_10, n_ad_10, n_lt_11, n_le_11, n_tl_11, n_el_11, n_eq_11, n_ad_11, n_lt_12, n_le_12, n_tl_12, n_el_12, n_eq_12, n_ad_12, n_lt_13, n_le_13, n_tl_13, n_el_13, n_eq_13, n_ad_13, n_lt_15, n_le_15, n_tl_15, n_el_15, n_eq_15, n_ad_15, n_lt_20, n_le_20, n_tl_20, n_el_20, n_eq_20, n_ad_20, n_lt_30, n_le_30, n_tl_30, n_el_30, n_eq_30, n_ad_30, n_lt_31, n_le_31, n_tl_31, n_el_31, n_eq_31, n_ad_31, n_lt_32, n_le_32, n_tl_32, n_el_32, n_eq_32, n_ad_32, n_lt_60, n_le_60, n_tl_60, n_el_60, n_eq_60, n_ad_60, n_lt_99, n_le_99, n_tl_99, n_el_99, n_eq_99, n_ad_99, n_lt_100, n_le_100, n_tl_100, n_el_100, n_eq_100, n_ad_100, n_lt_144, n_le_144, n_tl_144, n_el_144, n_eq_144, n_ad_144, n_lt_4096, n_le_4096, n_tl_4096, n_el_4096, n_eq_4096, n_ad_4096, n_mulK, nI_add, pk_mul, n_lt, n_le, n_eq, n_eqM, n_ix, n_cl, q34, hl12, x55, hst, ir_b_t, ir_k_i, ir_tl_i, ir_k_v, ir_tl_v, i_10, if_true, if_false, decide_true, if_neg e0]
        exact z1
      · rw [z3, z4 34 (by decide) (by decide), z4 35 (by decide) (by decide), z4 36 (by decide) (by decide), z4 37 (by decide) (by decide), z4 38 (by decide) (by decide), z4 39 (by decide) (by decide), z4 40 (by decide) (by decide)]
        simp (disch := omega) only [v33, upd_s, upd_n, b3, b4, b5, b6, b7, b8, b9, b10, e30]
        refine ⟨h1, c, s, mm, hc, hs, hmm, l1, l2, l3, l4, by rw [l5], by simp [e0], l7, by rw [l8], ?_, l10⟩
        rw [l9]
        simp [e0]
end LT
