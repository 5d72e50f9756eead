/-! cause, fault, look -/
section CFL
variable {σ σ' : ir_S} {N m F C K : Nat} {LA LB : Nat → Nat}
theorem c110 {d : Nat} {v : Int32} (h : ¬ v = -1) : ir_ev (d + 3) 110 [.ref 0, .int v] σ = some (some (.int v), ir_up (ir_up σ 25 6 0) 30 0 0) := by
  simp only [e110, s110_0, s110_1, s110_2, s110_9, s110_5, s110_10, s110_6, if_neg h, c111, ir_k_v, ir_tl_v]
theorem c110m {d : Nat} : ir_ev (d + 3) 110 [.ref 0, .int (-1)] σ = some (some (.int (-1)), σ) := by
  simp only [e110, s110_0, s110_1, s110_2, s110_9, s110_5, s110_10, s110_6, if_true]
theorem cfl_ne {n : Nat} {c : Nat} (hc : c < n) : c * 5 + 1 ≠ n * 5 ∧ c * 5 + 1 ≠ n * 5 + 1 ∧ c * 5 + 1 ≠ n * 5 + 2 ∧ c * 5 + 1 ≠ n * 5 + 3 ∧ c * 5 + 1 ≠ n * 5 + 4 := by omega
/-- a row of five numbers more -/
def ent (σ : ir_S) (e n : Nat) (k a b c p : Int32) : ir_S := ir_up (ir_up (ir_up (ir_up (ir_up (ir_up σ (e + 1) (n * 5) k) (e + 1) (n * 5 + 1) a) (e + 1) (n * 5 + 2) b) (e + 1) (n * 5 + 3) c) (e + 1) (n * 5 + 4) p) e 1 (nI (n + 1))
theorem ent_n {e n q : Nat} {k a b c p : Int32} (h1 : q ≠ e) (h2 : q ≠ e + 1) : ent σ e n k a b c p q = σ q := by
  unfold ent
  rw [u_n _ _ _ h1, u_n _ _ _ h2, u_n _ _ _ h2, u_n _ _ _ h2, u_n _ _ _ h2, u_n _ _ _ h2]
theorem ent_e {e n : Nat} {k a b c p : Int32} : ent σ e n k a b c p e 1 = nI (n + 1) := by
  unfold ent
  rw [u_s, upd_s]
theorem ent_o {e n i f : Nat} {k a b c p : Int32} (hi : i < n) (hf : f < 5) : ent σ e n k a b c p (e + 1) (i * 5 + f) = σ (e + 1) (i * 5 + f) := by
  unfold ent
  rw [u_n _ _ _ (by omega), u_s, upd_n _ _ (by omega), u_s, upd_n _ _ (by omega), u_s, upd_n _ _ (by omega), u_s, upd_n _ _ (by omega), u_s, upd_n _ _ (by omega)]
theorem ent_0 {e n : Nat} {k a b c p : Int32} : ent σ e n k a b c p (e + 1) (n * 5) = k := by
  unfold ent
  rw [u_n _ _ _ (by omega), u_s, upd_n _ _ (by omega), u_s, upd_n _ _ (by omega), u_s, upd_n _ _ (by omega), u_s, upd_n _ _ (by omega), u_s, upd_s]
theorem ent_1 {e n : Nat} {k a b c p : Int32} : ent σ e n k a b c p (e + 1) (n * 5 + 1) = a := by
  unfold ent
  rw [u_n _ _ _ (by omega), u_s, upd_n _ _ (by omega), u_s, upd_n _ _ (by omega), u_s, upd_n _ _ (by omega), u_s, upd_s]
theorem ent_2 {e n : Nat} {k a b c p : Int32} : ent σ e n k a b c p (e + 1) (n * 5 + 2) = b := by
  unfold ent
  rw [u_n _ _ _ (by omega), u_s, upd_n _ _ (by omega), u_s, upd_n _ _ (by omega), u_s, upd_s]
theorem ent_3 {e n : Nat} {k a b c p : Int32} : ent σ e n k a b c p (e + 1) (n * 5 + 3) = c := by
  unfold ent
  rw [u_n _ _ _ (by omega), u_s, upd_n _ _ (by omega), u_s, upd_s]
theorem ent_4 {e n : Nat} {k a b c p : Int32} : ent σ e n k a b c p (e + 1) (n * 5 + 4) = p := by
  unfold ent
  rw [u_n _ _ _ (by omega), u_s, upd_s]
theorem p_cause {d : Nat} {v w : Int32} (h : RR σ) : PAIR d 85 146 [.int v, .int w] σ := by
  obtain ⟨N, m, F, C, K, LA, LB, r⟩ := h
  have hF := r.1.2.2.1.1
  have hC := r.1.2.2.2.1.1
  have r0 := RA_frR (frR_33 (v := 0)) r
  have e12 := r0.1.2.2.1.2.2.1
  have hE : ∀ x, isE σ 18 x = inr x (nI F) := fun x => by rw [isE_inr, r.1.2.2.1.2.1]
  cases hv : inr v (nI F) with
  | false =>
    refine ⟨-1, σ, _, ?_, ?_, RR_of r0⟩
    · simp only [e85, s85_0, s85_1, s85_4, s85_5_18, s85_5_20, s85_5_22, s85_8, s85_36, s85_37, s85_38, s85_39, s85_61, s85_62, c2_18, hE, hv, ir_b_f, ir_k_i, ir_tl_i, if_true]
    · simp only [e146, s146_0, s146_1, s146_2, s146_5, s146_6, s146_7, s146_10, s146_40, s146_41, h12 e12 hF, hv, ir_b_f, ir_k_i, ir_tl_i, if_true]
  | true =>
    by_cases hvw : v = w
    · refine ⟨-1, σ, _, ?_, ?_, RR_of r0⟩
      · simp only [e85, s85_0, s85_1, s85_4, s85_5_18, s85_5_20, s85_5_22, s85_8, s85_11, s85_12, s85_13, s85_36, s85_37, s85_38, s85_39, s85_61, s85_62, c2_18, hE, hv, if_pos hvw, ir_b_t, ir_k_i, ir_tl_i, i_10, if_true, if_false]
      · subst hvw
        obtain ⟨f, hf, rfl⟩ := inr_nI (by omega) hv
        have hne := oI_m1 (b := f) (by omega)
        simp only [e146, s146_0, s146_1, s146_2, s146_5, s146_6, s146_7, s146_10, s146_13, s146_14, s146_15, s146_18, s146_19, s146_20, s146_23, s146_26, s146_27, s146_28, s146_40, s146_41, h12 e12 hF, hv, if_neg hne, ir_b_t, ir_k_i, ir_tl_i, i_10, if_true, if_false]
    · by_cases hok : w = -1 ∨ inr w (nI F) = true
      · have hcl : ∀ z : Option ir_R, ir_run (ir_ev (d + 49)) 85 (42, [.ref 0, .int v, .int w, .int 1], [], σ) = z → ir_ev (d + 50) 85 [.ref 0, .int v, .int w] σ = z := by
          intro z hz
          by_cases zm : w = -1
          · simp only [e85, s85_0, s85_1, s85_4, s85_5_18, s85_5_20, s85_5_22, s85_8, s85_11, s85_12, s85_13, s85_16, s85_17, s85_18, s85_32, s85_33, s85_37, s85_38, s85_39, c2_18, hE, hv, if_neg hvw, if_pos zm, ir_b_t, ir_k_i, ir_tl_i, i_10, if_false]
            exact hz
          · have zz : inr w (nI F) = true := by
              rcases hok with q | q
              · exact absurd q zm
              · exact q
            simp only [e85, s85_0, s85_1, s85_4, s85_5_18, s85_5_20, s85_5_22, s85_8, s85_11, s85_12, s85_13, s85_16, s85_17, s85_18, s85_21, s85_22, s85_25, s85_26_18, s85_26_20, s85_26_22, s85_29, s85_32, s85_33, s85_37, s85_38, s85_39, c2_18, hE, hv, zz, if_neg hvw, if_neg zm, ir_b_t, ir_k_i, ir_tl_i, i_10, if_false]
            exact hz
        have hrf : ∀ (τ : ir_S) (z : Option ir_R), τ 33 12 = nI F → ir_run (ir_ev (d + 49)) 146 (31, [.ref 33, .int v, .int w], [], ir_up τ 33 0 0) = z → ir_ev (d + 50) 146 [.ref 33, .int v, .int w] τ = z := by
          intro τ z hτ hz
          have hτ2 : (ir_up τ 33 0 0) 33 12 = nI F := by rw [u_s, upd_n _ _ (by decide)]; exact hτ
          by_cases zm : w = -1
          · simp only [e146, s146_0, s146_1, s146_2, s146_5, s146_6, s146_7, s146_10, s146_13, s146_14, s146_15, s146_26, s146_27, s146_28, h12 hτ2 hF, hv, if_pos zm, if_neg hvw, ir_b_t, ir_k_i, ir_tl_i, i_10, if_false]
            exact hz
          · have zz : inr w (nI F) = true := by
              rcases hok with q | q
              · exact absurd q zm
              · exact q
            simp only [e146, s146_0, s146_1, s146_2, s146_5, s146_6, s146_7, s146_10, s146_13, s146_14, s146_15, s146_18, s146_19, s146_20, s146_23, s146_26, s146_27, s146_28, h12 hτ2 hF, hv, zz, if_neg zm, if_neg hvw, ir_b_t, ir_k_i, ir_tl_i, i_10, if_false]
            exact hz
        by_cases hfull : C = 12
        · refine ⟨-1, σ, _, hcl _ ?_, hrf _ _ r.1.2.2.1.2.2.1 ?_, RR_of r0⟩
          · have k4 := c4f_20 (d := d + 48) (k := 0) (a := v) (b := w) (c := 0) (p := 0) r.1.2.2.2.1.2.1 (by omega) (by omega)
            simp only [s85_42, s85_43, s85_44, s85_47, s85_48, s85_49, s85_50, s85_51, s85_52_18, s85_52_20, s85_52_22, s85_55, s85_58, s85_62, k4, c110m, ir_k_i, ir_tl_i]
          · have e17 : (ir_up σ 33 0 0) 33 17 = nI C := r0.1.2.2.2.1.2.2.1
            simp (disch := omega) only [s146_31, s146_32, s146_35, s146_37, s146_40, s146_41, e17, n_lt_0, n_le_0, n_tl_0, n_el_0, n_eq_0, n_ad_0, n_lt_1, n_le_1, n_tl_1, n_el_1, n_eq_1, n_ad_1, n_lt_2, n_le_2, n_tl_2, n_el_2, n_eq_2, n_ad_2, n_lt_3, n_le_3, n_tl_3, n_el_3, n_eq_3, n_ad_3, n_lt_4, n_le_4, n_tl_4, n_el_4, n_eq_4, n_ad_4, n_lt_5, n_le_5, n_tl_5, n_el_5, n_eq_5, n_ad_5, n_lt_6, n_le_6, n_tl_6, n_el_6, n_eq_6, n_ad_6, n_lt_10, n_le_10, n_tl_10, n_el_10, n_eq_10, n_ad_10, n_lt_11, n_le_11, n_tl_11, n_el_11, n_eq_11, n_ad_11, n_lt_12, n_le_12, n_tl_12, n_el_12, n_eq_12, n_ad_12, n_lt_13, n_le_13, n_tl_13, n_el_13, n_eq_13, n_ad_13, n_lt_15, n_le_15, n_tl_15, n_el_15, n_eq_15, n_ad_15, n_lt_20, n_le_20, n_tl_20, n_el_20, n_eq_20, n_ad_20, n_lt_30, n_le_30, n_tl_30, n_el_30, n_eq_30, n_ad_30, n_lt_31, n_le_31, n_tl_31, n_el_31, n_eq_31, n_ad_31, n_lt_32, n_le_32, n_tl_32, n_el_32, n_eq_32, n_ad_32, n_lt_60, n_le_60, n_tl_60, n_el_60, n_eq_60, n_ad_60, n_lt_99, n_le_99, n_tl_99, n_el_99, n_eq_99, n_ad_99, n_lt_100, n_le_100, n_tl_100, n_el_100, n_eq_100, n_ad_100, n_lt_144, n_le_144, n_tl_144, n_el_144, n_eq_144, n_ad_144, n_lt_4096, n_le_4096, n_tl_4096, n_el_4096, n_eq_4096, n_ad_4096, n_mulK, nI_add, pk_mul, n_lt, n_le, n_eq, n_eqM, n_ix, n_cl, hfull, if_true]
        · have hC12 : C < 12 := by omega
          have k4 := c4_20 (d := d + 48) (k := 0) (a := v) (b := w) (c := 0) (p := 0) r.1.2.2.2.1.2.1 hC12
          have k4 : ir_ev (d + 49) 4 [.ref 20, .int 0, .int v, .int w, .int 0, .int 0] σ = some (some (.int (nI C)), ent σ 20 C 0 v w 0 0) := k4
          have hne := oI_m1 (b := C) (by omega)
          have en : ∀ q, q ≠ 20 → q ≠ 21 → q ≠ 25 → q ≠ 30 → (ir_up (ir_up (ent σ 20 C 0 v w 0 0) 25 6 0) 30 0 0) q = σ q := fun q a b c e => by rw [u_n _ _ _ e, u_n _ _ _ c, ent_n a b]
          have e20 : (ir_up (ir_up (ent σ 20 C 0 v w 0 0) 25 6 0) 30 0 0) 20 1 = nI (C + 1) := by rw [u_n _ _ _ (by decide), u_n _ _ _ (by decide)]; exact ent_e
          have e21o : ∀ i f, i < C → f < 5 → (ir_up (ir_up (ent σ 20 C 0 v w 0 0) 25 6 0) 30 0 0) 21 (i * 5 + f) = σ 21 (i * 5 + f) := fun i f hi hf => by rw [u_n _ _ _ (by decide), u_n _ _ _ (by decide)]; exact ent_o hi hf
          have e211 : (ir_up (ir_up (ent σ 20 C 0 v w 0 0) 25 6 0) 30 0 0) 21 (C * 5 + 1) = v := by rw [u_n _ _ _ (by decide), u_n _ _ _ (by decide)]; exact ent_1
          have e212 : (ir_up (ir_up (ent σ 20 C 0 v w 0 0) 25 6 0) 30 0 0) 21 (C * 5 + 2) = w := by rw [u_n _ _ _ (by decide), u_n _ _ _ (by decide)]; exact ent_2
          have e25 : (ir_up (ir_up (ent σ 20 C 0 v w 0 0) 25 6 0) 30 0 0) 25 6 = 0 := by rw [u_n _ _ _ (by decide), u_s, upd_s]
          have e30 : (ir_up (ir_up (ent σ 20 C 0 v w 0 0) 25 6 0) 30 0 0) 30 0 = 0 := by rw [u_s, upd_s]
          have hc1 : ir_ev (d + 50) 85 [.ref 0, .int v, .int w] σ = some (some (.int (nI C)), ir_up (ir_up (ent σ 20 C 0 v w 0 0) 25 6 0) 30 0 0) := by
            apply hcl
            simp only [s85_42, s85_43, s85_44, s85_47, s85_48, s85_49, s85_50, s85_51, s85_52_18, s85_52_20, s85_52_22, s85_55, s85_58, s85_62, k4, c110 hne, ir_k_i, ir_tl_i]
          generalize (ir_up (ir_up (ent σ 20 C 0 v w 0 0) 25 6 0) 30 0 0) = τ at *
          have e33 : τ 33 = σ 33 := en 33 (by decide) (by decide) (by decide) (by decide)
          have x17 : σ 33 17 = nI C := r.1.2.2.2.1.2.2.1
          have hn : ∀ q, q ≠ 33 → q ≠ 46 → q ≠ 47 → (ir_up (ir_up (ir_up (ir_up (ir_up τ 33 0 0) 33 34 (-1)) 46 C v) 47 C w) 33 17 (nI (C + 1))) q = τ q := fun q a b c => by rw [u_n _ _ _ a, u_n _ _ _ c, u_n _ _ _ b, u_n _ _ _ a, u_n _ _ _ a]
          have h33 : ∀ k, k ≠ 0 → k ≠ 34 → k ≠ 17 → (ir_up (ir_up (ir_up (ir_up (ir_up τ 33 0 0) 33 34 (-1)) 46 C v) 47 C w) 33 17 (nI (C + 1))) 33 k = σ 33 k := fun k a b c => by
            rw [← e33]
            simp (disch := omega) only [u_s, upd_n, u_n]
          have f46 : (ir_up (ir_up (ir_up (ir_up (ir_up τ 33 0 0) 33 34 (-1)) 46 C v) 47 C w) 33 17 (nI (C + 1))) 46 = upd (σ 46) C v := by
            rw [← en 46 (by decide) (by decide) (by decide) (by decide)]
            simp (disch := omega) only [u_s, u_n]
          have f47 : (ir_up (ir_up (ir_up (ir_up (ir_up τ 33 0 0) 33 34 (-1)) 46 C v) 47 C w) 33 17 (nI (C + 1))) 47 = upd (σ 47) C w := by
            rw [← en 47 (by decide) (by decide) (by decide) (by decide)]
            simp (disch := omega) only [u_s, u_n]
          have f17 : (ir_up (ir_up (ir_up (ir_up (ir_up τ 33 0 0) 33 34 (-1)) 46 C v) 47 C w) 33 17 (nI (C + 1))) 33 17 = nI (C + 1) := by rw [u_s, upd_s]
          have f34 : (ir_up (ir_up (ir_up (ir_up (ir_up τ 33 0 0) 33 34 (-1)) 46 C v) 47 C w) 33 17 (nI (C + 1))) 33 34 = -1 := by simp (disch := omega) only [u_s, u_n, upd_s, upd_n]
          have hpred : nI (C + 1) - 1 = nI C := nI_pred C
          refine ⟨nI C, τ, ir_up (ir_up (ir_up (ir_up (ir_up τ 33 0 0) 33 34 (-1)) 46 C v) 47 C w) 33 17 (nI (C + 1)), hc1, hrf _ _ (by rw [e33]; exact r.1.2.2.1.2.2.1) ?_, ?_⟩
          · simp (disch := omega) only [s146_31, s146_32, s146_35, s146_37, s146_42, s146_43, s146_46, s146_47, s146_50, s146_51, s146_54, s146_55, s146_56, s146_57, s146_60, s146_61, s146_64, s146_65, s146_66, s146_67i, s146_67r, s146_68, s146_71, s146_72, s146_73, s146_76, s146_77, s146_80, s146_81, s146_82, xA46, xL46, xa46, xA47, xL47, xa47, u_s, u_n, upd_s, upd_n, e33, x17, m129, n_lt_0, n_le_0, n_tl_0, n_el_0, n_eq_0, n_ad_0, n_lt_1, n_le_1, n_tl_1, n_el_1, n_eq_1, n_ad_1, n_lt_2, n_le_2, n_tl_2, n_el_2, n_eq_2, n_ad_2, n_lt_3, n_le_3, n_tl_3, n_el_3, n_eq_3, n_ad_3, n_lt_4, n_le_4, n_tl_4, n_el_4, n_eq_4, n_ad_4, n_lt_5, n_le_5, n_tl_5, n_el_5, n_eq_5, n_ad_5, n_lt_6, n_le_6, n_tl_6, n_el_6, n_eq_6, n_ad_6, n_lt_10, n_le_10, n_tl_10, n_el_10, n_eq_10, n_ad_10, n_lt_11, n_le_11, n_tl_11, n_el_11, n_eq_11, n_ad_11, n_lt_12, n_le_12, n_tl_12, n_el_12, n_eq_12, n_ad_12, n_lt_13, n_le_13, n_tl_13, n_el_13, n_eq_13, n_ad_13, n_lt_15, n_le_15, n_tl_15, n_el_15, n_eq_15, n_ad_15, n_lt_20, n_le_20, n_tl_20, n_el_20, n_eq_20, n_ad_20, n_lt_30, n_le_30, n_tl_30, n_el_30, n_eq_30, n_ad_30, n_lt_31, n_le_31, n_tl_31, n_el_31, n_eq_31, n_ad_31, n_lt_32, n_le_32, n_tl_32, n_el_32, n_eq_32, n_ad_32, n_lt_60, n_le_60, n_tl_60, n_el_60, n_eq_60, n_ad_60, n_lt_99, n_le_99, n_tl_99, n_el_99, n_eq_99, n_ad_99, n_lt_100, n_le_100, n_tl_100, n_el_100, n_eq_100, n_ad_100, n_lt_144, n_le_144, n_tl_144, n_el_144, n_eq_144, n_ad_144, n_lt_4096, n_le_4096, n_tl_4096, n_el_4096, n_eq_4096, n_ad_4096, n_mulK, nI_add, pk_mul, n_lt, n_le, n_eq, n_eqM, n_ix, n_cl, hfull, hC12, hpred, decide_true, ir_k_v, ir_tl_v, if_true, if_false]
          · generalize (ir_up (ir_up (ir_up (ir_up (ir_up τ 33 0 0) 33 34 (-1)) 46 C v) 47 C w) 33 17 (nI (C + 1))) = ρ at *
            have hnn : ∀ q, q ≠ 33 → q ≠ 46 → q ≠ 47 → q ≠ 20 → q ≠ 21 → q ≠ 25 → q ≠ 30 → ρ q = σ q := fun q a b c e f g h => by rw [hn q a b c, en q e f g h]
            refine RR_of (RA_ch (C' := C + 1) r ⟨R1_c (fun c hc => ?_) (h33 1 (by decide) (by decide) (by decide)) (h33 3 (by decide) (by decide) (by decide)) r.1.1, R2_c (fun c hc => ?_) (h33 10 (by decide) (by decide) (by decide)) r.1.2.1, R3_c (fun c hc => ?_) (h33 12 (by decide) (by decide) (by decide)) r.1.2.2.1, ?_, R5_c (fun c hc => ?_) (h33 26 (by decide) (by decide) (by decide)) r.1.2.2.2.2⟩ (hnn 31 (by decide) (by decide) (by decide) (by decide) (by decide) (by decide) (by decide)) (hnn 32 (by decide) (by decide) (by decide) (by decide) (by decide) (by decide) (by decide)) (hnn 49 (by decide) (by decide) (by decide) (by decide) (by decide) (by decide) (by decide)) (h33 22 (by decide) (by decide) (by decide)) (by rw [hn 25 (by decide) (by decide) (by decide)]; exact e25) (by rw [hn 30 (by decide) (by decide) (by decide)]; exact e30) f34)
            · have : c = 1 ∨ c = 2 ∨ c = 3 ∨ c = 4 ∨ c = 5 ∨ c = 34 ∨ c = 35 ∨ c = 36 := by simpa using hc
              exact hnn c (by omega) (by omega) (by omega) (by omega) (by omega) (by omega) (by omega)
            · have : c = 2 ∨ c = 6 ∨ c = 7 ∨ c = 8 ∨ c = 9 ∨ c = 10 ∨ c = 37 ∨ c = 38 ∨ c = 39 ∨ c = 40 := by simpa using hc
              exact hnn c (by omega) (by omega) (by omega) (by omega) (by omega) (by omega) (by omega)
            · have : c = 2 ∨ c = 18 ∨ c = 19 ∨ c = 42 ∨ c = 43 ∨ c = 44 ∨ c = 45 := by simpa using hc
              exact hnn c (by omega) (by omega) (by omega) (by omega) (by omega) (by omega) (by omega)
            · refine ⟨by omega, by rw [hn 20 (by decide) (by decide) (by decide)]; exact e20, f17, fun c hc => ?_⟩
              rw [f46, f47, hn 21 (by decide) (by decide) (by decide)]
              by_cases e : c = C
              · subst e
                rw [e211, e212, upd_s, upd_s]
                refine ⟨rfl, rfl, ?_, ?_, hvw⟩
                · obtain ⟨f, hf, rfl⟩ := inr_nI (by omega) hv
                  exact ⟨f, hf, rfl⟩
                · rcases hok with q | q
                  · exact Or.inl q
                  · obtain ⟨f, hf, rfl⟩ := inr_nI (by omega) q
                    exact Or.inr ⟨f, hf, rfl⟩
              · rw [upd_n _ _ e, upd_n _ _ e, e21o c 1 (by omega) (by decide), e21o c 2 (by omega) (by decide)]
                exact r.1.2.2.2.1.2.2.2 c (by omega)
            · have : c = 22 ∨ c = 23 ∨ c = 51 ∨ c = 52 ∨ c = 53 ∨ c = 54 ∨ c = 55 := by simpa using hc
              exact hnn c (by omega) (by omega) (by omega) (by omega) (by omega) (by omega) (by omega)
      · have zm : ¬ w = -1 := fun z => hok (Or.inl z)
        have zn : inr w (nI F) = false := by
          cases z : inr w (nI F) with
          | false => rfl
          | true => exact absurd (Or.inr z) hok
        refine ⟨-1, σ, _, ?_, ?_, RR_of r0⟩
        · simp only [e85, s85_0, s85_1, s85_4, s85_5_18, s85_5_20, s85_5_22, s85_8, s85_11, s85_12, s85_13, s85_16, s85_17, s85_18, s85_21, s85_22, s85_25, s85_26_18, s85_26_20, s85_26_22, s85_29, s85_36, s85_37, s85_38, s85_39, s85_61, s85_62, c2_18, hE, hv, zn, if_neg hvw, if_neg zm, ir_b_t, ir_b_f, ir_k_i, ir_tl_i, i_10, if_true, if_false]
        · simp only [e146, s146_0, s146_1, s146_2, s146_5, s146_6, s146_7, s146_10, s146_13, s146_14, s146_15, s146_18, s146_19, s146_20, s146_23, s146_40, s146_41, h12 e12 hF, hv, zn, if_neg zm, ir_b_t, ir_b_f, ir_k_i, ir_tl_i, i_10, if_true, if_false]
end CFL
