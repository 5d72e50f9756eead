/-! claim, mark, well -/
section LU
variable {σ σ' : ir_S} {N m F C K : Nat} {LA LB : Nat → Nat}
theorem ptF_lt {f : Nat → Bool} {L : Nat} (hL : L ≤ 12) : ∀ n l w, l + n = L → w < 4096 → ptF f n l w < 4096 := by
  intro n
  induction n with
  | zero => intro l w _ hw; exact hw
  | succ n ih =>
    intro l w hl hw
    simp only [ptF]
    by_cases q : f l = true
    · rw [if_pos q]; exact ih _ _ (by omega) (or_lt hw (p2_lt (by omega)))
    · rw [if_neg q]; exact ih _ _ (by omega) hw
theorem p_claim {d : Nat} {v : Int32} (h : RR σ) : PAIR d 100 179 [.int v] σ := by
  obtain ⟨N, m, F, C, K, LA, LB, r⟩ := h
  have hC := r.1.2.2.2.1.1
  have hK := r.1.2.2.2.2.1
  have r0 := RA_frR (frR_33 (v := 0)) r
  have hE : isE σ 20 v = inr v (nI C) := by rw [isE_inr, r.1.2.2.2.1.2.1]
  rcases r.2.2.1 with ⟨h1, h2⟩ | ⟨h1, c, s, mm, hc, hs, hmm, l1, l2, l3, l4, l5, l6, l7, l8, l9, l10⟩
  · refine ⟨-2, σ, _, ?_, ?_, RR_of r0⟩
    · simp only [s100_0, e100, s100_1, s100_4, s100_7, s100_21, s100_23, g_f h1, ir_k_i, ir_tl_i, if_true]
    · simp (disch := omega) only [e179, s179_0, s179_1, s179_2, s179_5, s179_6, s179_9, s179_20, s179_22, u_s, upd_n, h2, m1_lt, if_true]
  have q34 : ¬ c < 0 := Nat.not_lt_zero _
  cases hv : inr v (nI C) with
  | false =>
    refine ⟨-2, σ, _, ?_, ?_, RR_of r0⟩
    · simp only [e100, s100_0, s100_1, s100_4, s100_7, s100_10, s100_11, s100_14, s100_15_18, s100_15_20, s100_15_22, s100_18, s100_21, s100_23, g_t h1, c2_20, hE, hv, ir_b_f, ir_k_i, ir_tl_i, i_10, if_true, if_false]
    · simp (disch := omega) only [e179, s179_0, s179_1, s179_2, s179_5, s179_6, s179_9, s179_12, s179_13, s179_14, s179_17, s179_20, s179_22, u_s, upd_n, l2, n_lt_0, n_le_0, n_tl_0, n_el_0, n_eq_0, n_ad_0, n_lt_1, n_le_1, n_tl_1, n_el_1, n_eq_1, n_ad_1, n_lt_2, n_le_2, n_tl_2, n_el_2, n_eq_2, n_ad_2, n_lt_3, n_le_3, n_tl_3, n_el_3, n_eq_3, n_ad_3, n_lt_4, n_le_4, n_tl_4, n_el_4, n_eq_4, n_ad_4, n_lt_5, n_le_5, n_tl_5, n_el_5, n_eq_5, n_ad_5, n_lt_6, n_le_6, n_tl_6, n_el_6, n_eq_6, n_ad_6, n_lt_10, n_le_10, n_tl_10, n_el_10, n_eq_10, n_ad_10, n_lt_11, n_le_11, n_tl_11, n_el_11, n_eq_11, n_ad_11, n_lt_12, n_le_12, n_tl_12, n_el_12, n_eq_12, n_ad_12, n_lt_13, n_le_13, n_tl_13, n_el_13, n_eq_13, n_ad_13, n_lt_15, n_le_15, n_tl_15, n_el_15, n_eq_15, n_ad_15, n_lt_20, n_le_20, n_tl_20, n_el_20, n_eq_20, n_ad_20, n_lt_30, n_le_30, n_tl_30, n_el_30, n_eq_30, n_ad_30, n_lt_31, n_le_31, n_tl_31, n_el_31, n_eq_31, n_ad_31, n_lt_32, n_le_32, n_tl_32, n_el_32, n_eq_32, n_ad_32, n_lt_60, n_le_60, n_tl_60, n_el_60, n_eq_60, n_ad_60, n_lt_99, n_le_99, n_tl_99, n_el_99, n_eq_99, n_ad_99, n_lt_100, n_le_100, n_tl_100, n_el_100, n_eq_100, n_ad_100, n_lt_144, n_le_144, n_tl_144, n_el_144, n_eq_144, n_ad_144, n_lt_4096, n_le_4096, n_tl_4096, n_el_4096, n_eq_4096, n_ad_4096, n_mulK, nI_add, pk_mul, n_lt, n_le, n_eq, n_eqM, n_ix, n_cl, q34, h17 r0.1.2.2.2.1.2.2.1 hC, hv, ir_b_f, ir_k_i, ir_tl_i, if_true, if_false]
  | true =>
    obtain ⟨a, ha, rfl⟩ := inr_nI (by omega) hv
    have k9 : ∀ (τ : ir_S), τ 30 1 = nI c → ir_ev (d + 49) 9 [.ref 30] τ = some (some (.int (nI c)), τ) := fun τ h => by rw [← h]; exact c9
    by_cases e : a = c
    · subst e
      refine ⟨-1, σ, _, ?_, ?_, RR_of r0⟩
      · simp only [e100, s100_0, s100_1, s100_4, s100_7, s100_10, s100_11, s100_14, s100_15_18, s100_15_20, s100_15_22, s100_18, s100_24, s100_25, s100_26, s100_29, s100_32, s100_35, s100_36, g_t h1, c2_20, hE, hv, k9 σ l1, ir_b_t, ir_k_i, ir_tl_i, i_10, if_true, if_false]
      · simp (disch := omega) only [e179, s179_0, s179_1, s179_2, s179_5, s179_6, s179_9, s179_12, s179_13, s179_14, s179_17, s179_23, s179_24, s179_25, s179_28, s179_31, s179_32, u_s, upd_n, l2, n_lt_0, n_le_0, n_tl_0, n_el_0, n_eq_0, n_ad_0, n_lt_1, n_le_1, n_tl_1, n_el_1, n_eq_1, n_ad_1, n_lt_2, n_le_2, n_tl_2, n_el_2, n_eq_2, n_ad_2, n_lt_3, n_le_3, n_tl_3, n_el_3, n_eq_3, n_ad_3, n_lt_4, n_le_4, n_tl_4, n_el_4, n_eq_4, n_ad_4, n_lt_5, n_le_5, n_tl_5, n_el_5, n_eq_5, n_ad_5, n_lt_6, n_le_6, n_tl_6, n_el_6, n_eq_6, n_ad_6, n_lt_10, n_le_10, n_tl_10, n_el_10, n_eq_10, n_ad_10, n_lt_11, n_le_11, n_tl_11, n_el_11, n_eq_11, n_ad_11, n_lt_12, n_le_12, n_tl_12, n_el_12, n_eq_12, n_ad_12, n_lt_13, n_le_13, n_tl_13, n_el_13, n_eq_13, n_ad_13, n_lt_15, n_le_15, n_tl_15, n_el_15, n_eq_15, n_ad_15, n_lt_20, n_le_20, n_tl_20, n_el_20, n_eq_20, n_ad_20, n_lt_30, n_le_30, n_tl_30, n_el_30, n_eq_30, n_ad_30, n_lt_31, n_le_31, n_tl_31, n_el_31, n_eq_31, n_ad_31, n_lt_32, n_le_32, n_tl_32, n_el_32, n_eq_32, n_ad_32, n_lt_60, n_le_60, n_tl_60, n_el_60, n_eq_60, n_ad_60, n_lt_99, n_le_99, n_tl_99, n_el_99, n_eq_99, n_ad_99, n_lt_100, n_le_100, n_tl_100, n_el_100, n_eq_100, n_ad_100, n_lt_144, n_le_144, n_tl_144, n_el_144, n_eq_144, n_ad_144, n_lt_4096, n_le_4096, n_tl_4096, n_el_4096, n_eq_4096, n_ad_4096, n_mulK, nI_add, pk_mul, n_lt, n_le, n_eq, n_eqM, n_ix, n_cl, q34, h17 r0.1.2.2.2.1.2.2.1 hC, hv, ir_b_t, ir_k_i, ir_tl_i, i_10, if_true, if_false]
    · have k19 := c19 (σ := σ) (d := d + 48)
      have fb : frB σ (ir_up (ir_up σ 30 7 (σ 30 7 + 1)) 30 3 (σ 30 3 + 10)) := frB_tr frB_30 frB_30
      have v30 : ∀ k, (ir_up (ir_up σ 30 7 (σ 30 7 + 1)) 30 3 (σ 30 3 + 10)) 30 k = upd (upd (σ 30) 7 (σ 30 7 + 1)) 3 (σ 30 3 + 10) k := by intro k; simp only [u_s]
      have v33 : (ir_up (ir_up σ 30 7 (σ 30 7 + 1)) 30 3 (σ 30 3 + 10)) 33 = σ 33 := by simp (disch := omega) only [u_n]
      generalize (ir_up (ir_up σ 30 7 (σ 30 7 + 1)) 30 3 (σ 30 3 + 10)) = σ1 at *
      have r1 := RB_frB fb (RB_of r)
      obtain ⟨σ2, a1, a2, a3, a4⟩ := prep (d := d + 43) r1.1 r1.2.2
      have e30 : σ2 30 = σ1 30 := a2 30 (by omega)
      have e33 : σ2 33 = σ 33 := by rw [a2 33 (by omega), v33]
      have i1 : σ2 30 1 = nI c := by rw [e30, v30, upd_n _ _ (by decide), upd_n _ _ (by decide)]; exact l1
      have r2 : RB σ2 N m F C K LA LB := by
        refine ⟨R0_ag (agS_frT a2) r1.1, ?_, Or.inr ⟨a3, a4⟩⟩
        have := r1.2.1
        unfold RW at *
        rw [a2 31 (by omega), a2 32 (by omega), a2 33 (by omega), a2 49 (by omega)]
        exact this
      have b1 := c63 (d := d + 47) a4.1 ha hc
      have fb3 : frB σ2 (ir_up (ir_up (ir_up σ2 33 0 0) 33 36 (σ 33 36 + 10)) 33 39 (σ 33 39 + 1)) := frB_tr (frB_tr (frB_33 (by omega)) (frB_33 (by omega))) (frB_33 (by omega))
      have r3 := RB_frB fb3 r2
      obtain ⟨σ4, z1, z2⟩ := unlikeM (d := d + 39) r3.1 ha hc
      rw [AL0_ag (agS_frB fb3)] at z1
      have r4 := RB_frB (frB_R z2) r3
      have r20 := RB_frB (frB_33 (v := 0) (Or.inl rfl)) r2
      have hst := h17 (d := d + 47) (v := nI a) r20.1.2.2.2.1.2.2.1 hC
      rw [hv] at hst
      have hlt := ptF_lt (f := fun l => !(AL0 σ2 N m C l a).testBit c) (L := K) hK K 0 0 (by omega) (by decide)
      have w33 : ∀ k, k ≠ 0 → k ≠ 20 → k ≠ 25 → σ4 33 k = upd (upd (σ 33) 36 (σ 33 36 + 10)) 39 (σ 33 39 + 1) k := fun k q1 q2 q3 => by
        rw [z2.2 k q1 q2 q3, u_s]
        unfold upd
        by_cases c39 : k = 39
        · simp [c39]
        · rw [if_neg c39, if_neg c39, u_s]
          unfold upd
          by_cases c36 : k = 36
          · simp [c36]
          · rw [if_neg c36, if_neg c36, u_s]
            unfold upd
            rw [if_neg q1, e33]
      have w30 : σ4 30 = σ1 30 := by rw [z2.1 30 (by decide) (by decide) (by decide) (by decide) (by decide) (by decide), u_n _ _ _ (by decide), u_n _ _ _ (by decide), u_n _ _ _ (by decide), e30]
      have hL : LES σ4 F C := by
        refine Or.inr ?_
        rw [w30, w33 34 (by decide) (by decide) (by decide), w33 35 (by decide) (by decide) (by decide), w33 36 (by decide) (by decide) (by decide), w33 37 (by decide) (by decide) (by decide), w33 38 (by decide) (by decide) (by decide), w33 39 (by decide) (by decide) (by decide), w33 40 (by decide) (by decide) (by decide)]
        simp (disch := omega) only [v30, upd_s, upd_n]
        exact ⟨h1, c, s, mm, hc, hs, hmm, l1, l2, l3, l4, by rw [l5], l6, l7, l8, l9, by rw [l10]⟩
      have low2 : ∀ n, n < 4096 → n ≠ 0 → (lowB (nI n) = nI (lowN n) ∧ ntI (nI n) = nI (lowN n)) := fun n q1 q2 => ⟨low_low n q1 q2, nt_low n q1 q2⟩
      generalize ptF (fun l => !(AL0 σ2 N m C l a).testBit c) K 0 0 = w at *
      have e33' : ∀ k, k ≠ 0 → (ir_up σ2 33 0 0) 33 k = σ 33 k := fun k q => by rw [u_s, upd_n _ _ q, e33]
      by_cases hw0 : w = 0
      · subst hw0
        have hi0 : (nI 0 = (0 : Int32)) := rfl
        refine ⟨-3, σ2, σ4, ?_, ?_, RR_of (RA_of r4 hL)⟩
        · simp (disch := omega) only [e100, s100_0, s100_1, s100_4, s100_7, s100_10, s100_11, s100_14, s100_15_18, s100_15_20, s100_15_22, s100_18, s100_24, s100_25, s100_26, s100_29, s100_32, s100_37, s100_38, s100_41, s100_44, s100_45, s100_48, s100_49, s100_52, s100_53, s100_54, s100_57, s100_60, s100_63, s100_64, s100_65, s100_68, s100_70, s100_77, g_t h1, c2_20, hE, hv, k9 σ l1, n_eq, if_neg e, k19, a1, k9 σ2 i1, b1, hi0, ir_b_t, ir_k_i, ir_tl_i, ir_k_v, ir_tl_v, i_10, if_true, if_false]
        · simp (disch := omega) only [e179, s179_0, s179_1, s179_2, s179_5, s179_6, s179_9, s179_12, s179_13, s179_14, s179_17, s179_23, s179_24, s179_25, s179_28, s179_33, s179_34i, s179_34r, s179_35, s179_38, s179_40, s179_41, s179_44, s179_45i, s179_45r, s179_46, s179_49, s179_50, s179_51, s179_54, s179_55, s179_56, s179_57, s179_60, s179_63, s179_64, s179_65, s179_68, s179_70, s179_77, u_s, upd_n, e33, l2, n_lt_0, n_eq, q34, hst, if_neg e, z1, hi0, ir_b_t, ir_k_i, ir_tl_i, i_10, if_true, if_false]
      · obtain ⟨y1, y2⟩ := low2 w hlt hw0
        refine ⟨nI (lowN w), σ2, σ4, ?_, ?_, RR_of (RA_of r4 hL)⟩
        · simp (disch := omega) only [e100, s100_0, s100_1, s100_4, s100_7, s100_10, s100_11, s100_14, s100_15_18, s100_15_20, s100_15_22, s100_18, s100_24, s100_25, s100_26, s100_29, s100_32, s100_37, s100_38, s100_41, s100_44, s100_45, s100_48, s100_49, s100_52, s100_53, s100_54, s100_57, s100_60, s100_63, s100_64, s100_65, s100_73, s100_74, s100_77, g_t h1, c2_20, hE, hv, k9 σ l1, n_eq, n_eq_0, if_neg e, if_neg hw0, k19, a1, k9 σ2 i1, b1, c117, y1, ir_b_t, ir_k_i, ir_tl_i, ir_k_v, ir_tl_v, i_10, if_true, if_false]
        · simp (disch := omega) only [e179, s179_0, s179_1, s179_2, s179_5, s179_6, s179_9, s179_12, s179_13, s179_14, s179_17, s179_23, s179_24, s179_25, s179_28, s179_33, s179_34i, s179_34r, s179_35, s179_38, s179_40, s179_41, s179_44, s179_45i, s179_45r, s179_46, s179_49, s179_50, s179_51, s179_54, s179_55, s179_56, s179_57, s179_60, s179_63, s179_64, s179_65, s179_73, s179_74, s179_77, u_s, upd_n, e33, l2, n_lt_0, n_eq, n_eq_0, q34, hst, if_neg e, if_neg hw0, z1, c182, y2, ir_b_t, ir_k_i, ir_tl_i, i_10, if_true, if_false]
theorem sw_out {v : Int32} {n : Nat} (h : ∀ k, k ≤ n → v ≠ nI k) : v.toInt < 0 ∨ (n : Int) < v.toInt := by
  by_cases h0 : v < 0
  · left
    simpa using Int32.lt_iff_toInt_lt.mp h0
  · right
    obtain ⟨k, hk, rfl⟩ := nI_of h0
    rw [nI_toInt hk]
    by_cases q : k ≤ n
    · exact absurd rfl (h k q)
    · omega
theorem cases6 (v : Int32) : (v = 0 ∨ v = 1 ∨ v = 2 ∨ v = 3 ∨ v = 4 ∨ v = 5) ∨ (v.toInt < 0 ∨ 5 < v.toInt) := by
  by_cases h : ∃ k, k ≤ 5 ∧ v = nI k
  · left
    obtain ⟨k, hk, rfl⟩ := h
    have : k = 0 ∨ k = 1 ∨ k = 2 ∨ k = 3 ∨ k = 4 ∨ k = 5 := by omega
    rcases this with rfl | rfl | rfl | rfl | rfl | rfl
    · exact Or.inl rfl
    · exact Or.inr (Or.inl rfl)
    · exact Or.inr (Or.inr (Or.inl rfl))
    · exact Or.inr (Or.inr (Or.inr (Or.inl rfl)))
    · exact Or.inr (Or.inr (Or.inr (Or.inr (Or.inl rfl))))
    · exact Or.inr (Or.inr (Or.inr (Or.inr (Or.inr rfl))))
  · exact Or.inr (sw_out (n := 5) (fun k hk e => h ⟨k, hk, e⟩))
theorem cases7 (v : Int32) : (v = 0 ∨ v = 1 ∨ v = 2 ∨ v = 3 ∨ v = 4 ∨ v = 5 ∨ v = 6) ∨ (v.toInt < 0 ∨ 6 < v.toInt) := by
  by_cases h : ∃ k, k ≤ 6 ∧ v = nI k
  · left
    obtain ⟨k, hk, rfl⟩ := h
    have : k = 0 ∨ k = 1 ∨ k = 2 ∨ k = 3 ∨ k = 4 ∨ k = 5 ∨ k = 6 := by omega
    rcases this with rfl | rfl | rfl | rfl | rfl | rfl | rfl
    · exact Or.inl rfl
    · exact Or.inr (Or.inl rfl)
    · exact Or.inr (Or.inr (Or.inl rfl))
    · exact Or.inr (Or.inr (Or.inr (Or.inl rfl)))
    · exact Or.inr (Or.inr (Or.inr (Or.inr (Or.inl rfl))))
    · exact Or.inr (Or.inr (Or.inr (Or.inr (Or.inr (Or.inl rfl)))))
    · exact Or.inr (Or.inr (Or.inr (Or.inr (Or.inr (Or.inr rfl)))))
  · exact Or.inr (sw_out (n := 6) (fun k hk e => h ⟨k, hk, e⟩))
theorem p_mark {d : Nat} {v : Int32} (h : RR σ) : PAIR d 101 180 [.int v] σ := by
  obtain ⟨N, m, F, C, K, LA, LB, r⟩ := h
  have hC := r.1.2.2.2.1.1
  have r0 := RA_frR (frR_33 (v := 0)) r
  rcases r.2.2.1 with ⟨h1, h2⟩ | ⟨h1, c, s, mm, hc, hs, hmm, l1, l2, l3, l4, l5, l6, l7, l8, l9, l10⟩
  · refine ⟨-2, σ, _, ?_, ?_, RR_of r0⟩
    · simp only [s101_0, e101, s101_1, s101_4, s101_7, s101_10, s101_12, g_f h1, ir_k_i, ir_tl_i, if_true]
    · simp (disch := omega) only [e180, s180_0, s180_1, s180_2, s180_5, s180_6, s180_9, s180_12, s180_14, u_s, upd_n, h2, m1_ge, if_false]
  have q34 : 0 ≤ c := Nat.zero_le _
  have hM : ∀ z : Option ir_R, ir_run (ir_ev (d + 49)) 101 (14, [.ref 0, .int v], [.int v], σ) = z → ir_ev (d + 50) 101 [.ref 0, .int v] σ = z := by
    intro z hz
    simp only [e101, s101_0, s101_1, s101_4, s101_7, s101_13, g_t h1, ir_k_i, ir_tl_i, i_10, if_false]
    exact hz
  have hR : ∀ (τ : ir_S) (z : Option ir_R), τ 33 34 = nI c → ir_run (ir_ev (d + 49)) 180 (16, [.ref 33, .int v], [.int v], ir_up τ 33 0 0) = z → ir_ev (d + 50) 180 [.ref 33, .int v] τ = z := by
    intro τ z hτ hz
    simp (disch := omega) only [e180, s180_0, s180_1, s180_2, s180_5, s180_6, s180_9, s180_15, u_s, upd_n, hτ, n_el_0, q34, if_true]
    exact hz
  have bc := bc_pop mm hmm
  rcases cases6 v with (rfl | rfl | rfl | rfl | rfl | rfl) | hv
  · refine ⟨σ 30 3, σ, _, hM _ ?_, hR σ _ l2 ?_, RR_of r0⟩
    · simp only [s101_14c0, s101_52, s101_53, s101_56, s101_59, c13, ir_k_i, ir_tl_i]
    · simp (disch := omega) only [s180_16c0, s180_56, s180_57, s180_60, u_s, upd_n, l5]
  · refine ⟨σ 30 5, σ, _, hM _ ?_, hR σ _ l2 ?_, RR_of r0⟩
    · simp only [s101_14c1, s101_60, s101_61, s101_64, s101_67, c14, ir_k_i, ir_tl_i]
    · simp (disch := omega) only [s180_16c1, s180_61, s180_62, s180_65, u_s, upd_n, l8]
  · refine ⟨σ 30 6, σ, _, hM _ ?_, hR σ _ l2 ?_, RR_of r0⟩
    · simp only [s101_14c2, s101_68, s101_69, s101_72, s101_75, c15, ir_k_i, ir_tl_i]
    · simp (disch := omega) only [s180_16c2, s180_66, s180_67, s180_70, u_s, upd_n, l9]
  · refine ⟨σ 30 7, σ, _, hM _ ?_, hR σ _ l2 ?_, RR_of r0⟩
    · simp only [s101_14c3, s101_76, s101_77, s101_80, s101_83, c16, ir_k_i, ir_tl_i]
    · simp (disch := omega) only [s180_16c3, s180_71, s180_72, s180_75, u_s, upd_n, l10]
  · refine ⟨nI (popN mm), σ, _, hM _ ?_, hR σ _ l2 ?_, RR_of r0⟩
    · simp only [s101_14c4, s101_84, s101_85, s101_88, s101_91, s101_94, c10, l3, c183, bc, ir_k_i, ir_tl_i]
    · simp (disch := omega) only [s180_16c4, s180_76, s180_77, s180_80, s180_83, u_s, upd_n, l4, c183, bc, ir_k_i, ir_tl_i]
  · obtain ⟨σ1, a1, a2, a3, a4⟩ := prep (d := d + 43) r.1 r.2.2.2
    have r1 := RA_frT a2 a3 a4 r
    have h20 : 0 < 2 ^ C - 1 := by
      have : 2 ^ 1 ≤ 2 ^ C := Nat.pow_le_pow_right (by decide) (by omega)
      omega
    obtain ⟨σ2, b1, b2, b3⟩ := c65 (d := d + 20) (s := 2 ^ C - 1) a4.1 h20 (by omega) a4.2
    have r2 := RA_29 b2 a3 a4 b3 r1
    have r20 := RA_frR (frR_33 (v := 0)) r2
    obtain ⟨σ3, z1, z2⟩ := worstM (d := d + 23) (s := 2 ^ C - 1) r20.1 h20 (by omega)
    rw [AL0_ag (agS_frR (frR_33 (σ := σ2) (v := 0))), PR0_ag (agS_frR (frR_33 (σ := σ2) (v := 0))), AL0_ag (agS_29 b2), PR0_ag (agS_29 b2)] at z1
    have e34 : σ2 33 34 = nI c := by rw [b2 33 (by decide), a2 33 (by omega)]; exact l2
    have e17 : σ2 33 17 = nI C := r2.1.2.2.2.1.2.2.1
    refine ⟨nI (WV (AL0 σ1 N m C) (PR0 σ1) K C 12 (2 ^ C - 1)), σ2, σ3, hM _ ?_, hR σ2 _ e34 ?_, RR_of (RA_frR z2 r20)⟩
    · simp only [s101_14c5, s101_95, s101_96, s101_99, s101_100, s101_103, s101_104, s101_107_18, s101_107_20, s101_107_22, s101_110, s101_113, a1, c3_20, r1.1.2.2.2.1.2.1, s_all hC, b1, ir_k_i, ir_tl_i, ir_k_v, ir_tl_v]
    · simp (disch := omega) only [s180_16c5, s180_84, s180_85, s180_86, s180_87, s180_90, s180_91, s180_92, s180_93, s180_96, u_s, upd_n, e17, s_all hC, z1, ir_k_i, ir_tl_i]
  · refine ⟨-2, σ, _, hM _ ?_, hR σ _ l2 ?_, RR_of r0⟩
    · simp only [s101_14d hv, s101_114, s101_116]
    · simp (disch := omega) only [s180_16d hv, s180_97, s180_99]
theorem p_count {d : Nat} {v : Int32} (h : RR σ) : PAIR d 82 138 [.int v] σ := by
  obtain ⟨N, m, F, C, K, LA, LB, r⟩ := h
  have r0 := RR_of (RA_frR (frR_33 (v := 0)) r)
  obtain ⟨n, hn, w1, w2, w3⟩ := r.2.1
  rcases cases7 v with (rfl | rfl | rfl | rfl | rfl | rfl | rfl) | hv
  · refine ⟨nI N, σ, _, ?_, ?_, r0⟩
    · simp only [e82, s82_0, s82_1c0, s82_1c1, s82_1c2, s82_1c3, s82_1c4, s82_1c5, s82_1c6, s82_1d, s82_44, s82_52, s82_60, s82_68, s82_76, s82_84, s82_92, s82_108, s82_45, s82_53, s82_61, s82_69, s82_77, s82_85, s82_93, s82_109, s82_48, s82_56, s82_64_18, s82_64_20, s82_64_22, s82_72_18, s82_72_20, s82_72_22, s82_80_18, s82_80_20, s82_80_22, s82_88, s82_96, s82_51, s82_59, s82_67, s82_75, s82_83, s82_91, s82_99, s82_106, s82_102, s82_107, s82_103, c21, r.1.1.2.2.1, ir_k_i, ir_tl_i]
    · simp (disch := omega) only [e138, s138_0, s138_1, s138_2, s138_5, s138_6c0, s138_6c1, s138_6c2, s138_6c3, s138_6c4, s138_6c5, s138_6c6, s138_6d, s138_48, s138_53, s138_58, s138_63, s138_68, s138_73, s138_78, s138_91, s138_49, s138_54, s138_59, s138_64, s138_69, s138_74, s138_79, s138_92, s138_52, s138_57, s138_62, s138_67, s138_72, s138_77, s138_82, s138_89, s138_85, s138_90, s138_86, u_s, upd_n, r.1.1.2.2.2.1]
  · refine ⟨nI m, σ, _, ?_, ?_, r0⟩
    · simp only [e82, s82_0, s82_1c0, s82_1c1, s82_1c2, s82_1c3, s82_1c4, s82_1c5, s82_1c6, s82_1d, s82_44, s82_52, s82_60, s82_68, s82_76, s82_84, s82_92, s82_108, s82_45, s82_53, s82_61, s82_69, s82_77, s82_85, s82_93, s82_109, s82_48, s82_56, s82_64_18, s82_64_20, s82_64_22, s82_72_18, s82_72_20, s82_72_22, s82_80_18, s82_80_20, s82_80_22, s82_88, s82_96, s82_51, s82_59, s82_67, s82_75, s82_83, s82_91, s82_99, s82_106, s82_102, s82_107, s82_103, c22, r.1.1.2.2.2.2.1, ir_k_i, ir_tl_i]
    · simp (disch := omega) only [e138, s138_0, s138_1, s138_2, s138_5, s138_6c0, s138_6c1, s138_6c2, s138_6c3, s138_6c4, s138_6c5, s138_6c6, s138_6d, s138_48, s138_53, s138_58, s138_63, s138_68, s138_73, s138_78, s138_91, s138_49, s138_54, s138_59, s138_64, s138_69, s138_74, s138_79, s138_92, s138_52, s138_57, s138_62, s138_67, s138_72, s138_77, s138_82, s138_89, s138_85, s138_90, s138_86, u_s, upd_n, r.1.1.2.2.2.2.2.1]
  · refine ⟨nI F, σ, _, ?_, ?_, r0⟩
    · simp only [e82, s82_0, s82_1c0, s82_1c1, s82_1c2, s82_1c3, s82_1c4, s82_1c5, s82_1c6, s82_1d, s82_44, s82_52, s82_60, s82_68, s82_76, s82_84, s82_92, s82_108, s82_45, s82_53, s82_61, s82_69, s82_77, s82_85, s82_93, s82_109, s82_48, s82_56, s82_64_18, s82_64_20, s82_64_22, s82_72_18, s82_72_20, s82_72_22, s82_80_18, s82_80_20, s82_80_22, s82_88, s82_96, s82_51, s82_59, s82_67, s82_75, s82_83, s82_91, s82_99, s82_106, s82_102, s82_107, s82_103, c1_18, r.1.2.2.1.2.1, ir_k_i, ir_tl_i]
    · simp (disch := omega) only [e138, s138_0, s138_1, s138_2, s138_5, s138_6c0, s138_6c1, s138_6c2, s138_6c3, s138_6c4, s138_6c5, s138_6c6, s138_6d, s138_48, s138_53, s138_58, s138_63, s138_68, s138_73, s138_78, s138_91, s138_49, s138_54, s138_59, s138_64, s138_69, s138_74, s138_79, s138_92, s138_52, s138_57, s138_62, s138_67, s138_72, s138_77, s138_82, s138_89, s138_85, s138_90, s138_86, u_s, upd_n, r.1.2.2.1.2.2.1]
  · refine ⟨nI C, σ, _, ?_, ?_, r0⟩
    · simp only [e82, s82_0, s82_1c0, s82_1c1, s82_1c2, s82_1c3, s82_1c4, s82_1c5, s82_1c6, s82_1d, s82_44, s82_52, s82_60, s82_68, s82_76, s82_84, s82_92, s82_108, s82_45, s82_53, s82_61, s82_69, s82_77, s82_85, s82_93, s82_109, s82_48, s82_56, s82_64_18, s82_64_20, s82_64_22, s82_72_18, s82_72_20, s82_72_22, s82_80_18, s82_80_20, s82_80_22, s82_88, s82_96, s82_51, s82_59, s82_67, s82_75, s82_83, s82_91, s82_99, s82_106, s82_102, s82_107, s82_103, c1_20, r.1.2.2.2.1.2.1, ir_k_i, ir_tl_i]
    · simp (disch := omega) only [e138, s138_0, s138_1, s138_2, s138_5, s138_6c0, s138_6c1, s138_6c2, s138_6c3, s138_6c4, s138_6c5, s138_6c6, s138_6d, s138_48, s138_53, s138_58, s138_63, s138_68, s138_73, s138_78, s138_91, s138_49, s138_54, s138_59, s138_64, s138_69, s138_74, s138_79, s138_92, s138_52, s138_57, s138_62, s138_67, s138_72, s138_77, s138_82, s138_89, s138_85, s138_90, s138_86, u_s, upd_n, r.1.2.2.2.1.2.2.1]
  · refine ⟨nI K, σ, _, ?_, ?_, r0⟩
    · simp only [e82, s82_0, s82_1c0, s82_1c1, s82_1c2, s82_1c3, s82_1c4, s82_1c5, s82_1c6, s82_1d, s82_44, s82_52, s82_60, s82_68, s82_76, s82_84, s82_92, s82_108, s82_45, s82_53, s82_61, s82_69, s82_77, s82_85, s82_93, s82_109, s82_48, s82_56, s82_64_18, s82_64_20, s82_64_22, s82_72_18, s82_72_20, s82_72_22, s82_80_18, s82_80_20, s82_80_22, s82_88, s82_96, s82_51, s82_59, s82_67, s82_75, s82_83, s82_91, s82_99, s82_106, s82_102, s82_107, s82_103, c1_22, r.1.2.2.2.2.2.1, ir_k_i, ir_tl_i]
    · simp (disch := omega) only [e138, s138_0, s138_1, s138_2, s138_5, s138_6c0, s138_6c1, s138_6c2, s138_6c3, s138_6c4, s138_6c5, s138_6c6, s138_6d, s138_48, s138_53, s138_58, s138_63, s138_68, s138_73, s138_78, s138_91, s138_49, s138_54, s138_59, s138_64, s138_69, s138_74, s138_79, s138_92, s138_52, s138_57, s138_62, s138_67, s138_72, s138_77, s138_82, s138_89, s138_85, s138_90, s138_86, u_s, upd_n, r.1.2.2.2.2.2.2.1]
  · refine ⟨nI n, σ, _, ?_, ?_, r0⟩
    · simp only [e82, s82_0, s82_1c0, s82_1c1, s82_1c2, s82_1c3, s82_1c4, s82_1c5, s82_1c6, s82_1d, s82_44, s82_52, s82_60, s82_68, s82_76, s82_84, s82_92, s82_108, s82_45, s82_53, s82_61, s82_69, s82_77, s82_85, s82_93, s82_109, s82_48, s82_56, s82_64_18, s82_64_20, s82_64_22, s82_72_18, s82_72_20, s82_72_22, s82_80_18, s82_80_20, s82_80_22, s82_88, s82_96, s82_51, s82_59, s82_67, s82_75, s82_83, s82_91, s82_99, s82_106, s82_102, s82_107, s82_103, c39, w1, ir_k_i, ir_tl_i]
    · simp (disch := omega) only [e138, s138_0, s138_1, s138_2, s138_5, s138_6c0, s138_6c1, s138_6c2, s138_6c3, s138_6c4, s138_6c5, s138_6c6, s138_6d, s138_48, s138_53, s138_58, s138_63, s138_68, s138_73, s138_78, s138_91, s138_49, s138_54, s138_59, s138_64, s138_69, s138_74, s138_79, s138_92, s138_52, s138_57, s138_62, s138_67, s138_72, s138_77, s138_82, s138_89, s138_85, s138_90, s138_86, u_s, upd_n, w2]
  · rcases r.2.2.1 with ⟨h1, h2⟩ | ⟨h1, c, s, mm, hc, hs, hmm, l1, l2, l3, l4, l5, l6, l7, l8, l9, l10⟩
    · refine ⟨0, σ, _, ?_, ?_, r0⟩
      · simp only [e82, s82_0, s82_1c0, s82_1c1, s82_1c2, s82_1c3, s82_1c4, s82_1c5, s82_1c6, s82_1d, s82_44, s82_52, s82_60, s82_68, s82_76, s82_84, s82_92, s82_108, s82_45, s82_53, s82_61, s82_69, s82_77, s82_85, s82_93, s82_109, s82_48, s82_56, s82_64_18, s82_64_20, s82_64_22, s82_72_18, s82_72_20, s82_72_22, s82_80_18, s82_80_20, s82_80_22, s82_88, s82_96, s82_51, s82_59, s82_67, s82_75, s82_83, s82_91, s82_99, s82_106, s82_102, s82_107, s82_103, g_f h1, ir_k_i, ir_tl_i, if_true]
      · simp (disch := omega) only [e138, s138_0, s138_1, s138_2, s138_5, s138_6c0, s138_6c1, s138_6c2, s138_6c3, s138_6c4, s138_6c5, s138_6c6, s138_6d, s138_48, s138_53, s138_58, s138_63, s138_68, s138_73, s138_78, s138_91, s138_49, s138_54, s138_59, s138_64, s138_69, s138_74, s138_79, s138_92, s138_52, s138_57, s138_62, s138_67, s138_72, s138_77, s138_82, s138_89, s138_85, s138_90, s138_86, u_s, upd_n, h2, m1_lt, if_true]
    · have q34 : ¬ c < 0 := Nat.not_lt_zero _
      have hC := r.1.2.2.2.1.1
      refine ⟨1, σ, _, ?_, ?_, r0⟩
      · simp only [e82, s82_0, s82_1c0, s82_1c1, s82_1c2, s82_1c3, s82_1c4, s82_1c5, s82_1c6, s82_1d, s82_44, s82_52, s82_60, s82_68, s82_76, s82_84, s82_92, s82_108, s82_45, s82_53, s82_61, s82_69, s82_77, s82_85, s82_93, s82_109, s82_48, s82_56, s82_64_18, s82_64_20, s82_64_22, s82_72_18, s82_72_20, s82_72_22, s82_80_18, s82_80_20, s82_80_22, s82_88, s82_96, s82_51, s82_59, s82_67, s82_75, s82_83, s82_91, s82_99, s82_106, s82_102, s82_107, s82_103, g_t h1, ir_k_i, ir_tl_i, i_10, if_false]
      · simp (disch := omega) only [e138, s138_0, s138_1, s138_2, s138_5, s138_6c0, s138_6c1, s138_6c2, s138_6c3, s138_6c4, s138_6c5, s138_6c6, s138_6d, s138_48, s138_53, s138_58, s138_63, s138_68, s138_73, s138_78, s138_91, s138_49, s138_54, s138_59, s138_64, s138_69, s138_74, s138_79, s138_92, s138_52, s138_57, s138_62, s138_67, s138_72, s138_77, s138_82, s138_89, s138_85, s138_90, s138_86, u_s, upd_n, l2, n_lt_0, q34, if_false]
  · refine ⟨-1, σ, _, ?_, ?_, r0⟩
    · simp only [s82_1d hv, e82, s82_0, s82_108, s82_109]
    · simp (disch := omega) only [s138_6d hv, e138, s138_0, s138_1, s138_2, s138_5, s138_91, s138_92]
end LU
