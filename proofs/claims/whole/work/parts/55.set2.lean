/-! deny, on, name, namer -/
section TELM
variable {σ σ' : ir_S} {N m F C K : Nat} {LA LB : Nat → Nat}
theorem cl_R1 {p i : Nat} {v : Int32} (hp : 6 ≤ p) (hp2 : p < 25) (r : R1 σ N m LA LB) : R1 (ir_up (ir_up (ir_up (ir_up σ p i v) 25 6 0) 30 0 0) 33 0 0) N m LA LB := R1_c (fun c hc => by
  have : c = 1 ∨ c = 2 ∨ c = 3 ∨ c = 4 ∨ c = 5 ∨ c = 34 ∨ c = 35 ∨ c = 36 := by simpa using hc
  rw [u_n _ _ _ (by omega), u_n _ _ _ (by omega), u_n _ _ _ (by omega), u_n _ _ _ (by omega)]) (by simp (disch := omega) only [u_n, u_s, upd_n]) (by simp (disch := omega) only [u_n, u_s, upd_n]) r
theorem cl_Ho {p i : Nat} {v x : Int32} (hp : 6 ≤ p) (hp2 : p < 25) : isHo (ir_up (ir_up (ir_up (ir_up σ p i v) 25 6 0) 30 0 0) 33 0 0) x = isHo σ x := by
  unfold isHo isN
  simp (disch := omega) only [u_n]
theorem cl_Wa {p i : Nat} {v x : Int32} (hp : 6 ≤ p) (hp2 : p < 25) : isWa (ir_up (ir_up (ir_up (ir_up σ p i v) 25 6 0) 30 0 0) 33 0 0) x = isWa σ x := by
  unfold isWa isN
  simp (disch := omega) only [u_n]
theorem or_clr (x b : Int32) : (x &&& (b ^^^ (-1))) ||| b = x ||| b := by
  apply b_ext
  intro i hi
  rw [b_or, b_and, b_xor, b_m1 i hi, b_or]
  cases bt x i <;> cases bt b i <;> rfl
theorem p_deny {d : Nat} {v w x y : Int32} (h : RR σ) : PAIR d 77 133 [.int v, .int w, .int x, .int y] σ := by
  obtain ⟨N, m, F, C, K, LA, LB, r⟩ := h
  have hN := r.1.1.1
  have r0 := RA_frR (frR_33 (v := 0)) r
  have ag0 := agS_frR (frR_33 (σ := σ) (v := 0))
  have q := q14 r.1.1
  cases hg : isWa σ v with
  | false =>
    refine ⟨0, σ, _, ?_, ?_, RR_of r0⟩
    · simp only [e77, s77_0, s77_1, s77_4, s77_5, s77_8, s77_29, s77_30z, s77_30o, s77_30b, c25 q, hg, ir_b_f, ir_k_i, ir_tl_i, if_true]
    · simp only [e133, s133_0, s133_1, s133_2, s133_5, s133_6, s133_7, s133_10, s133_28, s133_29z, s133_29o, s133_29b, mWall r0.1.1, isWa_st ag0, hg, ir_b_f, ir_k_i, ir_tl_i, if_true]
  | true =>
    cases hh : isHo σ w with
    | false =>
      refine ⟨0, σ, _, ?_, ?_, RR_of r0⟩
      · simp only [e77, s77_0, s77_1, s77_4, s77_5, s77_8, s77_11, s77_12, s77_15, s77_16, s77_19, s77_29, s77_30z, s77_30o, s77_30b, c25 q, c24 q, hg, hh, ir_b_f, ir_b_t, ir_k_i, ir_tl_i, i_10, if_true, if_false]
      · simp only [e133, s133_0, s133_1, s133_2, s133_5, s133_6, s133_7, s133_10, s133_13, s133_14, s133_15, s133_18, s133_28, s133_29z, s133_29o, s133_29b, mWall r0.1.1, mHost r0.1.1, isWa_st ag0, isHo_st ag0, hg, hh, ir_b_f, ir_b_t, ir_k_i, ir_tl_i, i_10, if_true, if_false]
    | true =>
      cases hs : inr x 4 with
      | false =>
        refine ⟨0, σ, _, ?_, ?_, RR_of r0⟩
        · simp only [e77, s77_0, s77_1, s77_4, s77_5, s77_8, s77_11, s77_12, s77_15, s77_16, s77_19, s77_22, s77_23, s77_26, s77_29, s77_30z, s77_30o, s77_30b, c25 q, c24 q, c103, hg, hh, hs, ir_b_f, ir_b_t, ir_k_i, ir_tl_i, i_10, if_true, if_false]
        · simp only [e133, s133_0, s133_1, s133_2, s133_5, s133_6, s133_7, s133_10, s133_13, s133_14, s133_15, s133_18, s133_21, s133_22, s133_25, s133_28, s133_29z, s133_29o, s133_29b, mWall r0.1.1, mHost r0.1.1, m126, isWa_st ag0, isHo_st ag0, hg, hh, hs, ir_b_f, ir_b_t, ir_k_i, ir_tl_i, i_10, if_true, if_false]
      | true =>
        obtain ⟨a, ha, rfl, ha2⟩ := isWa_k r.1.1 hg
        obtain ⟨b, hb, rfl, hb2⟩ := isHo_k r.1.1 hh
        have q2 : a * 12 + b < 144 := by omega
        obtain ⟨t1, t2, t3, t4, t5, t6, t7, t8, t9, t10, t11⟩ := r.1.2.1
        have hR2 : ∀ V, R2 (tel σ 8 38 (a * 12 + b) V) N := by
          intro V
          unfold R2
          rw [tel_p (by omega) (by omega), tel_q (by omega) (by omega), tel_33 (by decide) (by decide) (by decide) (by decide)]
          rw [tel_n (c := 37) (by decide) (by decide) (by decide) (by decide) (by decide), tel_n (c := 7) (by decide) (by decide) (by decide) (by decide) (by decide), tel_n (c := 39) (by decide) (by decide) (by decide) (by decide) (by decide), tel_n (c := 9) (by decide) (by decide) (by decide) (by decide) (by decide), tel_n (c := 40) (by decide) (by decide) (by decide) (by decide) (by decide), tel_n (c := 10) (by decide) (by decide) (by decide) (by decide) (by decide), tel_n (c := 6) (by decide) (by decide) (by decide) (by decide) (by decide), tel_n (c := 2) (by decide) (by decide) (by decide) (by decide) (by decide)]
          refine ⟨t1, fun i hi => ?_, t3, t4, t5, t6, t7, t8, fun a' b' s h1 h2 h3 => ?_, t10, t11⟩
          · by_cases e : i = a * 12 + b
            · rw [e, upd_s, upd_s]
            · rw [upd_n _ _ e, upd_n _ _ e]; exact t2 i hi
          · by_cases e : a' * 12 + b' = a * 12 + b
            · obtain ⟨rfl, rfl⟩ := (ix12 h2 (by omega)).mp e
              intro _
              exact ⟨ha, ha2⟩
            · rw [upd_n _ _ e]; exact t9 a' b' s h1 h2 h3
        have t2' := t2 _ q2
        have f1 : ∀ V, R1 (ir_up (ir_up (ir_up (ir_up σ 8 (a * 12 + b) V) 25 6 0) 30 0 0) 33 0 0) N m LA LB := fun V => cl_R1 (by decide) (by decide) r.1.1
        have g1 : ∀ V, isWa (ir_up (ir_up (ir_up (ir_up σ 8 (a * 12 + b) V) 25 6 0) 30 0 0) 33 0 0) (nI a) = true := fun V => by rw [cl_Wa (by decide) (by decide)]; exact hg
        have g2 : ∀ V, isHo (ir_up (ir_up (ir_up (ir_up σ 8 (a * 12 + b) V) 25 6 0) 30 0 0) 33 0 0) (nI b) = true := fun V => by rw [cl_Ho (by decide) (by decide)]; exact hh
        by_cases hy : y = 0
        · have k46 := c46_6 (d := d + 48) (k := x) (is := y) (σ := σ) (show a < 12 by omega) (show b < 12 by omega)
          rw [if_pos hy] at k46
          refine ⟨1, ir_up (ir_up (ir_up σ 8 (a * 12 + b) (σ 8 (a * 12 + b) &&& (((1 : Int32) <<< (x &&& 31)) ^^^ (-1)))) 25 6 0) 30 0 0, tel σ 8 38 (a * 12 + b) (σ 8 (a * 12 + b) &&& (((1 : Int32) <<< (x &&& 31)) ^^^ (-1))), ?_, ?_, RR_of (RA_tel r (Or.inr (Or.inl ⟨rfl, rfl⟩)) (hR2 _))⟩
          · simp only [e77, s77_0, s77_1, s77_4, s77_5, s77_8, s77_11, s77_12, s77_15, s77_16, s77_19, s77_22, s77_23, s77_26, s77_31, s77_32, s77_35, s77_36, s77_37, s77_38, s77_40_6, s77_40_11, s77_43, s77_44, s77_47, s77_48z, s77_48o, s77_48b, c25 q, c24 q, c103, hg, hh, hs, k46, c111, ir_b_t, ir_k_i, ir_tl_i, ir_k_v, ir_tl_v, i_10, if_false]
          · unfold tel
            simp (disch := omega) only [e133, s133_0, s133_1, s133_2, s133_5, s133_6, s133_7, s133_10, s133_13, s133_14, s133_15, s133_18, s133_21, s133_22, s133_25, s133_30, s133_31, s133_34, s133_35, s133_38, s133_40, s133_41, s133_42, s133_43, s133_44, s133_45, s133_47, s133_48, s133_51, s133_53, s133_54, s133_55, s133_56, s133_57, s133_59, s133_71, s133_73, s133_74, s133_75, s133_76, s133_77, s133_78, s133_79, s133_80, s133_81z, s133_81o, s133_81b, xA38, xL38, xa38, mWall (f1 _), mHost (f1 _), m126, g1, g2, hs, hy, m129, n_12m, n_lt_0, n_le_0, n_tl_0, n_el_0, n_eq_0, n_ad_0, n_lt_1, n_le_1, n_tl_1, n_el_1, n_eq_1, n_ad_1, n_lt_2, n_le_2, n_tl_2, n_el_2, n_eq_2, n_ad_2, n_lt_3, n_le_3, n_tl_3, n_el_3, n_eq_3, n_ad_3, n_lt_4, n_le_4, n_tl_4, n_el_4, n_eq_4, n_ad_4, n_lt_5, n_le_5, n_tl_5, n_el_5, n_eq_5, n_ad_5, n_lt_6, n_le_6, n_tl_6, n_el_6, n_eq_6, n_ad_6, n_lt_10, n_le_10, n_tl_10, n_el_10, n_eq_10, n_ad_10, n_lt_11, n_le_11, n_tl_11, n_el_11, n_eq_11, n_ad_11, n_lt_12, n_le_12, n_tl_12, n_el_12, n_eq_12, n_ad_12, n_lt_13, n_le_13, n_tl_13, n_el_13, n_eq_13, n_ad_13, n_lt_15, n_le_15, n_tl_15, n_el_15, n_eq_15, n_ad_15, n_lt_20, n_le_20, n_tl_20, n_el_20, n_eq_20, n_ad_20, n_lt_30, n_le_30, n_tl_30, n_el_30, n_eq_30, n_ad_30, n_lt_31, n_le_31, n_tl_31, n_el_31, n_eq_31, n_ad_31, n_lt_32, n_le_32, n_tl_32, n_el_32, n_eq_32, n_ad_32, n_lt_60, n_le_60, n_tl_60, n_el_60, n_eq_60, n_ad_60, n_lt_99, n_le_99, n_tl_99, n_el_99, n_eq_99, n_ad_99, n_lt_100, n_le_100, n_tl_100, n_el_100, n_eq_100, n_ad_100, n_lt_144, n_le_144, n_tl_144, n_el_144, n_eq_144, n_ad_144, n_lt_4096, n_le_4096, n_tl_4096, n_el_4096, n_eq_4096, n_ad_4096, n_mulK, nI_add, pk_mul, n_lt, n_le, n_eq, n_eqM, n_ix, n_cl, q2, u_n, t2', decide_true, ir_b_t, ir_k_i, ir_tl_i, ir_k_v, ir_tl_v, i_10, if_true, if_false]
        · have k46 := c46_6 (d := d + 48) (k := x) (is := y) (σ := σ) (show a < 12 by omega) (show b < 12 by omega)
          rw [if_neg hy, or_clr] at k46
          refine ⟨1, ir_up (ir_up (ir_up σ 8 (a * 12 + b) (σ 8 (a * 12 + b) ||| ((1 : Int32) <<< (x &&& 31)))) 25 6 0) 30 0 0, tel σ 8 38 (a * 12 + b) (σ 8 (a * 12 + b) ||| ((1 : Int32) <<< (x &&& 31))), ?_, ?_, RR_of (RA_tel r (Or.inr (Or.inl ⟨rfl, rfl⟩)) (hR2 _))⟩
          · simp only [e77, s77_0, s77_1, s77_4, s77_5, s77_8, s77_11, s77_12, s77_15, s77_16, s77_19, s77_22, s77_23, s77_26, s77_31, s77_32, s77_35, s77_36, s77_37, s77_38, s77_40_6, s77_40_11, s77_43, s77_44, s77_47, s77_48z, s77_48o, s77_48b, c25 q, c24 q, c103, hg, hh, hs, k46, c111, ir_b_t, ir_k_i, ir_tl_i, ir_k_v, ir_tl_v, i_10, if_false]
          · unfold tel
            simp (disch := omega) only [e133, s133_0, s133_1, s133_2, s133_5, s133_6, s133_7, s133_10, s133_13, s133_14, s133_15, s133_18, s133_21, s133_22, s133_25, s133_30, s133_31, s133_34, s133_35, s133_38, s133_40, s133_41, s133_42, s133_43, s133_44, s133_45, s133_47, s133_48, s133_51, s133_53, s133_54, s133_55, s133_56, s133_57, s133_59, s133_62, s133_64, s133_65, s133_66, s133_67, s133_68, s133_79, s133_80, s133_81z, s133_81o, s133_81b, xA38, xL38, xa38, mWall (f1 _), mHost (f1 _), m126, g1, g2, hs, hy, m129, n_12m, n_lt_0, n_le_0, n_tl_0, n_el_0, n_eq_0, n_ad_0, n_lt_1, n_le_1, n_tl_1, n_el_1, n_eq_1, n_ad_1, n_lt_2, n_le_2, n_tl_2, n_el_2, n_eq_2, n_ad_2, n_lt_3, n_le_3, n_tl_3, n_el_3, n_eq_3, n_ad_3, n_lt_4, n_le_4, n_tl_4, n_el_4, n_eq_4, n_ad_4, n_lt_5, n_le_5, n_tl_5, n_el_5, n_eq_5, n_ad_5, n_lt_6, n_le_6, n_tl_6, n_el_6, n_eq_6, n_ad_6, n_lt_10, n_le_10, n_tl_10, n_el_10, n_eq_10, n_ad_10, n_lt_11, n_le_11, n_tl_11, n_el_11, n_eq_11, n_ad_11, n_lt_12, n_le_12, n_tl_12, n_el_12, n_eq_12, n_ad_12, n_lt_13, n_le_13, n_tl_13, n_el_13, n_eq_13, n_ad_13, n_lt_15, n_le_15, n_tl_15, n_el_15, n_eq_15, n_ad_15, n_lt_20, n_le_20, n_tl_20, n_el_20, n_eq_20, n_ad_20, n_lt_30, n_le_30, n_tl_30, n_el_30, n_eq_30, n_ad_30, n_lt_31, n_le_31, n_tl_31, n_el_31, n_eq_31, n_ad_31, n_lt_32, n_le_32, n_tl_32, n_el_32, n_eq_32, n_ad_32, n_lt_60, n_le_60, n_tl_60, n_el_60, n_eq_60, n_ad_60, n_lt_99, n_le_99, n_tl_99, n_el_99, n_eq_99, n_ad_99, n_lt_100, n_le_100, n_tl_100, n_el_100, n_eq_100, n_ad_100, n_lt_144, n_le_144, n_tl_144, n_el_144, n_eq_144, n_ad_144, n_lt_4096, n_le_4096, n_tl_4096, n_el_4096, n_eq_4096, n_ad_4096, n_mulK, nI_add, pk_mul, n_lt, n_le, n_eq, n_eqM, n_ix, n_cl, q2, u_n, t2', decide_true, ir_b_t, ir_k_i, ir_tl_i, ir_k_v, ir_tl_v, i_10, if_true, if_false]
theorem p_on {d : Nat} {w x y : Int32} (h : RR σ) : PAIR d 78 134 [.int w, .int x, .int y] σ := by
  obtain ⟨N, m, F, C, K, LA, LB, r⟩ := h
  have hN := r.1.1.1
  have r0 := RA_frR (frR_33 (v := 0)) r
  have ag0 := agS_frR (frR_33 (σ := σ) (v := 0))
  have q := q14 r.1.1
  cases hh : isHo σ w with
  | false =>
    refine ⟨0, σ, _, ?_, ?_, RR_of r0⟩
    · simp only [e78, s78_0, s78_1, s78_4, s78_5, s78_8, s78_18, s78_19z, s78_19o, s78_19b, c24 q, hh, ir_b_f, ir_k_i, ir_tl_i, if_true]
    · simp only [e134, s134_0, s134_1, s134_2, s134_5, s134_6, s134_7, s134_10, s134_20, s134_21z, s134_21o, s134_21b, mHost r0.1.1, isHo_st ag0, hh, ir_b_f, ir_k_i, ir_tl_i, if_true]
  | true =>
    cases hs : inr x 4 with
    | false =>
      refine ⟨0, σ, _, ?_, ?_, RR_of r0⟩
      · simp only [e78, s78_0, s78_1, s78_4, s78_5, s78_8, s78_11, s78_12, s78_15, s78_18, s78_19z, s78_19o, s78_19b, c24 q, c103, hh, hs, ir_b_f, ir_b_t, ir_k_i, ir_tl_i, i_10, if_true, if_false]
      · simp only [e134, s134_0, s134_1, s134_2, s134_5, s134_6, s134_7, s134_10, s134_13, s134_14, s134_17, s134_20, s134_21z, s134_21o, s134_21b, mHost r0.1.1, m126, isHo_st ag0, hh, hs, ir_b_f, ir_b_t, ir_k_i, ir_tl_i, i_10, if_true, if_false]
    | true =>
      obtain ⟨b, hb, rfl, hb2⟩ := isHo_k r.1.1 hh
      have q2 : b < 12 := by omega
      obtain ⟨t1, t2, t3, t4, t5, t6, t7, t8, t9, t10, t11⟩ := r.1.2.1
      have hR2 : ∀ V, R2 (tel σ 9 39 b V) N := by
        intro V
        unfold R2
        rw [tel_p (by omega) (by omega), tel_q (by omega) (by omega), tel_33 (by decide) (by decide) (by decide) (by decide)]
        rw [tel_n (c := 37) (by decide) (by decide) (by decide) (by decide) (by decide), tel_n (c := 7) (by decide) (by decide) (by decide) (by decide) (by decide), tel_n (c := 38) (by decide) (by decide) (by decide) (by decide) (by decide), tel_n (c := 8) (by decide) (by decide) (by decide) (by decide) (by decide), tel_n (c := 40) (by decide) (by decide) (by decide) (by decide) (by decide), tel_n (c := 10) (by decide) (by decide) (by decide) (by decide) (by decide), tel_n (c := 6) (by decide) (by decide) (by decide) (by decide) (by decide), tel_n (c := 2) (by decide) (by decide) (by decide) (by decide) (by decide)]
        refine ⟨t1, t2, fun i hi => ?_, t4, t5, t6, t7, t8, t9, t10, t11⟩
        by_cases e : i = b
        · rw [e, upd_s, upd_s]
        · rw [upd_n _ _ e, upd_n _ _ e]; exact t3 i hi
      have t3' := t3 _ q2
      have f1 : ∀ V, R1 (ir_up (ir_up (ir_up (ir_up σ 9 b V) 25 6 0) 30 0 0) 33 0 0) N m LA LB := fun V => cl_R1 (by decide) (by decide) r.1.1
      have g2 : ∀ V, isHo (ir_up (ir_up (ir_up (ir_up σ 9 b V) 25 6 0) 30 0 0) 33 0 0) (nI b) = true := fun V => by rw [cl_Ho (by decide) (by decide)]; exact hh
      by_cases hy : y = 0
      · have k47 := c47_6 (d := d + 48) (k := x) (is := y) (σ := σ) q2
        rw [if_pos hy] at k47
        refine ⟨1, ir_up (ir_up (ir_up σ 9 b (σ 9 b &&& (((1 : Int32) <<< (x &&& 31)) ^^^ (-1)))) 25 6 0) 30 0 0, tel σ 9 39 b (σ 9 b &&& (((1 : Int32) <<< (x &&& 31)) ^^^ (-1))), ?_, ?_, RR_of (RA_tel r (Or.inr (Or.inr (Or.inl ⟨rfl, rfl⟩))) (hR2 _))⟩
        · simp only [e78, s78_0, s78_1, s78_4, s78_5, s78_8, s78_11, s78_12, s78_15, s78_20, s78_21, s78_24, s78_25, s78_26, s78_27_6, s78_27_11, s78_30, s78_31, s78_34, s78_35z, s78_35o, s78_35b, c24 q, c103, hh, hs, k47, c111, ir_b_t, ir_k_i, ir_tl_i, ir_k_v, ir_tl_v, i_10, if_false]
        · unfold tel
          simp (disch := omega) only [e134, s134_0, s134_1, s134_2, s134_5, s134_6, s134_7, s134_10, s134_13, s134_14, s134_17, s134_22, s134_23, s134_26, s134_27, s134_30, s134_31, s134_32, s134_48, s134_49, s134_52, s134_53, s134_54, s134_55, s134_56, s134_57, s134_58, s134_59, s134_60, s134_61, s134_62z, s134_62o, s134_62b, xA39, xL39, xa39, mHost (f1 _), m126, g2, hs, hy, m129, n_lt_0, n_le_0, n_tl_0, n_el_0, n_eq_0, n_ad_0, n_lt_1, n_le_1, n_tl_1, n_el_1, n_eq_1, n_ad_1, n_lt_2, n_le_2, n_tl_2, n_el_2, n_eq_2, n_ad_2, n_lt_3, n_le_3, n_tl_3, n_el_3, n_eq_3, n_ad_3, n_lt_4, n_le_4, n_tl_4, n_el_4, n_eq_4, n_ad_4, n_lt_5, n_le_5, n_tl_5, n_el_5, n_eq_5, n_ad_5, n_lt_6, n_le_6, n_tl_6, n_el_6, n_eq_6, n_ad_6, n_lt_10, n_le_10, n_tl_10, n_el_10, n_eq_10, n_ad_10, n_lt_11, n_le_11, n_tl_11, n_el_11, n_eq_11, n_ad_11, n_lt_12, n_le_12, n_tl_12, n_el_12, n_eq_12, n_ad_12, n_lt_13, n_le_13, n_tl_13, n_el_13, n_eq_13, n_ad_13, n_lt_15, n_le_15, n_tl_15, n_el_15, n_eq_15, n_ad_15, n_lt_20, n_le_20, n_tl_20, n_el_20, n_eq_20, n_ad_20, n_lt_30, n_le_30, n_tl_30, n_el_30, n_eq_30, n_ad_30, n_lt_31, n_le_31, n_tl_31, n_el_31, n_eq_31, n_ad_31, n_lt_32, n_le_32, n_tl_32, n_el_32, n_eq_32, n_ad_32, n_lt_60, n_le_60, n_tl_60, n_el_60, n_eq_60, n_ad_60, n_lt_99, n_le_99, n_tl_99, n_el_99, n_eq_99, n_ad_99, n_lt_100, n_le_100, n_tl_100, n_el_100, n_eq_100, n_ad_100, n_lt_144, n_le_144, n_tl_144, n_el_144, n_eq_144, n_ad_144, n_lt_4096, n_le_4096, n_tl_4096, n_el_4096, n_eq_4096, n_ad_4096, n_mulK, nI_add, pk_mul, n_lt, n_le, n_eq, n_eqM, n_ix, n_cl, q2, u_n, t3', decide_true, ir_b_t, ir_k_i, ir_tl_i, ir_k_v, ir_tl_v, i_10, if_true, if_false]
      · have k47 := c47_6 (d := d + 48) (k := x) (is := y) (σ := σ) q2
        rw [if_neg hy, or_clr] at k47
        refine ⟨1, ir_up (ir_up (ir_up σ 9 b (σ 9 b ||| ((1 : Int32) <<< (x &&& 31)))) 25 6 0) 30 0 0, tel σ 9 39 b (σ 9 b ||| ((1 : Int32) <<< (x &&& 31))), ?_, ?_, RR_of (RA_tel r (Or.inr (Or.inr (Or.inl ⟨rfl, rfl⟩))) (hR2 _))⟩
        · simp only [e78, s78_0, s78_1, s78_4, s78_5, s78_8, s78_11, s78_12, s78_15, s78_20, s78_21, s78_24, s78_25, s78_26, s78_27_6, s78_27_11, s78_30, s78_31, s78_34, s78_35z, s78_35o, s78_35b, c24 q, c103, hh, hs, k47, c111, ir_b_t, ir_k_i, ir_tl_i, ir_k_v, ir_tl_v, i_10, if_false]
        · unfold tel
          simp (disch := omega) only [e134, s134_0, s134_1, s134_2, s134_5, s134_6, s134_7, s134_10, s134_13, s134_14, s134_17, s134_22, s134_23, s134_26, s134_27, s134_30, s134_31, s134_32, s134_35, s134_36, s134_39, s134_40, s134_41, s134_42, s134_43, s134_44, s134_45, s134_60, s134_61, s134_62z, s134_62o, s134_62b, xA39, xL39, xa39, mHost (f1 _), m126, g2, hs, hy, m129, n_lt_0, n_le_0, n_tl_0, n_el_0, n_eq_0, n_ad_0, n_lt_1, n_le_1, n_tl_1, n_el_1, n_eq_1, n_ad_1, n_lt_2, n_le_2, n_tl_2, n_el_2, n_eq_2, n_ad_2, n_lt_3, n_le_3, n_tl_3, n_el_3, n_eq_3, n_ad_3, n_lt_4, n_le_4, n_tl_4, n_el_4, n_eq_4, n_ad_4, n_lt_5, n_le_5, n_tl_5, n_el_5, n_eq_5, n_ad_5, n_lt_6, n_le_6, n_tl_6, n_el_6, n_eq_6, n_ad_6, n_lt_10, n_le_10, n_tl_10, n_el_10, n_eq_10, n_ad_10, n_lt_11, n_le_11, n_tl_11, n_el_11, n_eq_11, n_ad_11, n_lt_12, n_le_12, n_tl_12, n_el_12, n_eq_12, n_ad_12, n_lt_13, n_le_13, n_tl_13, n_el_13, n_eq_13, n_ad_13, n_lt_15, n_le_15, n_tl_15, n_el_15, n_eq_15, n_ad_15, n_lt_20, n_le_20, n_tl_20, n_el_20, n_eq_20, n_ad_20, n_lt_30, n_le_30, n_tl_30, n_el_30, n_eq_30, n_ad_30, n_lt_31, n_le_31, n_tl_31, n_el_31, n_eq_31, n_ad_31, n_lt_32, n_le_32, n_tl_32, n_el_32, n_eq_32, n_ad_32, n_lt_60, n_le_60, n_tl_60, n_el_60, n_eq_60, n_ad_60, n_lt_99, n_le_99, n_tl_99, n_el_99, n_eq_99, n_ad_99, n_lt_100, n_le_100, n_tl_100, n_el_100, n_eq_100, n_ad_100, n_lt_144, n_le_144, n_tl_144, n_el_144, n_eq_144, n_ad_144, n_lt_4096, n_le_4096, n_tl_4096, n_el_4096, n_eq_4096, n_ad_4096, n_mulK, nI_add, pk_mul, n_lt, n_le, n_eq, n_eqM, n_ix, n_cl, q2, u_n, t3', decide_true, ir_b_t, ir_k_i, ir_tl_i, ir_k_v, ir_tl_v, i_10, if_true, if_false]
theorem p_name {d : Nat} {v w : Int32} (h : RR σ) : PAIR d 79 135 [.int v, .int w] σ := by
  obtain ⟨N, m, F, C, K, LA, LB, r⟩ := h
  have hN := r.1.1.1
  have r0 := RA_frR (frR_33 (v := 0)) r
  have ag0 := agS_frR (frR_33 (σ := σ) (v := 0))
  have q := q14 r.1.1
  cases hv : inr v 6 with
  | false =>
    refine ⟨0, σ, _, ?_, ?_, RR_of r0⟩
    · simp only [e79, s79_0, s79_1, s79_4, s79_23, s79_24z, s79_24o, s79_24b, c104, hv, ir_b_f, ir_k_i, ir_tl_i, if_true]
    · simp only [e135, s135_0, s135_1, s135_2, s135_5, s135_6, s135_9, s135_25, s135_26z, s135_26o, s135_26b, m127, hv, ir_b_f, ir_k_i, ir_tl_i, if_true]
  | true =>
    by_cases hok : w = -1 ∨ isHo σ w = true
    · obtain ⟨n, hn, rfl⟩ := inr_nI (n := 6) (by omega) hv
      obtain ⟨t1, t2, t3, t4, t5, t6, t7, t8, t9, t10, t11⟩ := r.1.2.1
      have hnod : nod N w := by
        rcases hok with z | z
        · exact Or.inl z
        · obtain ⟨b, hb, rfl, _⟩ := isHo_k r.1.1 z
          exact Or.inr ⟨b, hb, rfl⟩
      have hR2 : R2 (tel σ 10 40 n w) N := by
        unfold R2
        rw [tel_p (by omega) (by omega), tel_q (by omega) (by omega), tel_33 (by decide) (by decide) (by decide) (by decide)]
        rw [tel_n (c := 37) (by decide) (by decide) (by decide) (by decide) (by decide), tel_n (c := 7) (by decide) (by decide) (by decide) (by decide) (by decide), tel_n (c := 38) (by decide) (by decide) (by decide) (by decide) (by decide), tel_n (c := 8) (by decide) (by decide) (by decide) (by decide) (by decide), tel_n (c := 39) (by decide) (by decide) (by decide) (by decide) (by decide), tel_n (c := 9) (by decide) (by decide) (by decide) (by decide) (by decide), tel_n (c := 6) (by decide) (by decide) (by decide) (by decide) (by decide), tel_n (c := 2) (by decide) (by decide) (by decide) (by decide) (by decide)]
        refine ⟨t1, t2, t3, fun i hi => ?_, t5, t6, t7, t8, t9, fun i hi => ?_, t11⟩
        · by_cases e : i = n
          · rw [e, upd_s, upd_s]
          · rw [upd_n _ _ e, upd_n _ _ e]; exact t4 i hi
        · by_cases e : i = n
          · rw [e, upd_s]; exact hnod
          · rw [upd_n _ _ e]; exact t10 i hi
      have f1 : R1 (ir_up (ir_up (ir_up (ir_up σ 10 n w) 25 6 0) 30 0 0) 33 0 0) N m LA LB := cl_R1 (by decide) (by decide) r.1.1
      have g2 : isHo (ir_up (ir_up (ir_up (ir_up σ 10 n w) 25 6 0) 30 0 0) 33 0 0) w = isHo σ w := cl_Ho (by decide) (by decide)
      have k48 := c48_6 (d := d + 48) (v := w) (σ := σ) hn
      have q2 : n < 6 := hn
      refine ⟨1, ir_up (ir_up (ir_up σ 10 n w) 25 6 0) 30 0 0, tel σ 10 40 n w, ?_, ?_, RR_of (RA_tel r (Or.inr (Or.inr (Or.inr ⟨rfl, rfl⟩))) hR2)⟩
      · by_cases zm : w = -1
        · simp only [e79, s79_0, s79_1, s79_4, s79_7, s79_8, s79_9, s79_25, s79_26, s79_29, s79_30, s79_31_6, s79_31_11, s79_34, s79_35, s79_38, s79_39z, s79_39o, s79_39b, c104, hv, if_pos zm, k48, c111, ir_b_t, ir_k_i, ir_tl_i, ir_k_v, ir_tl_v, i_10, if_false]
        · have z : isHo σ w = true := by
            rcases hok with z | z
            · exact absurd z zm
            · exact z
          simp only [e79, s79_0, s79_1, s79_4, s79_7, s79_8, s79_9, s79_12, s79_13, s79_16, s79_17, s79_20, s79_25, s79_26, s79_29, s79_30, s79_31_6, s79_31_11, s79_34, s79_35, s79_38, s79_39z, s79_39o, s79_39b, c104, c24 q, hv, z, if_neg zm, k48, c111, ir_b_t, ir_k_i, ir_tl_i, ir_k_v, ir_tl_v, i_10, if_false]
      · unfold tel
        by_cases zm : w = -1
        · simp (disch := omega) only [e135, s135_0, s135_1, s135_2, s135_5, s135_6, s135_9, s135_12, s135_13, s135_14, s135_27, s135_28, s135_31, s135_32, s135_35, s135_36, s135_37, s135_38, s135_39z, s135_39o, s135_39b, xA40, xL40, xa40, m127, hv, if_pos zm, m129, n_lt_0, n_le_0, n_tl_0, n_el_0, n_eq_0, n_ad_0, n_lt_1, n_le_1, n_tl_1, n_el_1, n_eq_1, n_ad_1, n_lt_2, n_le_2, n_tl_2, n_el_2, n_eq_2, n_ad_2, n_lt_3, n_le_3, n_tl_3, n_el_3, n_eq_3, n_ad_3, n_lt_4, n_le_4, n_tl_4, n_el_4, n_eq_4, n_ad_4, n_lt_5, n_le_5, n_tl_5, n_el_5, n_eq_5, n_ad_5, n_lt_6, n_le_6, n_tl_6, n_el_6, n_eq_6, n_ad_6, n_lt_10, n_le_10, n_tl_10, n_el_10, n_eq_10, n_ad_10, n_lt_11, n_le_11, n_tl_11, n_el_11, n_eq_11, n_ad_11, n_lt_12, n_le_12, n_tl_12, n_el_12, n_eq_12, n_ad_12, n_lt_13, n_le_13, n_tl_13, n_el_13, n_eq_13, n_ad_13, n_lt_15, n_le_15, n_tl_15, n_el_15, n_eq_15, n_ad_15, n_lt_20, n_le_20, n_tl_20, n_el_20, n_eq_20, n_ad_20, n_lt_30, n_le_30, n_tl_30, n_el_30, n_eq_30, n_ad_30, n_lt_31, n_le_31, n_tl_31, n_el_31, n_eq_31, n_ad_31, n_lt_32, n_le_32, n_tl_32, n_el_32, n_eq_32, n_ad_32, n_lt_60, n_le_60, n_tl_60, n_el_60, n_eq_60, n_ad_60, n_lt_99, n_le_99, n_tl_99, n_el_99, n_eq_99, n_ad_99, n_lt_100, n_le_100, n_tl_100, n_el_100, n_eq_100, n_ad_100, n_lt_144, n_le_144, n_tl_144, n_el_144, n_eq_144, n_ad_144, n_lt_4096, n_le_4096, n_tl_4096, n_el_4096, n_eq_4096, n_ad_4096, n_mulK, nI_add, pk_mul, n_lt, n_le, n_eq, n_eqM, n_ix, n_cl, q2, decide_true, ir_b_t, ir_k_i, ir_tl_i, ir_k_v, ir_tl_v, i_10, if_true, if_false]
        · have z : isHo σ w = true := by
            rcases hok with z | z
            · exact absurd z zm
            · exact z
          simp (disch := omega) only [e135, s135_0, s135_1, s135_2, s135_5, s135_6, s135_9, s135_12, s135_13, s135_14, s135_17, s135_18, s135_19, s135_22, s135_27, s135_28, s135_31, s135_32, s135_35, s135_36, s135_37, s135_38, s135_39z, s135_39o, s135_39b, xA40, xL40, xa40, m127, mHost f1, g2, z, hv, if_neg zm, m129, n_lt_0, n_le_0, n_tl_0, n_el_0, n_eq_0, n_ad_0, n_lt_1, n_le_1, n_tl_1, n_el_1, n_eq_1, n_ad_1, n_lt_2, n_le_2, n_tl_2, n_el_2, n_eq_2, n_ad_2, n_lt_3, n_le_3, n_tl_3, n_el_3, n_eq_3, n_ad_3, n_lt_4, n_le_4, n_tl_4, n_el_4, n_eq_4, n_ad_4, n_lt_5, n_le_5, n_tl_5, n_el_5, n_eq_5, n_ad_5, n_lt_6, n_le_6, n_tl_6, n_el_6, n_eq_6, n_ad_6, n_lt_10, n_le_10, n_tl_10, n_el_10, n_eq_10, n_ad_10, n_lt_11, n_le_11, n_tl_11, n_el_11, n_eq_11, n_ad_11, n_lt_12, n_le_12, n_tl_12, n_el_12, n_eq_12, n_ad_12, n_lt_13, n_le_13, n_tl_13, n_el_13, n_eq_13, n_ad_13, n_lt_15, n_le_15, n_tl_15, n_el_15, n_eq_15, n_ad_15, n_lt_20, n_le_20, n_tl_20, n_el_20, n_eq_20, n_ad_20, n_lt_30, n_le_30, n_tl_30, n_el_30, n_eq_30, n_ad_30, n_lt_31, n_le_31, n_tl_31, n_el_31, n_eq_31, n_ad_31, n_lt_32, n_le_32, n_tl_32, n_el_32, n_eq_32, n_ad_32, n_lt_60, n_le_60, n_tl_60, n_el_60, n_eq_60, n_ad_60, n_lt_99, n_le_99, n_tl_99, n_el_99, n_eq_99, n_ad_99, n_lt_100, n_le_100, n_tl_100, n_el_100, n_eq_100, n_ad_100, n_lt_144, n_le_144, n_tl_144, n_el_144, n_eq_144, n_ad_144, n_lt_4096, n_le_4096, n_tl_4096, n_el_4096, n_eq_4096, n_ad_4096, n_mulK, nI_add, pk_mul, n_lt, n_le, n_eq, n_eqM, n_ix, n_cl, q2, decide_true, ir_b_t, ir_k_i, ir_tl_i, ir_k_v, ir_tl_v, i_10, if_true, if_false]
    · have zm : ¬ w = -1 := fun z => hok (Or.inl z)
      have zn : isHo σ w = false := by
        cases z : isHo σ w with
        | false => rfl
        | true => exact absurd (Or.inr z) hok
      refine ⟨0, σ, _, ?_, ?_, RR_of r0⟩
      · simp only [e79, s79_0, s79_1, s79_4, s79_7, s79_8, s79_9, s79_12, s79_13, s79_16, s79_17, s79_20, s79_23, s79_24z, s79_24o, s79_24b, c104, c24 q, hv, zn, if_neg zm, ir_b_t, ir_b_f, ir_k_i, ir_tl_i, i_10, if_true, if_false]
      · simp only [e135, s135_0, s135_1, s135_2, s135_5, s135_6, s135_9, s135_12, s135_13, s135_14, s135_17, s135_18, s135_19, s135_22, s135_25, s135_26z, s135_26o, s135_26b, m127, mHost r0.1.1, isHo_st ag0, zn, hv, if_neg zm, ir_b_t, ir_b_f, ir_k_i, ir_tl_i, i_10, if_true, if_false]
theorem p_namer {d : Nat} {w : Int32} (h : RR σ) : PAIR d 80 136 [.int w] σ := by
  obtain ⟨N, m, F, C, K, LA, LB, r⟩ := h
  have hN := r.1.1.1
  have r0 := RA_frR (frR_33 (v := 0)) r
  have ag0 := agS_frR (frR_33 (σ := σ) (v := 0))
  have q := q14 r.1.1
  by_cases hok : w = -1 ∨ isHo σ w = true
  · obtain ⟨t1, t2, t3, t4, t5, t6, t7, t8, t9, t10, t11⟩ := r.1.2.1
    have hnod : nod N w := by
      rcases hok with z | z
      · exact Or.inl z
      · obtain ⟨b, hb, rfl, _⟩ := isHo_k r.1.1 z
        exact Or.inr ⟨b, hb, rfl⟩
    have f1 : R1 (ir_up (ir_up (ir_up (ir_up σ 6 4 w) 25 6 0) 30 0 0) 33 0 0) N m LA LB := cl_R1 (by decide) (by decide) r.1.1
    have g2 : isHo (ir_up (ir_up (ir_up (ir_up σ 6 4 w) 25 6 0) 30 0 0) 33 0 0) w = isHo σ w := cl_Ho (by decide) (by decide)
    have k49 := c49_6 (d := d + 48) (v := w) (σ := σ)
    have hn : ∀ c, c ≠ 6 → c ≠ 25 → c ≠ 30 → c ≠ 33 → (ir_up (ir_up (ir_up (ir_up (ir_up (ir_up σ 6 4 w) 25 6 0) 30 0 0) 33 0 0) 33 34 (-1)) 33 10 w) c = σ c := fun c a b e f => by rw [u_n _ _ _ f, u_n _ _ _ f, u_n _ _ _ f, u_n _ _ _ e, u_n _ _ _ b, u_n _ _ _ a]
    have h33 : ∀ k, k ≠ 0 → k ≠ 34 → k ≠ 10 → (ir_up (ir_up (ir_up (ir_up (ir_up (ir_up σ 6 4 w) 25 6 0) 30 0 0) 33 0 0) 33 34 (-1)) 33 10 w) 33 k = σ 33 k := fun k a b e => by
      simp (disch := omega) only [u_s, upd_n, u_n]
    have e6 : (ir_up (ir_up (ir_up (ir_up (ir_up (ir_up σ 6 4 w) 25 6 0) 30 0 0) 33 0 0) 33 34 (-1)) 33 10 w) 6 = upd (σ 6) 4 w := by simp (disch := omega) only [u_s, u_n]
    have e10 : (ir_up (ir_up (ir_up (ir_up (ir_up (ir_up σ 6 4 w) 25 6 0) 30 0 0) 33 0 0) 33 34 (-1)) 33 10 w) 33 10 = w := by rw [u_s, upd_s]
    have e34 : (ir_up (ir_up (ir_up (ir_up (ir_up (ir_up σ 6 4 w) 25 6 0) 30 0 0) 33 0 0) 33 34 (-1)) 33 10 w) 33 34 = -1 := by simp (disch := omega) only [u_s, upd_s, upd_n]
    have e25 : (ir_up (ir_up (ir_up (ir_up (ir_up (ir_up σ 6 4 w) 25 6 0) 30 0 0) 33 0 0) 33 34 (-1)) 33 10 w) 25 6 = 0 := by simp (disch := omega) only [u_s, u_n, upd_s, upd_n]
    have e30 : (ir_up (ir_up (ir_up (ir_up (ir_up (ir_up σ 6 4 w) 25 6 0) 30 0 0) 33 0 0) 33 34 (-1)) 33 10 w) 30 0 = 0 := by simp (disch := omega) only [u_s, u_n, upd_s, upd_n]
    refine ⟨1, ir_up (ir_up (ir_up σ 6 4 w) 25 6 0) 30 0 0, ir_up (ir_up (ir_up (ir_up (ir_up (ir_up σ 6 4 w) 25 6 0) 30 0 0) 33 0 0) 33 34 (-1)) 33 10 w, ?_, ?_, ?_⟩
    · by_cases zm : w = -1
      · simp only [e80, s80_0, s80_1, s80_2, s80_18, s80_19, s80_22, s80_23_6, s80_23_11, s80_26, s80_27, s80_30, s80_31z, s80_31o, s80_31b, if_pos zm, k49, c111, ir_k_v, ir_tl_v]
      · have z : isHo σ w = true := by
          rcases hok with z | z
          · exact absurd z zm
          · exact z
        simp only [e80, s80_0, s80_1, s80_2, s80_5, s80_6, s80_9, s80_10, s80_13, s80_18, s80_19, s80_22, s80_23_6, s80_23_11, s80_26, s80_27, s80_30, s80_31z, s80_31o, s80_31b, c24 q, z, if_neg zm, k49, c111, ir_b_t, ir_k_i, ir_tl_i, ir_k_v, ir_tl_v, i_10, if_false]
    · by_cases zm : w = -1
      · simp (disch := omega) only [e136, s136_0, s136_1, s136_2, s136_5, s136_6, s136_7, s136_20, s136_21, s136_24, s136_25, s136_26, s136_29, s136_30z, s136_30o, s136_30b, if_pos zm, m129, ir_k_v, ir_tl_v]
      · have z : isHo σ w = true := by
          rcases hok with z | z
          · exact absurd z zm
          · exact z
        simp (disch := omega) only [e136, s136_0, s136_1, s136_2, s136_5, s136_6, s136_7, s136_10, s136_11, s136_12, s136_15, s136_20, s136_21, s136_24, s136_25, s136_26, s136_29, s136_30z, s136_30o, s136_30b, mHost f1, g2, z, if_neg zm, m129, ir_b_t, ir_k_i, ir_tl_i, ir_k_v, ir_tl_v, i_10, if_false]
    · generalize (ir_up (ir_up (ir_up (ir_up (ir_up (ir_up σ 6 4 w) 25 6 0) 30 0 0) 33 0 0) 33 34 (-1)) 33 10 w) = τ at *
      refine RR_of (RA_ch r ⟨R1_c (fun c hc => ?_) (h33 1 (by decide) (by decide) (by decide)) (h33 3 (by decide) (by decide) (by decide)) r.1.1, ?_, R3_c (fun c hc => ?_) (h33 12 (by decide) (by decide) (by decide)) r.1.2.2.1, R4_c (fun c hc => ?_) (h33 17 (by decide) (by decide) (by decide)) r.1.2.2.2.1, R5_c (fun c hc => ?_) (h33 26 (by decide) (by decide) (by decide)) r.1.2.2.2.2⟩ (hn 31 (by decide) (by decide) (by decide) (by decide)) (hn 32 (by decide) (by decide) (by decide) (by decide)) (hn 49 (by decide) (by decide) (by decide) (by decide)) (h33 22 (by decide) (by decide) (by decide)) e25 e30 e34)
      · have : c = 1 ∨ c = 2 ∨ c = 3 ∨ c = 4 ∨ c = 5 ∨ c = 34 ∨ c = 35 ∨ c = 36 := by simpa using hc
        exact hn c (by omega) (by omega) (by omega) (by omega)
      · unfold R2
        rw [e6, e10, hn 37 (by decide) (by decide) (by decide) (by decide), hn 7 (by decide) (by decide) (by decide) (by decide), hn 38 (by decide) (by decide) (by decide) (by decide), hn 8 (by decide) (by decide) (by decide) (by decide), hn 39 (by decide) (by decide) (by decide) (by decide), hn 9 (by decide) (by decide) (by decide) (by decide), hn 40 (by decide) (by decide) (by decide) (by decide), hn 10 (by decide) (by decide) (by decide) (by decide), hn 2 (by decide) (by decide) (by decide) (by decide), upd_s, upd_n _ _ (show 5 ≠ 4 by decide), upd_n _ _ (show 6 ≠ 4 by decide)]
        exact ⟨t1, t2, t3, t4, rfl, t6, t7, t8, t9, t10, hnod⟩
      · have : c = 2 ∨ c = 18 ∨ c = 19 ∨ c = 42 ∨ c = 43 ∨ c = 44 ∨ c = 45 := by simpa using hc
        exact hn c (by omega) (by omega) (by omega) (by omega)
      · have : c = 20 ∨ c = 21 ∨ c = 46 ∨ c = 47 := by simpa using hc
        exact hn c (by omega) (by omega) (by omega) (by omega)
      · have : c = 22 ∨ c = 23 ∨ c = 51 ∨ c = 52 ∨ c = 53 ∨ c = 54 ∨ c = 55 := by simpa using hc
        exact hn c (by omega) (by omega) (by omega) (by omega)
  · have zm : ¬ w = -1 := fun z => hok (Or.inl z)
    have zn : isHo σ w = false := by
      cases z : isHo σ w with
      | false => rfl
      | true => exact absurd (Or.inr z) hok
    refine ⟨0, σ, _, ?_, ?_, RR_of r0⟩
    · simp only [e80, s80_0, s80_1, s80_2, s80_5, s80_6, s80_9, s80_10, s80_13, s80_16, s80_17z, s80_17o, s80_17b, c24 q, zn, if_neg zm, ir_b_f, ir_k_i, ir_tl_i, if_true]
    · simp only [e136, s136_0, s136_1, s136_2, s136_5, s136_6, s136_7, s136_10, s136_11, s136_12, s136_15, s136_18, s136_19z, s136_19o, s136_19b, mHost r0.1.1, isHo_st ag0, zn, if_neg zm, ir_b_f, ir_k_i, ir_tl_i, if_true]
end TELM
