/-! calls that tell: route, deny, on, name, namer -/
section TELL
variable {σ σ' : ir_S} {N m F C K N' m' F' C' K' : Nat} {LA LB LA' LB' : Nat → Nat}
theorem R1_c (h : ∀ c, c ∈ [1, 2, 3, 4, 5, 34, 35, 36] → σ' c = σ c) (a : σ' 33 1 = σ 33 1) (b : σ' 33 3 = σ 33 3) (r : R1 σ N m LA LB) : R1 σ' N m LA LB := by
  unfold R1 LN adjM relM at r ⊢
  rw [h 1 (by decide), h 2 (by decide), h 3 (by decide), h 4 (by decide), h 5 (by decide), h 34 (by decide), h 35 (by decide), h 36 (by decide), a, b]
  exact r
theorem R2_c (h : ∀ c, c ∈ [2, 6, 7, 8, 9, 10, 37, 38, 39, 40] → σ' c = σ c) (a : σ' 33 10 = σ 33 10) (r : R2 σ N) : R2 σ' N := by
  unfold R2 at r ⊢
  rw [h 2 (by decide), h 6 (by decide), h 7 (by decide), h 8 (by decide), h 9 (by decide), h 10 (by decide), h 37 (by decide), h 38 (by decide), h 39 (by decide), h 40 (by decide), a]
  exact r
theorem R3_c (h : ∀ c, c ∈ [2, 18, 19, 42, 43, 44, 45] → σ' c = σ c) (a : σ' 33 12 = σ 33 12) (r : R3 σ N m F) : R3 σ' N m F := by
  unfold R3 faultN fK fA fB fC at r ⊢
  rw [h 2 (by decide), h 18 (by decide), h 19 (by decide), h 42 (by decide), h 43 (by decide), h 44 (by decide), h 45 (by decide), a]
  exact r
theorem R4_c (h : ∀ c, c ∈ [20, 21, 46, 47] → σ' c = σ c) (a : σ' 33 17 = σ 33 17) (r : R4 σ F C) : R4 σ' F C := by
  unfold R4 at r ⊢
  rw [h 20 (by decide), h 21 (by decide), h 46 (by decide), h 47 (by decide), a]
  exact r
theorem R5_c (h : ∀ c, c ∈ [22, 23, 51, 52, 53, 54, 55] → σ' c = σ c) (a : σ' 33 26 = σ 33 26) (r : R5 σ N m K) : R5 σ' N m K := by
  unfold R5 at r ⊢
  rw [h 22 (by decide), h 23 (by decide), h 51 (by decide), h 52 (by decide), h 53 (by decide), h 54 (by decide), h 55 (by decide), a]
  exact r
theorem RA_ch (r : RA σ N m F C K LA LB) (hr : R0 σ' N' m' F' C' K' LA' LB') (h31 : σ' 31 = σ 31) (h32 : σ' 32 = σ 32) (h49 : σ' 49 = σ 49) (h22 : σ' 33 22 = σ 33 22) (a : σ' 25 6 = 0) (b : σ' 30 0 = 0) (c : σ' 33 34 = -1) : RA σ' N' m' F' C' K' LA' LB' := by
  refine ⟨hr, ?_, Or.inl ⟨b, c⟩, Or.inl a⟩
  have := r.2.1
  unfold RW at *
  rw [h31, h32, h49, h22]
  exact this
theorem isGa_k {v : Int32} (r : R1 σ N m LA LB) (h : isGa σ v = true) : ∃ k, k < N ∧ v = nI k ∧ 2 ≤ σ 2 k := by
  have hN := r.1
  unfold isGa at h
  rw [isN_inr r, Bool.and_eq_true, decide_eq_true_iff] at h
  obtain ⟨k, hk, rfl⟩ := inr_nI (by omega) h.1
  have h2 := h.2
  rw [n_cl (by omega)] at h2
  exact ⟨k, hk, rfl, h2⟩
theorem isWa_k {v : Int32} (r : R1 σ N m LA LB) (h : isWa σ v = true) : ∃ k, k < N ∧ v = nI k ∧ σ 2 k = 3 := by
  have hN := r.1
  unfold isWa at h
  rw [isN_inr r, Bool.and_eq_true, decide_eq_true_iff] at h
  obtain ⟨k, hk, rfl⟩ := inr_nI (by omega) h.1
  have h2 := h.2
  rw [n_cl (by omega)] at h2
  exact ⟨k, hk, rfl, h2⟩
theorem isGa_st {v : Int32} (h : agS σ σ') : isGa σ' v = isGa σ v := by
  have e : ∀ τ, isGa τ v = isGa (stat τ) v := fun τ => rfl
  rw [e, e σ, h]
theorem isWa_st {v : Int32} (h : agS σ σ') : isWa σ' v = isWa σ v := by
  have e : ∀ τ, isWa τ v = isWa (stat τ) v := fun τ => rfl
  rw [e, e σ, h]
/-- the state behind a telling call: the class's cell p, the reference's cell q -/
def tel (σ : ir_S) (p q i : Nat) (v : Int32) : ir_S := ir_up (ir_up (ir_up (ir_up (ir_up (ir_up σ p i v) 25 6 0) 30 0 0) 33 0 0) 33 34 (-1)) q i v
theorem tel_n {p q i c : Nat} {v : Int32} (h1 : c ≠ p) (h2 : c ≠ q) (h3 : c ≠ 25) (h4 : c ≠ 30) (h5 : c ≠ 33) : tel σ p q i v c = σ c := by
  unfold tel
  rw [u_n _ _ _ h2, u_n _ _ _ h5, u_n _ _ _ h5, u_n _ _ _ h4, u_n _ _ _ h3, u_n _ _ _ h1]
theorem tel_33 {p q i k : Nat} {v : Int32} (hp : p ≠ 33) (hq : q ≠ 33) (h0 : k ≠ 0) (h1 : k ≠ 34) : tel σ p q i v 33 k = σ 33 k := by
  unfold tel
  rw [u_n _ _ _ hq.symm, u_s, upd_n _ _ h1, u_s, upd_n _ _ h0, u_n _ _ _ (by decide), u_n _ _ _ (by decide), u_n _ _ _ hp.symm]
theorem tel_34 {p q i : Nat} {v : Int32} (hq : q ≠ 33) : tel σ p q i v 33 34 = -1 := by
  unfold tel
  rw [u_n _ _ _ hq.symm, u_s, upd_s]
theorem tel_p {p q i : Nat} {v : Int32} (hp : p < 25) (hq : 33 < q) : tel σ p q i v p = upd (σ p) i v := by
  unfold tel
  rw [u_n _ _ _ (by omega), u_n _ _ _ (by omega), u_n _ _ _ (by omega), u_n _ _ _ (by omega), u_n _ _ _ (by omega), u_s]
theorem tel_q {p q i : Nat} {v : Int32} (hp : p < 25) (hq : 33 < q) : tel σ p q i v q = upd (σ q) i v := by
  unfold tel
  rw [u_s, u_n _ _ _ (by omega), u_n _ _ _ (by omega), u_n _ _ _ (by omega), u_n _ _ _ (by omega), u_n _ _ _ (by omega)]
theorem tel_25 {p q i : Nat} {v : Int32} (hq : 33 < q) : tel σ p q i v 25 6 = 0 := by
  unfold tel
  rw [u_n _ _ _ (by omega), u_n _ _ _ (by decide), u_n _ _ _ (by decide), u_n _ _ _ (by decide), u_s, upd_s]
theorem tel_30 {p q i : Nat} {v : Int32} (hq : 33 < q) : tel σ p q i v 30 0 = 0 := by
  unfold tel
  rw [u_n _ _ _ (by omega), u_n _ _ _ (by decide), u_n _ _ _ (by decide), u_s, upd_s]
theorem mem_ne {c p : Nat} {l : List Nat} (h : c ∈ l) (hp : p ∉ l) : c ≠ p := fun e => hp (e ▸ h)
theorem RA_tel {p q i : Nat} {v : Int32} (r : RA σ N m F C K LA LB) (hpq : (p = 7 ∧ q = 37) ∨ (p = 8 ∧ q = 38) ∨ (p = 9 ∧ q = 39) ∨ (p = 10 ∧ q = 40)) (h2 : R2 (tel σ p q i v) N) : RA (tel σ p q i v) N m F C K LA LB := by
  have hp : p = 7 ∨ p = 8 ∨ p = 9 ∨ p = 10 := by omega
  have hq : q = 37 ∨ q = 38 ∨ q = 39 ∨ q = 40 := by omega
  have hn : ∀ c, c ≠ p → c ≠ q → c ≠ 25 → c ≠ 30 → c ≠ 33 → tel σ p q i v c = σ c := fun c a b d e f => tel_n a b d e f
  have h33 : ∀ k, k ≠ 0 → k ≠ 34 → tel σ p q i v 33 k = σ 33 k := fun k a b => tel_33 (by omega) (by omega) a b
  refine RA_ch r ⟨R1_c (fun c hc => ?_) (h33 1 (by decide) (by decide)) (h33 3 (by decide) (by decide)) r.1.1, h2, R3_c (fun c hc => ?_) (h33 12 (by decide) (by decide)) r.1.2.2.1, R4_c (fun c hc => ?_) (h33 17 (by decide) (by decide)) r.1.2.2.2.1, R5_c (fun c hc => ?_) (h33 26 (by decide) (by decide)) r.1.2.2.2.2⟩ (hn 31 (by omega) (by omega) (by decide) (by decide) (by decide)) (hn 32 (by omega) (by omega) (by decide) (by decide) (by decide)) (hn 49 (by omega) (by omega) (by decide) (by decide) (by decide)) (h33 22 (by decide) (by decide)) (tel_25 (by omega)) (tel_30 (by omega)) (tel_34 (by omega))
  · have : c = 1 ∨ c = 2 ∨ c = 3 ∨ c = 4 ∨ c = 5 ∨ c = 34 ∨ c = 35 ∨ c = 36 := by simpa using hc
    exact hn c (by omega) (by omega) (by omega) (by omega) (by omega)
  · have : c = 2 ∨ c = 18 ∨ c = 19 ∨ c = 42 ∨ c = 43 ∨ c = 44 ∨ c = 45 := by simpa using hc
    exact hn c (by omega) (by omega) (by omega) (by omega) (by omega)
  · have : c = 20 ∨ c = 21 ∨ c = 46 ∨ c = 47 := by simpa using hc
    exact hn c (by omega) (by omega) (by omega) (by omega) (by omega)
  · have : c = 22 ∨ c = 23 ∨ c = 51 ∨ c = 52 ∨ c = 53 ∨ c = 54 ∨ c = 55 := by simpa using hc
    exact hn c (by omega) (by omega) (by omega) (by omega) (by omega)
theorem clsT {p i : Nat} {v : Int32} (hp : p < 25) : agS (ir_up σ p i v) (ir_up (ir_up (ir_up (ir_up σ p i v) 25 6 0) 30 0 0) 33 0 0) := agS_33 rfl (agS_up rfl (agS_up rfl (agS_rf _)))
theorem p_route {d : Nat} {v w x : Int32} (h : RR σ) : PAIR d 76 132 [.int v, .int w, .int x] σ := by
  obtain ⟨N, m, F, C, K, LA, LB, r⟩ := h
  have hN := r.1.1.1
  have r0 := RA_frR (frR_33 (v := 0)) r
  have ag0 := agS_frR (frR_33 (σ := σ) (v := 0))
  have q := q14 r.1.1
  cases hg : isGa σ v with
  | false =>
    refine ⟨0, σ, _, ?_, ?_, RR_of r0⟩
    · simp only [e76, s76_0, s76_1, s76_4, s76_5, s76_8, s76_31, s76_32, s76_34, s76_36, s76_55, s76_56z, s76_56o, s76_56b, c26 q, hg, ir_b_f, ir_k_i, ir_tl_i, if_true]
    · simp only [e132, s132_0, s132_1, s132_2, s132_5, s132_6, s132_7, s132_10, s132_39, s132_40z, s132_40o, s132_40b, mGate r0.1.1, isGa_st ag0, hg, ir_b_f, ir_k_i, ir_tl_i, if_true]
  | true =>
    cases hh : isHo σ w with
    | false =>
      refine ⟨0, σ, _, ?_, ?_, RR_of r0⟩
      · simp only [e76, s76_0, s76_1, s76_4, s76_5, s76_8, s76_11, s76_12, s76_15, s76_16, s76_19, s76_31, s76_32, s76_34, s76_36, s76_55, s76_56z, s76_56o, s76_56b, c26 q, c24 q, hg, hh, ir_b_f, ir_b_t, ir_k_i, ir_tl_i, i_10, if_true, if_false]
      · simp only [e132, s132_0, s132_1, s132_2, s132_5, s132_6, s132_7, s132_10, s132_13, s132_14, s132_15, s132_18, s132_39, s132_40z, s132_40o, s132_40b, mGate r0.1.1, mHost r0.1.1, isGa_st ag0, isHo_st ag0, hg, hh, ir_b_f, ir_b_t, ir_k_i, ir_tl_i, i_10, if_true, if_false]
    | true =>
      by_cases hxv : x = v
      · refine ⟨0, σ, _, ?_, ?_, RR_of r0⟩
        · simp only [e76, s76_0, s76_1, s76_4, s76_5, s76_8, s76_11, s76_12, s76_15, s76_16, s76_19, s76_22, s76_23, s76_24, s76_31, s76_32, s76_34, s76_36, s76_55, s76_56z, s76_56o, s76_56b, c26 q, c24 q, hg, hh, if_pos hxv, ir_b_t, ir_k_i, ir_tl_i, i_10, if_true, if_false]
        · subst hxv
          obtain ⟨a, ha, rfl, _⟩ := isGa_k r.1.1 hg
          have hne := oI_m1 (b := a) (by omega)
          have hna : inr (nI a) (nI N) = true := inr_in hN ha
          simp only [e132, s132_0, s132_1, s132_2, s132_5, s132_6, s132_7, s132_10, s132_13, s132_14, s132_15, s132_18, s132_21, s132_22, s132_23, s132_26, s132_27, s132_28, s132_31, s132_34, s132_35, s132_36, s132_39, s132_40z, s132_40o, s132_40b, mGate r0.1.1, mHost r0.1.1, mNode r0.1.1, isGa_st ag0, isHo_st ag0, hg, hh, hna, if_neg hne, ir_b_t, ir_k_i, ir_tl_i, i_10, if_true, if_false]
      · by_cases hok : x = -1 ∨ inr x (nI N) = true
        · obtain ⟨a, ha, rfl, ha2⟩ := isGa_k r.1.1 hg
          obtain ⟨b, hb, rfl, hb2⟩ := isHo_k r.1.1 hh
          have hR2 : R2 (tel σ 7 37 (a * 12 + b) x) N := by
            obtain ⟨t1, t2, t3, t4, t5, t6, t7, t8, t9, t10, t11⟩ := r.1.2.1
            unfold R2
            rw [tel_p (by omega) (by omega), tel_q (by omega) (by omega), tel_33 (by decide) (by decide) (by decide) (by decide)]
            rw [tel_n (c := 38) (by decide) (by decide) (by decide) (by decide) (by decide), tel_n (c := 8) (by decide) (by decide) (by decide) (by decide) (by decide), tel_n (c := 39) (by decide) (by decide) (by decide) (by decide) (by decide), tel_n (c := 9) (by decide) (by decide) (by decide) (by decide) (by decide), tel_n (c := 40) (by decide) (by decide) (by decide) (by decide) (by decide), tel_n (c := 10) (by decide) (by decide) (by decide) (by decide) (by decide), tel_n (c := 6) (by decide) (by decide) (by decide) (by decide) (by decide), tel_n (c := 2) (by decide) (by decide) (by decide) (by decide) (by decide)]
            refine ⟨fun i hi => ?_, t2, t3, t4, t5, t6, t7, fun a' b' h1 h2 => ?_, t9, t10, t11⟩
            · by_cases e : i = a * 12 + b
              · rw [e, upd_s, upd_s]
              · rw [upd_n _ _ e, upd_n _ _ e]; exact t1 i hi
            · by_cases e : a' * 12 + b' = a * 12 + b
              · obtain ⟨rfl, rfl⟩ := (ix12 h2 (by omega)).mp e
                rw [upd_s]
                rcases hok with z | z
                · exact Or.inl z
                · obtain ⟨k, hk, rfl⟩ := inr_nI (by omega) z
                  exact Or.inr ⟨ha, hb, ha2, hb2, k, hk, rfl⟩
              · rw [upd_n _ _ e]; exact t8 a' b' h1 h2
          refine ⟨1, ir_up (ir_up (ir_up σ 7 (a * 12 + b) x) 25 6 0) 30 0 0, tel σ 7 37 (a * 12 + b) x, ?_, ?_, RR_of (RA_tel r (Or.inl ⟨rfl, rfl⟩) hR2)⟩
          · have k45 := d45_6 (d := d + 48) (v := x) (σ := σ) (show a < 12 by omega) (show b < 12 by omega)
            rcases hok with z | z
            · simp only [e76, s76_0, s76_1, s76_4, s76_5, s76_8, s76_11, s76_12, s76_15, s76_16, s76_19, s76_22, s76_23, s76_24, s76_27, s76_28, s76_32, s76_34, s76_36, s76_39, s76_40, s76_41, s76_57, s76_58, s76_61, s76_62, s76_63, s76_64_6, s76_64_11, s76_67, s76_68, s76_71, s76_72z, s76_72o, s76_72b, c26 q, c24 q, hg, hh, if_neg hxv, if_pos z, k45, c111, ir_b_t, ir_k_i, ir_tl_i, ir_k_v, ir_tl_v, i_10, if_true, if_false]
            · by_cases zm : x = -1
              · simp only [e76, s76_0, s76_1, s76_4, s76_5, s76_8, s76_11, s76_12, s76_15, s76_16, s76_19, s76_22, s76_23, s76_24, s76_27, s76_28, s76_32, s76_34, s76_36, s76_39, s76_40, s76_41, s76_57, s76_58, s76_61, s76_62, s76_63, s76_64_6, s76_64_11, s76_67, s76_68, s76_71, s76_72z, s76_72o, s76_72b, c26 q, c24 q, hg, hh, if_neg hxv, if_pos zm, k45, c111, ir_b_t, ir_k_i, ir_tl_i, ir_k_v, ir_tl_v, i_10, if_true, if_false]
              · simp only [e76, s76_0, s76_1, s76_4, s76_5, s76_8, s76_11, s76_12, s76_15, s76_16, s76_19, s76_22, s76_23, s76_24, s76_27, s76_28, s76_32, s76_34, s76_36, s76_39, s76_40, s76_41, s76_44, s76_45, s76_48, s76_49, s76_52, s76_57, s76_58, s76_61, s76_62, s76_63, s76_64_6, s76_64_11, s76_67, s76_68, s76_71, s76_72z, s76_72o, s76_72b, c26 q, c24 q, cNode r.1.1, hg, hh, z, if_neg hxv, if_neg zm, k45, c111, ir_b_t, ir_k_i, ir_tl_i, ir_k_v, ir_tl_v, i_10, if_true, if_false]
          · have f1 : R1 (ir_up (ir_up (ir_up (ir_up σ 7 (a * 12 + b) x) 25 6 0) 30 0 0) 33 0 0) N m LA LB := R1_c (fun c hc => by
              have : c = 1 ∨ c = 2 ∨ c = 3 ∨ c = 4 ∨ c = 5 ∨ c = 34 ∨ c = 35 ∨ c = 36 := by simpa using hc
              rw [u_n _ _ _ (by omega), u_n _ _ _ (by omega), u_n _ _ _ (by omega), u_n _ _ _ (by omega)]) (by simp (disch := omega) only [u_n, u_s, upd_n]) (by simp (disch := omega) only [u_n, u_s, upd_n]) r.1.1
            have g1 : isGa (ir_up (ir_up (ir_up (ir_up σ 7 (a * 12 + b) x) 25 6 0) 30 0 0) 33 0 0) (nI a) = true := by
              unfold isGa isN
              rw [u_n _ _ _ (by decide), u_n _ _ _ (by decide), u_n _ _ _ (by decide), u_n _ _ _ (by decide), u_n _ _ _ (by decide), u_n _ _ _ (by decide), u_n _ _ _ (by decide), u_n _ _ _ (by decide)]
              exact hg
            have g2 : isHo (ir_up (ir_up (ir_up (ir_up σ 7 (a * 12 + b) x) 25 6 0) 30 0 0) 33 0 0) (nI b) = true := by
              unfold isHo isN
              rw [u_n _ _ _ (by decide), u_n _ _ _ (by decide), u_n _ _ _ (by decide), u_n _ _ _ (by decide), u_n _ _ _ (by decide), u_n _ _ _ (by decide), u_n _ _ _ (by decide), u_n _ _ _ (by decide)]
              exact hh
            have q2 : a * 12 + b < 144 := by omega
            unfold tel
            by_cases zm : x = -1
            · simp (disch := omega) only [e132, s132_0, s132_1, s132_2, s132_5, s132_6, s132_7, s132_10, s132_13, s132_14, s132_15, s132_18, s132_21, s132_22, s132_23, s132_34, s132_35, s132_36, s132_41, s132_42, s132_45, s132_46, s132_49, s132_51, s132_52, s132_53, s132_54, s132_55, s132_56, s132_57, s132_58z, s132_58o, s132_58b, xA37, xL37, xa37, mGate f1, mHost f1, g1, g2, if_pos zm, if_neg hxv, m129, n_12m, n_lt_0, n_le_0, n_tl_0, n_el_0, n_eq_0, n_ad_0, n_lt_1, n_le_1, n_tl_1, n_el_1, n_eq_1, n_ad_1, n_lt_2, n_le_2, n_tl_2, n_el_2, n_eq_2, n_ad_2, n_lt_3, n_le_3, n_tl_3, n_el_3, n_eq_3, n_ad_3, n_lt_4, n_le_4, n_tl_4, n_el_4, n_eq_4, n_ad_4, n_lt_5, n_le_5, n_tl_5, n_el_5, n_eq_5, n_ad_5, n_lt_6, n_le_6, n_tl_6, n_el_6, n_eq_6, n_ad_6, n_lt_10, n_le_10, n_tl_10, n_el_10, n_eq_10, n_ad_10, n_lt_11, n_le_11, n_tl_11, n_el_11, n_eq_11, n_ad_11, n_lt_12, n_le_12, n_tl_12, n_el_12, n_eq_12, n_ad_12, n_lt_13, n_le_13, n_tl_13, n_el_13, n_eq_13, n_ad_13, n_lt_15, n_le_15, n_tl_15, n_el_15, n_eq_15, n_ad_15, n_lt_20, n_le_20, n_tl_20, n_el_20, n_eq_20, n_ad_20, n_lt_30, n_le_30, n_tl_30, n_el_30, n_eq_30, n_ad_30, n_lt_31, n_le_31, n_tl_31, n_el_31, n_eq_31, n_ad_31, n_lt_32, n_le_32, n_tl_32, n_el_32, n_eq_32, n_ad_32, n_lt_60, n_le_60, n_tl_60, n_el_60, n_eq_60, n_ad_60, n_lt_99, n_le_99, n_tl_99, n_el_99, n_eq_99, n_ad_99, n_lt_100, n_le_100, n_tl_100, n_el_100, n_eq_100, n_ad_100, n_lt_144, n_le_144, n_tl_144, n_el_144, n_eq_144, n_ad_144, n_lt_4096, n_le_4096, n_tl_4096, n_el_4096, n_eq_4096, n_ad_4096, n_mulK, nI_add, pk_mul, n_lt, n_le, n_eq, n_eqM, n_ix, n_cl, q2, decide_true, ir_b_t, ir_k_i, ir_tl_i, ir_k_v, ir_tl_v, i_10, if_true, if_false]
            · have z : inr x (nI N) = true := by
                rcases hok with z | z
                · exact absurd z zm
                · exact z
              simp (disch := omega) only [e132, s132_0, s132_1, s132_2, s132_5, s132_6, s132_7, s132_10, s132_13, s132_14, s132_15, s132_18, s132_21, s132_22, s132_23, s132_26, s132_27, s132_28, s132_31, s132_34, s132_35, s132_36, s132_41, s132_42, s132_45, s132_46, s132_49, s132_51, s132_52, s132_53, s132_54, s132_55, s132_56, s132_57, s132_58z, s132_58o, s132_58b, xA37, xL37, xa37, mGate f1, mHost f1, mNode f1, g1, g2, z, if_neg zm, if_neg hxv, m129, n_12m, n_lt_0, n_le_0, n_tl_0, n_el_0, n_eq_0, n_ad_0, n_lt_1, n_le_1, n_tl_1, n_el_1, n_eq_1, n_ad_1, n_lt_2, n_le_2, n_tl_2, n_el_2, n_eq_2, n_ad_2, n_lt_3, n_le_3, n_tl_3, n_el_3, n_eq_3, n_ad_3, n_lt_4, n_le_4, n_tl_4, n_el_4, n_eq_4, n_ad_4, n_lt_5, n_le_5, n_tl_5, n_el_5, n_eq_5, n_ad_5, n_lt_6, n_le_6, n_tl_6, n_el_6, n_eq_6, n_ad_6, n_lt_10, n_le_10, n_tl_10, n_el_10, n_eq_10, n_ad_10, n_lt_11, n_le_11, n_tl_11, n_el_11, n_eq_11, n_ad_11, n_lt_12, n_le_12, n_tl_12, n_el_12, n_eq_12, n_ad_12, n_lt_13, n_le_13, n_tl_13, n_el_13, n_eq_13, n_ad_13, n_lt_15, n_le_15, n_tl_15, n_el_15, n_eq_15, n_ad_15, n_lt_20, n_le_20, n_tl_20, n_el_20, n_eq_20, n_ad_20, n_lt_30, n_le_30, n_tl_30, n_el_30, n_eq_30, n_ad_30, n_lt_31, n_le_31, n_tl_31, n_el_31, n_eq_31, n_ad_31, n_lt_32, n_le_32, n_tl_32, n_el_32, n_eq_32, n_ad_32, n_lt_60, n_le_60, n_tl_60, n_el_60, n_eq_60, n_ad_60, n_lt_99, n_le_99, n_tl_99, n_el_99, n_eq_99, n_ad_99, n_lt_100, n_le_100, n_tl_100, n_el_100, n_eq_100, n_ad_100, n_lt_144, n_le_144, n_tl_144, n_el_144, n_eq_144, n_ad_144, n_lt_4096, n_le_4096, n_tl_4096, n_el_4096, n_eq_4096, n_ad_4096, n_mulK, nI_add, pk_mul, n_lt, n_le, n_eq, n_eqM, n_ix, n_cl, q2, decide_true, ir_b_t, ir_k_i, ir_tl_i, ir_k_v, ir_tl_v, i_10, if_true, if_false]
        · have zm : ¬ x = -1 := fun z => hok (Or.inl z)
          have zn : inr x (nI N) = false := by
            cases z : inr x (nI N) with
            | false => rfl
            | true => exact absurd (Or.inr z) hok
          refine ⟨0, σ, _, ?_, ?_, RR_of r0⟩
          · simp only [e76, s76_0, s76_1, s76_4, s76_5, s76_8, s76_11, s76_12, s76_15, s76_16, s76_19, s76_22, s76_23, s76_24, s76_27, s76_28, s76_32, s76_34, s76_36, s76_39, s76_40, s76_41, s76_44, s76_45, s76_48, s76_49, s76_52, s76_55, s76_56z, s76_56o, s76_56b, c26 q, c24 q, cNode r.1.1, hg, hh, zn, if_neg hxv, if_neg zm, ir_b_t, ir_b_f, ir_k_i, ir_tl_i, i_10, if_true, if_false]
          · simp only [e132, s132_0, s132_1, s132_2, s132_5, s132_6, s132_7, s132_10, s132_13, s132_14, s132_15, s132_18, s132_21, s132_22, s132_23, s132_26, s132_27, s132_28, s132_31, s132_39, s132_40z, s132_40o, s132_40b, mGate r0.1.1, mHost r0.1.1, mNode r0.1.1, isGa_st ag0, isHo_st ag0, hg, hh, zn, if_neg zm, ir_b_t, ir_b_f, ir_k_i, ir_tl_i, i_10, if_true, if_false]
end TELL
