/-! next, goes, fair -/
section GO
variable {σ σ' : ir_S} {N m F C K : Nat} {LA LB : Nat → Nat} {fs : List Nat}
theorem isN_inr {v : Int32} (r : R1 σ N m LA LB) : isN σ v = inr v (nI N) := by
  have e : isN σ v = inr v (σ 1 4) := rfl
  rw [e, r.2.2.1]
theorem isNm_inr {v : Int32} (r : R1 σ N m LA LB) : isNm σ v = inr v (nI N) := by
  have e : isNm σ v = inr v (σ 33 1) := rfl
  rw [e, r.2.2.2.1]
theorem isHm_eq {v : Int32} (r : R1 σ N m LA LB) : isHm σ v = isHo σ v := by
  have hN := r.1
  unfold isHm isHo
  rw [isNm_inr r, isN_inr r]
  cases hv : inr v (nI N) with
  | false => rfl
  | true =>
    obtain ⟨k, hk, rfl⟩ := inr_nI (by omega) hv
    rw [n_cl (by omega), (r.2.2.2.2.2.2.2.1 k hk).1]
theorem isWm_eq {v : Int32} (r : R1 σ N m LA LB) : isWm σ v = isWa σ v := by
  have hN := r.1
  unfold isWm isWa
  rw [isNm_inr r, isN_inr r]
  cases hv : inr v (nI N) with
  | false => rfl
  | true =>
    obtain ⟨k, hk, rfl⟩ := inr_nI (by omega) hv
    rw [n_cl (by omega), (r.2.2.2.2.2.2.2.1 k hk).1]
theorem isRm_eq {v : Int32} (r : R1 σ N m LA LB) : isRm σ v = isGa σ v := by
  have hN := r.1
  unfold isRm isGa
  rw [isNm_inr r, isN_inr r]
  cases hv : inr v (nI N) with
  | false => rw [Bool.false_and, Bool.false_and]
  | true =>
    obtain ⟨k, hk, rfl⟩ := inr_nI (by omega) hv
    obtain ⟨j, hj, ej⟩ := (r.2.2.2.2.2.2.2.1 k hk).2
    rw [n_cl (by omega), (r.2.2.2.2.2.2.2.1 k hk).1, ej]
    have e1 : (1 < nI j) = (1 < j) := n_tl_1 (by omega)
    have e2 : (2 ≤ nI j) = (2 ≤ j) := n_el_2 (by omega)
    have e3 : (1 < nI j) ↔ (2 ≤ nI j) := by rw [e1, e2]; exact Iff.rfl
    rw [decide_eq_decide.mpr e3]
theorem isHo_k {v : Int32} (r : R1 σ N m LA LB) (h : isHo σ v = true) : ∃ k, k < N ∧ v = nI k ∧ σ 2 k = 0 := by
  have hN := r.1
  unfold isHo at h
  rw [isN_inr r, Bool.and_eq_true, decide_eq_true_iff] at h
  obtain ⟨k, hk, rfl⟩ := inr_nI (by omega) h.1
  have h2 := h.2
  rw [n_cl (by omega)] at h2
  exact ⟨k, hk, rfl, h2⟩
theorem q14 (r : R1 σ N m LA LB) : (σ 1 4).toInt ≤ 12 := by
  have hN := r.1
  rw [r.2.2.1, nI_toInt (by omega)]
  omega
theorem q331 (r : R1 σ N m LA LB) : 0 ≤ (σ 33 1).toInt ∧ (σ 33 1).toInt ≤ 12 := by
  have hN := r.1
  rw [r.2.2.2.1, nI_toInt (by omega)]
  omega
theorem mHost {d : Nat} {v : Int32} (r : R1 σ N m LA LB) : ir_ev (d + 3) 123 [.ref 33, .int v] σ = some (some (.int (ir_b (isHo σ v))), σ) := by
  rw [← isHm_eq r]; exact m123 (q331 r).1 (q331 r).2
theorem mGate {d : Nat} {v : Int32} (r : R1 σ N m LA LB) : ir_ev (d + 3) 124 [.ref 33, .int v] σ = some (some (.int (ir_b (isGa σ v))), σ) := by
  rw [← isRm_eq r]; exact m124 (q331 r).1 (q331 r).2
theorem mWall {d : Nat} {v : Int32} (r : R1 σ N m LA LB) : ir_ev (d + 3) 125 [.ref 33, .int v] σ = some (some (.int (ir_b (isWa σ v))), σ) := by
  rw [← isWm_eq r]; exact m125 (q331 r).1 (q331 r).2
theorem mNode {d : Nat} {v : Int32} (r : R1 σ N m LA LB) : ir_ev (d + 2) 122 [.ref 33, .int v] σ = some (some (.int (ir_b (inr v (nI N)))), σ) := by
  rw [← isNm_inr r]; exact m122 (q331 r).1
theorem cNode {d : Nat} {v : Int32} (r : R1 σ N m LA LB) : ir_ev (d + 1) 23 [.ref 1, .int v] σ = some (some (.int (ir_b (inr v (nI N)))), σ) := by
  rw [← isN_inr r]; exact c23
theorem isHo_st {v : Int32} (h : agS σ σ') : isHo σ' v = isHo σ v := by
  have e : ∀ τ, isHo τ v = isHo (stat τ) v := fun τ => rfl
  rw [e, e σ, h]
/-- next -/
theorem p_next {d : Nat} {v w x : Int32} (h : RR σ) : PAIR d 83 142 [.int v, .int w, .int x] σ := by
  obtain ⟨N, m, F, C, K, LA, LB, r⟩ := h
  have hN := r.1.1.1
  have hm := r.1.1.2.1
  have r0 := RA_frR (frR_33 (v := 0)) r
  cases hv : inr v (nI N) with
  | false =>
    refine ⟨-1, σ, _, ?_, ?_, RR_of r0⟩
    · simp only [e83, s83_0, s83_1, s83_4, s83_5, s83_8, s83_27, s83_28, cNode r.1.1, hv, ir_b_f, ir_k_i, ir_tl_i, if_true]
    · simp only [e142, s142_0, s142_1, s142_2, s142_5, s142_6, s142_7, s142_10, s142_36, s142_37, mNode r0.1.1, hv, ir_b_f, ir_k_i, ir_tl_i, if_true]
  | true =>
    cases hw : inr w (nI N) with
    | false =>
      refine ⟨-1, σ, _, ?_, ?_, RR_of r0⟩
      · simp only [e83, s83_0, s83_1, s83_4, s83_5, s83_8, s83_11, s83_12, s83_15, s83_16, s83_19, s83_27, s83_28, cNode r.1.1, hv, hw, ir_b_f, ir_b_t, ir_k_i, ir_tl_i, i_10, if_true, if_false]
      · simp only [e142, s142_0, s142_1, s142_2, s142_5, s142_6, s142_7, s142_10, s142_13, s142_14, s142_15, s142_18, s142_36, s142_37, mNode r0.1.1, hv, hw, ir_b_f, ir_b_t, ir_k_i, ir_tl_i, i_10, if_true, if_false]
    | true =>
      by_cases hvw : v = w
      · refine ⟨-1, σ, _, ?_, ?_, RR_of r0⟩
        · simp only [e83, s83_0, s83_1, s83_4, s83_5, s83_8, s83_11, s83_12, s83_15, s83_16, s83_19, s83_22, s83_23, s83_24, s83_27, s83_28, cNode r.1.1, hv, hw, ir_b_t, ir_k_i, ir_tl_i, i_10, if_pos hvw, if_false]
        · simp only [e142, s142_0, s142_1, s142_2, s142_5, s142_6, s142_7, s142_10, s142_13, s142_14, s142_15, s142_18, s142_21, s142_22, s142_23, s142_36, s142_37, mNode r0.1.1, hv, hw, ir_b_t, ir_k_i, ir_tl_i, i_10, if_pos hvw, if_false]
      · obtain ⟨a, ha, rfl⟩ := inr_nI (by omega) hv
        obtain ⟨b, hb, rfl⟩ := inr_nI (by omega) hw
        have hab : a ≠ b := fun q => hvw (by rw [q])
        have hst : ∀ dd, ir_ev (dd + 1) 119 [.long x.toInt64, .long 0, .long 1] (ir_up σ 33 0 0) = some (some (.int (ir_b (inr x 2))), ir_up σ 33 0 0) := fun dd => by
          rw [c119, k_1, in_k1 (show 0 ≤ (2 : Int32).toInt by decide)]
        have rA := RA_frR (frR_20 (v := 0)) r0
        have hH : HL (ir_up (ir_up σ 33 0 0) 33 20 0) [] := ⟨by simp, by rw [u_s, upd_s]; rfl, fun k f hk => by simp at hk⟩
        have hM : ∀ z : Option ir_R, ir_run (ir_ev (d + 49)) 83 (29, [.ref 0, .int (nI a), .int (nI b), .int x], [], σ) = z → ir_ev (d + 50) 83 [.ref 0, .int (nI a), .int (nI b), .int x] σ = z := by
          intro z hz
          simp only [e83, s83_0, s83_1, s83_4, s83_5, s83_8, s83_11, s83_12, s83_15, s83_16, s83_19, s83_22, s83_23, s83_24, cNode r.1.1, hv, hw, ir_b_t, ir_k_i, ir_tl_i, i_10, if_neg hvw, if_false]
          exact hz
        have hR : ∀ z : Option ir_R, (inr x 2 = true → ir_run (ir_ev (d + 49)) 142 (43, [.ref 33, .int (nI a), .int (nI b), .int x], [], ir_up (ir_up σ 33 0 0) 33 20 0) = z) → (inr x 2 = false → some (some (.int (-1)), ir_up σ 33 0 0) = z) → ir_ev (d + 50) 142 [.ref 33, .int (nI a), .int (nI b), .int x] σ = z := by
          intro z hz hz2
          simp only [e142, s142_0, s142_1, s142_2, s142_5, s142_6, s142_7, s142_10, s142_13, s142_14, s142_15, s142_18, s142_21, s142_22, s142_23, s142_26, s142_27, s142_28, s142_29, s142_30, mNode r0.1.1, hv, hw, ir_b_t, ir_k_i, ir_tl_i, i_10, if_neg hvw, if_false, hst]
          cases hx : inr x 2 with
          | false =>
            simp only [ir_b_f, s142_33, s142_36, s142_37, if_true]
            exact hz2 hx
          | true =>
            simp only [ir_b_t, s142_33, s142_38, s142_39, s142_40, i_10, if_false]
            exact hz hx
        have ag0 : agS σ (ir_up (ir_up σ 33 0 0) 33 20 0) := agS_tr (agS_frR frR_33) (agS_frR frR_20)
        cases hx : inr x 2 with
        | false =>
          have hx0 : ¬ x = 0 := fun q => by rw [q] at hx; revert hx; decide
          have hx1 : ¬ x = 1 := fun q => by rw [q] at hx; revert hx; decide
          refine ⟨-1, σ, _, hM _ ?_, hR _ (fun q => by rw [hx] at q; cases q) (fun _ => rfl), RR_of r0⟩
          simp only [s83_29, s83_30, s83_47, s83_48, s83_49, s83_64, s83_65, if_neg hx0, if_neg hx1]
        | true =>
          obtain ⟨k, hk, rfl⟩ := inr_nI (n := 2) (by omega) hx
          have hk2 : k = 0 ∨ k = 1 := by omega
          rcases hk2 with rfl | rfl
          · have hi0 : (nI 0 = (0 : Int32)) := rfl
            obtain ⟨σ2, z1, z2⟩ := m149 (d := d + 45) (LA := LA) (LB := LB) ⟨hN, hm, rA.1.1.2.2.2.1, rA.1.1.2.2.2.2.2.1, rA.1.1.2.2.2.2.2.2.1, hH⟩ (show a < 12 by omega) hb
            have e := (wkH_eq rA.1.1 rA.1.2.1 rA.1.2.2.1 (fs := []) (fun f hf => by cases hf) (VB_sound rA.1.2.1) ha hb hab).1
            have e2 : cH σ 6 a b = wkH (rtX (ir_up (ir_up σ 33 0 0) 33 20 0) []) (fun a t => nrV N (adjM (ir_up (ir_up σ 33 0 0) 33 20 0) m) (relM (ir_up (ir_up σ 33 0 0) 33 20 0)) a t) a b := by
              rw [← e]; rfl
            rw [← e2] at z1
            refine ⟨cH σ 6 a b, σ, σ2, hM _ ?_, hR _ (fun _ => ?_) (fun q => by rw [hx] at q; cases q), RR_of (RA_frR (frR_3 (ag3_41 z2)) rA)⟩
            · simp only [s83_29, s83_30, s83_33, s83_34, s83_37, s83_38, s83_41, s83_42, s83_43, s83_46, hi0, if_true, c33_6 (show a < 12 by omega) (show b < 12 by omega), ir_k_i, ir_tl_i]
            · simp only [s142_43, s142_44, s142_47, s142_48, s142_49, s142_50, s142_53, s142_62, hi0, if_true, z1, ir_k_i, ir_tl_i]
          · have hi1 : (nI 1 = (1 : Int32)) := rfl
            obtain ⟨σ2, y, z1, z2, z3⟩ := m141 (d := d + 46) (a := a) (t := b) (σ := ir_up (ir_up σ 33 0 0) 33 20 0) (LA := LA) (LB := LB) hN hm hb rA.1.1.2.2.2.1 rA.1.1.2.2.2.2.2.1 rA.1.1.2.2.2.2.2.2.1
            have e : y = σ 5 (a * 12 + b) := isNR_u z3 (rA.1.1.2.2.2.2.2.2.2.2.2.2.2.2.1 a b ha hb hab)
            rw [e] at z1
            refine ⟨σ 5 (a * 12 + b), σ, σ2, hM _ ?_, hR _ (fun _ => ?_) (fun q => by rw [hx] at q; cases q), RR_of (RA_frR (frR_3 (ag3_41 z2)) rA)⟩
            · simp only [s83_29, s83_30, s83_47, s83_48, s83_49, s83_52, s83_53, s83_56, s83_57, s83_58, s83_61, s83_65, hi1, i_10, if_true, if_false, c31 (show a < 12 by omega) (show b < 12 by omega), ir_k_i, ir_tl_i]
            · simp only [s142_43, s142_44, s142_56, s142_57, s142_58, s142_59, s142_62, hi1, i_10, if_false, z1, ir_k_i, ir_tl_i]
/-! goes -/
theorem comesM {d s a b : Nat} (r : R0 σ N m F C K LA LB) (hfs : ∀ f ∈ fs, f < F) (hH : HL σ fs) (ha : a < N) (hb : b < N) :
    ∃ σ', ir_ev (d + 5) 152 [.ref 33, .int (nI s), .int (nI a), .int (nI b)] σ = some (some (.int (ir_b (mC σ N m fs s a b))), σ') ∧ ag3 σ σ' ∧ σ' 33 25 = nI ((mW σ N m fs s a b 30 a 1 (fun _ => nI a)).2.1 - 1) ∧ (mW σ N m fs s a b 30 a 1 (fun _ => nI a)).2.1 ≤ 31 ∧ 1 ≤ (mW σ N m fs s a b 30 a 1 (fun _ => nI a)).2.1 ∧ ∀ i, i < (mW σ N m fs s a b 30 a 1 (fun _ => nI a)).2.1 → σ' 50 i = (mW σ N m fs s a b 30 a 1 (fun _ => nI a)).2.2 i := by
  obtain ⟨h1, h2, h3, h4, h5⟩ := r
  have hN := h1.1
  have hm := h1.2.1
  refine m152 (LA := LA) (LB := LB) ⟨hN, hm, h1.2.2.2.1, h1.2.2.2.2.2.1, h1.2.2.2.2.2.2.1, hH⟩ ?_ (by omega) hb
  intro a h ha hh
  rw [v_rt h2 h3 hfs ha hh]
  rcases v_rt_ok hN h2 h3 hfs ha hh with q | ⟨_, _, _, _, k, hk, q⟩
  · exact Or.inl q
  · exact Or.inr ⟨k, by omega, q⟩
theorem c88_loop {d n : Nat} {p : Nat → Int32} {v1 v2 v3 v4 : Value} (hn : n ≤ 31) : ∀ k i τ, i + k = n → τ 16 2 = nI n → (∀ j, j < n → τ 17 j = p j) → τ 31 1 = nI i → (∀ j, j < i → τ 32 j = p j) → ∃ τ', ir_run (ir_ev (d + 1)) 88 (59, [.ref 0, v1, v2, v3, v4, .int (nI i)], [], τ) = some (some (.int (nI n)), τ') ∧ (∀ q, q ≠ 31 → q ≠ 32 → τ' q = τ q) ∧ τ' 31 1 = nI n ∧ ∀ j, j < n → τ' 32 j = p j := by
  intro k
  induction k with
  | zero =>
    intro i τ hi h16 h17 h31 h32
    have hi : i = n := by omega
    subst hi
    refine ⟨τ, ?_, fun _ _ _ => rfl, h31, h32⟩
    rw [s88_59]
    simp (disch := omega) only [s88_61, s88_62, s88_65, s88_68, s88_93, s88_94, s88_97, s88_100, c36, h16, c39, h31, n_lt_0, n_le_0, n_tl_0, n_el_0, n_eq_0, n_ad_0, n_lt_1, n_le_1, n_tl_1, n_el_1, n_eq_1, n_ad_1, n_lt_2, n_le_2, n_tl_2, n_el_2, n_eq_2, n_ad_2, n_lt_3, n_le_3, n_tl_3, n_el_3, n_eq_3, n_ad_3, n_lt_4, n_le_4, n_tl_4, n_el_4, n_eq_4, n_ad_4, n_lt_5, n_le_5, n_tl_5, n_el_5, n_eq_5, n_ad_5, n_lt_6, n_le_6, n_tl_6, n_el_6, n_eq_6, n_ad_6, n_lt_10, n_le_10, n_tl_10, n_el_10, n_eq_10, n_ad_10, n_lt_11, n_le_11, n_tl_11, n_el_11, n_eq_11, n_ad_11, n_lt_12, n_le_12, n_tl_12, n_el_12, n_eq_12, n_ad_12, n_lt_13, n_le_13, n_tl_13, n_el_13, n_eq_13, n_ad_13, n_lt_15, n_le_15, n_tl_15, n_el_15, n_eq_15, n_ad_15, n_lt_20, n_le_20, n_tl_20, n_el_20, n_eq_20, n_ad_20, n_lt_30, n_le_30, n_tl_30, n_el_30, n_eq_30, n_ad_30, n_lt_31, n_le_31, n_tl_31, n_el_31, n_eq_31, n_ad_31, n_lt_32, n_le_32, n_tl_32, n_el_32, n_eq_32, n_ad_32, n_lt_60, n_le_60, n_tl_60, n_el_60, n_eq_60, n_ad_60, n_lt_99, n_le_99, n_tl_99, n_el_99, n_eq_99, n_ad_99, n_lt_100, n_le_100, n_tl_100, n_el_100, n_eq_100, n_ad_100, n_lt_144, n_le_144, n_tl_144, n_el_144, n_eq_144, n_ad_144, n_lt_4096, n_le_4096, n_tl_4096, n_el_4096, n_eq_4096, n_ad_4096, n_mulK, nI_add, pk_mul, n_lt, n_le, n_eq, n_eqM, n_ix, n_cl, ir_k_i, ir_tl_i, Nat.le_refl, if_true]
  | succ k ih =>
    intro i τ hi h16 h17 h31 h32
    have q1 : ¬ n ≤ i := by omega
    have hi31 : i < 31 := by omega
    have e17 := h17 i (by omega)
    obtain ⟨τ', z1, z2, z3, z4⟩ := ih (i + 1) (ir_up (ir_up τ 32 i (p i)) 31 1 (nI (i + 1))) (by omega) (by rw [u_n _ _ _ (by decide), u_n _ _ _ (by decide)]; exact h16) (fun j hj => by rw [u_n _ _ _ (by decide), u_n _ _ _ (by decide)]; exact h17 j hj) (by rw [u_s, upd_s]) (fun j hj => by
      rw [u_n _ _ _ (by decide), u_s]
      by_cases e : j = i
      · rw [e, upd_s]
      · rw [upd_n _ _ e]; exact h32 j (by omega))
    refine ⟨τ', ?_, fun q g1 g2 => by rw [z2 q g1 g2, u_n _ _ _ g1, u_n _ _ _ g2], z3, z4⟩
    rw [s88_59]
    simp (disch := omega) only [s88_61, s88_62, s88_65, s88_68, s88_71, s88_72, s88_75, s88_76, s88_79, s88_81, s88_84, s88_87, s88_90, c36, h16, c37 hi31, e17, c40 h31 hi31, n_lt_0, n_le_0, n_tl_0, n_el_0, n_eq_0, n_ad_0, n_lt_1, n_le_1, n_tl_1, n_el_1, n_eq_1, n_ad_1, n_lt_2, n_le_2, n_tl_2, n_el_2, n_eq_2, n_ad_2, n_lt_3, n_le_3, n_tl_3, n_el_3, n_eq_3, n_ad_3, n_lt_4, n_le_4, n_tl_4, n_el_4, n_eq_4, n_ad_4, n_lt_5, n_le_5, n_tl_5, n_el_5, n_eq_5, n_ad_5, n_lt_6, n_le_6, n_tl_6, n_el_6, n_eq_6, n_ad_6, n_lt_10, n_le_10, n_tl_10, n_el_10, n_eq_10, n_ad_10, n_lt_11, n_le_11, n_tl_11, n_el_11, n_eq_11, n_ad_11, n_lt_12, n_le_12, n_tl_12, n_el_12, n_eq_12, n_ad_12, n_lt_13, n_le_13, n_tl_13, n_el_13, n_eq_13, n_ad_13, n_lt_15, n_le_15, n_tl_15, n_el_15, n_eq_15, n_ad_15, n_lt_20, n_le_20, n_tl_20, n_el_20, n_eq_20, n_ad_20, n_lt_30, n_le_30, n_tl_30, n_el_30, n_eq_30, n_ad_30, n_lt_31, n_le_31, n_tl_31, n_el_31, n_eq_31, n_ad_31, n_lt_32, n_le_32, n_tl_32, n_el_32, n_eq_32, n_ad_32, n_lt_60, n_le_60, n_tl_60, n_el_60, n_eq_60, n_ad_60, n_lt_99, n_le_99, n_tl_99, n_el_99, n_eq_99, n_ad_99, n_lt_100, n_le_100, n_tl_100, n_el_100, n_eq_100, n_ad_100, n_lt_144, n_le_144, n_tl_144, n_el_144, n_eq_144, n_ad_144, n_lt_4096, n_le_4096, n_tl_4096, n_el_4096, n_eq_4096, n_ad_4096, n_mulK, nI_add, pk_mul, n_lt, n_le, n_eq, n_eqM, n_ix, n_cl, ir_k_i, ir_tl_i, ir_k_v, ir_tl_v, if_neg q1]
    exact z1
theorem m154_loop {E : Nat → List Value → ir_S → Option ir_R} {n : Nat} {p : Nat → Int32} {v1 v2 v3 v4 v5 : Value} (hn : n ≤ 31) : ∀ k i τ, i + k = n → τ 33 22 = nI n → (∀ j, j < n → τ 50 j = p j) → (∀ j, j < i → τ 49 j = p j) → ∃ τ', ir_run E 154 (79, [.ref 33, v1, v2, v3, v4, v5, .int (nI i)], [], τ) = some (some (.int (nI n)), τ') ∧ (∀ q, q ≠ 49 → τ' q = τ q) ∧ ∀ j, j < n → τ' 49 j = p j := by
  intro k
  induction k with
  | zero =>
    intro i τ hi h22 h50 h49
    have hi : i = n := by omega
    subst hi
    refine ⟨τ, ?_, fun _ _ => rfl, h49⟩
    rw [s154_79]
    simp (disch := omega) only [s154_81, s154_82, s154_85, s154_108, s154_109, s154_112, h22, n_lt_0, n_le_0, n_tl_0, n_el_0, n_eq_0, n_ad_0, n_lt_1, n_le_1, n_tl_1, n_el_1, n_eq_1, n_ad_1, n_lt_2, n_le_2, n_tl_2, n_el_2, n_eq_2, n_ad_2, n_lt_3, n_le_3, n_tl_3, n_el_3, n_eq_3, n_ad_3, n_lt_4, n_le_4, n_tl_4, n_el_4, n_eq_4, n_ad_4, n_lt_5, n_le_5, n_tl_5, n_el_5, n_eq_5, n_ad_5, n_lt_6, n_le_6, n_tl_6, n_el_6, n_eq_6, n_ad_6, n_lt_10, n_le_10, n_tl_10, n_el_10, n_eq_10, n_ad_10, n_lt_11, n_le_11, n_tl_11, n_el_11, n_eq_11, n_ad_11, n_lt_12, n_le_12, n_tl_12, n_el_12, n_eq_12, n_ad_12, n_lt_13, n_le_13, n_tl_13, n_el_13, n_eq_13, n_ad_13, n_lt_15, n_le_15, n_tl_15, n_el_15, n_eq_15, n_ad_15, n_lt_20, n_le_20, n_tl_20, n_el_20, n_eq_20, n_ad_20, n_lt_30, n_le_30, n_tl_30, n_el_30, n_eq_30, n_ad_30, n_lt_31, n_le_31, n_tl_31, n_el_31, n_eq_31, n_ad_31, n_lt_32, n_le_32, n_tl_32, n_el_32, n_eq_32, n_ad_32, n_lt_60, n_le_60, n_tl_60, n_el_60, n_eq_60, n_ad_60, n_lt_99, n_le_99, n_tl_99, n_el_99, n_eq_99, n_ad_99, n_lt_100, n_le_100, n_tl_100, n_el_100, n_eq_100, n_ad_100, n_lt_144, n_le_144, n_tl_144, n_el_144, n_eq_144, n_ad_144, n_lt_4096, n_le_4096, n_tl_4096, n_el_4096, n_eq_4096, n_ad_4096, n_mulK, nI_add, pk_mul, n_lt, n_le, n_eq, n_eqM, n_ix, n_cl, Nat.le_refl, if_true]
  | succ k ih =>
    intro i τ hi h22 h50 h49
    have q1 : ¬ n ≤ i := by omega
    have hi32 : i < 32 := by omega
    have e50 := h50 i (by omega)
    obtain ⟨τ', z1, z2, z3⟩ := ih (i + 1) (ir_up τ 49 i (p i)) (by omega) (by rw [u_n _ _ _ (by decide)]; exact h22) (fun j hj => by rw [u_n _ _ _ (by decide)]; exact h50 j hj) (fun j hj => by
      rw [u_s]
      by_cases e : j = i
      · rw [e, upd_s]
      · rw [upd_n _ _ e]; exact h49 j (by omega))
    refine ⟨τ', ?_, fun q g1 => by rw [z2 q g1, u_n _ _ _ g1], z3⟩
    rw [s154_79]
    simp (disch := omega) only [s154_81, s154_82, s154_85, s154_88, s154_89, s154_92, s154_94, s154_95, s154_98, s154_100, s154_101, s154_102, s154_105, xA49, xL49, xa49, xA50, xL50, xa50, h22, e50, n_lt_0, n_le_0, n_tl_0, n_el_0, n_eq_0, n_ad_0, n_lt_1, n_le_1, n_tl_1, n_el_1, n_eq_1, n_ad_1, n_lt_2, n_le_2, n_tl_2, n_el_2, n_eq_2, n_ad_2, n_lt_3, n_le_3, n_tl_3, n_el_3, n_eq_3, n_ad_3, n_lt_4, n_le_4, n_tl_4, n_el_4, n_eq_4, n_ad_4, n_lt_5, n_le_5, n_tl_5, n_el_5, n_eq_5, n_ad_5, n_lt_6, n_le_6, n_tl_6, n_el_6, n_eq_6, n_ad_6, n_lt_10, n_le_10, n_tl_10, n_el_10, n_eq_10, n_ad_10, n_lt_11, n_le_11, n_tl_11, n_el_11, n_eq_11, n_ad_11, n_lt_12, n_le_12, n_tl_12, n_el_12, n_eq_12, n_ad_12, n_lt_13, n_le_13, n_tl_13, n_el_13, n_eq_13, n_ad_13, n_lt_15, n_le_15, n_tl_15, n_el_15, n_eq_15, n_ad_15, n_lt_20, n_le_20, n_tl_20, n_el_20, n_eq_20, n_ad_20, n_lt_30, n_le_30, n_tl_30, n_el_30, n_eq_30, n_ad_30, n_lt_31, n_le_31, n_tl_31, n_el_31, n_eq_31, n_ad_31, n_lt_32, n_le_32, n_tl_32, n_el_32, n_eq_32, n_ad_32, n_lt_60, n_le_60, n_tl_60, n_el_60, n_eq_60, n_ad_60, n_lt_99, n_le_99, n_tl_99, n_el_99, n_eq_99, n_ad_99, n_lt_100, n_le_100, n_tl_100, n_el_100, n_eq_100, n_ad_100, n_lt_144, n_le_144, n_tl_144, n_el_144, n_eq_144, n_ad_144, n_lt_4096, n_le_4096, n_tl_4096, n_el_4096, n_eq_4096, n_ad_4096, n_mulK, nI_add, pk_mul, n_lt, n_le, n_eq, n_eqM, n_ix, n_cl, if_neg q1, hi32, decide_true, if_true]
    exact z1
def frG (σ σ' : ir_S) : Prop := (∀ q, q < 11 ∨ (17 < q ∧ q ≠ 31 ∧ q ≠ 32 ∧ q ≠ 33 ∧ q ≠ 41 ∧ q ≠ 48 ∧ q ≠ 49 ∧ q ≠ 50 ∧ q ≠ 56 ∧ q ≠ 57) → σ' q = σ q) ∧ ∀ k, k ≠ 0 → k ≠ 20 → k ≠ 22 → k ≠ 25 → σ' 33 k = σ 33 k
theorem frG_tr {σ σ1 σ2 : ir_S} (h1 : frG σ σ1) (h2 : frG σ1 σ2) : frG σ σ2 := ⟨fun q h => by rw [h2.1 q h, h1.1 q h], fun k a b c e => by rw [h2.2 k a b c e, h1.2 k a b c e]⟩
theorem frG_R (h : frR σ σ') : frG σ σ' := ⟨fun q hq => h.1 q (by omega) (by omega) (by omega) (by omega) (by omega) (by omega), fun k a b _ c => h.2 k a b c⟩
theorem frG_c (h : ∀ q, q < 11 ∨ (17 < q ∧ q ≠ 31 ∧ q ≠ 32) → σ' q = σ q) : frG σ σ' := ⟨fun q hq => h q (by omega), fun k _ _ _ _ => by rw [h 33 (by omega)]⟩
theorem agS_frG (h : frG σ σ') : agS σ σ' := by
  refine agS_of (fun c hc h3 => h.1 c ?_) (fun j hj => h.2 j (dy_nf hj rfl) (dy_nf hj rfl) (dy_nf hj rfl) (dy_nf hj rfl))
  have h31 := dy_ne hc (k := 31) rfl
  have h32 := dy_ne hc (k := 32) rfl
  have h41 := dy_ne hc (k := 41) rfl
  have h48 := dy_ne hc (k := 48) rfl
  have h49 := dy_ne hc (k := 49) rfl
  have h50 := dy_ne hc (k := 50) rfl
  have h56 := dy_ne hc (k := 56) rfl
  have h57 := dy_ne hc (k := 57) rfl
  apply Classical.byContradiction
  intro hn
  have h1 : Nat.ble 11 c = true := Nat.ble_eq.mpr (by omega)
  have h2 : Nat.ble c 17 = true := Nat.ble_eq.mpr (by omega)
  unfold dynC at hc
  rw [h1, h2] at hc
  simp at hc
theorem RA_frG (h : frG σ σ') (hw : RW σ') (r : RA σ N m F C K LA LB) : RA σ' N m F C K LA LB := by
  obtain ⟨r0, rw_, rl, rt⟩ := r
  have ag := agS_frG h
  refine ⟨R0_ag ag r0, hw, ?_, ?_⟩
  · unfold LES at *
    rw [h.1 30 (by omega), h.2 34 (by decide) (by decide) (by decide) (by decide), h.2 35 (by decide) (by decide) (by decide) (by decide), h.2 36 (by decide) (by decide) (by decide) (by decide), h.2 37 (by decide) (by decide) (by decide) (by decide), h.2 38 (by decide) (by decide) (by decide) (by decide), h.2 39 (by decide) (by decide) (by decide) (by decide), h.2 40 (by decide) (by decide) (by decide) (by decide)]
    exact rl
  · unfold TBR at *
    rw [h.1 25 (by omega)]
    rcases rt with rt | ⟨rt, t⟩
    · exact Or.inl rt
    · exact Or.inr ⟨rt, TB_ag ag (h.1 25 (by omega)) (h.1 27 (by omega)) (h.1 28 (by omega)) (h.1 29 (by omega)) t⟩
theorem c105 {d : Nat} {v w : Int32} (r : R1 σ N m LA LB) : ir_ev (d + 2) 105 [.ref 0, .int v, .int w] σ = some (some (.int (ir_b (isHo σ v && isHo σ w && !decide (v = w)))), σ) := by
  simp only [e105, s105_0, s105_1, s105_4, s105_5, s105_8, s105_31, s105_11, s105_32z, s105_32o, s105_32b, s105_12, s105_15, s105_16, s105_19, s105_22, s105_23, s105_24, s105_27, s105_28, c24 (q14 r), ir_k_i, ir_tl_i]
  cases isHo σ v <;> cases isHo σ w <;> by_cases h : v = w <;> simp [h, ir_b]
theorem p_goes {d : Nat} {v w x y : Int32} (h : RR σ) : PAIR d 88 154 [.int v, .int w, .int x, .int y] σ := by
  obtain ⟨N, m, F, C, K, LA, LB, r⟩ := h
  have hN := r.1.1.1
  have hC := r.1.2.2.2.1.1
  have r0 := RA_frR (frR_33 (v := 0)) r
  have ag0 := agS_frR (frR_33 (σ := σ) (v := 0))
  have hM : ∀ (τ : ir_S), RA τ N m F C K LA LB → ∀ z : Option ir_R, (cN τ v = true → ir_run (ir_ev (d + 49)) 154 (18, [.ref 33, .int v, .int w, .int x, .int y, .null, .null], [], τ) = z) → (cN τ v = false → some (some (.int (-1)), τ) = z) → ir_run (ir_ev (d + 49)) 154 (5, [.ref 33, .int v, .int w, .int x, .int y, .null, .null], [], τ) = z := by
    intro τ rτ z h1 h2
    by_cases em : v = -1
    · simp only [s154_5, s154_6, s154_7, if_pos em]
      exact h1 (by unfold cN; simp [em])
    · have hcn := cN_inr (w := v) rτ.1
      simp only [em, decide_false, Bool.false_or] at hcn
      cases hv : inr v (nI C) with
      | true =>
        simp only [s154_5, s154_6, s154_7, s154_10, s154_11, s154_12, s154_15, h17 rτ.1.2.2.2.1.2.2.1 hC, hv, ir_b_t, ir_k_i, ir_tl_i, if_neg em, i_10, if_false]
        exact h1 (by rw [hcn, hv])
      | false =>
        simp only [s154_5, s154_6, s154_7, s154_10, s154_11, s154_12, s154_15, s154_48, s154_49, h17 rτ.1.2.2.2.1.2.2.1 hC, hv, ir_b_f, ir_k_i, ir_tl_i, if_neg em, if_true]
        exact h2 (by rw [hcn, hv])
  by_cases hok : (cN σ v && inr w 4 && (isHo σ x && isHo σ y && !decide (x = y))) = true
  · rw [Bool.and_eq_true, Bool.and_eq_true] at hok
    obtain ⟨⟨hv, hw⟩, hxy⟩ := hok
    have hxy2 := hxy
    rw [Bool.and_eq_true, Bool.and_eq_true] at hxy2
    obtain ⟨⟨hx, hy⟩, hne⟩ := hxy2
    have hne : ¬ x = y := by simpa using hne
    obtain ⟨s, hs, rfl⟩ := inr_nI (n := 4) (by omega) hw
    obtain ⟨a, ha, rfl, _⟩ := isHo_k r.1.1 hx
    obtain ⟨b, hb, rfl, _⟩ := isHo_k r.1.1 hy
    have hfs := cN_acts (mm := 0) r.1 hv
    obtain ⟨σ1, a1, a2⟩ := brk (d := d + 45) (c := v) (mm := 0) r.1
    have a8 := a2.2.2.2.2.2.2.2
    obtain ⟨σ2, b1, b2, b3, b4, b5, b6⟩ := c34_11 (d := d + 47) (s := s) (σ := σ1) (show a < 12 by omega) (show b < 12 by omega) (setB_of r.1 hfs (BR_VB a2)).1
    have ecW := cW_eq r.1.1 r.1.2.1 r.1.2.2.1 hfs (BR_VB a2) (s := s) (f := a) (t := b) hs hb 30 a 1 (fun _ => nI a) ha
    rw [ecW] at b3 b4 b5 b6
    obtain ⟨σ3, g1, g2, g3, g4⟩ := c88_loop (d := d + 48) (v1 := .int v) (v2 := .int (nI s)) (v3 := .int (nI a)) (v4 := .int (nI b)) (p := (mW σ N m (acts σ v 0) s a b 30 a 1 (fun _ => nI a)).2.2) b4 (mW σ N m (acts σ v 0) s a b 30 a 1 (fun _ => nI a)).2.1 0 (ir_up σ2 31 1 0) (by omega) (by rw [u_n _ _ _ (by decide)]; exact b3) (fun j hj => by rw [u_n _ _ _ (by decide)]; exact b6 j hj) (by rw [u_s, upd_s]; rfl) (fun j hj => by omega)
    have fr3 : frG σ σ3 := frG_c (fun q hq => by rw [g2 q (by omega) (by omega), u_n _ _ _ (by omega), b2 q (by omega) (by omega), a8 q (by omega)])
    have fr30 : frG σ (ir_up σ3 33 0 0) := frG_tr fr3 (frG_R frR_33)
    have ag3' := agS_frG fr30
    have r30 := R0_ag ag3' r.1
    have hv3 : cN (ir_up σ3 33 0 0) v = true := by rw [cN_ag ag3']; exact hv
    obtain ⟨σ4, j1, j2, j3⟩ := brkN (d := d + 48) (mm := 0) r30 hv3
    rw [acts_ag ag3'] at j3
    have r4 := R0_ag (agS_ag5 j2) r30
    have ag4 := agS_tr ag3' (agS_ag5 j2)
    obtain ⟨σ5, k1, k2, k3, k4, k5, k6⟩ := comesM (d := d + 44) (s := s) r4 hfs j3 ha hb
    have eW : mW σ4 N m (acts σ v 0) s a b 30 a 1 (fun _ => nI a) = mW σ N m (acts σ v 0) s a b 30 a 1 (fun _ => nI a) := by
      have e : ∀ τ, mW τ N m (acts σ v 0) s a b 30 a 1 (fun _ => nI a) = mW (stat τ) N m (acts σ v 0) s a b 30 a 1 (fun _ => nI a) := fun τ => rfl
      rw [e, e σ, ag4]
    rw [eW] at k3 k4 k5 k6
    have hrows : σ5 33 25 + 1 = nI (mW σ N m (acts σ v 0) s a b 30 a 1 (fun _ => nI a)).2.1 := by
      rw [k3]
      have := n_ad_1 ((mW σ N m (acts σ v 0) s a b 30 a 1 (fun _ => nI a)).2.1 - 1)
      rw [Nat.sub_add_cancel k5] at this
      exact this
    obtain ⟨σ6, z1, z2, z3⟩ := m154_loop (E := ir_ev (d + 49)) (v1 := .int v) (v2 := .int (nI s)) (v3 := .int (nI a)) (v4 := .int (nI b)) (v5 := .int (ir_b (mC σ4 N m (acts σ v 0) s a b))) (p := (mW σ N m (acts σ v 0) s a b 30 a 1 (fun _ => nI a)).2.2) k4 (mW σ N m (acts σ v 0) s a b 30 a 1 (fun _ => nI a)).2.1 0 (ir_up σ5 33 22 (nI (mW σ N m (acts σ v 0) s a b 30 a 1 (fun _ => nI a)).2.1)) (by omega) (by rw [u_s, upd_s]) (fun j hj => by rw [u_n _ _ _ (by decide)]; exact k6 j hj) (fun j hj => by omega)
    have fr5 : frG σ σ5 := frG_tr fr30 (frG_R (frR_tr (frR_5 j2) (frR_3 k2)))
    have fr6 : frG σ σ6 := frG_tr fr5 ⟨fun q hq => by rw [z2 q (by omega), u_n _ _ _ (by omega)], fun k _ _ c _ => by rw [z2 33 (by decide), u_s, upd_n _ _ c]⟩
    have e31 : σ6 31 = σ3 31 := by
      rw [z2 31 (by decide), u_n _ _ _ (by decide), k2.1 31 (by decide) (by decide) (by decide), j2.1 31 (by decide) (by decide), u_n _ _ _ (by decide)]
    have e32 : σ6 32 = σ3 32 := by
      rw [z2 32 (by decide), u_n _ _ _ (by decide), k2.1 32 (by decide) (by decide) (by decide), j2.1 32 (by decide) (by decide), u_n _ _ _ (by decide)]
    have hRW : RW σ6 := ⟨(mW σ N m (acts σ v 0) s a b 30 a 1 (fun _ => nI a)).2.1, k4, by rw [e31]; exact g3, by rw [z2 33 (by decide), u_s, upd_s], fun i hi => by rw [z3 i hi, e32, g4 i hi]⟩
    refine ⟨nI (mW σ N m (acts σ v 0) s a b 30 a 1 (fun _ => nI a)).2.1, σ3, σ6, ?_, ?_, RR_of (RA_frG fr6 hRW r)⟩
    · simp only [e88, s88_0, s88_1, s88_2, s88_5, s88_8, s88_9, s88_12, s88_15, s88_16, s88_17, s88_19, s88_22, s88_27, s88_28, s88_29, s88_30, s88_33, s88_34, s88_37, s88_38, s88_41, s88_42, s88_43, s88_45, s88_48, s88_49, s88_50, s88_53, s88_56, s88_57, c106, hv, c103, hw, c105 r.1.1, hxy, a1, b1, c38, ir_b_t, ir_k_i, ir_tl_i, ir_k_v, ir_tl_v, i_10, if_false]
      exact g1
    · have hx3 : isHo (ir_up σ3 33 0 0) (nI a) = true := by rw [isHo_st ag3']; exact hx
      have hy3 : isHo (ir_up σ3 33 0 0) (nI b) = true := by rw [isHo_st ag3']; exact hy
      simp only [e154, s154_0, s154_1, s154_2]
      by_cases em : v = -1
      · simp only [s154_5, s154_6, s154_7, s154_18, s154_19, s154_22, s154_25, s154_26, s154_27, s154_30, s154_33, s154_34, s154_36, s154_39, s154_42, s154_43, s154_45, s154_50, s154_51, s154_52, s154_53, s154_56, s154_57, s154_58, s154_59, s154_61, s154_64, s154_66, s154_67, s154_68, s154_71, s154_72, s154_73, s154_76, s154_77, if_pos em, m126, hw, mHost r30.1, hx3, hy3, if_neg hne, j1, k1, hrows, ir_b_t, ir_k_i, ir_tl_i, ir_k_v, ir_tl_v, i_10, if_false]
        exact z1
      · have hcn := cN_inr (w := v) r30
        rw [hv3] at hcn
        have hcv : inr v (nI C) = true := by simpa [em] using hcn.symm
        simp only [s154_5, s154_6, s154_7, s154_10, s154_11, s154_12, s154_15, s154_18, s154_19, s154_22, s154_25, s154_26, s154_27, s154_30, s154_33, s154_34, s154_36, s154_39, s154_42, s154_43, s154_45, s154_50, s154_51, s154_52, s154_53, s154_56, s154_57, s154_58, s154_59, s154_61, s154_64, s154_66, s154_67, s154_68, s154_71, s154_72, s154_73, s154_76, s154_77, if_neg em, h17 r30.2.2.2.1.2.2.1 hC, hcv, m126, hw, mHost r30.1, hx3, hy3, if_neg hne, j1, k1, hrows, ir_b_t, ir_k_i, ir_tl_i, ir_k_v, ir_tl_v, i_10, if_false]
        exact z1
  · refine ⟨-1, σ, ir_up σ 33 0 0, ?_, ?_, RR_of r0⟩
    · cases hv : cN σ v with
      | false => simp only [e88, s88_0, s88_1, s88_2, s88_5, s88_25, s88_26, c106, hv, ir_b_f, ir_k_i, ir_tl_i, if_true]
      | true =>
        cases hw : inr w 4 with
        | false => simp only [e88, s88_0, s88_1, s88_2, s88_5, s88_8, s88_9, s88_12, s88_25, s88_26, c106, hv, c103, hw, ir_b_t, ir_b_f, ir_k_i, ir_tl_i, i_10, if_true, if_false]
        | true =>
          have hxy : (isHo σ x && isHo σ y && !decide (x = y)) = false := by
            rw [hv, hw] at hok
            simpa using hok
          simp only [e88, s88_0, s88_1, s88_2, s88_5, s88_8, s88_9, s88_12, s88_15, s88_16, s88_17, s88_19, s88_22, s88_25, s88_26, c106, hv, c103, hw, c105 r.1.1, hxy, ir_b_t, ir_b_f, ir_k_i, ir_tl_i, i_10, if_true, if_false]
    · simp only [e154, s154_0, s154_1, s154_2]
      refine hM _ r0 _ (fun hv => ?_) (fun _ => rfl)
      rw [cN_ag ag0] at hv
      cases hw : inr w 4 with
      | false => simp only [s154_18, s154_19, s154_22, s154_48, s154_49, m126, hw, ir_b_f, ir_k_i, ir_tl_i, if_true]
      | true =>
        cases hx : isHo σ x with
        | false => simp only [s154_18, s154_19, s154_22, s154_25, s154_26, s154_27, s154_30, s154_48, s154_49, m126, hw, mHost r0.1.1, isHo_st ag0, hx, ir_b_t, ir_b_f, ir_k_i, ir_tl_i, i_10, if_true, if_false]
        | true =>
          cases hy : isHo σ y with
          | false => simp only [s154_18, s154_19, s154_22, s154_25, s154_26, s154_27, s154_30, s154_33, s154_34, s154_36, s154_39, s154_48, s154_49, m126, hw, mHost r0.1.1, isHo_st ag0, hx, hy, ir_b_t, ir_b_f, ir_k_i, ir_tl_i, i_10, if_true, if_false]
          | true =>
            have hxy : x = y := by
              rw [hv, hw, hx, hy] at hok
              simpa using hok
            simp only [s154_18, s154_19, s154_22, s154_25, s154_26, s154_27, s154_30, s154_33, s154_34, s154_36, s154_39, s154_42, s154_43, s154_45, s154_48, s154_49, m126, hw, mHost r0.1.1, isHo_st ag0, hx, hy, if_pos hxy, ir_b_t, ir_k_i, ir_tl_i, i_10, if_false]
/-! fair -/
def frBs (p : Nat → Nat) : Nat → Nat → Option Nat
  | 0, _ => none
  | n + 1, b => if p b = 0 then some b else frBs p n (b + 1)
def frAs (q : Nat → Option Nat) : Nat → Nat → Option (Nat × Nat)
  | 0, _ => none
  | n + 1, a => match q a with
    | some b => some (a, b)
    | none => frAs q n (a + 1)
noncomputable def prt (σ : ir_S) (N m C K a b : Nat) : Nat := ptF (fun l => !(AL0 σ N m C l a).testBit b) K 0 0
theorem frBs_val {p : Nat → Nat} : ∀ {n b x : Nat}, frBs p n b = some x → b ≤ x ∧ x < b + n := by
  intro n
  induction n with
  | zero => intro b x h; cases h
  | succ n ih =>
    intro b x h
    simp only [frBs] at h
    by_cases q : p b = 0
    · rw [if_pos q] at h; cases h; omega
    · rw [if_neg q] at h
      have := ih h
      omega
/-- the class: the two found, or not -/
theorem c90_in {d a : Nat} {τ : ir_S} (hC : C ≤ 12) (hK : K ≤ 12) (ht : TB τ N m C K) (h20 : τ 20 1 = nI C) (ha : a < C) : ∀ n b, b + n = C → a < b → (∀ x, frBs (prt τ N m C K a) n b = some x → ir_run (ir_ev (d + 3)) 90 (21, [.ref 0, .int (nI a), .int (nI b)], [], τ) = some (some (.int 1), ir_up (ir_up (ir_up (ir_up (ir_up τ 31 1 0) 32 0 (nI a)) 31 1 (nI 1)) 32 1 (nI x)) 31 1 (nI 2))) ∧ (frBs (prt τ N m C K a) n b = none → ir_run (ir_ev (d + 3)) 90 (21, [.ref 0, .int (nI a), .int (nI b)], [], τ) = ir_run (ir_ev (d + 3)) 90 (75, [.ref 0, .int (nI a), .int (nI C)], [], τ)) := by
  intro n
  induction n with
  | zero =>
    intro b hb hab
    have hb : b = C := by omega
    subst hb
    refine ⟨fun x hx => (by cases hx), fun _ => ?_⟩
    rw [s90_21]
    simp (disch := omega) only [s90_22, s90_23, s90_26_18, s90_26_20, s90_26_22, s90_29, c1_20, h20, n_lt_0, n_le_0, n_tl_0, n_el_0, n_eq_0, n_ad_0, n_lt_1, n_le_1, n_tl_1, n_el_1, n_eq_1, n_ad_1, n_lt_2, n_le_2, n_tl_2, n_el_2, n_eq_2, n_ad_2, n_lt_3, n_le_3, n_tl_3, n_el_3, n_eq_3, n_ad_3, n_lt_4, n_le_4, n_tl_4, n_el_4, n_eq_4, n_ad_4, n_lt_5, n_le_5, n_tl_5, n_el_5, n_eq_5, n_ad_5, n_lt_6, n_le_6, n_tl_6, n_el_6, n_eq_6, n_ad_6, n_lt_10, n_le_10, n_tl_10, n_el_10, n_eq_10, n_ad_10, n_lt_11, n_le_11, n_tl_11, n_el_11, n_eq_11, n_ad_11, n_lt_12, n_le_12, n_tl_12, n_el_12, n_eq_12, n_ad_12, n_lt_13, n_le_13, n_tl_13, n_el_13, n_eq_13, n_ad_13, n_lt_15, n_le_15, n_tl_15, n_el_15, n_eq_15, n_ad_15, n_lt_20, n_le_20, n_tl_20, n_el_20, n_eq_20, n_ad_20, n_lt_30, n_le_30, n_tl_30, n_el_30, n_eq_30, n_ad_30, n_lt_31, n_le_31, n_tl_31, n_el_31, n_eq_31, n_ad_31, n_lt_32, n_le_32, n_tl_32, n_el_32, n_eq_32, n_ad_32, n_lt_60, n_le_60, n_tl_60, n_el_60, n_eq_60, n_ad_60, n_lt_99, n_le_99, n_tl_99, n_el_99, n_eq_99, n_ad_99, n_lt_100, n_le_100, n_tl_100, n_el_100, n_eq_100, n_ad_100, n_lt_144, n_le_144, n_tl_144, n_el_144, n_eq_144, n_ad_144, n_lt_4096, n_le_4096, n_tl_4096, n_el_4096, n_eq_4096, n_ad_4096, n_mulK, nI_add, pk_mul, n_lt, n_le, n_eq, n_eqM, n_ix, n_cl, ir_k_i, ir_tl_i, Nat.le_refl, if_true]
  | succ n ih =>
    intro b hb hab
    have q1 : ¬ C ≤ b := by omega
    have k63 := c63 (d := d + 1) (a := a) (b := b) ht.1 ha (by omega)
    have hlt := ptF_lt (f := fun l => !(AL0 τ N m C l a).testBit b) (L := K) hK K 0 0 (by omega) (by decide)
    obtain ⟨i1, i2⟩ := ih (b + 1) (by omega) (by omega)
    simp only [frBs]
    by_cases e : prt τ N m C K a b = 0
    · rw [if_pos e]
      refine ⟨fun x hx => ?_, fun hx => by cases hx⟩
      cases hx
      have e' : ptF (fun l => !(AL0 τ N m C l a).testBit b) K 0 0 = 0 := e
      rw [e'] at k63
      have hi0 : (nI 0 = (0 : Int32)) := rfl
      have k40a := c40 (d := d + 2) (n := 0) (v := nI a) (σ := ir_up τ 31 1 0) (by rw [u_s, upd_s]; rfl) (by decide)
      have k40b := c40 (d := d + 2) (n := 1) (v := nI b) (σ := ir_up (ir_up (ir_up τ 31 1 0) 32 0 (nI a)) 31 1 (nI 1)) (by rw [u_s, upd_s]) (by decide)
      rw [s90_21]
      simp (disch := omega) only [s90_22, s90_23, s90_26_18, s90_26_20, s90_26_22, s90_29, s90_32, s90_33, s90_36, s90_37, s90_38, s90_41, s90_44, s90_45, s90_48, s90_51, s90_52, s90_55, s90_56, s90_59, s90_60, s90_63, s90_64, s90_67, s90_68, c1_20, h20, n_lt_0, n_le_0, n_tl_0, n_el_0, n_eq_0, n_ad_0, n_lt_1, n_le_1, n_tl_1, n_el_1, n_eq_1, n_ad_1, n_lt_2, n_le_2, n_tl_2, n_el_2, n_eq_2, n_ad_2, n_lt_3, n_le_3, n_tl_3, n_el_3, n_eq_3, n_ad_3, n_lt_4, n_le_4, n_tl_4, n_el_4, n_eq_4, n_ad_4, n_lt_5, n_le_5, n_tl_5, n_el_5, n_eq_5, n_ad_5, n_lt_6, n_le_6, n_tl_6, n_el_6, n_eq_6, n_ad_6, n_lt_10, n_le_10, n_tl_10, n_el_10, n_eq_10, n_ad_10, n_lt_11, n_le_11, n_tl_11, n_el_11, n_eq_11, n_ad_11, n_lt_12, n_le_12, n_tl_12, n_el_12, n_eq_12, n_ad_12, n_lt_13, n_le_13, n_tl_13, n_el_13, n_eq_13, n_ad_13, n_lt_15, n_le_15, n_tl_15, n_el_15, n_eq_15, n_ad_15, n_lt_20, n_le_20, n_tl_20, n_el_20, n_eq_20, n_ad_20, n_lt_30, n_le_30, n_tl_30, n_el_30, n_eq_30, n_ad_30, n_lt_31, n_le_31, n_tl_31, n_el_31, n_eq_31, n_ad_31, n_lt_32, n_le_32, n_tl_32, n_el_32, n_eq_32, n_ad_32, n_lt_60, n_le_60, n_tl_60, n_el_60, n_eq_60, n_ad_60, n_lt_99, n_le_99, n_tl_99, n_el_99, n_eq_99, n_ad_99, n_lt_100, n_le_100, n_tl_100, n_el_100, n_eq_100, n_ad_100, n_lt_144, n_le_144, n_tl_144, n_el_144, n_eq_144, n_ad_144, n_lt_4096, n_le_4096, n_tl_4096, n_el_4096, n_eq_4096, n_ad_4096, n_mulK, nI_add, pk_mul, n_lt, n_le, n_eq, n_eqM, n_ix, n_cl, ir_k_i, ir_tl_i, ir_k_v, ir_tl_v, if_neg q1, k63, hi0, c38, if_true]
      have k40a' : ir_ev (d + 3) 40 [.ref 31, .int (nI a)] (ir_up τ 31 1 0) = some (none, ir_up (ir_up (ir_up τ 31 1 0) 32 0 (nI a)) 31 1 (nI 1)) := k40a
      have k40b' : ir_ev (d + 3) 40 [.ref 31, .int (nI b)] (ir_up (ir_up (ir_up τ 31 1 0) 32 0 (nI a)) 31 1 (nI 1)) = some (none, ir_up (ir_up (ir_up (ir_up (ir_up τ 31 1 0) 32 0 (nI a)) 31 1 (nI 1)) 32 1 (nI b)) 31 1 (nI 2)) := k40b
      simp only [k40a', k40b', ir_k_v, ir_tl_v, s90_59, s90_60, s90_63, s90_64, s90_67, s90_68]
    · rw [if_neg e]
      have e' : ¬ ptF (fun l => !(AL0 τ N m C l a).testBit b) K 0 0 = 0 := e
      have st : ir_run (ir_ev (d + 3)) 90 (21, [.ref 0, .int (nI a), .int (nI b)], [], τ) = ir_run (ir_ev (d + 3)) 90 (21, [.ref 0, .int (nI a), .int (nI (b + 1))], [], τ) := by
        conv => lhs; rw [s90_21]
        simp (disch := omega) only [s90_22, s90_23, s90_26_18, s90_26_20, s90_26_22, s90_29, s90_32, s90_33, s90_36, s90_37, s90_38, s90_41, s90_69, s90_72, c1_20, h20, n_lt_0, n_le_0, n_tl_0, n_el_0, n_eq_0, n_ad_0, n_lt_1, n_le_1, n_tl_1, n_el_1, n_eq_1, n_ad_1, n_lt_2, n_le_2, n_tl_2, n_el_2, n_eq_2, n_ad_2, n_lt_3, n_le_3, n_tl_3, n_el_3, n_eq_3, n_ad_3, n_lt_4, n_le_4, n_tl_4, n_el_4, n_eq_4, n_ad_4, n_lt_5, n_le_5, n_tl_5, n_el_5, n_eq_5, n_ad_5, n_lt_6, n_le_6, n_tl_6, n_el_6, n_eq_6, n_ad_6, n_lt_10, n_le_10, n_tl_10, n_el_10, n_eq_10, n_ad_10, n_lt_11, n_le_11, n_tl_11, n_el_11, n_eq_11, n_ad_11, n_lt_12, n_le_12, n_tl_12, n_el_12, n_eq_12, n_ad_12, n_lt_13, n_le_13, n_tl_13, n_el_13, n_eq_13, n_ad_13, n_lt_15, n_le_15, n_tl_15, n_el_15, n_eq_15, n_ad_15, n_lt_20, n_le_20, n_tl_20, n_el_20, n_eq_20, n_ad_20, n_lt_30, n_le_30, n_tl_30, n_el_30, n_eq_30, n_ad_30, n_lt_31, n_le_31, n_tl_31, n_el_31, n_eq_31, n_ad_31, n_lt_32, n_le_32, n_tl_32, n_el_32, n_eq_32, n_ad_32, n_lt_60, n_le_60, n_tl_60, n_el_60, n_eq_60, n_ad_60, n_lt_99, n_le_99, n_tl_99, n_el_99, n_eq_99, n_ad_99, n_lt_100, n_le_100, n_tl_100, n_el_100, n_eq_100, n_ad_100, n_lt_144, n_le_144, n_tl_144, n_el_144, n_eq_144, n_ad_144, n_lt_4096, n_le_4096, n_tl_4096, n_el_4096, n_eq_4096, n_ad_4096, n_mulK, nI_add, pk_mul, n_lt, n_le, n_eq, n_eqM, n_ix, n_cl, ir_k_i, ir_tl_i, if_neg q1, k63, if_neg e']
      rw [st]
      exact ⟨i1, i2⟩
theorem c90_out {d : Nat} {τ : ir_S} (hC : C ≤ 12) (hK : K ≤ 12) (ht : TB τ N m C K) (h20 : τ 20 1 = nI C) : ∀ n a l2, a + n = C → (∀ x y, frAs (fun a => frBs (prt τ N m C K a) (C - (a + 1)) (a + 1)) n a = some (x, y) → ir_run (ir_ev (d + 3)) 90 (6, [.ref 0, .int (nI a), l2], [], τ) = some (some (.int 1), ir_up (ir_up (ir_up (ir_up (ir_up τ 31 1 0) 32 0 (nI x)) 31 1 (nI 1)) 32 1 (nI y)) 31 1 (nI 2))) ∧ (frAs (fun a => frBs (prt τ N m C K a) (C - (a + 1)) (a + 1)) n a = none → ir_run (ir_ev (d + 3)) 90 (6, [.ref 0, .int (nI a), l2], [], τ) = some (some (.int 0), τ)) := by
  intro n
  induction n with
  | zero =>
    intro a l2 ha
    have ha : a = C := by omega
    subst ha
    refine ⟨fun x y hx => (by cases hx), fun _ => ?_⟩
    rw [s90_6]
    simp (disch := omega) only [s90_7, s90_8, s90_11_18, s90_11_20, s90_11_22, s90_14, s90_81, s90_82, c1_20, h20, n_lt_0, n_le_0, n_tl_0, n_el_0, n_eq_0, n_ad_0, n_lt_1, n_le_1, n_tl_1, n_el_1, n_eq_1, n_ad_1, n_lt_2, n_le_2, n_tl_2, n_el_2, n_eq_2, n_ad_2, n_lt_3, n_le_3, n_tl_3, n_el_3, n_eq_3, n_ad_3, n_lt_4, n_le_4, n_tl_4, n_el_4, n_eq_4, n_ad_4, n_lt_5, n_le_5, n_tl_5, n_el_5, n_eq_5, n_ad_5, n_lt_6, n_le_6, n_tl_6, n_el_6, n_eq_6, n_ad_6, n_lt_10, n_le_10, n_tl_10, n_el_10, n_eq_10, n_ad_10, n_lt_11, n_le_11, n_tl_11, n_el_11, n_eq_11, n_ad_11, n_lt_12, n_le_12, n_tl_12, n_el_12, n_eq_12, n_ad_12, n_lt_13, n_le_13, n_tl_13, n_el_13, n_eq_13, n_ad_13, n_lt_15, n_le_15, n_tl_15, n_el_15, n_eq_15, n_ad_15, n_lt_20, n_le_20, n_tl_20, n_el_20, n_eq_20, n_ad_20, n_lt_30, n_le_30, n_tl_30, n_el_30, n_eq_30, n_ad_30, n_lt_31, n_le_31, n_tl_31, n_el_31, n_eq_31, n_ad_31, n_lt_32, n_le_32, n_tl_32, n_el_32, n_eq_32, n_ad_32, n_lt_60, n_le_60, n_tl_60, n_el_60, n_eq_60, n_ad_60, n_lt_99, n_le_99, n_tl_99, n_el_99, n_eq_99, n_ad_99, n_lt_100, n_le_100, n_tl_100, n_el_100, n_eq_100, n_ad_100, n_lt_144, n_le_144, n_tl_144, n_el_144, n_eq_144, n_ad_144, n_lt_4096, n_le_4096, n_tl_4096, n_el_4096, n_eq_4096, n_ad_4096, n_mulK, nI_add, pk_mul, n_lt, n_le, n_eq, n_eqM, n_ix, n_cl, ir_k_i, ir_tl_i, Nat.le_refl, if_true]
  | succ n ih =>
    intro a l2 ha
    have q1 : ¬ C ≤ a := by omega
    obtain ⟨j1, j2⟩ := c90_in (d := d) hC hK ht h20 (show a < C by omega) (C - (a + 1)) (a + 1) (by omega) (by omega)
    have st : ir_run (ir_ev (d + 3)) 90 (6, [.ref 0, .int (nI a), l2], [], τ) = ir_run (ir_ev (d + 3)) 90 (21, [.ref 0, .int (nI a), .int (nI (a + 1))], [], τ) := by
      rw [s90_6]
      simp (disch := omega) only [s90_7, s90_8, s90_11_18, s90_11_20, s90_11_22, s90_14, s90_17, s90_18, s90_19, s90_20, c1_20, h20, n_lt_0, n_le_0, n_tl_0, n_el_0, n_eq_0, n_ad_0, n_lt_1, n_le_1, n_tl_1, n_el_1, n_eq_1, n_ad_1, n_lt_2, n_le_2, n_tl_2, n_el_2, n_eq_2, n_ad_2, n_lt_3, n_le_3, n_tl_3, n_el_3, n_eq_3, n_ad_3, n_lt_4, n_le_4, n_tl_4, n_el_4, n_eq_4, n_ad_4, n_lt_5, n_le_5, n_tl_5, n_el_5, n_eq_5, n_ad_5, n_lt_6, n_le_6, n_tl_6, n_el_6, n_eq_6, n_ad_6, n_lt_10, n_le_10, n_tl_10, n_el_10, n_eq_10, n_ad_10, n_lt_11, n_le_11, n_tl_11, n_el_11, n_eq_11, n_ad_11, n_lt_12, n_le_12, n_tl_12, n_el_12, n_eq_12, n_ad_12, n_lt_13, n_le_13, n_tl_13, n_el_13, n_eq_13, n_ad_13, n_lt_15, n_le_15, n_tl_15, n_el_15, n_eq_15, n_ad_15, n_lt_20, n_le_20, n_tl_20, n_el_20, n_eq_20, n_ad_20, n_lt_30, n_le_30, n_tl_30, n_el_30, n_eq_30, n_ad_30, n_lt_31, n_le_31, n_tl_31, n_el_31, n_eq_31, n_ad_31, n_lt_32, n_le_32, n_tl_32, n_el_32, n_eq_32, n_ad_32, n_lt_60, n_le_60, n_tl_60, n_el_60, n_eq_60, n_ad_60, n_lt_99, n_le_99, n_tl_99, n_el_99, n_eq_99, n_ad_99, n_lt_100, n_le_100, n_tl_100, n_el_100, n_eq_100, n_ad_100, n_lt_144, n_le_144, n_tl_144, n_el_144, n_eq_144, n_ad_144, n_lt_4096, n_le_4096, n_tl_4096, n_el_4096, n_eq_4096, n_ad_4096, n_mulK, nI_add, pk_mul, n_lt, n_le, n_eq, n_eqM, n_ix, n_cl, ir_k_i, ir_tl_i, if_neg q1]
    rw [st]
    simp only [frAs]
    cases hb : frBs (prt τ N m C K a) (C - (a + 1)) (a + 1) with
    | some b =>
      refine ⟨fun x y hx => ?_, fun hx => by cases hx⟩
      cases hx
      exact j1 b hb
    | none =>
      obtain ⟨i1, i2⟩ := ih (a + 1) (.int (nI C)) (by omega)
      have st2 : ir_run (ir_ev (d + 3)) 90 (75, [.ref 0, .int (nI a), .int (nI C)], [], τ) = ir_run (ir_ev (d + 3)) 90 (6, [.ref 0, .int (nI (a + 1)), .int (nI C)], [], τ) := by
        simp (disch := omega) only [s90_75, s90_78, n_lt_0, n_le_0, n_tl_0, n_el_0, n_eq_0, n_ad_0, n_lt_1, n_le_1, n_tl_1, n_el_1, n_eq_1, n_ad_1, n_lt_2, n_le_2, n_tl_2, n_el_2, n_eq_2, n_ad_2, n_lt_3, n_le_3, n_tl_3, n_el_3, n_eq_3, n_ad_3, n_lt_4, n_le_4, n_tl_4, n_el_4, n_eq_4, n_ad_4, n_lt_5, n_le_5, n_tl_5, n_el_5, n_eq_5, n_ad_5, n_lt_6, n_le_6, n_tl_6, n_el_6, n_eq_6, n_ad_6, n_lt_10, n_le_10, n_tl_10, n_el_10, n_eq_10, n_ad_10, n_lt_11, n_le_11, n_tl_11, n_el_11, n_eq_11, n_ad_11, n_lt_12, n_le_12, n_tl_12, n_el_12, n_eq_12, n_ad_12, n_lt_13, n_le_13, n_tl_13, n_el_13, n_eq_13, n_ad_13, n_lt_15, n_le_15, n_tl_15, n_el_15, n_eq_15, n_ad_15, n_lt_20, n_le_20, n_tl_20, n_el_20, n_eq_20, n_ad_20, n_lt_30, n_le_30, n_tl_30, n_el_30, n_eq_30, n_ad_30, n_lt_31, n_le_31, n_tl_31, n_el_31, n_eq_31, n_ad_31, n_lt_32, n_le_32, n_tl_32, n_el_32, n_eq_32, n_ad_32, n_lt_60, n_le_60, n_tl_60, n_el_60, n_eq_60, n_ad_60, n_lt_99, n_le_99, n_tl_99, n_el_99, n_eq_99, n_ad_99, n_lt_100, n_le_100, n_tl_100, n_el_100, n_eq_100, n_ad_100, n_lt_144, n_le_144, n_tl_144, n_el_144, n_eq_144, n_ad_144, n_lt_4096, n_le_4096, n_tl_4096, n_el_4096, n_eq_4096, n_ad_4096, n_mulK, nI_add, pk_mul, n_lt, n_le, n_eq, n_eqM, n_ix, n_cl]
      rw [j2 hb, st2]
      exact ⟨i1, i2⟩
theorem m164_in {d a : Nat} (r : R0 σ N m F C K LA LB) (ha : a < C) : ∀ n b τ, b + n = C → a < b → frR σ τ → (∀ x, frBs (prt σ N m C K a) n b = some x → ∃ τ', frR σ τ' ∧ ir_run (ir_ev (d + 10)) 164 (19, [.ref 33, .int (nI a), .int (nI b)], [], τ) = some (some (.int 1), ir_up (ir_up (ir_up τ' 33 22 2) 49 0 (nI a)) 49 1 (nI x))) ∧ (frBs (prt σ N m C K a) n b = none → ∃ τ', frR σ τ' ∧ ir_run (ir_ev (d + 10)) 164 (19, [.ref 33, .int (nI a), .int (nI b)], [], τ) = ir_run (ir_ev (d + 10)) 164 (63, [.ref 33, .int (nI a), .int (nI C)], [], τ')) := by
  have hC := r.2.2.2.1.1
  have hK := r.2.2.2.2.1
  intro n
  induction n with
  | zero =>
    intro b τ hb hab hf
    have hb : b = C := by omega
    subst hb
    have e17 : τ 33 17 = nI b := by rw [hf.2 17 (by decide) (by decide) (by decide)]; exact r.2.2.2.1.2.2.1
    refine ⟨fun x hx => (by cases hx), fun _ => ⟨τ, hf, ?_⟩⟩
    rw [s164_19]
    simp (disch := omega) only [s164_20, s164_21, s164_24, e17, n_lt_0, n_le_0, n_tl_0, n_el_0, n_eq_0, n_ad_0, n_lt_1, n_le_1, n_tl_1, n_el_1, n_eq_1, n_ad_1, n_lt_2, n_le_2, n_tl_2, n_el_2, n_eq_2, n_ad_2, n_lt_3, n_le_3, n_tl_3, n_el_3, n_eq_3, n_ad_3, n_lt_4, n_le_4, n_tl_4, n_el_4, n_eq_4, n_ad_4, n_lt_5, n_le_5, n_tl_5, n_el_5, n_eq_5, n_ad_5, n_lt_6, n_le_6, n_tl_6, n_el_6, n_eq_6, n_ad_6, n_lt_10, n_le_10, n_tl_10, n_el_10, n_eq_10, n_ad_10, n_lt_11, n_le_11, n_tl_11, n_el_11, n_eq_11, n_ad_11, n_lt_12, n_le_12, n_tl_12, n_el_12, n_eq_12, n_ad_12, n_lt_13, n_le_13, n_tl_13, n_el_13, n_eq_13, n_ad_13, n_lt_15, n_le_15, n_tl_15, n_el_15, n_eq_15, n_ad_15, n_lt_20, n_le_20, n_tl_20, n_el_20, n_eq_20, n_ad_20, n_lt_30, n_le_30, n_tl_30, n_el_30, n_eq_30, n_ad_30, n_lt_31, n_le_31, n_tl_31, n_el_31, n_eq_31, n_ad_31, n_lt_32, n_le_32, n_tl_32, n_el_32, n_eq_32, n_ad_32, n_lt_60, n_le_60, n_tl_60, n_el_60, n_eq_60, n_ad_60, n_lt_99, n_le_99, n_tl_99, n_el_99, n_eq_99, n_ad_99, n_lt_100, n_le_100, n_tl_100, n_el_100, n_eq_100, n_ad_100, n_lt_144, n_le_144, n_tl_144, n_el_144, n_eq_144, n_ad_144, n_lt_4096, n_le_4096, n_tl_4096, n_el_4096, n_eq_4096, n_ad_4096, n_mulK, nI_add, pk_mul, n_lt, n_le, n_eq, n_eqM, n_ix, n_cl, Nat.le_refl, if_true]
  | succ n ih =>
    intro b τ hb hab hf
    have q1 : ¬ C ≤ b := by omega
    have e17 : τ 33 17 = nI C := by rw [hf.2 17 (by decide) (by decide) (by decide)]; exact r.2.2.2.1.2.2.1
    obtain ⟨τ1, a1, a2⟩ := unlikeM (d := d) (R0_ag (agS_frR hf) r) ha (show b < C by omega)
    rw [AL0_ag (agS_frR hf)] at a1
    have hlt := ptF_lt (f := fun l => !(AL0 σ N m C l a).testBit b) (L := K) hK K 0 0 (by omega) (by decide)
    obtain ⟨i1, i2⟩ := ih (b + 1) τ1 (by omega) (by omega) (frR_tr hf a2)
    simp only [frBs]
    by_cases e : prt σ N m C K a b = 0
    · rw [if_pos e]
      refine ⟨fun x hx => ?_, fun hx => by cases hx⟩
      cases hx
      have e' : ptF (fun l => !(AL0 σ N m C l a).testBit b) K 0 0 = 0 := e
      rw [e'] at a1
      have hi0 : (nI 0 = (0 : Int32)) := rfl
      have e0 : ir_ixb 0 32 = true := by decide
      have e1 : ir_ixb 1 32 = true := by decide
      have c0 : (0 : Int32).toNatClampNeg = 0 := by decide
      have c1 : (1 : Int32).toNatClampNeg = 1 := by decide
      refine ⟨τ1, frR_tr hf a2, ?_⟩
      rw [s164_19]
      simp (disch := omega) only [s164_20, s164_21, s164_24, s164_27, s164_28, s164_29, s164_30, s164_33, s164_36, s164_37, s164_38, s164_41, s164_42, s164_45, s164_46, s164_47, s164_48, s164_49, s164_52, s164_53, s164_54, s164_55, s164_56, xA49, xL49, xa49, e17, n_le, a1, ir_k_i, ir_tl_i, if_neg q1, hi0, e0, e1, c0, c1, if_true]
    · rw [if_neg e]
      have e' : ¬ ptF (fun l => !(AL0 σ N m C l a).testBit b) K 0 0 = 0 := e
      have st : ir_run (ir_ev (d + 10)) 164 (19, [.ref 33, .int (nI a), .int (nI b)], [], τ) = ir_run (ir_ev (d + 10)) 164 (19, [.ref 33, .int (nI a), .int (nI (b + 1))], [], τ1) := by
        conv => lhs; rw [s164_19]
        simp (disch := omega) only [s164_20, s164_21, s164_24, s164_27, s164_28, s164_29, s164_30, s164_33, s164_57, s164_60, e17, n_lt_0, n_le_0, n_tl_0, n_el_0, n_eq_0, n_ad_0, n_lt_1, n_le_1, n_tl_1, n_el_1, n_eq_1, n_ad_1, n_lt_2, n_le_2, n_tl_2, n_el_2, n_eq_2, n_ad_2, n_lt_3, n_le_3, n_tl_3, n_el_3, n_eq_3, n_ad_3, n_lt_4, n_le_4, n_tl_4, n_el_4, n_eq_4, n_ad_4, n_lt_5, n_le_5, n_tl_5, n_el_5, n_eq_5, n_ad_5, n_lt_6, n_le_6, n_tl_6, n_el_6, n_eq_6, n_ad_6, n_lt_10, n_le_10, n_tl_10, n_el_10, n_eq_10, n_ad_10, n_lt_11, n_le_11, n_tl_11, n_el_11, n_eq_11, n_ad_11, n_lt_12, n_le_12, n_tl_12, n_el_12, n_eq_12, n_ad_12, n_lt_13, n_le_13, n_tl_13, n_el_13, n_eq_13, n_ad_13, n_lt_15, n_le_15, n_tl_15, n_el_15, n_eq_15, n_ad_15, n_lt_20, n_le_20, n_tl_20, n_el_20, n_eq_20, n_ad_20, n_lt_30, n_le_30, n_tl_30, n_el_30, n_eq_30, n_ad_30, n_lt_31, n_le_31, n_tl_31, n_el_31, n_eq_31, n_ad_31, n_lt_32, n_le_32, n_tl_32, n_el_32, n_eq_32, n_ad_32, n_lt_60, n_le_60, n_tl_60, n_el_60, n_eq_60, n_ad_60, n_lt_99, n_le_99, n_tl_99, n_el_99, n_eq_99, n_ad_99, n_lt_100, n_le_100, n_tl_100, n_el_100, n_eq_100, n_ad_100, n_lt_144, n_le_144, n_tl_144, n_el_144, n_eq_144, n_ad_144, n_lt_4096, n_le_4096, n_tl_4096, n_el_4096, n_eq_4096, n_ad_4096, n_mulK, nI_add, pk_mul, n_lt, n_le, n_eq, n_eqM, n_ix, n_cl, a1, ir_k_i, ir_tl_i, if_neg q1, if_neg e']
      rw [st]
      exact ⟨i1, i2⟩
theorem m164_out {d : Nat} (r : R0 σ N m F C K LA LB) : ∀ n a τ l2, a + n = C → frR σ τ → (∀ x y, frAs (fun a => frBs (prt σ N m C K a) (C - (a + 1)) (a + 1)) n a = some (x, y) → ∃ τ', frR σ τ' ∧ ir_run (ir_ev (d + 10)) 164 (7, [.ref 33, .int (nI a), l2], [], τ) = some (some (.int 1), ir_up (ir_up (ir_up τ' 33 22 2) 49 0 (nI x)) 49 1 (nI y))) ∧ (frAs (fun a => frBs (prt σ N m C K a) (C - (a + 1)) (a + 1)) n a = none → ∃ τ', frR σ τ' ∧ ir_run (ir_ev (d + 10)) 164 (7, [.ref 33, .int (nI a), l2], [], τ) = some (some (.int 0), τ')) := by
  have hC := r.2.2.2.1.1
  intro n
  induction n with
  | zero =>
    intro a τ l2 ha hf
    have ha : a = C := by omega
    subst ha
    have e17 : τ 33 17 = nI a := by rw [hf.2 17 (by decide) (by decide) (by decide)]; exact r.2.2.2.1.2.2.1
    refine ⟨fun x y hx => (by cases hx), fun _ => ⟨τ, hf, ?_⟩⟩
    rw [s164_7]
    simp (disch := omega) only [s164_8, s164_9, s164_12, s164_69, s164_70, e17, n_lt_0, n_le_0, n_tl_0, n_el_0, n_eq_0, n_ad_0, n_lt_1, n_le_1, n_tl_1, n_el_1, n_eq_1, n_ad_1, n_lt_2, n_le_2, n_tl_2, n_el_2, n_eq_2, n_ad_2, n_lt_3, n_le_3, n_tl_3, n_el_3, n_eq_3, n_ad_3, n_lt_4, n_le_4, n_tl_4, n_el_4, n_eq_4, n_ad_4, n_lt_5, n_le_5, n_tl_5, n_el_5, n_eq_5, n_ad_5, n_lt_6, n_le_6, n_tl_6, n_el_6, n_eq_6, n_ad_6, n_lt_10, n_le_10, n_tl_10, n_el_10, n_eq_10, n_ad_10, n_lt_11, n_le_11, n_tl_11, n_el_11, n_eq_11, n_ad_11, n_lt_12, n_le_12, n_tl_12, n_el_12, n_eq_12, n_ad_12, n_lt_13, n_le_13, n_tl_13, n_el_13, n_eq_13, n_ad_13, n_lt_15, n_le_15, n_tl_15, n_el_15, n_eq_15, n_ad_15, n_lt_20, n_le_20, n_tl_20, n_el_20, n_eq_20, n_ad_20, n_lt_30, n_le_30, n_tl_30, n_el_30, n_eq_30, n_ad_30, n_lt_31, n_le_31, n_tl_31, n_el_31, n_eq_31, n_ad_31, n_lt_32, n_le_32, n_tl_32, n_el_32, n_eq_32, n_ad_32, n_lt_60, n_le_60, n_tl_60, n_el_60, n_eq_60, n_ad_60, n_lt_99, n_le_99, n_tl_99, n_el_99, n_eq_99, n_ad_99, n_lt_100, n_le_100, n_tl_100, n_el_100, n_eq_100, n_ad_100, n_lt_144, n_le_144, n_tl_144, n_el_144, n_eq_144, n_ad_144, n_lt_4096, n_le_4096, n_tl_4096, n_el_4096, n_eq_4096, n_ad_4096, n_mulK, nI_add, pk_mul, n_lt, n_le, n_eq, n_eqM, n_ix, n_cl, Nat.le_refl, if_true]
  | succ n ih =>
    intro a τ l2 ha hf
    have q1 : ¬ C ≤ a := by omega
    have e17 : τ 33 17 = nI C := by rw [hf.2 17 (by decide) (by decide) (by decide)]; exact r.2.2.2.1.2.2.1
    obtain ⟨j1, j2⟩ := m164_in (d := d) r (show a < C by omega) (C - (a + 1)) (a + 1) τ (by omega) (by omega) hf
    have st : ir_run (ir_ev (d + 10)) 164 (7, [.ref 33, .int (nI a), l2], [], τ) = ir_run (ir_ev (d + 10)) 164 (19, [.ref 33, .int (nI a), .int (nI (a + 1))], [], τ) := by
      rw [s164_7]
      simp (disch := omega) only [s164_8, s164_9, s164_12, s164_15, s164_16, s164_17, s164_18, e17, n_lt_0, n_le_0, n_tl_0, n_el_0, n_eq_0, n_ad_0, n_lt_1, n_le_1, n_tl_1, n_el_1, n_eq_1, n_ad_1, n_lt_2, n_le_2, n_tl_2, n_el_2, n_eq_2, n_ad_2, n_lt_3, n_le_3, n_tl_3, n_el_3, n_eq_3, n_ad_3, n_lt_4, n_le_4, n_tl_4, n_el_4, n_eq_4, n_ad_4, n_lt_5, n_le_5, n_tl_5, n_el_5, n_eq_5, n_ad_5, n_lt_6, n_le_6, n_tl_6, n_el_6, n_eq_6, n_ad_6, n_lt_10, n_le_10, n_tl_10, n_el_10, n_eq_10, n_ad_10, n_lt_11, n_le_11, n_tl_11, n_el_11, n_eq_11, n_ad_11, n_lt_12, n_le_12, n_tl_12, n_el_12, n_eq_12, n_ad_12, n_lt_13, n_le_13, n_tl_13, n_el_13, n_eq_13, n_ad_13, n_lt_15, n_le_15, n_tl_15, n_el_15, n_eq_15, n_ad_15, n_lt_20, n_le_20, n_tl_20, n_el_20, n_eq_20, n_ad_20, n_lt_30, n_le_30, n_tl_30, n_el_30, n_eq_30, n_ad_30, n_lt_31, n_le_31, n_tl_31, n_el_31, n_eq_31, n_ad_31, n_lt_32, n_le_32, n_tl_32, n_el_32, n_eq_32, n_ad_32, n_lt_60, n_le_60, n_tl_60, n_el_60, n_eq_60, n_ad_60, n_lt_99, n_le_99, n_tl_99, n_el_99, n_eq_99, n_ad_99, n_lt_100, n_le_100, n_tl_100, n_el_100, n_eq_100, n_ad_100, n_lt_144, n_le_144, n_tl_144, n_el_144, n_eq_144, n_ad_144, n_lt_4096, n_le_4096, n_tl_4096, n_el_4096, n_eq_4096, n_ad_4096, n_mulK, nI_add, pk_mul, n_lt, n_le, n_eq, n_eqM, n_ix, n_cl, if_neg q1]
    rw [st]
    simp only [frAs]
    cases hb : frBs (prt σ N m C K a) (C - (a + 1)) (a + 1) with
    | some b =>
      refine ⟨fun x y hx => ?_, fun hx => by cases hx⟩
      cases hx
      exact j1 b hb
    | none =>
      obtain ⟨τ1, f1, g1⟩ := j2 hb
      obtain ⟨i1, i2⟩ := ih (a + 1) τ1 (.int (nI C)) (by omega) f1
      have st2 : ir_run (ir_ev (d + 10)) 164 (63, [.ref 33, .int (nI a), .int (nI C)], [], τ1) = ir_run (ir_ev (d + 10)) 164 (7, [.ref 33, .int (nI (a + 1)), .int (nI C)], [], τ1) := by
        simp (disch := omega) only [s164_63, s164_66, n_lt_0, n_le_0, n_tl_0, n_el_0, n_eq_0, n_ad_0, n_lt_1, n_le_1, n_tl_1, n_el_1, n_eq_1, n_ad_1, n_lt_2, n_le_2, n_tl_2, n_el_2, n_eq_2, n_ad_2, n_lt_3, n_le_3, n_tl_3, n_el_3, n_eq_3, n_ad_3, n_lt_4, n_le_4, n_tl_4, n_el_4, n_eq_4, n_ad_4, n_lt_5, n_le_5, n_tl_5, n_el_5, n_eq_5, n_ad_5, n_lt_6, n_le_6, n_tl_6, n_el_6, n_eq_6, n_ad_6, n_lt_10, n_le_10, n_tl_10, n_el_10, n_eq_10, n_ad_10, n_lt_11, n_le_11, n_tl_11, n_el_11, n_eq_11, n_ad_11, n_lt_12, n_le_12, n_tl_12, n_el_12, n_eq_12, n_ad_12, n_lt_13, n_le_13, n_tl_13, n_el_13, n_eq_13, n_ad_13, n_lt_15, n_le_15, n_tl_15, n_el_15, n_eq_15, n_ad_15, n_lt_20, n_le_20, n_tl_20, n_el_20, n_eq_20, n_ad_20, n_lt_30, n_le_30, n_tl_30, n_el_30, n_eq_30, n_ad_30, n_lt_31, n_le_31, n_tl_31, n_el_31, n_eq_31, n_ad_31, n_lt_32, n_le_32, n_tl_32, n_el_32, n_eq_32, n_ad_32, n_lt_60, n_le_60, n_tl_60, n_el_60, n_eq_60, n_ad_60, n_lt_99, n_le_99, n_tl_99, n_el_99, n_eq_99, n_ad_99, n_lt_100, n_le_100, n_tl_100, n_el_100, n_eq_100, n_ad_100, n_lt_144, n_le_144, n_tl_144, n_el_144, n_eq_144, n_ad_144, n_lt_4096, n_le_4096, n_tl_4096, n_el_4096, n_eq_4096, n_ad_4096, n_mulK, nI_add, pk_mul, n_lt, n_le, n_eq, n_eqM, n_ix, n_cl]
      rw [g1, st2]
      exact ⟨i1, i2⟩
theorem p_fair {d : Nat} (h : RR σ) : PAIR d 90 164 [] σ := by
  obtain ⟨N, m, F, C, K, LA, LB, r⟩ := h
  have hC := r.1.2.2.2.1.1
  have hK := r.1.2.2.2.2.1
  obtain ⟨σ1, a1, a2, a3, a4⟩ := prep (d := d + 43) r.1 r.2.2.2
  have r1 := RA_frT a2 a3 a4 r
  obtain ⟨b1, b2⟩ := c90_out (d := d + 46) hC hK a4 r1.1.2.2.2.1.2.1 C 0 .null (by omega)
  have hcl : ∀ z, ir_run (ir_ev (d + 49)) 90 (6, [.ref 0, .int (nI 0), .null], [], σ1) = z → ir_ev (d + 50) 90 [.ref 0] σ = z := by
    intro z hz
    simp only [e90, s90_0, s90_1, s90_4, s90_5, a1, ir_k_v, ir_tl_v]
    exact hz
  have hrf : ∀ τ z, ir_run (ir_ev (d + 49)) 164 (7, [.ref 33, .int (nI 0), .null], [], ir_up τ 33 0 0) = z → ir_ev (d + 50) 164 [.ref 33] τ = z := by
    intro τ z hz
    simp only [e164, s164_0, s164_1, s164_2, s164_5, s164_6]
    exact hz
  cases hq : frAs (fun a => frBs (prt σ1 N m C K a) (C - (a + 1)) (a + 1)) C 0 with
  | none =>
    have r10 := RA_frR (frR_33 (v := 0)) r1
    have eq : frAs (fun a => frBs (prt (ir_up σ1 33 0 0) N m C K a) (C - (a + 1)) (a + 1)) C 0 = none := by
      unfold prt at hq ⊢
      rw [AL0_ag (agS_frR (frR_33 (σ := σ1) (v := 0)))]
      exact hq
    obtain ⟨τ', f1, z1⟩ := (m164_out (d := d + 39) r10.1 C 0 (ir_up σ1 33 0 0) .null (by omega) (frR_rf _)).2 eq
    exact ⟨0, σ1, τ', hcl _ (b2 hq), hrf _ _ z1, RR_of (RA_frR f1 r10)⟩
  | some xy =>
    obtain ⟨x, y⟩ := xy
    have fr2 : frG σ1 (ir_up (ir_up (ir_up (ir_up (ir_up σ1 31 1 0) 32 0 (nI x)) 31 1 (nI 1)) 32 1 (nI y)) 31 1 (nI 2)) := frG_c (fun q hq => by rw [u_n _ _ _ (by omega), u_n _ _ _ (by omega), u_n _ _ _ (by omega), u_n _ _ _ (by omega), u_n _ _ _ (by omega)])
    have w31 : (ir_up (ir_up (ir_up (ir_up (ir_up σ1 31 1 0) 32 0 (nI x)) 31 1 (nI 1)) 32 1 (nI y)) 31 1 (nI 2)) 31 1 = nI 2 := by rw [u_s, upd_s]
    have w320 : (ir_up (ir_up (ir_up (ir_up (ir_up σ1 31 1 0) 32 0 (nI x)) 31 1 (nI 1)) 32 1 (nI y)) 31 1 (nI 2)) 32 0 = nI x := by simp (disch := omega) only [u_s, u_n, upd_s, upd_n]
    have w321 : (ir_up (ir_up (ir_up (ir_up (ir_up σ1 31 1 0) 32 0 (nI x)) 31 1 (nI 1)) 32 1 (nI y)) 31 1 (nI 2)) 32 1 = nI y := by simp (disch := omega) only [u_s, u_n, upd_s, upd_n]
    have hb1 := b1 x y hq
    generalize (ir_up (ir_up (ir_up (ir_up (ir_up σ1 31 1 0) 32 0 (nI x)) 31 1 (nI 1)) 32 1 (nI y)) 31 1 (nI 2)) = σ2 at *
    have fr20 := frG_tr fr2 (frG_R (frR_33 (σ := σ2) (v := 0)))
    have r20 := R0_ag (agS_frG fr20) r1.1
    have eq : frAs (fun a => frBs (prt (ir_up σ2 33 0 0) N m C K a) (C - (a + 1)) (a + 1)) C 0 = some (x, y) := by
      unfold prt at hq ⊢
      rw [AL0_ag (agS_frG fr20)]
      exact hq
    obtain ⟨τ', f1, z1⟩ := (m164_out (d := d + 39) r20 C 0 (ir_up σ2 33 0 0) .null (by omega) (frR_rf _)).1 x y eq
    have f2 : frR σ2 τ' := frR_tr frR_33 f1
    have fr3 : frG σ1 (ir_up (ir_up (ir_up τ' 33 22 2) 49 0 (nI x)) 49 1 (nI y)) := frG_tr fr2 (frG_tr (frG_R f2) ⟨fun q hq => by rw [u_n _ _ _ (by omega), u_n _ _ _ (by omega), u_n _ _ _ (by omega)], fun k _ _ c _ => by rw [u_n _ _ _ (by decide), u_n _ _ _ (by decide), u_s, upd_n _ _ c]⟩)
    have e31 : τ' 31 = σ2 31 := f2.1 31 (by decide) (by decide) (by decide) (by decide) (by decide) (by decide)
    have e32 : τ' 32 = σ2 32 := f2.1 32 (by decide) (by decide) (by decide) (by decide) (by decide) (by decide)
    refine ⟨1, σ2, _, hcl _ hb1, hrf _ _ z1, RR_of (RA_frG fr3 ⟨2, by omega, ?_, ?_, fun i hi => ?_⟩ r1)⟩
    · rw [u_n _ _ _ (by decide), u_n _ _ _ (by decide), u_n _ _ _ (by decide), e31]; exact w31
    · rw [u_n _ _ _ (by decide), u_n _ _ _ (by decide), u_s, upd_s]; rfl
    · have hi2 : i = 0 ∨ i = 1 := by omega
      rcases hi2 with rfl | rfl
      · simp (disch := omega) only [u_s, u_n, upd_s, upd_n, e32, w320]
      · simp (disch := omega) only [u_s, u_n, upd_s, upd_n, e32, w321]
end GO
