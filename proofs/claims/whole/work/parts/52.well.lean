/-! well, answer, next, row -/
def wlF (f g : Nat → Int32) : Nat → Nat → Bool
  | 0, _ => true
  | n + 1, l => if f l = g l then wlF f g n (l + 1) else false
section WL
variable {σ σ' : ir_S} {N m F C K : Nat} {LA LB : Nat → Nat} {fs : List Nat}
theorem VB6_ag {σ0 : ir_S} (h : ∀ c, c < 11 → σ' c = σ c) (hv : VB σ0 fs 6 σ) : VB σ0 fs 6 σ' := by
  unfold VB at *
  rw [h 1 (by decide), h 2 (by decide), h 4 (by decide), h 5 (by decide), h 6 (by decide), h (6 + 1) (by decide), h (6 + 2) (by decide), h (6 + 3) (by decide), h (6 + 4) (by decide)]
  exact hv
theorem c99_loop {d : Nat} (r : R0 σ N m F C K LA LB) (hfs : ∀ f ∈ fs, f < F) : ∀ n l τ, l + n = K → VB σ fs 11 τ → VB σ [] 6 τ → τ 23 = σ 23 → τ 22 1 = nI K → ∃ τ', ir_run (ir_ev (d + 5)) 99 (33, [.ref 0, .int (nI l)], [], τ) = some (some (.int (ir_b (wlF (mLk σ N m fs) (mLk σ N m []) n l))), τ') ∧ ∀ c, c ≠ 16 → c ≠ 17 → τ' c = τ c := by
  have hK := r.2.2.2.2.1
  intro n
  induction n with
  | zero =>
    intro l τ hl hv h6 h23 h22
    have hl : l = K := by omega
    subst hl
    refine ⟨τ, ?_, fun _ _ _ => rfl⟩
    rw [s99_33]
    simp (disch := omega) only [s99_34, s99_35, s99_38_18, s99_38_20, s99_38_22, s99_41, s99_79, s99_80, c1_22, h22, n_lt_0, n_le_0, n_tl_0, n_el_0, n_eq_0, n_ad_0, n_lt_1, n_le_1, n_tl_1, n_el_1, n_eq_1, n_ad_1, n_lt_2, n_le_2, n_tl_2, n_el_2, n_eq_2, n_ad_2, n_lt_3, n_le_3, n_tl_3, n_el_3, n_eq_3, n_ad_3, n_lt_4, n_le_4, n_tl_4, n_el_4, n_eq_4, n_ad_4, n_lt_5, n_le_5, n_tl_5, n_el_5, n_eq_5, n_ad_5, n_lt_6, n_le_6, n_tl_6, n_el_6, n_eq_6, n_ad_6, n_lt_10, n_le_10, n_tl_10, n_el_10, n_eq_10, n_ad_10, n_lt_11, n_le_11, n_tl_11, n_el_11, n_eq_11, n_ad_11, n_lt_12, n_le_12, n_tl_12, n_el_12, n_eq_12, n_ad_12, n_lt_13, n_le_13, n_tl_13, n_el_13, n_eq_13, n_ad_13, n_lt_15, n_le_15, n_tl_15, n_el_15, n_eq_15, n_ad_15, n_lt_20, n_le_20, n_tl_20, n_el_20, n_eq_20, n_ad_20, n_lt_30, n_le_30, n_tl_30, n_el_30, n_eq_30, n_ad_30, n_lt_31, n_le_31, n_tl_31, n_el_31, n_eq_31, n_ad_31, n_lt_32, n_le_32, n_tl_32, n_el_32, n_eq_32, n_ad_32, n_lt_60, n_le_60, n_tl_60, n_el_60, n_eq_60, n_ad_60, n_lt_99, n_le_99, n_tl_99, n_el_99, n_eq_99, n_ad_99, n_lt_100, n_le_100, n_tl_100, n_el_100, n_eq_100, n_ad_100, n_lt_144, n_le_144, n_tl_144, n_el_144, n_eq_144, n_ad_144, n_lt_4096, n_le_4096, n_tl_4096, n_el_4096, n_eq_4096, n_ad_4096, n_mulK, nI_add, pk_mul, n_lt, n_le, n_eq, n_eqM, n_ix, n_cl, ir_k_i, ir_tl_i, Nat.le_refl, if_true, wlF, ir_b_t]
  | succ n ih =>
    intro l τ hl hv h6 h23 h22
    have q1 : ¬ K ≤ l := by omega
    have hlK : l < K := by omega
    obtain ⟨τ1, a1, a2⟩ := ask_11 (d := d) r hfs hlK hv h23
    have hv1 := VB_ag (σ := τ) (σ' := τ1) (B := 11) (by decide) (fun c hc => a2 c (by omega) (by omega)) hv
    have h61 := VB6_ag (σ := τ) (σ' := τ1) (fun c hc => a2 c (by omega) (by omega)) h6
    have h231 : τ1 23 = σ 23 := by rw [a2 23 (by decide) (by decide)]; exact h23
    obtain ⟨τ2, b1, b2⟩ := ask_6 (d := d) (fs := []) r (fun f hf => by cases hf) hlK h61 h231
    have ab : ∀ c, c ≠ 16 → c ≠ 17 → τ2 c = τ c := fun c q1 q2 => by rw [b2 c q1 q2, a2 c q1 q2]
    simp only [wlF]
    by_cases e : mLk σ N m fs l = mLk σ N m [] l
    · obtain ⟨τ', z1, z2⟩ := ih (l + 1) τ2 (by omega) (VB_ag (σ := τ) (B := 11) (by decide) (fun c hc => ab c (by omega) (by omega)) hv) (VB6_ag (σ := τ) (fun c hc => ab c (by omega) (by omega)) h6) (by rw [ab 23 (by decide) (by decide)]; exact h23) (by rw [ab 22 (by decide) (by decide)]; exact h22)
      refine ⟨τ', ?_, fun c q1 q2 => by rw [z2 c q1 q2, ab c q1 q2]⟩
      rw [if_pos e, s99_33]
      simp (disch := omega) only [s99_34, s99_35, s99_38_18, s99_38_20, s99_38_22, s99_41, s99_44, s99_45, s99_48, s99_49, s99_50, s99_53, s99_56, s99_57, s99_60, s99_61, s99_62, s99_65, s99_68, s99_73, s99_76, c1_22, h22, n_lt_0, n_le_0, n_tl_0, n_el_0, n_eq_0, n_ad_0, n_lt_1, n_le_1, n_tl_1, n_el_1, n_eq_1, n_ad_1, n_lt_2, n_le_2, n_tl_2, n_el_2, n_eq_2, n_ad_2, n_lt_3, n_le_3, n_tl_3, n_el_3, n_eq_3, n_ad_3, n_lt_4, n_le_4, n_tl_4, n_el_4, n_eq_4, n_ad_4, n_lt_5, n_le_5, n_tl_5, n_el_5, n_eq_5, n_ad_5, n_lt_6, n_le_6, n_tl_6, n_el_6, n_eq_6, n_ad_6, n_lt_10, n_le_10, n_tl_10, n_el_10, n_eq_10, n_ad_10, n_lt_11, n_le_11, n_tl_11, n_el_11, n_eq_11, n_ad_11, n_lt_12, n_le_12, n_tl_12, n_el_12, n_eq_12, n_ad_12, n_lt_13, n_le_13, n_tl_13, n_el_13, n_eq_13, n_ad_13, n_lt_15, n_le_15, n_tl_15, n_el_15, n_eq_15, n_ad_15, n_lt_20, n_le_20, n_tl_20, n_el_20, n_eq_20, n_ad_20, n_lt_30, n_le_30, n_tl_30, n_el_30, n_eq_30, n_ad_30, n_lt_31, n_le_31, n_tl_31, n_el_31, n_eq_31, n_ad_31, n_lt_32, n_le_32, n_tl_32, n_el_32, n_eq_32, n_ad_32, n_lt_60, n_le_60, n_tl_60, n_el_60, n_eq_60, n_ad_60, n_lt_99, n_le_99, n_tl_99, n_el_99, n_eq_99, n_ad_99, n_lt_100, n_le_100, n_tl_100, n_el_100, n_eq_100, n_ad_100, n_lt_144, n_le_144, n_tl_144, n_el_144, n_eq_144, n_ad_144, n_lt_4096, n_le_4096, n_tl_4096, n_el_4096, n_eq_4096, n_ad_4096, n_mulK, nI_add, pk_mul, n_lt, n_le, n_eq, n_eqM, n_ix, n_cl, ir_k_i, ir_tl_i, if_neg q1, a1, b1, if_pos e]
      exact z1
    · refine ⟨τ2, ?_, ab⟩
      rw [if_neg e, s99_33]
      simp (disch := omega) only [s99_34, s99_35, s99_38_18, s99_38_20, s99_38_22, s99_41, s99_44, s99_45, s99_48, s99_49, s99_50, s99_53, s99_56, s99_57, s99_60, s99_61, s99_62, s99_65, s99_68, s99_71, s99_72, c1_22, h22, n_lt_0, n_le_0, n_tl_0, n_el_0, n_eq_0, n_ad_0, n_lt_1, n_le_1, n_tl_1, n_el_1, n_eq_1, n_ad_1, n_lt_2, n_le_2, n_tl_2, n_el_2, n_eq_2, n_ad_2, n_lt_3, n_le_3, n_tl_3, n_el_3, n_eq_3, n_ad_3, n_lt_4, n_le_4, n_tl_4, n_el_4, n_eq_4, n_ad_4, n_lt_5, n_le_5, n_tl_5, n_el_5, n_eq_5, n_ad_5, n_lt_6, n_le_6, n_tl_6, n_el_6, n_eq_6, n_ad_6, n_lt_10, n_le_10, n_tl_10, n_el_10, n_eq_10, n_ad_10, n_lt_11, n_le_11, n_tl_11, n_el_11, n_eq_11, n_ad_11, n_lt_12, n_le_12, n_tl_12, n_el_12, n_eq_12, n_ad_12, n_lt_13, n_le_13, n_tl_13, n_el_13, n_eq_13, n_ad_13, n_lt_15, n_le_15, n_tl_15, n_el_15, n_eq_15, n_ad_15, n_lt_20, n_le_20, n_tl_20, n_el_20, n_eq_20, n_ad_20, n_lt_30, n_le_30, n_tl_30, n_el_30, n_eq_30, n_ad_30, n_lt_31, n_le_31, n_tl_31, n_el_31, n_eq_31, n_ad_31, n_lt_32, n_le_32, n_tl_32, n_el_32, n_eq_32, n_ad_32, n_lt_60, n_le_60, n_tl_60, n_el_60, n_eq_60, n_ad_60, n_lt_99, n_le_99, n_tl_99, n_el_99, n_eq_99, n_ad_99, n_lt_100, n_le_100, n_tl_100, n_el_100, n_eq_100, n_ad_100, n_lt_144, n_le_144, n_tl_144, n_el_144, n_eq_144, n_ad_144, n_lt_4096, n_le_4096, n_tl_4096, n_el_4096, n_eq_4096, n_ad_4096, n_mulK, nI_add, pk_mul, n_lt, n_le, n_eq, n_eqM, n_ix, n_cl, ir_k_i, ir_tl_i, if_neg q1, a1, b1, if_neg e, ir_b_f]
theorem m178_loop {d c : Nat} {mm : Int32} (r : R0 σ N m F C K LA LB) (hc : c < C) (h34 : σ 33 34 = nI c) (h35 : σ 33 35 = mm) : ∀ n l (b : Bool) τ l3, l + n = K → frR σ τ → ∃ τ', ir_run (ir_ev (d + 8)) 178 (19, [.ref 33, .int (ir_b b), .int (nI l), l3], [], τ) = some (some (.int (ir_b (b && wlF (mLk σ N m (acts σ (nI c) mm)) (mLk σ N m []) n l))), τ') ∧ frR σ τ' := by
  have hK := r.2.2.2.2.1
  intro n
  induction n with
  | zero =>
    intro l b τ l3 hl hf
    have hl : l = K := by omega
    subst hl
    have e26 : τ 33 26 = nI l := by rw [hf.2 26 (by decide) (by decide) (by decide)]; exact r.2.2.2.2.2.2.1
    refine ⟨τ, ?_, hf⟩
    rw [s178_19]
    cases b <;> simp (disch := omega) only [s178_20, s178_21, s178_24, s178_76, s178_77, s178_80, s178_81, s178_84, s178_85, e26, n_lt_0, n_le_0, n_tl_0, n_el_0, n_eq_0, n_ad_0, n_lt_1, n_le_1, n_tl_1, n_el_1, n_eq_1, n_ad_1, n_lt_2, n_le_2, n_tl_2, n_el_2, n_eq_2, n_ad_2, n_lt_3, n_le_3, n_tl_3, n_el_3, n_eq_3, n_ad_3, n_lt_4, n_le_4, n_tl_4, n_el_4, n_eq_4, n_ad_4, n_lt_5, n_le_5, n_tl_5, n_el_5, n_eq_5, n_ad_5, n_lt_6, n_le_6, n_tl_6, n_el_6, n_eq_6, n_ad_6, n_lt_10, n_le_10, n_tl_10, n_el_10, n_eq_10, n_ad_10, n_lt_11, n_le_11, n_tl_11, n_el_11, n_eq_11, n_ad_11, n_lt_12, n_le_12, n_tl_12, n_el_12, n_eq_12, n_ad_12, n_lt_13, n_le_13, n_tl_13, n_el_13, n_eq_13, n_ad_13, n_lt_15, n_le_15, n_tl_15, n_el_15, n_eq_15, n_ad_15, n_lt_20, n_le_20, n_tl_20, n_el_20, n_eq_20, n_ad_20, n_lt_30, n_le_30, n_tl_30, n_el_30, n_eq_30, n_ad_30, n_lt_31, n_le_31, n_tl_31, n_el_31, n_eq_31, n_ad_31, n_lt_32, n_le_32, n_tl_32, n_el_32, n_eq_32, n_ad_32, n_lt_60, n_le_60, n_tl_60, n_el_60, n_eq_60, n_ad_60, n_lt_99, n_le_99, n_tl_99, n_el_99, n_eq_99, n_ad_99, n_lt_100, n_le_100, n_tl_100, n_el_100, n_eq_100, n_ad_100, n_lt_144, n_le_144, n_tl_144, n_el_144, n_eq_144, n_ad_144, n_lt_4096, n_le_4096, n_tl_4096, n_el_4096, n_eq_4096, n_ad_4096, n_mulK, nI_add, pk_mul, n_lt, n_le, n_eq, n_eqM, n_ix, n_cl, Nat.le_refl, if_true, if_false, ir_b_t, ir_b_f, i_10, wlF, Bool.and_true]
  | succ n ih =>
    intro l b τ l3 hl hf
    have q1 : ¬ K ≤ l := by omega
    have hlK : l < K := by omega
    have e26 : τ 33 26 = nI K := by rw [hf.2 26 (by decide) (by decide) (by decide)]; exact r.2.2.2.2.2.2.1
    obtain ⟨τ1, a1, a2, a3⟩ := m147n (d := d + 7) (σ := τ) (mm := 0)
    have f1 := frR_tr hf (frR_5 a2)
    obtain ⟨τ2, b1, b2⟩ := askM (d := d) (fs := []) (R0_ag (agS_frR f1) r) (fun f hf => by cases hf) a3 hlK
    rw [mLk_ag (agS_frR f1)] at b1
    have f2 := frR_tr f1 (frR_3 b2)
    have r2 := R0_ag (agS_frR f2) r
    have e34 : τ2 33 34 = nI c := by rw [f2.2 34 (by decide) (by decide) (by decide)]; exact h34
    have e35 : τ2 33 35 = mm := by rw [f2.2 35 (by decide) (by decide) (by decide)]; exact h35
    obtain ⟨τ3, g1, g2, g3⟩ := brkM (d := d + 7) (mm := mm) r2 hc
    have hfs := (acts_c (mm := mm) r2.2.2.1 r2.2.2.2.1 hc).2
    rw [acts_ag (agS_frR f2)] at g3 hfs
    have f3 := frR_tr f2 (frR_5 g2)
    cases b with
    | false =>
      obtain ⟨τ', z1, z2⟩ := ih (l + 1) false τ3 (.int (mLk σ N m [] l)) (by omega) f3
      refine ⟨τ', ?_, z2⟩
      rw [s178_19]
      simp (disch := omega) only [s178_20, s178_21, s178_24, s178_27, s178_28, s178_29, s178_30, s178_33, s178_34, s178_35, s178_38, s178_39, s178_40, s178_41, s178_44, s178_45, s178_48, s178_51, s178_52, s178_68, s178_69, s178_70, s178_73, e26, n_lt_0, n_le_0, n_tl_0, n_el_0, n_eq_0, n_ad_0, n_lt_1, n_le_1, n_tl_1, n_el_1, n_eq_1, n_ad_1, n_lt_2, n_le_2, n_tl_2, n_el_2, n_eq_2, n_ad_2, n_lt_3, n_le_3, n_tl_3, n_el_3, n_eq_3, n_ad_3, n_lt_4, n_le_4, n_tl_4, n_el_4, n_eq_4, n_ad_4, n_lt_5, n_le_5, n_tl_5, n_el_5, n_eq_5, n_ad_5, n_lt_6, n_le_6, n_tl_6, n_el_6, n_eq_6, n_ad_6, n_lt_10, n_le_10, n_tl_10, n_el_10, n_eq_10, n_ad_10, n_lt_11, n_le_11, n_tl_11, n_el_11, n_eq_11, n_ad_11, n_lt_12, n_le_12, n_tl_12, n_el_12, n_eq_12, n_ad_12, n_lt_13, n_le_13, n_tl_13, n_el_13, n_eq_13, n_ad_13, n_lt_15, n_le_15, n_tl_15, n_el_15, n_eq_15, n_ad_15, n_lt_20, n_le_20, n_tl_20, n_el_20, n_eq_20, n_ad_20, n_lt_30, n_le_30, n_tl_30, n_el_30, n_eq_30, n_ad_30, n_lt_31, n_le_31, n_tl_31, n_el_31, n_eq_31, n_ad_31, n_lt_32, n_le_32, n_tl_32, n_el_32, n_eq_32, n_ad_32, n_lt_60, n_le_60, n_tl_60, n_el_60, n_eq_60, n_ad_60, n_lt_99, n_le_99, n_tl_99, n_el_99, n_eq_99, n_ad_99, n_lt_100, n_le_100, n_tl_100, n_el_100, n_eq_100, n_ad_100, n_lt_144, n_le_144, n_tl_144, n_el_144, n_eq_144, n_ad_144, n_lt_4096, n_le_4096, n_tl_4096, n_el_4096, n_eq_4096, n_ad_4096, n_mulK, nI_add, pk_mul, n_lt, n_le, n_eq, n_eqM, n_ix, n_cl, if_neg q1, a1, b1, e34, e35, g1, ir_k_i, ir_tl_i, ir_k_v, ir_tl_v, ir_b_f, if_true, Bool.false_and]
      simp only [Bool.false_and, ir_b_f] at z1
      exact z1
    | true =>
      obtain ⟨τ4, j1, j2⟩ := askM (d := d) (R0_ag (agS_frR f3) r) hfs g3 hlK
      rw [mLk_ag (agS_frR f3)] at j1
      have f4 := frR_tr f3 (frR_3 j2)
      simp only [wlF, Bool.true_and]
      by_cases e : mLk σ N m (acts σ (nI c) mm) l = mLk σ N m [] l
      · obtain ⟨τ', z1, z2⟩ := ih (l + 1) true τ4 (.int (mLk σ N m [] l)) (by omega) f4
        refine ⟨τ', ?_, z2⟩
        rw [if_pos e, s178_19]
        simp (disch := omega) only [s178_20, s178_21, s178_24, s178_27, s178_28, s178_29, s178_30, s178_33, s178_34, s178_35, s178_38, s178_39, s178_40, s178_41, s178_44, s178_45, s178_48, s178_51, s178_52, s178_55, s178_56, s178_57, s178_60, s178_61, s178_64, s178_65, s178_69, s178_70, s178_73, e26, n_lt_0, n_le_0, n_tl_0, n_el_0, n_eq_0, n_ad_0, n_lt_1, n_le_1, n_tl_1, n_el_1, n_eq_1, n_ad_1, n_lt_2, n_le_2, n_tl_2, n_el_2, n_eq_2, n_ad_2, n_lt_3, n_le_3, n_tl_3, n_el_3, n_eq_3, n_ad_3, n_lt_4, n_le_4, n_tl_4, n_el_4, n_eq_4, n_ad_4, n_lt_5, n_le_5, n_tl_5, n_el_5, n_eq_5, n_ad_5, n_lt_6, n_le_6, n_tl_6, n_el_6, n_eq_6, n_ad_6, n_lt_10, n_le_10, n_tl_10, n_el_10, n_eq_10, n_ad_10, n_lt_11, n_le_11, n_tl_11, n_el_11, n_eq_11, n_ad_11, n_lt_12, n_le_12, n_tl_12, n_el_12, n_eq_12, n_ad_12, n_lt_13, n_le_13, n_tl_13, n_el_13, n_eq_13, n_ad_13, n_lt_15, n_le_15, n_tl_15, n_el_15, n_eq_15, n_ad_15, n_lt_20, n_le_20, n_tl_20, n_el_20, n_eq_20, n_ad_20, n_lt_30, n_le_30, n_tl_30, n_el_30, n_eq_30, n_ad_30, n_lt_31, n_le_31, n_tl_31, n_el_31, n_eq_31, n_ad_31, n_lt_32, n_le_32, n_tl_32, n_el_32, n_eq_32, n_ad_32, n_lt_60, n_le_60, n_tl_60, n_el_60, n_eq_60, n_ad_60, n_lt_99, n_le_99, n_tl_99, n_el_99, n_eq_99, n_ad_99, n_lt_100, n_le_100, n_tl_100, n_el_100, n_eq_100, n_ad_100, n_lt_144, n_le_144, n_tl_144, n_el_144, n_eq_144, n_ad_144, n_lt_4096, n_le_4096, n_tl_4096, n_el_4096, n_eq_4096, n_ad_4096, n_mulK, nI_add, pk_mul, n_lt, n_le, n_eq, n_eqM, n_ix, n_cl, if_neg q1, a1, b1, e34, e35, g1, j1, ir_k_i, ir_tl_i, ir_k_v, ir_tl_v, ir_b_t, i_10, if_false, if_pos e]
        simp only [Bool.true_and, ir_b_t] at z1
        exact z1
      · obtain ⟨τ', z1, z2⟩ := ih (l + 1) false τ4 (.int (mLk σ N m [] l)) (by omega) f4
        refine ⟨τ', ?_, z2⟩
        rw [if_neg e, s178_19]
        simp (disch := omega) only [s178_20, s178_21, s178_24, s178_27, s178_28, s178_29, s178_30, s178_33, s178_34, s178_35, s178_38, s178_39, s178_40, s178_41, s178_44, s178_45, s178_48, s178_51, s178_52, s178_55, s178_56, s178_57, s178_60, s178_61, s178_68, s178_69, s178_70, s178_73, e26, n_lt_0, n_le_0, n_tl_0, n_el_0, n_eq_0, n_ad_0, n_lt_1, n_le_1, n_tl_1, n_el_1, n_eq_1, n_ad_1, n_lt_2, n_le_2, n_tl_2, n_el_2, n_eq_2, n_ad_2, n_lt_3, n_le_3, n_tl_3, n_el_3, n_eq_3, n_ad_3, n_lt_4, n_le_4, n_tl_4, n_el_4, n_eq_4, n_ad_4, n_lt_5, n_le_5, n_tl_5, n_el_5, n_eq_5, n_ad_5, n_lt_6, n_le_6, n_tl_6, n_el_6, n_eq_6, n_ad_6, n_lt_10, n_le_10, n_tl_10, n_el_10, n_eq_10, n_ad_10, n_lt_11, n_le_11, n_tl_11, n_el_11, n_eq_11, n_ad_11, n_lt_12, n_le_12, n_tl_12, n_el_12, n_eq_12, n_ad_12, n_lt_13, n_le_13, n_tl_13, n_el_13, n_eq_13, n_ad_13, n_lt_15, n_le_15, n_tl_15, n_el_15, n_eq_15, n_ad_15, n_lt_20, n_le_20, n_tl_20, n_el_20, n_eq_20, n_ad_20, n_lt_30, n_le_30, n_tl_30, n_el_30, n_eq_30, n_ad_30, n_lt_31, n_le_31, n_tl_31, n_el_31, n_eq_31, n_ad_31, n_lt_32, n_le_32, n_tl_32, n_el_32, n_eq_32, n_ad_32, n_lt_60, n_le_60, n_tl_60, n_el_60, n_eq_60, n_ad_60, n_lt_99, n_le_99, n_tl_99, n_el_99, n_eq_99, n_ad_99, n_lt_100, n_le_100, n_tl_100, n_el_100, n_eq_100, n_ad_100, n_lt_144, n_le_144, n_tl_144, n_el_144, n_eq_144, n_ad_144, n_lt_4096, n_le_4096, n_tl_4096, n_el_4096, n_eq_4096, n_ad_4096, n_mulK, nI_add, pk_mul, n_lt, n_le, n_eq, n_eqM, n_ix, n_cl, if_neg q1, a1, b1, e34, e35, g1, j1, ir_k_i, ir_tl_i, ir_k_v, ir_tl_v, ir_b_t, i_10, if_false, if_neg e]
        simp only [Bool.false_and, ir_b_f] at z1
        exact z1
theorem p_well {d : Nat} (h : RR σ) : PAIR d 99 178 [] σ := by
  obtain ⟨N, m, F, C, K, LA, LB, r⟩ := h
  have hC := r.1.2.2.2.1.1
  have r0 := RA_frR (frR_33 (v := 0)) r
  rcases r.2.2.1 with ⟨h1, h2⟩ | ⟨h1, c, s, mm, hc, hs, hmm, l1, l2, l3, l4, l5, l6, l7, l8, l9, l10⟩
  · refine ⟨-2, σ, _, ?_, ?_, RR_of r0⟩
    · simp only [s99_0, e99, s99_1, s99_4, s99_7, s99_10, s99_12, g_f h1, ir_k_i, ir_tl_i, if_true]
    · simp (disch := omega) only [e178, s178_0, s178_1, s178_2, s178_5, s178_6, s178_9, s178_12, s178_14, u_s, upd_n, h2, m1_ge, if_false]
  have q34 : 0 ≤ c := Nat.zero_le _
  have k9 : ir_ev (d + 49) 9 [.ref 30] σ = some (some (.int (nI c)), σ) := by rw [← l1]; exact c9
  have k10 : ir_ev (d + 49) 10 [.ref 30] σ = some (some (.int (nI mm)), σ) := by rw [← l3]; exact c10
  obtain ⟨σ1, a1, a2⟩ := brk (d := d + 45) (c := nI c) (mm := nI mm) r.1
  have a8 := a2.2.2.2.2.2.2.2
  have hac := acts_c (mm := nI mm) r.1.2.2.1 r.1.2.2.2.1 hc
  obtain ⟨σ2, b1, b2⟩ := c99_loop (d := d + 44) r.1 hac.2 K 0 σ1 (by omega) (BR_VB a2) (VB6_ag (σ := σ) (fun q hq => a8 q (by omega)) (VB_sound r.1.2.1)) (a8 23 (by omega)) (by rw [a8 22 (by omega)]; exact r.1.2.2.2.2.2.1)
  have fr : ∀ q, q < 11 ∨ 17 < q → σ2 q = σ q := fun q hq => by rw [b2 q (by omega) (by omega), a8 q (by omega)]
  have r2 := RA_17 fr r
  have r20 := RA_frR (frR_33 (v := 0)) r2
  have ag := agS_tr (agS_frT (fun q hq => fr q (by omega)) : agS σ σ2) (agS_frR (frR_33 (σ := σ2) (v := 0)))
  have e34 : σ2 33 34 = nI c := by rw [fr 33 (by omega)]; exact l2
  obtain ⟨σ3, z1, z2⟩ := m178_loop (d := d + 41) (mm := nI mm) r20.1 hc (by rw [u_s, upd_n _ _ (by decide)]; exact e34) (by rw [u_s, upd_n _ _ (by decide), fr 33 (by omega)]; exact l4) K 0 true (ir_up σ2 33 0 0) .null (by omega) (frR_rf _)
  rw [acts_ag ag] at z1
  have eF : ∀ fs, mLk (ir_up σ2 33 0 0) N m fs = mLk σ N m fs := fun fs => funext fun l => mLk_ag ag
  rw [eF, eF, Bool.true_and] at z1
  refine ⟨ir_b (wlF (mLk σ N m (acts σ (nI c) (nI mm))) (mLk σ N m []) K 0), σ2, σ3, ?_, ?_, RR_of (RA_frR z2 r20)⟩
  · simp only [s99_0, e99, s99_1, s99_4, s99_7, s99_13, s99_14, s99_15, s99_18, s99_21, s99_22, s99_25, s99_28, s99_31, s99_32, g_t h1, k9, k10, a1, ir_k_i, ir_tl_i, ir_k_v, ir_tl_v, i_10, if_false]
    exact b1
  · simp (disch := omega) only [e178, s178_0, s178_1, s178_2, s178_5, s178_6, s178_9, s178_15, s178_16, s178_17, s178_18, u_s, upd_n, e34, n_el_0, q34, if_true]
    exact z1
/-! answer -/
def cN (σ : ir_S) (w : Int32) : Bool := decide (w = -1) || isE σ 20 w
theorem c106 {d : Nat} {w : Int32} : ir_ev (d + 2) 106 [.ref 0, .int w] σ = some (some (.int (ir_b (cN σ w))), σ) := by
  simp only [e106, s106_0, s106_1, s106_2, s106_16, s106_5, s106_17, s106_6, s106_21z, s106_21o, s106_21b, s106_9, s106_10_18, s106_10_20, s106_10_22, s106_13, s106_20, c2_20, ir_k_i, ir_tl_i]
  unfold cN
  by_cases h : w = -1
  · simp [h, ir_b]
  · cases isE σ 20 w <;> simp [h, ir_b]
theorem cN_acts {w mm : Int32} (r : R0 σ N m F C K LA LB) (hw : cN σ w = true) : ∀ f ∈ acts σ w mm, f < F := by
  have hC := r.2.2.2.1.1
  unfold cN at hw
  rw [Bool.or_eq_true, decide_eq_true_iff] at hw
  rcases hw with rfl | hw
  · rw [acts_n]; intro f hf; cases hf
  · rw [isE_inr, r.2.2.2.1.2.1] at hw
    obtain ⟨c, hc, rfl⟩ := inr_nI (by omega) hw
    exact (acts_c r.2.2.1 r.2.2.2.1 hc).2
theorem cN_inr {w : Int32} (r : R0 σ N m F C K LA LB) : cN σ w = (decide (w = -1) || inr w (nI C)) := by unfold cN; rw [isE_inr, r.2.2.2.1.2.1]
theorem brkN {d : Nat} {w mm : Int32} (r : R0 σ N m F C K LA LB) (hw : cN σ w = true) : ∃ σ', ir_ev (d + 1) 147 [.ref 33, .int w, .int mm] σ = some (none, σ') ∧ ag5 σ σ' ∧ HL σ' (acts σ w mm) := by
  have hC := r.2.2.2.1.1
  unfold cN at hw
  rw [Bool.or_eq_true, decide_eq_true_iff] at hw
  rcases hw with rfl | hw
  · rw [acts_n]; exact m147n
  · rw [isE_inr, r.2.2.2.1.2.1] at hw
    obtain ⟨c, hc, rfl⟩ := inr_nI (by omega) hw
    exact brkM r hc
theorem cN_ag {w : Int32} (h : agS σ σ') : cN σ' w = cN σ w := by
  have e : ∀ τ, cN τ w = cN (stat τ) w := fun τ => rfl
  rw [e, e σ, h]
theorem p_answer {d : Nat} {v w : Int32} (h : RR σ) : ((isE σ 22 v && cN σ w) = true ∧ ∃ a σ1 σ2, ir_ev (d + 50) 87 [.ref 0, .int v, .int w] σ = some (some (.int a), σ1) ∧ ir_ev (d + 50) 159 [.ref 33, .int v, .int w] σ1 = some (some (.int a), σ2) ∧ σ2 33 0 = 0 ∧ RR σ2) ∨ ((isE σ 22 v && cN σ w) = false ∧ ∃ σ2, ir_ev (d + 50) 159 [.ref 33, .int v, .int w] σ = some (some (.int 0), σ2) ∧ σ2 33 0 = 1 ∧ RR σ2) := by
  obtain ⟨N, m, F, C, K, LA, LB, r⟩ := h
  have hC := r.1.2.2.2.1.1
  have hK := r.1.2.2.2.2.1
  have hE : isE σ 22 v = inr v (nI K) := by rw [isE_inr, r.1.2.2.2.2.2.1]
  have r0 := RA_frR (frR_33 (v := 0)) r
  have r01 := RA_frR (frR_33 (v := 1)) r0
  have e01 : (ir_up (ir_up σ 33 0 0) 33 0 1) 33 0 = 1 := by rw [u_s, upd_s]
  cases hv : inr v (nI K) with
  | false =>
    right
    rw [hE, hv]
    refine ⟨rfl, _, ?_, e01, RR_of r01⟩
    simp only [e159, s159_0, s159_1, s159_2, s159_5, s159_6, s159_7, s159_10, s159_26, s159_27, s159_30, h26 r0.1.2.2.2.2.2.2.1 hK, hv, m120, ir_b_f, ir_k_i, ir_tl_i, if_true]
  | true =>
    cases hw : cN σ w with
    | false =>
      right
      rw [hE, hv]
      have hw2 := hw
      rw [cN_inr r.1, Bool.or_eq_false_iff, decide_eq_false_iff_not] at hw2
      refine ⟨rfl, _, ?_, e01, RR_of r01⟩
      simp only [e159, s159_0, s159_1, s159_2, s159_5, s159_6, s159_7, s159_10, s159_13, s159_14, s159_15, s159_18, s159_19, s159_20, s159_23, s159_26, s159_27, s159_30, h26 r0.1.2.2.2.2.2.2.1 hK, h17 r0.1.2.2.2.1.2.2.1 hC, hv, if_neg hw2.1, hw2.2, m120, ir_b_t, ir_b_f, ir_k_i, ir_tl_i, i_10, if_true, if_false]
    | true =>
      left
      rw [hE, hv]
      obtain ⟨l, hl, rfl⟩ := inr_nI (by omega) hv
      obtain ⟨σ1, a1, a2⟩ := brk (d := d + 45) (c := w) (mm := 0) r.1
      have a8 := a2.2.2.2.2.2.2.2
      obtain ⟨σ2, b1, b2⟩ := ask_11 (d := d + 44) r.1 (cN_acts r.1 hw) hl (BR_VB a2) (a8 23 (by omega))
      have fr : ∀ q, q < 11 ∨ 17 < q → σ2 q = σ q := fun q hq => by rw [b2 q (by omega) (by omega), a8 q (by omega)]
      have r2 := RA_17 fr r
      have r20 := RA_frR (frR_33 (v := 0)) r2
      have ag := agS_tr (agS_frT (fun q hq => fr q (by omega)) : agS σ σ2) (agS_frR (frR_33 (σ := σ2) (v := 0)))
      have hw3 : cN (ir_up σ2 33 0 0) w = true := by rw [cN_ag ag]; exact hw
      obtain ⟨σ3, g1, g2, g3⟩ := brkN (d := d + 48) (mm := 0) r20.1 hw3
      have r3 := RA_frR (frR_5 g2) r20
      obtain ⟨σ4, j1, j2⟩ := askM (d := d + 41) r3.1 (cN_acts r20.1 hw3) g3 hl
      rw [mLk_ag (agS_ag5 g2), mLk_ag ag, acts_ag ag] at j1
      refine ⟨rfl, mLk σ N m (acts σ w 0) l, σ2, σ4, ?_, ?_, ?_, RR_of (RA_frR (frR_3 j2) r3)⟩
      · simp only [e87, s87_0, s87_1, s87_4, s87_5_18, s87_5_20, s87_5_22, s87_8, s87_11, s87_12, s87_13, s87_16, s87_29, s87_30, s87_31, s87_32, s87_35, s87_36, s87_39, s87_40, s87_41, s87_44, s87_47, c2_22, hE, hv, c106, hw, a1, b1, ir_b_t, ir_k_i, ir_tl_i, ir_k_v, ir_tl_v, i_10, if_false]
      · have hw4 := hw3
        rw [cN_inr r20.1, Bool.or_eq_true, decide_eq_true_iff] at hw4
        by_cases em : w = -1
        · subst em
          simp only [e159, s159_0, s159_1, s159_2, s159_5, s159_6, s159_7, s159_10, s159_13, s159_14, s159_15, s159_31, s159_32, s159_33, s159_34, s159_37, s159_38, s159_39, s159_42, h26 r20.1.2.2.2.2.2.2.1 hK, hv, g1, j1, ir_b_t, ir_k_i, ir_tl_i, ir_k_v, ir_tl_v, i_10, if_true, if_false]
        · have hw5 : inr w (nI C) = true := by
            rcases hw4 with q | q
            · exact absurd q em
            · exact q
          simp only [e159, s159_0, s159_1, s159_2, s159_5, s159_6, s159_7, s159_10, s159_13, s159_14, s159_15, s159_18, s159_19, s159_20, s159_23, s159_31, s159_32, s159_33, s159_34, s159_37, s159_38, s159_39, s159_42, h26 r20.1.2.2.2.2.2.2.1 hK, h17 r20.1.2.2.2.1.2.2.1 hC, hv, hw5, g1, j1, ir_b_t, ir_k_i, ir_tl_i, ir_k_v, ir_tl_v, i_10, if_neg em, if_false]
      · rw [j2.2 0 (by decide), g2.2 0 (by decide), u_s, upd_s]
/-! row -/
theorem p_row {d : Nat} {v : Int32} (h : RR σ) : (inr v (σ 31 1) = true ∧ ∃ a σ1 σ2, ir_ev (d + 50) 102 [.ref 0, .int v] σ = some (some (.int a), σ1) ∧ ir_ev (d + 50) 181 [.ref 33, .int v] σ1 = some (some (.int a), σ2) ∧ σ2 33 0 = 0 ∧ RR σ2) ∨ (inr v (σ 31 1) = false ∧ ∃ σ2, ir_ev (d + 50) 181 [.ref 33, .int v] σ = some (some (.int 0), σ2) ∧ σ2 33 0 = 1 ∧ RR σ2) := by
  obtain ⟨N, m, F, C, K, LA, LB, r⟩ := h
  obtain ⟨n, hn, w1, w2, w3⟩ := r.2.1
  have r0 := RA_frR (frR_33 (v := 0)) r
  have r01 := RA_frR (frR_33 (v := 1)) r0
  have e01 : (ir_up (ir_up σ 33 0 0) 33 0 1) 33 0 = 1 := by rw [u_s, upd_s]
  have hnn := n_nn (n := n) (by omega)
  rw [w1]
  cases hv : inr v (nI n) with
  | false =>
    right
    refine ⟨rfl, _, ?_, e01, RR_of r01⟩
    simp (disch := omega) only [e181, s181_0, s181_1, s181_2, s181_5, s181_6, s181_7, s181_8, s181_9, s181_12, s181_13, s181_14, s181_15, s181_18, s181_30, s181_31, s181_34, u_s, upd_n, w2, c119, in_k1 hnn, hv, m120, ir_b_f, ir_k_i, ir_tl_i, if_true]
  | true =>
    left
    obtain ⟨k, hk, rfl⟩ := inr_nI (by omega) hv
    have q1 : ¬ k < 0 := by omega
    have q2 : k < 32 := by omega
    have q3 : k < 31 := by omega
    have q4 : ¬ n ≤ k := by omega
    have k41 : ir_ev (d + 49) 41 [.ref 31, .int (nI k)] σ = some (some (.int (σ 32 k)), σ) := by
      simp (disch := omega) only [e41, s41_0, s41_1, s41_21, s41_4, s41_22, s41_5, s41_6, s41_9, s41_12, s41_13, s41_16, s41_17, s41_18, xA32, xL32, xa32, n_lt_0, n_le_0, n_tl_0, n_el_0, n_eq_0, n_ad_0, n_lt_1, n_le_1, n_tl_1, n_el_1, n_eq_1, n_ad_1, n_lt_2, n_le_2, n_tl_2, n_el_2, n_eq_2, n_ad_2, n_lt_3, n_le_3, n_tl_3, n_el_3, n_eq_3, n_ad_3, n_lt_4, n_le_4, n_tl_4, n_el_4, n_eq_4, n_ad_4, n_lt_5, n_le_5, n_tl_5, n_el_5, n_eq_5, n_ad_5, n_lt_6, n_le_6, n_tl_6, n_el_6, n_eq_6, n_ad_6, n_lt_10, n_le_10, n_tl_10, n_el_10, n_eq_10, n_ad_10, n_lt_11, n_le_11, n_tl_11, n_el_11, n_eq_11, n_ad_11, n_lt_12, n_le_12, n_tl_12, n_el_12, n_eq_12, n_ad_12, n_lt_13, n_le_13, n_tl_13, n_el_13, n_eq_13, n_ad_13, n_lt_15, n_le_15, n_tl_15, n_el_15, n_eq_15, n_ad_15, n_lt_20, n_le_20, n_tl_20, n_el_20, n_eq_20, n_ad_20, n_lt_30, n_le_30, n_tl_30, n_el_30, n_eq_30, n_ad_30, n_lt_31, n_le_31, n_tl_31, n_el_31, n_eq_31, n_ad_31, n_lt_32, n_le_32, n_tl_32, n_el_32, n_eq_32, n_ad_32, n_lt_60, n_le_60, n_tl_60, n_el_60, n_eq_60, n_ad_60, n_lt_99, n_le_99, n_tl_99, n_el_99, n_eq_99, n_ad_99, n_lt_100, n_le_100, n_tl_100, n_el_100, n_eq_100, n_ad_100, n_lt_144, n_le_144, n_tl_144, n_el_144, n_eq_144, n_ad_144, n_lt_4096, n_le_4096, n_tl_4096, n_el_4096, n_eq_4096, n_ad_4096, n_mulK, nI_add, pk_mul, n_lt, n_le, n_eq, n_eqM, n_ix, n_cl, w1, q1, q4, hk, q3, decide_true, if_true, if_false]
    refine ⟨rfl, σ 32 k, σ, ir_up σ 33 0 0, ?_, ?_, by rw [u_s, upd_s], RR_of r0⟩
    · simp (disch := omega) only [e102, s102_0, s102_1, s102_4, s102_5, s102_6, s102_9, s102_12, s102_26, s102_27, s102_30, s102_31, s102_34, c39, w1, n_lt_0, n_le_0, n_tl_0, n_el_0, n_eq_0, n_ad_0, n_lt_1, n_le_1, n_tl_1, n_el_1, n_eq_1, n_ad_1, n_lt_2, n_le_2, n_tl_2, n_el_2, n_eq_2, n_ad_2, n_lt_3, n_le_3, n_tl_3, n_el_3, n_eq_3, n_ad_3, n_lt_4, n_le_4, n_tl_4, n_el_4, n_eq_4, n_ad_4, n_lt_5, n_le_5, n_tl_5, n_el_5, n_eq_5, n_ad_5, n_lt_6, n_le_6, n_tl_6, n_el_6, n_eq_6, n_ad_6, n_lt_10, n_le_10, n_tl_10, n_el_10, n_eq_10, n_ad_10, n_lt_11, n_le_11, n_tl_11, n_el_11, n_eq_11, n_ad_11, n_lt_12, n_le_12, n_tl_12, n_el_12, n_eq_12, n_ad_12, n_lt_13, n_le_13, n_tl_13, n_el_13, n_eq_13, n_ad_13, n_lt_15, n_le_15, n_tl_15, n_el_15, n_eq_15, n_ad_15, n_lt_20, n_le_20, n_tl_20, n_el_20, n_eq_20, n_ad_20, n_lt_30, n_le_30, n_tl_30, n_el_30, n_eq_30, n_ad_30, n_lt_31, n_le_31, n_tl_31, n_el_31, n_eq_31, n_ad_31, n_lt_32, n_le_32, n_tl_32, n_el_32, n_eq_32, n_ad_32, n_lt_60, n_le_60, n_tl_60, n_el_60, n_eq_60, n_ad_60, n_lt_99, n_le_99, n_tl_99, n_el_99, n_eq_99, n_ad_99, n_lt_100, n_le_100, n_tl_100, n_el_100, n_eq_100, n_ad_100, n_lt_144, n_le_144, n_tl_144, n_el_144, n_eq_144, n_ad_144, n_lt_4096, n_le_4096, n_tl_4096, n_el_4096, n_eq_4096, n_ad_4096, n_mulK, nI_add, pk_mul, n_lt, n_le, n_eq, n_eqM, n_ix, n_cl, q1, hk, k41, ir_k_i, ir_tl_i, if_true, if_false]
    · have e49 : (ir_up σ 33 0 0) 49 k = σ 32 k := by rw [u_n _ _ _ (by decide)]; exact w3 k hk
      simp (disch := omega) only [e181, s181_0, s181_1, s181_2, s181_5, s181_6, s181_7, s181_8, s181_9, s181_12, s181_13, s181_14, s181_15, s181_18, s181_21, s181_22, s181_25, s181_26, s181_27, s181_34, xA49, xL49, xa49, u_s, upd_n, w2, c119, in_k1 hnn, hv, n_lt_0, n_le_0, n_tl_0, n_el_0, n_eq_0, n_ad_0, n_lt_1, n_le_1, n_tl_1, n_el_1, n_eq_1, n_ad_1, n_lt_2, n_le_2, n_tl_2, n_el_2, n_eq_2, n_ad_2, n_lt_3, n_le_3, n_tl_3, n_el_3, n_eq_3, n_ad_3, n_lt_4, n_le_4, n_tl_4, n_el_4, n_eq_4, n_ad_4, n_lt_5, n_le_5, n_tl_5, n_el_5, n_eq_5, n_ad_5, n_lt_6, n_le_6, n_tl_6, n_el_6, n_eq_6, n_ad_6, n_lt_10, n_le_10, n_tl_10, n_el_10, n_eq_10, n_ad_10, n_lt_11, n_le_11, n_tl_11, n_el_11, n_eq_11, n_ad_11, n_lt_12, n_le_12, n_tl_12, n_el_12, n_eq_12, n_ad_12, n_lt_13, n_le_13, n_tl_13, n_el_13, n_eq_13, n_ad_13, n_lt_15, n_le_15, n_tl_15, n_el_15, n_eq_15, n_ad_15, n_lt_20, n_le_20, n_tl_20, n_el_20, n_eq_20, n_ad_20, n_lt_30, n_le_30, n_tl_30, n_el_30, n_eq_30, n_ad_30, n_lt_31, n_le_31, n_tl_31, n_el_31, n_eq_31, n_ad_31, n_lt_32, n_le_32, n_tl_32, n_el_32, n_eq_32, n_ad_32, n_lt_60, n_le_60, n_tl_60, n_el_60, n_eq_60, n_ad_60, n_lt_99, n_le_99, n_tl_99, n_el_99, n_eq_99, n_ad_99, n_lt_100, n_le_100, n_tl_100, n_el_100, n_eq_100, n_ad_100, n_lt_144, n_le_144, n_tl_144, n_el_144, n_eq_144, n_ad_144, n_lt_4096, n_le_4096, n_tl_4096, n_el_4096, n_eq_4096, n_ad_4096, n_mulK, nI_add, pk_mul, n_lt, n_le, n_eq, n_eqM, n_ix, n_cl, q2, e49, decide_true, ir_b_t, ir_k_i, ir_tl_i, i_10, if_true, if_false]
end WL
