theorem c67 {d K C l s dp : Nat} {AL : Nat → Nat → Nat} {pr W : Nat → Nat} {σ0 σ : ir_S} (ht : TBL σ0 K C AL pr) (hl : l < K) (hs : s < 2 ^ C) (hdp : dp < 100) (hWb : ∀ x, W x ≤ 1200)
    (hW : ∀ x σ, s &&& x ≠ s → s &&& x ≠ 0 → (∀ c, c ≠ 29 → σ c = σ0 c) → MEM σ C W → ∃ σ', ir_ev (d + 2) 66 [.ref 25, .int (nI (s &&& x)), .int (nI (dp + 1))] σ = some (some (.int (nI (W (s &&& x)))), σ') ∧ (∀ c, c ≠ 29 → σ' c = σ0 c) ∧ MEM σ' C W)
    (hag : ∀ c, c ≠ 29 → σ c = σ0 c) (hM : MEM σ C W) :
    ∃ σ', ir_ev (d + 3) 67 [.ref 25, .int (nI l), .int (nI s), .int (nI dp)] σ = some (some (.int (oI (cst W AL pr C s l))), σ') ∧ (∀ c, c ≠ 29 → σ' c = σ0 c) ∧ MEM σ' C W := by
  obtain ⟨σ', h1, h2⟩ := c67_loop ht hl hs hdp hWb hW C 0 s 0 σ .null (by omega) hs (fun j h => h) (Nat.zero_le _) hag hM
  refine ⟨σ', ?_, h2⟩
  simp only [e67, s67_0, s67_1, s67_3, s67_4, s67_6, s67_7]
  exact h1
theorem oI_m1 {b : Nat} (hb : b < 2147483648) : ¬ (nI b = (-1 : Int32)) := by rw [n_eqM hb]; exact fun h => h
theorem c66_loop {d K C s dp : Nat} {AL : Nat → Nat → Nat} {pr W : Nat → Nat} {σ0 : ir_S} (ht : TBL σ0 K C AL pr) (hs : s < 2 ^ C) (hdp : dp < 100) (hWb : ∀ x, W x ≤ 1200)
    (hW : ∀ x σ, s &&& x ≠ s → s &&& x ≠ 0 → (∀ c, c ≠ 29 → σ c = σ0 c) → MEM σ C W → ∃ σ', ir_ev (d + 2) 66 [.ref 25, .int (nI (s &&& x)), .int (nI (dp + 1))] σ = some (some (.int (nI (W (s &&& x)))), σ') ∧ (∀ c, c ≠ 29 → σ' c = σ0 c) ∧ MEM σ' C W) :
    ∀ n l b σ l5, l + n = K → (∀ v, b = some v → v ≤ 1300) → (∀ c, c ≠ 29 → σ c = σ0 c) → MEM σ C W →
      ∃ σ' l5', ir_run (ir_ev (d + 3)) 66 (37, [.ref 25, .int (nI s), .int (nI dp), .int (oI b), .int (nI l), l5], [], σ) = ir_run (ir_ev (d + 3)) 66 (82, [.ref 25, .int (nI s), .int (nI dp), .int (oI (wmin (cst W AL pr C s) n l b)), .int (nI K), l5'], [], σ') ∧ (∀ c, c ≠ 29 → σ' c = σ0 c) ∧ MEM σ' C W := by
  obtain ⟨hK, hC, t1, t2, t3, t4⟩ := id ht
  intro n
  induction n with
  | zero =>
    intro l b σ l5 hl hb hag hM
    have hl : l = K := by omega
    subst hl
    refine ⟨σ, l5, ?_, hag, hM⟩
    have e4 : σ 25 4 = nI l := by rw [hag 25 (by decide)]; exact t1
    rw [s66_37]
    simp (disch := omega) only [s66_39, s66_40, s66_43, e4, n_lt_0, n_le_0, n_tl_0, n_el_0, n_eq_0, n_ad_0, n_lt_1, n_le_1, n_tl_1, n_el_1, n_eq_1, n_ad_1, n_lt_2, n_le_2, n_tl_2, n_el_2, n_eq_2, n_ad_2, n_lt_3, n_le_3, n_tl_3, n_el_3, n_eq_3, n_ad_3, n_lt_4, n_le_4, n_tl_4, n_el_4, n_eq_4, n_ad_4, n_lt_5, n_le_5, n_tl_5, n_el_5, n_eq_5, n_ad_5, n_lt_6, n_le_6, n_tl_6, n_el_6, n_eq_6, n_ad_6, n_lt_10, n_le_10, n_tl_10, n_el_10, n_eq_10, n_ad_10, n_lt_11, n_le_11, n_tl_11, n_el_11, n_eq_11, n_ad_11, n_lt_12, n_le_12, n_tl_12, n_el_12, n_eq_12, n_ad_12, n_lt_13, n_le_13, n_tl_13, n_el_13, n_eq_13, n_ad_13, n_lt_15, n_le_15, n_tl_15, n_el_15, n_eq_15, n_ad_15, n_lt_20, n_le_20, n_tl_20, n_el_20, n_eq_20, n_ad_20, n_lt_30, n_le_30, n_tl_30, n_el_30, n_eq_30, n_ad_30, n_lt_31, n_le_31, n_tl_31, n_el_31, n_eq_31, n_ad_31, n_lt_32, n_le_32, n_tl_32, n_el_32, n_eq_32, n_ad_32, n_lt_60, n_le_60, n_tl_60, n_el_60, n_eq_60, n_ad_60, n_lt_99, n_le_99, n_tl_99, n_el_99, n_eq_99, n_ad_99, n_lt_100, n_le_100, n_tl_100, n_el_100, n_eq_100, n_ad_100, n_lt_144, n_le_144, n_tl_144, n_el_144, n_eq_144, n_ad_144, n_lt_4096, n_le_4096, n_tl_4096, n_el_4096, n_eq_4096, n_ad_4096, n_mulK, nI_add, pk_mul, n_lt, n_le, n_eq, n_eqM, n_ix, n_cl, Nat.le_refl, if_true, wmin]
  | succ n ih =>
    intro l b σ l5 hl hb hag hM
    have hlK : l < K := by omega
    have q1 : ¬ K ≤ l := by omega
    have e4 : σ 25 4 = nI K := by rw [hag 25 (by decide)]; exact t1
    obtain ⟨σ1, a1, a2, a3⟩ := c67 (d := d) ht hlK hs hdp hWb hW hag hM
    have hcb : ∀ v, cst W AL pr C s l = some v → v ≤ 1300 := by
      intro v hv
      unfold cst at hv
      cases hg : gmo W (AL l) s C s 0 with
      | none => rw [hg] at hv; cases hv
      | some g =>
        rw [hg] at hv
        have h1 := gmo_le (B := 1200) hWb _ _ _ (Nat.zero_le _) g hg
        have h2 := (t4 l hlK).2
        cases hv
        show pr l + g ≤ _
        omega
    have hnb : ∀ v, bmin b (cst W AL pr C s l) = some v → v ≤ 1300 := by
      intro v hv
      unfold bmin at hv
      cases hc : cst W AL pr C s l with
      | none => rw [hc] at hv; exact hb v hv
      | some c =>
        rw [hc] at hv
        cases b with
        | none => cases hv; exact hcb v hc
        | some b =>
          by_cases q : c < b
          · simp only [if_pos q] at hv; cases hv; exact hcb v hc
          · simp only [if_neg q] at hv; cases hv; exact hb v rfl
    obtain ⟨σ', l5', z1, z2⟩ := ih (l + 1) (bmin b (cst W AL pr C s l)) σ1 (.int (oI (cst W AL pr C s l))) (by omega) hnb a2 a3
    refine ⟨σ', l5', ?_, z2⟩
    simp only [wmin]
    rw [← z1, s66_37]
    cases hc : cst W AL pr C s l with
    | none =>
      rw [hc] at a1
      simp (disch := omega) only [s66_39, s66_40, s66_43, s66_46, s66_47, s66_49, s66_50, s66_51, s66_54, s66_56, s66_58, s66_59, s66_76, s66_79, e4, n_lt_0, n_le_0, n_tl_0, n_el_0, n_eq_0, n_ad_0, n_lt_1, n_le_1, n_tl_1, n_el_1, n_eq_1, n_ad_1, n_lt_2, n_le_2, n_tl_2, n_el_2, n_eq_2, n_ad_2, n_lt_3, n_le_3, n_tl_3, n_el_3, n_eq_3, n_ad_3, n_lt_4, n_le_4, n_tl_4, n_el_4, n_eq_4, n_ad_4, n_lt_5, n_le_5, n_tl_5, n_el_5, n_eq_5, n_ad_5, n_lt_6, n_le_6, n_tl_6, n_el_6, n_eq_6, n_ad_6, n_lt_10, n_le_10, n_tl_10, n_el_10, n_eq_10, n_ad_10, n_lt_11, n_le_11, n_tl_11, n_el_11, n_eq_11, n_ad_11, n_lt_12, n_le_12, n_tl_12, n_el_12, n_eq_12, n_ad_12, n_lt_13, n_le_13, n_tl_13, n_el_13, n_eq_13, n_ad_13, n_lt_15, n_le_15, n_tl_15, n_el_15, n_eq_15, n_ad_15, n_lt_20, n_le_20, n_tl_20, n_el_20, n_eq_20, n_ad_20, n_lt_30, n_le_30, n_tl_30, n_el_30, n_eq_30, n_ad_30, n_lt_31, n_le_31, n_tl_31, n_el_31, n_eq_31, n_ad_31, n_lt_32, n_le_32, n_tl_32, n_el_32, n_eq_32, n_ad_32, n_lt_60, n_le_60, n_tl_60, n_el_60, n_eq_60, n_ad_60, n_lt_99, n_le_99, n_tl_99, n_el_99, n_eq_99, n_ad_99, n_lt_100, n_le_100, n_tl_100, n_el_100, n_eq_100, n_ad_100, n_lt_144, n_le_144, n_tl_144, n_el_144, n_eq_144, n_ad_144, n_lt_4096, n_le_4096, n_tl_4096, n_el_4096, n_eq_4096, n_ad_4096, n_mulK, nI_add, pk_mul, n_lt, n_le, n_eq, n_eqM, n_ix, n_cl, if_neg q1, a1, ir_k_i, ir_tl_i, oI, if_true, bmin]
    | some c =>
      have hc1 := hcb c hc
      have hcm := oI_m1 (b := c) (by omega)
      rw [hc] at a1
      cases b with
      | none =>
        simp (disch := omega) only [s66_39, s66_40, s66_43, s66_46, s66_47, s66_49, s66_50, s66_51, s66_54, s66_56, s66_58, s66_59, s66_62, s66_63, s66_64, s66_73, s66_75, s66_76, s66_79, e4, n_lt_0, n_le_0, n_tl_0, n_el_0, n_eq_0, n_ad_0, n_lt_1, n_le_1, n_tl_1, n_el_1, n_eq_1, n_ad_1, n_lt_2, n_le_2, n_tl_2, n_el_2, n_eq_2, n_ad_2, n_lt_3, n_le_3, n_tl_3, n_el_3, n_eq_3, n_ad_3, n_lt_4, n_le_4, n_tl_4, n_el_4, n_eq_4, n_ad_4, n_lt_5, n_le_5, n_tl_5, n_el_5, n_eq_5, n_ad_5, n_lt_6, n_le_6, n_tl_6, n_el_6, n_eq_6, n_ad_6, n_lt_10, n_le_10, n_tl_10, n_el_10, n_eq_10, n_ad_10, n_lt_11, n_le_11, n_tl_11, n_el_11, n_eq_11, n_ad_11, n_lt_12, n_le_12, n_tl_12, n_el_12, n_eq_12, n_ad_12, n_lt_13, n_le_13, n_tl_13, n_el_13, n_eq_13, n_ad_13, n_lt_15, n_le_15, n_tl_15, n_el_15, n_eq_15, n_ad_15, n_lt_20, n_le_20, n_tl_20, n_el_20, n_eq_20, n_ad_20, n_lt_30, n_le_30, n_tl_30, n_el_30, n_eq_30, n_ad_30, n_lt_31, n_le_31, n_tl_31, n_el_31, n_eq_31, n_ad_31, n_lt_32, n_le_32, n_tl_32, n_el_32, n_eq_32, n_ad_32, n_lt_60, n_le_60, n_tl_60, n_el_60, n_eq_60, n_ad_60, n_lt_99, n_le_99, n_tl_99, n_el_99, n_eq_99, n_ad_99, n_lt_100, n_le_100, n_tl_100, n_el_100, n_eq_100, n_ad_100, n_lt_144, n_le_144, n_tl_144, n_el_144, n_eq_144, n_ad_144, n_lt_4096, n_le_4096, n_tl_4096, n_el_4096, n_eq_4096, n_ad_4096, n_mulK, nI_add, pk_mul, n_lt, n_le, n_eq, n_eqM, n_ix, n_cl, if_neg q1, a1, ir_k_i, ir_tl_i, oI, hcm, if_true, if_false, bmin]
      | some b =>
        have hb1 := hb b rfl
        have hbm := oI_m1 (b := b) (by omega)
        by_cases q : c < b
        · have q' : ¬ b ≤ c := by omega
          simp (disch := omega) only [s66_39, s66_40, s66_43, s66_46, s66_47, s66_49, s66_50, s66_51, s66_54, s66_56, s66_58, s66_59, s66_62, s66_63, s66_64, s66_67, s66_69, s66_70, s66_73, s66_75, s66_76, s66_79, e4, n_lt_0, n_le_0, n_tl_0, n_el_0, n_eq_0, n_ad_0, n_lt_1, n_le_1, n_tl_1, n_el_1, n_eq_1, n_ad_1, n_lt_2, n_le_2, n_tl_2, n_el_2, n_eq_2, n_ad_2, n_lt_3, n_le_3, n_tl_3, n_el_3, n_eq_3, n_ad_3, n_lt_4, n_le_4, n_tl_4, n_el_4, n_eq_4, n_ad_4, n_lt_5, n_le_5, n_tl_5, n_el_5, n_eq_5, n_ad_5, n_lt_6, n_le_6, n_tl_6, n_el_6, n_eq_6, n_ad_6, n_lt_10, n_le_10, n_tl_10, n_el_10, n_eq_10, n_ad_10, n_lt_11, n_le_11, n_tl_11, n_el_11, n_eq_11, n_ad_11, n_lt_12, n_le_12, n_tl_12, n_el_12, n_eq_12, n_ad_12, n_lt_13, n_le_13, n_tl_13, n_el_13, n_eq_13, n_ad_13, n_lt_15, n_le_15, n_tl_15, n_el_15, n_eq_15, n_ad_15, n_lt_20, n_le_20, n_tl_20, n_el_20, n_eq_20, n_ad_20, n_lt_30, n_le_30, n_tl_30, n_el_30, n_eq_30, n_ad_30, n_lt_31, n_le_31, n_tl_31, n_el_31, n_eq_31, n_ad_31, n_lt_32, n_le_32, n_tl_32, n_el_32, n_eq_32, n_ad_32, n_lt_60, n_le_60, n_tl_60, n_el_60, n_eq_60, n_ad_60, n_lt_99, n_le_99, n_tl_99, n_el_99, n_eq_99, n_ad_99, n_lt_100, n_le_100, n_tl_100, n_el_100, n_eq_100, n_ad_100, n_lt_144, n_le_144, n_tl_144, n_el_144, n_eq_144, n_ad_144, n_lt_4096, n_le_4096, n_tl_4096, n_el_4096, n_eq_4096, n_ad_4096, n_mulK, nI_add, pk_mul, n_lt, n_le, n_eq, n_eqM, n_ix, n_cl, if_neg q1, a1, ir_k_i, ir_tl_i, oI, hcm, hbm, q', if_true, if_false, bmin, if_pos q]
        · have q' : b ≤ c := by omega
          simp (disch := omega) only [s66_39, s66_40, s66_43, s66_46, s66_47, s66_49, s66_50, s66_51, s66_54, s66_56, s66_58, s66_59, s66_62, s66_63, s66_64, s66_67, s66_69, s66_70, s66_73, s66_75, s66_76, s66_79, e4, n_lt_0, n_le_0, n_tl_0, n_el_0, n_eq_0, n_ad_0, n_lt_1, n_le_1, n_tl_1, n_el_1, n_eq_1, n_ad_1, n_lt_2, n_le_2, n_tl_2, n_el_2, n_eq_2, n_ad_2, n_lt_3, n_le_3, n_tl_3, n_el_3, n_eq_3, n_ad_3, n_lt_4, n_le_4, n_tl_4, n_el_4, n_eq_4, n_ad_4, n_lt_5, n_le_5, n_tl_5, n_el_5, n_eq_5, n_ad_5, n_lt_6, n_le_6, n_tl_6, n_el_6, n_eq_6, n_ad_6, n_lt_10, n_le_10, n_tl_10, n_el_10, n_eq_10, n_ad_10, n_lt_11, n_le_11, n_tl_11, n_el_11, n_eq_11, n_ad_11, n_lt_12, n_le_12, n_tl_12, n_el_12, n_eq_12, n_ad_12, n_lt_13, n_le_13, n_tl_13, n_el_13, n_eq_13, n_ad_13, n_lt_15, n_le_15, n_tl_15, n_el_15, n_eq_15, n_ad_15, n_lt_20, n_le_20, n_tl_20, n_el_20, n_eq_20, n_ad_20, n_lt_30, n_le_30, n_tl_30, n_el_30, n_eq_30, n_ad_30, n_lt_31, n_le_31, n_tl_31, n_el_31, n_eq_31, n_ad_31, n_lt_32, n_le_32, n_tl_32, n_el_32, n_eq_32, n_ad_32, n_lt_60, n_le_60, n_tl_60, n_el_60, n_eq_60, n_ad_60, n_lt_99, n_le_99, n_tl_99, n_el_99, n_eq_99, n_ad_99, n_lt_100, n_le_100, n_tl_100, n_el_100, n_eq_100, n_ad_100, n_lt_144, n_le_144, n_tl_144, n_el_144, n_eq_144, n_ad_144, n_lt_4096, n_le_4096, n_tl_4096, n_el_4096, n_eq_4096, n_ad_4096, n_mulK, nI_add, pk_mul, n_lt, n_le, n_eq, n_eqM, n_ix, n_cl, if_neg q1, a1, ir_k_i, ir_tl_i, oI, hcm, hbm, q', if_true, if_false, bmin, if_neg q]
