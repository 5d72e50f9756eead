/-! Table.costWith, worstOf -/
def oI (o : Option Nat) : Int32 := match o with
  | none => -1
  | some v => nI v
theorem c67_loop {d K C l s dp : Nat} {AL : Nat → Nat → Nat} {pr W : Nat → Nat} {σ0 : ir_S} (ht : TBL σ0 K C AL pr) (hl : l < K) (hs : s < 2 ^ C) (hdp : dp < 100) (hWb : ∀ x, W x ≤ 1200)
    (hW : ∀ x σ, s &&& x ≠ s → s &&& x ≠ 0 → (∀ c, c ≠ 29 → σ c = σ0 c) → MEM σ C W → ∃ σ', ir_ev (d + 2) 66 [.ref 25, .int (nI (s &&& x)), .int (nI (dp + 1))] σ = some (some (.int (nI (W (s &&& x)))), σ') ∧ (∀ c, c ≠ 29 → σ' c = σ0 c) ∧ MEM σ' C W) :
    ∀ k i r g σ l7, i + k = C → r < 2 ^ C → (∀ j, r.testBit j = true → s.testBit j = true) → g ≤ 1200 → (∀ c, c ≠ 29 → σ c = σ0 c) → MEM σ C W →
      ∃ σ', ir_run (ir_ev (d + 2)) 67 (9, [.ref 25, .int (nI l), .int (nI s), .int (nI dp), .int (nI r), .int (nI g), .int (nI i), l7], [], σ) = some (some (.int (oI ((gmo W (AL l) s k r g).map (fun v => pr l + v)))), σ') ∧ (∀ c, c ≠ 29 → σ' c = σ0 c) ∧ MEM σ' C W := by
  obtain ⟨hK, hC, t1, t2, t3, t4⟩ := ht
  have h4 := pC hC
  have hl12 : l < 12 := by omega
  have hnl : ¬ l < 0 := by omega
  have hnl2 : ¬ 12 ≤ l := by omega
  have fin : ∀ i r g σ l7, g ≤ 1200 → (∀ c, c ≠ 29 → σ c = σ0 c) → ir_run (ir_ev (d + 2)) 67 (76, [.ref 25, .int (nI l), .int (nI s), .int (nI dp), .int r, .int (nI g), .int i, l7], [], σ) = some (some (.int (nI (pr l + g))), σ) := by
    intro i r g σ l7 hg hag
    have e28 : σ 28 l = nI (pr l) := by rw [hag 28 (by decide)]; exact (t4 l hl).1
    simp (disch := omega) only [s67_76, s67_77, s67_80, s67_81, s67_82, s67_85, s67_86, s67_89, s67_90, s67_93, s67_94, s67_95, s67_97, s67_98, s67_102, xA28, xL28, xa28, n_lt_0, n_le_0, n_tl_0, n_el_0, n_eq_0, n_ad_0, n_lt_1, n_le_1, n_tl_1, n_el_1, n_eq_1, n_ad_1, n_lt_2, n_le_2, n_tl_2, n_el_2, n_eq_2, n_ad_2, n_lt_3, n_le_3, n_tl_3, n_el_3, n_eq_3, n_ad_3, n_lt_4, n_le_4, n_tl_4, n_el_4, n_eq_4, n_ad_4, n_lt_5, n_le_5, n_tl_5, n_el_5, n_eq_5, n_ad_5, n_lt_6, n_le_6, n_tl_6, n_el_6, n_eq_6, n_ad_6, n_lt_10, n_le_10, n_tl_10, n_el_10, n_eq_10, n_ad_10, n_lt_11, n_le_11, n_tl_11, n_el_11, n_eq_11, n_ad_11, n_lt_12, n_le_12, n_tl_12, n_el_12, n_eq_12, n_ad_12, n_lt_13, n_le_13, n_tl_13, n_el_13, n_eq_13, n_ad_13, n_lt_15, n_le_15, n_tl_15, n_el_15, n_eq_15, n_ad_15, n_lt_20, n_le_20, n_tl_20, n_el_20, n_eq_20, n_ad_20, n_lt_30, n_le_30, n_tl_30, n_el_30, n_eq_30, n_ad_30, n_lt_31, n_le_31, n_tl_31, n_el_31, n_eq_31, n_ad_31, n_lt_32, n_le_32, n_tl_32, n_el_32, n_eq_32, n_ad_32, n_lt_60, n_le_60, n_tl_60, n_el_60, n_eq_60, n_ad_60, n_lt_99, n_le_99, n_tl_99, n_el_99, n_eq_99, n_ad_99, n_lt_100, n_le_100, n_tl_100, n_el_100, n_eq_100, n_ad_100, n_lt_144, n_le_144, n_tl_144, n_el_144, n_eq_144, n_ad_144, n_lt_4096, n_le_4096, n_tl_4096, n_el_4096, n_eq_4096, n_ad_4096, n_mulK, nI_add, pk_mul, n_lt, n_le, n_eq, n_eqM, n_ix, n_cl, hnl, hnl2, hl12, e28, if_false, if_true, decide_true]
  intro k
  induction k with
  | zero =>
    intro i r g σ l7 hik hr hsub hg hag hM
    have hi : i = C := by omega
    subst hi
    refine ⟨σ, ?_, hag, hM⟩
    have e5 : σ 25 5 = nI i := by rw [hag 25 (by decide)]; exact t2
    rw [s67_9]
    simp (disch := omega) only [s67_11, s67_12, s67_15, e5, n_lt_0, n_le_0, n_tl_0, n_el_0, n_eq_0, n_ad_0, n_lt_1, n_le_1, n_tl_1, n_el_1, n_eq_1, n_ad_1, n_lt_2, n_le_2, n_tl_2, n_el_2, n_eq_2, n_ad_2, n_lt_3, n_le_3, n_tl_3, n_el_3, n_eq_3, n_ad_3, n_lt_4, n_le_4, n_tl_4, n_el_4, n_eq_4, n_ad_4, n_lt_5, n_le_5, n_tl_5, n_el_5, n_eq_5, n_ad_5, n_lt_6, n_le_6, n_tl_6, n_el_6, n_eq_6, n_ad_6, n_lt_10, n_le_10, n_tl_10, n_el_10, n_eq_10, n_ad_10, n_lt_11, n_le_11, n_tl_11, n_el_11, n_eq_11, n_ad_11, n_lt_12, n_le_12, n_tl_12, n_el_12, n_eq_12, n_ad_12, n_lt_13, n_le_13, n_tl_13, n_el_13, n_eq_13, n_ad_13, n_lt_15, n_le_15, n_tl_15, n_el_15, n_eq_15, n_ad_15, n_lt_20, n_le_20, n_tl_20, n_el_20, n_eq_20, n_ad_20, n_lt_30, n_le_30, n_tl_30, n_el_30, n_eq_30, n_ad_30, n_lt_31, n_le_31, n_tl_31, n_el_31, n_eq_31, n_ad_31, n_lt_32, n_le_32, n_tl_32, n_el_32, n_eq_32, n_ad_32, n_lt_60, n_le_60, n_tl_60, n_el_60, n_eq_60, n_ad_60, n_lt_99, n_le_99, n_tl_99, n_el_99, n_eq_99, n_ad_99, n_lt_100, n_le_100, n_tl_100, n_el_100, n_eq_100, n_ad_100, n_lt_144, n_le_144, n_tl_144, n_el_144, n_eq_144, n_ad_144, n_lt_4096, n_le_4096, n_tl_4096, n_el_4096, n_eq_4096, n_ad_4096, n_mulK, nI_add, pk_mul, n_lt, n_le, n_eq, n_eqM, n_ix, n_cl, Nat.le_refl, if_true, fin _ _ g σ l7 hg hag]
    rfl
  | succ k ih =>
    intro i r g σ l7 hik hr hsub hg hag hM
    have e5 : σ 25 5 = nI C := by rw [hag 25 (by decide)]; exact t2
    have q1 : ¬ C ≤ i := by omega
    by_cases hr0 : r = 0
    · refine ⟨σ, ?_, hag, hM⟩
      subst hr0
      rw [s67_9]
      simp (disch := omega) only [s67_11, s67_12, s67_15, s67_18, s67_20, e5, n_lt_0, n_le_0, n_tl_0, n_el_0, n_eq_0, n_ad_0, n_lt_1, n_le_1, n_tl_1, n_el_1, n_eq_1, n_ad_1, n_lt_2, n_le_2, n_tl_2, n_el_2, n_eq_2, n_ad_2, n_lt_3, n_le_3, n_tl_3, n_el_3, n_eq_3, n_ad_3, n_lt_4, n_le_4, n_tl_4, n_el_4, n_eq_4, n_ad_4, n_lt_5, n_le_5, n_tl_5, n_el_5, n_eq_5, n_ad_5, n_lt_6, n_le_6, n_tl_6, n_el_6, n_eq_6, n_ad_6, n_lt_10, n_le_10, n_tl_10, n_el_10, n_eq_10, n_ad_10, n_lt_11, n_le_11, n_tl_11, n_el_11, n_eq_11, n_ad_11, n_lt_12, n_le_12, n_tl_12, n_el_12, n_eq_12, n_ad_12, n_lt_13, n_le_13, n_tl_13, n_el_13, n_eq_13, n_ad_13, n_lt_15, n_le_15, n_tl_15, n_el_15, n_eq_15, n_ad_15, n_lt_20, n_le_20, n_tl_20, n_el_20, n_eq_20, n_ad_20, n_lt_30, n_le_30, n_tl_30, n_el_30, n_eq_30, n_ad_30, n_lt_31, n_le_31, n_tl_31, n_el_31, n_eq_31, n_ad_31, n_lt_32, n_le_32, n_tl_32, n_el_32, n_eq_32, n_ad_32, n_lt_60, n_le_60, n_tl_60, n_el_60, n_eq_60, n_ad_60, n_lt_99, n_le_99, n_tl_99, n_el_99, n_eq_99, n_ad_99, n_lt_100, n_le_100, n_tl_100, n_el_100, n_eq_100, n_ad_100, n_lt_144, n_le_144, n_tl_144, n_el_144, n_eq_144, n_ad_144, n_lt_4096, n_le_4096, n_tl_4096, n_el_4096, n_eq_4096, n_ad_4096, n_mulK, nI_add, pk_mul, n_lt, n_le, n_eq, n_eqM, n_ix, n_cl, if_neg q1, if_true, fin _ _ g σ l7 hg hag]
      simp [gmo, oI]
    · have hc := low_C hC hr hr0
      obtain ⟨a1, a2, a3⟩ := t3 l (lowN r) hl hc
      have hlow := low_low r (by omega) hr0
      have e27 : σ 27 (l * 12 + lowN r) = nI (AL l (lowN r)) := by rw [hag 27 (by decide)]; exact a1
      have hand := s_and (a := s) (b := AL l (lowN r)) (by omega) (by omega)
      have hpl : s &&& AL l (lowN r) ≤ s := Nat.and_le_left
      by_cases hps : s &&& AL l (lowN r) = s
      · refine ⟨σ, ?_, hag, hM⟩
        rw [s67_9]
        simp (disch := omega) only [s67_11, s67_12, s67_15, s67_18, s67_20, s67_23, s67_24, s67_25, s67_26, s67_28, s67_31, s67_34, s67_35, s67_37, s67_39, s67_40, s67_43, s67_44, e5, n_lt_0, n_le_0, n_tl_0, n_el_0, n_eq_0, n_ad_0, n_lt_1, n_le_1, n_tl_1, n_el_1, n_eq_1, n_ad_1, n_lt_2, n_le_2, n_tl_2, n_el_2, n_eq_2, n_ad_2, n_lt_3, n_le_3, n_tl_3, n_el_3, n_eq_3, n_ad_3, n_lt_4, n_le_4, n_tl_4, n_el_4, n_eq_4, n_ad_4, n_lt_5, n_le_5, n_tl_5, n_el_5, n_eq_5, n_ad_5, n_lt_6, n_le_6, n_tl_6, n_el_6, n_eq_6, n_ad_6, n_lt_10, n_le_10, n_tl_10, n_el_10, n_eq_10, n_ad_10, n_lt_11, n_le_11, n_tl_11, n_el_11, n_eq_11, n_ad_11, n_lt_12, n_le_12, n_tl_12, n_el_12, n_eq_12, n_ad_12, n_lt_13, n_le_13, n_tl_13, n_el_13, n_eq_13, n_ad_13, n_lt_15, n_le_15, n_tl_15, n_el_15, n_eq_15, n_ad_15, n_lt_20, n_le_20, n_tl_20, n_el_20, n_eq_20, n_ad_20, n_lt_30, n_le_30, n_tl_30, n_el_30, n_eq_30, n_ad_30, n_lt_31, n_le_31, n_tl_31, n_el_31, n_eq_31, n_ad_31, n_lt_32, n_le_32, n_tl_32, n_el_32, n_eq_32, n_ad_32, n_lt_60, n_le_60, n_tl_60, n_el_60, n_eq_60, n_ad_60, n_lt_99, n_le_99, n_tl_99, n_el_99, n_eq_99, n_ad_99, n_lt_100, n_le_100, n_tl_100, n_el_100, n_eq_100, n_ad_100, n_lt_144, n_le_144, n_tl_144, n_el_144, n_eq_144, n_ad_144, n_lt_4096, n_le_4096, n_tl_4096, n_el_4096, n_eq_4096, n_ad_4096, n_mulK, nI_add, pk_mul, n_lt, n_le, n_eq, n_eqM, n_ix, n_cl, if_neg q1, if_neg hr0, c117, hlow, c62 hl12 (show lowN r < 12 by omega), e27, hand, hps, if_true, ir_k_i, ir_tl_i]
        simp [gmo, hr0, hps, oI]
      · have hbit : (s &&& AL l (lowN r)).testBit (lowN r) = true := by
          rw [Nat.testBit_and, a3, hsub _ (low_bit r (by omega) hr0).1]; rfl
        have hp0 : s &&& AL l (lowN r) ≠ 0 := fun q => by rw [q] at hbit; simp at hbit
        obtain ⟨σ1, b1, b2, b3⟩ := hW (AL l (lowN r)) σ hps hp0 hag hM
        have hWp := hWb (s &&& AL l (lowN r))
        have hmx := ir_max_n (a := g) (b := W (s &&& AL l (lowN r))) (by omega) (by omega)
        have hclr := s_clr (r := r) (p := s &&& AL l (lowN r)) (by omega) (by omega)
        have hsl : sdf r (s &&& AL l (lowN r)) ≤ r := Nat.and_le_left
        obtain ⟨σ', z1, z2⟩ := ih (i + 1) (sdf r (s &&& AL l (lowN r))) (max g (W (s &&& AL l (lowN r)))) σ1 (.int (nI (s &&& AL l (lowN r)))) (by omega) (by omega) (fun j hj => by
          rw [sdf_tb (by omega), Bool.and_eq_true] at hj
          exact hsub j hj.1) (by omega) b2 b3
        refine ⟨σ', ?_, z2⟩
        have hg2 : gmo W (AL l) s (k + 1) r g = gmo W (AL l) s k (sdf r (s &&& AL l (lowN r))) (max g (W (s &&& AL l (lowN r)))) := by
          simp only [gmo, if_neg hr0, if_neg hps]
        rw [hg2, s67_9]
        simp (disch := omega) only [s67_11, s67_12, s67_15, s67_18, s67_20, s67_23, s67_24, s67_25, s67_26, s67_28, s67_31, s67_34, s67_35, s67_37, s67_39, s67_40, s67_45, s67_47, s67_48, s67_50, s67_51, s67_52, s67_53, s67_56, s67_59, s67_61, s67_63, s67_65, s67_66, s67_67, s67_68, s67_70, s67_73, e5, n_lt_0, n_le_0, n_tl_0, n_el_0, n_eq_0, n_ad_0, n_lt_1, n_le_1, n_tl_1, n_el_1, n_eq_1, n_ad_1, n_lt_2, n_le_2, n_tl_2, n_el_2, n_eq_2, n_ad_2, n_lt_3, n_le_3, n_tl_3, n_el_3, n_eq_3, n_ad_3, n_lt_4, n_le_4, n_tl_4, n_el_4, n_eq_4, n_ad_4, n_lt_5, n_le_5, n_tl_5, n_el_5, n_eq_5, n_ad_5, n_lt_6, n_le_6, n_tl_6, n_el_6, n_eq_6, n_ad_6, n_lt_10, n_le_10, n_tl_10, n_el_10, n_eq_10, n_ad_10, n_lt_11, n_le_11, n_tl_11, n_el_11, n_eq_11, n_ad_11, n_lt_12, n_le_12, n_tl_12, n_el_12, n_eq_12, n_ad_12, n_lt_13, n_le_13, n_tl_13, n_el_13, n_eq_13, n_ad_13, n_lt_15, n_le_15, n_tl_15, n_el_15, n_eq_15, n_ad_15, n_lt_20, n_le_20, n_tl_20, n_el_20, n_eq_20, n_ad_20, n_lt_30, n_le_30, n_tl_30, n_el_30, n_eq_30, n_ad_30, n_lt_31, n_le_31, n_tl_31, n_el_31, n_eq_31, n_ad_31, n_lt_32, n_le_32, n_tl_32, n_el_32, n_eq_32, n_ad_32, n_lt_60, n_le_60, n_tl_60, n_el_60, n_eq_60, n_ad_60, n_lt_99, n_le_99, n_tl_99, n_el_99, n_eq_99, n_ad_99, n_lt_100, n_le_100, n_tl_100, n_el_100, n_eq_100, n_ad_100, n_lt_144, n_le_144, n_tl_144, n_el_144, n_eq_144, n_ad_144, n_lt_4096, n_le_4096, n_tl_4096, n_el_4096, n_eq_4096, n_ad_4096, n_mulK, nI_add, pk_mul, n_lt, n_le, n_eq, n_eqM, n_ix, n_cl, if_neg q1, if_neg hr0, c117, hlow, c62 hl12 (show lowN r < 12 by omega), e27, hand, if_neg hps, b1, hmx, hclr, ir_k_i, ir_tl_i]
        exact z1
