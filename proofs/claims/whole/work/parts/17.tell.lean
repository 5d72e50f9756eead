/-! looks' answers, at a Setting B -/
theorem cW_ag {σ σ' : ir_S} {B s f t : Nat} (hB : B = 6 ∨ B = 11) (h : ∀ c, c ≠ 16 → c ≠ 17 → σ' c = σ c) : cW σ' B s f t = cW σ B s f t := by
  have e : (fun a => isHo σ' (nI a)) = (fun a => isHo σ (nI a)) := funext fun a => isHo_ag (h 1 (by decide) (by decide)) (h 2 (by decide) (by decide)) _
  unfold cW
  rcases hB with rfl | rfl <;> rw [e, h 5 (by decide) (by decide), h 4 (by decide) (by decide), h _ (by decide) (by decide), h _ (by decide) (by decide), h _ (by decide) (by decide)]
/-- whether a letter comes -/
def cC (σ : ir_S) (B s f t : Nat) : Bool := (cW σ B s f t 30 f 1 (fun _ => nI f)).1 && !ir_bit (σ B 6) t
def cB (σ : ir_S) (B s f t : Nat) : Bool := decide (f = t) || (cC σ B s f t && cC σ B s t f)
theorem cC_ag {σ σ' : ir_S} {B s f t : Nat} (hB : B = 6 ∨ B = 11) (h : ∀ c, c ≠ 16 → c ≠ 17 → σ' c = σ c) : cC σ' B s f t = cC σ B s f t := by
  unfold cC
  rw [cW_ag hB h]
  rcases hB with rfl | rfl <;> rw [h _ (by decide) (by decide)]
def setB (σ : ir_S) (B : Nat) : Prop := netB σ B ∧ nod 12 (σ B 4) ∧ ∀ i, i < 6 → nod 12 (σ (B + 4) i)
theorem setB_ag {σ σ' : ir_S} {B : Nat} (hB : B = 6 ∨ B = 11) (h : ∀ c, c ≠ 16 → c ≠ 17 → σ' c = σ c) (hs : setB σ B) : setB σ' B := by
  unfold setB netB at *
  rcases hB with rfl | rfl
  · rw [h 1 (by decide) (by decide), h 5 (by decide) (by decide), h 4 (by decide) (by decide), h (6 + 1) (by decide) (by decide), h 6 (by decide) (by decide), h (6 + 4) (by decide) (by decide)]
    exact hs
  · rw [h 1 (by decide) (by decide), h 5 (by decide) (by decide), h 4 (by decide) (by decide), h (11 + 1) (by decide) (by decide), h 11 (by decide) (by decide), h (11 + 4) (by decide) (by decide)]
    exact hs
def cH (σ : ir_S) (B a b : Nat) : Int32 := if σ (B + 1) (a * 12 + b) = -1 then σ 5 (a * 12 + b) else σ (B + 1) (a * 12 + b)
def cCall (σ : ir_S) (B f n s : Nat) : Int32 :=
  if σ B 4 = -1 then 1 else if ir_bit (σ (B + 3) (σ B 4).toNatClampNeg) 1 = false then 1 else if cB σ B 1 f (σ B 4).toNatClampNeg = false then 1
  else if σ (B + 4) n = -1 then 2 else if cB σ B s f (σ (B + 4) n).toNatClampNeg = false then 3
  else if ir_bit (σ (B + 3) (σ (B + 4) n).toNatClampNeg) s = false then 4 else 10 + σ (B + 4) n
theorem c33_6 {d a b : Nat} {σ : ir_S} (ha : a < 12) (hb : b < 12) : ir_ev (d + 2) 33 [.ref 16, .ref 6, .int (nI a), .int (nI b)] σ = some (some (.int (cH σ 6 a b)), σ) := by
  simp (disch := omega) only [e33, s33_0, s33_1, s33_2, s33_3, s33_4, s33_7, s33_8, s33_9, s33_12_6, s33_12_11, s33_15, c31, c50_6, ir_k_i, ir_tl_i]
  rfl
theorem c35_6 {d s f t : Nat} {σ : ir_S} (hf : f < 12) (ht : t < 12) (hn : netB σ 6) : ∃ σ', ir_ev (d + 3) 35 [.ref 16, .ref 6, .int (nI s), .int (nI f), .int (nI t)] σ = some (some (.int (ir_b (cB σ 6 s f t))), σ') ∧ (∀ c, c ≠ 16 → c ≠ 17 → σ' c = σ c) := by
  by_cases hft : f = t
  · subst hft
    refine ⟨σ, ?_, fun _ _ _ => rfl⟩
    simp (disch := omega) only [e35, s35_0, s35_1, s35_3, s35_30, s35_6, s35_31, s35_7, s35_35z, s35_35o, s35_35b, s35_8, s35_9, s35_10, s35_12, s35_15, s35_34, s35_18, s35_19, s35_20, s35_21, s35_23, s35_24, s35_27, n_lt_0, n_le_0, n_tl_0, n_el_0, n_eq_0, n_ad_0, n_lt_1, n_le_1, n_tl_1, n_el_1, n_eq_1, n_ad_1, n_lt_2, n_le_2, n_tl_2, n_el_2, n_eq_2, n_ad_2, n_lt_3, n_le_3, n_tl_3, n_el_3, n_eq_3, n_ad_3, n_lt_4, n_le_4, n_tl_4, n_el_4, n_eq_4, n_ad_4, n_lt_5, n_le_5, n_tl_5, n_el_5, n_eq_5, n_ad_5, n_lt_6, n_le_6, n_tl_6, n_el_6, n_eq_6, n_ad_6, n_lt_10, n_le_10, n_tl_10, n_el_10, n_eq_10, n_ad_10, n_lt_11, n_le_11, n_tl_11, n_el_11, n_eq_11, n_ad_11, n_lt_12, n_le_12, n_tl_12, n_el_12, n_eq_12, n_ad_12, n_lt_13, n_le_13, n_tl_13, n_el_13, n_eq_13, n_ad_13, n_lt_15, n_le_15, n_tl_15, n_el_15, n_eq_15, n_ad_15, n_lt_20, n_le_20, n_tl_20, n_el_20, n_eq_20, n_ad_20, n_lt_30, n_le_30, n_tl_30, n_el_30, n_eq_30, n_ad_30, n_lt_31, n_le_31, n_tl_31, n_el_31, n_eq_31, n_ad_31, n_lt_32, n_le_32, n_tl_32, n_el_32, n_eq_32, n_ad_32, n_lt_60, n_le_60, n_tl_60, n_el_60, n_eq_60, n_ad_60, n_lt_99, n_le_99, n_tl_99, n_el_99, n_eq_99, n_ad_99, n_lt_100, n_le_100, n_tl_100, n_el_100, n_eq_100, n_ad_100, n_lt_144, n_le_144, n_tl_144, n_el_144, n_eq_144, n_ad_144, n_lt_4096, n_le_4096, n_tl_4096, n_el_4096, n_eq_4096, n_ad_4096, n_mulK, nI_add, pk_mul, n_lt, n_le, n_eq, n_eqM, n_ix, n_cl]
    simp [cB, ir_b]
  · obtain ⟨σ1, h1, h2, -⟩ := c34_6 (d := d) (s := s) hf ht hn
    have h1 : ir_ev (d + 2) 34 [.ref 16, .ref 6, .int (nI s), .int (nI f), .int (nI t)] σ = some (some (.int (ir_b (cC σ 6 s f t))), σ1) := h1
    have hn1 : netB σ1 6 := by
      unfold netB at *
      rw [h2 1 (by decide) (by decide), h2 5 (by decide) (by decide), h2 4 (by decide) (by decide), h2 (6 + 1) (by decide) (by decide)]
      exact hn
    obtain ⟨σ2, g1, g2, -⟩ := c34_6 (d := d) (s := s) (σ := σ1) ht hf hn1
    have g1 : ir_ev (d + 2) 34 [.ref 16, .ref 6, .int (nI s), .int (nI t), .int (nI f)] σ1 = some (some (.int (ir_b (cC σ 6 s t f))), σ2) := by rw [← cC_ag (by decide) h2]; exact g1
    cases hc : cC σ 6 s f t with
    | false =>
      rw [hc] at h1
      refine ⟨σ1, ?_, h2⟩
      simp (disch := omega) only [e35, s35_0, s35_1, s35_3, s35_30, s35_6, s35_31, s35_7, s35_35z, s35_35o, s35_35b, s35_8, s35_9, s35_10, s35_12, s35_15, s35_34, s35_18, s35_19, s35_20, s35_21, s35_23, s35_24, s35_27, n_lt_0, n_le_0, n_tl_0, n_el_0, n_eq_0, n_ad_0, n_lt_1, n_le_1, n_tl_1, n_el_1, n_eq_1, n_ad_1, n_lt_2, n_le_2, n_tl_2, n_el_2, n_eq_2, n_ad_2, n_lt_3, n_le_3, n_tl_3, n_el_3, n_eq_3, n_ad_3, n_lt_4, n_le_4, n_tl_4, n_el_4, n_eq_4, n_ad_4, n_lt_5, n_le_5, n_tl_5, n_el_5, n_eq_5, n_ad_5, n_lt_6, n_le_6, n_tl_6, n_el_6, n_eq_6, n_ad_6, n_lt_10, n_le_10, n_tl_10, n_el_10, n_eq_10, n_ad_10, n_lt_11, n_le_11, n_tl_11, n_el_11, n_eq_11, n_ad_11, n_lt_12, n_le_12, n_tl_12, n_el_12, n_eq_12, n_ad_12, n_lt_13, n_le_13, n_tl_13, n_el_13, n_eq_13, n_ad_13, n_lt_15, n_le_15, n_tl_15, n_el_15, n_eq_15, n_ad_15, n_lt_20, n_le_20, n_tl_20, n_el_20, n_eq_20, n_ad_20, n_lt_30, n_le_30, n_tl_30, n_el_30, n_eq_30, n_ad_30, n_lt_31, n_le_31, n_tl_31, n_el_31, n_eq_31, n_ad_31, n_lt_32, n_le_32, n_tl_32, n_el_32, n_eq_32, n_ad_32, n_lt_60, n_le_60, n_tl_60, n_el_60, n_eq_60, n_ad_60, n_lt_99, n_le_99, n_tl_99, n_el_99, n_eq_99, n_ad_99, n_lt_100, n_le_100, n_tl_100, n_el_100, n_eq_100, n_ad_100, n_lt_144, n_le_144, n_tl_144, n_el_144, n_eq_144, n_ad_144, n_lt_4096, n_le_4096, n_tl_4096, n_el_4096, n_eq_4096, n_ad_4096, n_mulK, nI_add, pk_mul, n_lt, n_le, n_eq, n_eqM, n_ix, n_cl, h1, ir_k_i, ir_tl_i]
      simp [cB, hft, hc, ir_b]
    | true =>
      rw [hc] at h1
      refine ⟨σ2, ?_, fun c q1 q2 => by rw [g2 c q1 q2, h2 c q1 q2]⟩
      simp (disch := omega) only [e35, s35_0, s35_1, s35_3, s35_30, s35_6, s35_31, s35_7, s35_35z, s35_35o, s35_35b, s35_8, s35_9, s35_10, s35_12, s35_15, s35_34, s35_18, s35_19, s35_20, s35_21, s35_23, s35_24, s35_27, n_lt_0, n_le_0, n_tl_0, n_el_0, n_eq_0, n_ad_0, n_lt_1, n_le_1, n_tl_1, n_el_1, n_eq_1, n_ad_1, n_lt_2, n_le_2, n_tl_2, n_el_2, n_eq_2, n_ad_2, n_lt_3, n_le_3, n_tl_3, n_el_3, n_eq_3, n_ad_3, n_lt_4, n_le_4, n_tl_4, n_el_4, n_eq_4, n_ad_4, n_lt_5, n_le_5, n_tl_5, n_el_5, n_eq_5, n_ad_5, n_lt_6, n_le_6, n_tl_6, n_el_6, n_eq_6, n_ad_6, n_lt_10, n_le_10, n_tl_10, n_el_10, n_eq_10, n_ad_10, n_lt_11, n_le_11, n_tl_11, n_el_11, n_eq_11, n_ad_11, n_lt_12, n_le_12, n_tl_12, n_el_12, n_eq_12, n_ad_12, n_lt_13, n_le_13, n_tl_13, n_el_13, n_eq_13, n_ad_13, n_lt_15, n_le_15, n_tl_15, n_el_15, n_eq_15, n_ad_15, n_lt_20, n_le_20, n_tl_20, n_el_20, n_eq_20, n_ad_20, n_lt_30, n_le_30, n_tl_30, n_el_30, n_eq_30, n_ad_30, n_lt_31, n_le_31, n_tl_31, n_el_31, n_eq_31, n_ad_31, n_lt_32, n_le_32, n_tl_32, n_el_32, n_eq_32, n_ad_32, n_lt_60, n_le_60, n_tl_60, n_el_60, n_eq_60, n_ad_60, n_lt_99, n_le_99, n_tl_99, n_el_99, n_eq_99, n_ad_99, n_lt_100, n_le_100, n_tl_100, n_el_100, n_eq_100, n_ad_100, n_lt_144, n_le_144, n_tl_144, n_el_144, n_eq_144, n_ad_144, n_lt_4096, n_le_4096, n_tl_4096, n_el_4096, n_eq_4096, n_ad_4096, n_mulK, nI_add, pk_mul, n_lt, n_le, n_eq, n_eqM, n_ix, n_cl, h1, g1, ir_k_i, ir_tl_i]
      cases hc2 : cC σ 6 s t f <;> simp [cB, hft, hc, hc2, ir_b]
theorem c72_6 {d f t : Nat} {σ : ir_S} (hf : f < 12) (ht : t < 12) (hn : netB σ 6) : ∃ σ', ir_ev (d + 3) 72 [.ref 24, .ref 6, .int (nI f), .int (nI t)] σ = some (some (.int (nI ((cW σ 6 0 f t 30 f 1 (fun _ => nI f)).2.1 - 1) + if cC σ 6 0 f t = true then 100 else 0)), σ') ∧ (∀ c, c ≠ 16 → c ≠ 17 → σ' c = σ c) := by
  obtain ⟨σ1, h1, h2, h3, h4, h5, -⟩ := c34_6 (d := d) (s := 0) hf ht hn
  have h1 : ir_ev (d + 2) 34 [.ref 16, .ref 6, .int 0, .int (nI f), .int (nI t)] σ = some (some (.int (ir_b (cC σ 6 0 f t))), σ1) := h1
  refine ⟨σ1, ?_, h2⟩
  have e1 : nI (cW σ 6 0 f t 30 f 1 (fun _ => nI f)).2.1 - 1 = nI ((cW σ 6 0 f t 30 f 1 (fun _ => nI f)).2.1 - 1) := by
    have := nI_pred ((cW σ 6 0 f t 30 f 1 (fun _ => nI f)).2.1 - 1)
    rw [Nat.sub_add_cancel h5] at this
    exact this
  simp (disch := omega) only [e72, s72_0, s72_1, s72_4, s72_5, s72_6, s72_7, s72_8, s72_11, s72_13, s72_14, s72_17, s72_20, s72_21, s72_22, s72_24, s72_26, s72_37, s72_29, s72_39, s72_31, s72_33, s72_34, h1, c36, h3, ir_k_i, ir_tl_i, e1]
  cases hc : cC σ 6 0 f t <;> simp [ir_b]
theorem c73_6 {d f n s : Nat} {σ : ir_S} (hf : f < 12) (hnm : n < 6) (hs : setB σ 6) : ∃ σ', ir_ev (d + 4) 73 [.ref 24, .ref 6, .int (nI f), .int (nI n), .int (nI s)] σ = some (some (.int (cCall σ 6 f n s)), σ') ∧ (∀ c, c ≠ 16 → c ≠ 17 → σ' c = σ c) := by
  obtain ⟨hn, hq, hnames⟩ := id hs
  rcases hq with hq | ⟨q, hq12, hq⟩
  · refine ⟨σ, ?_, fun _ _ _ => rfl⟩
    simp (disch := omega) only [e73, s73_0, s73_1_6, s73_1_11, s73_4, s73_6, s73_8, s73_9, s73_37, s73_12, s73_38, s73_13, s73_15, s73_16_6, s73_16_11, s73_19, s73_22, s73_23, s73_26, s73_27, s73_28, s73_29, s73_31, s73_34, s73_39, s73_40, s73_41_6, s73_41_11, s73_44, s73_46, s73_48, s73_49, s73_54, s73_52, s73_55, s73_53, s73_58, s73_59, s73_61, s73_62, s73_64, s73_67, s73_72, s73_70, s73_73, s73_71, s73_75, s73_77_6, s73_77_11, s73_80, s73_91, s73_83, s73_92, s73_85, s73_87, s73_88, c54_6, ir_k_i, ir_tl_i, hq]
    simp [cCall, hq]
  have hqne : ¬ nI q = (-1 : Int32) := by rw [n_eqM (by omega)]; exact fun h => h
  have hqcl : (nI q).toNatClampNeg = q := n_cl (by omega)
  have k52 : ir_ev (d + 3) 52 [.ref 6, .int (nI q), .int 1] σ = some (some (.int (ir_b (ir_bit (σ 9 q) 1))), σ) := c52_6 (k := 1) hq12
  cases h1 : ir_bit (σ 9 q) 1 with
  | false =>
    rw [h1] at k52
    refine ⟨σ, ?_, fun _ _ _ => rfl⟩
    simp (disch := omega) only [e73, s73_0, s73_1_6, s73_1_11, s73_4, s73_6, s73_8, s73_9, s73_37, s73_12, s73_38, s73_13, s73_15, s73_16_6, s73_16_11, s73_19, s73_22, s73_23, s73_26, s73_27, s73_28, s73_29, s73_31, s73_34, s73_39, s73_40, s73_41_6, s73_41_11, s73_44, s73_46, s73_48, s73_49, s73_54, s73_52, s73_55, s73_53, s73_58, s73_59, s73_61, s73_62, s73_64, s73_67, s73_72, s73_70, s73_73, s73_71, s73_75, s73_77_6, s73_77_11, s73_80, s73_91, s73_83, s73_92, s73_85, s73_87, s73_88, c54_6, ir_k_i, ir_tl_i, hq, n_eqM, k52]
    simp [cCall, hq, hqcl, hqne, h1, ir_b]
  | true =>
    rw [h1] at k52
    obtain ⟨σ1, a1, a2⟩ := c35_6 (d := d) (s := 1) hf hq12 hn
    have a1 : ir_ev (d + 3) 35 [.ref 16, .ref 6, .int 1, .int (nI f), .int (nI q)] σ = some (some (.int (ir_b (cB σ 6 1 f q))), σ1) := a1
    cases h2 : cB σ 6 1 f q with
    | false =>
      rw [h2] at a1
      refine ⟨σ1, ?_, a2⟩
      simp (disch := omega) only [e73, s73_0, s73_1_6, s73_1_11, s73_4, s73_6, s73_8, s73_9, s73_37, s73_12, s73_38, s73_13, s73_15, s73_16_6, s73_16_11, s73_19, s73_22, s73_23, s73_26, s73_27, s73_28, s73_29, s73_31, s73_34, s73_39, s73_40, s73_41_6, s73_41_11, s73_44, s73_46, s73_48, s73_49, s73_54, s73_52, s73_55, s73_53, s73_58, s73_59, s73_61, s73_62, s73_64, s73_67, s73_72, s73_70, s73_73, s73_71, s73_75, s73_77_6, s73_77_11, s73_80, s73_91, s73_83, s73_92, s73_85, s73_87, s73_88, c54_6, ir_k_i, ir_tl_i, hq, n_eqM, k52, a1]
      simp [cCall, hq, hqcl, hqne, h1, h2, ir_b]
    | true =>
      rw [h2] at a1
      have k53 : ir_ev (d + 3) 53 [.ref 6, .int (nI n)] σ1 = some (some (.int (σ 10 n)), σ1) := by rw [← a2 10 (by decide) (by decide)]; exact c53_6 hnm
      rcases hnames n hnm with hh | ⟨h, hh12, hh⟩
      · refine ⟨σ1, ?_, a2⟩
        have hh : σ 10 n = -1 := hh
        rw [hh] at k53
        simp (disch := omega) only [e73, s73_0, s73_1_6, s73_1_11, s73_4, s73_6, s73_8, s73_9, s73_37, s73_12, s73_38, s73_13, s73_15, s73_16_6, s73_16_11, s73_19, s73_22, s73_23, s73_26, s73_27, s73_28, s73_29, s73_31, s73_34, s73_39, s73_40, s73_41_6, s73_41_11, s73_44, s73_46, s73_48, s73_49, s73_54, s73_52, s73_55, s73_53, s73_58, s73_59, s73_61, s73_62, s73_64, s73_67, s73_72, s73_70, s73_73, s73_71, s73_75, s73_77_6, s73_77_11, s73_80, s73_91, s73_83, s73_92, s73_85, s73_87, s73_88, c54_6, ir_k_i, ir_tl_i, hq, n_eqM, k52, a1, k53]
        simp [cCall, hq, hqcl, hqne, h1, h2, hh, ir_b]
      · have hh : σ 10 n = nI h := hh
        rw [hh] at k53
        have hhne : ¬ nI h = (-1 : Int32) := by rw [n_eqM (by omega)]; exact fun h => h
        have hhcl : (nI h).toNatClampNeg = h := n_cl (by omega)
        have hs1 := setB_ag (B := 6) (by decide) a2 hs
        obtain ⟨σ2, b1, b2⟩ := c35_6 (d := d) (s := s) (σ := σ1) hf hh12 hs1.1
        have hcb : cB σ1 6 s f h = cB σ 6 s f h := by
          unfold cB
          rw [cC_ag (by decide) a2, cC_ag (by decide) a2]
        rw [hcb] at b1
        have b3 : ∀ c, c ≠ 16 → c ≠ 17 → σ2 c = σ c := fun c q1 q2 => by rw [b2 c q1 q2, a2 c q1 q2]
        cases h3 : cB σ 6 s f h with
        | false =>
          rw [h3] at b1
          refine ⟨σ2, ?_, b3⟩
          simp (disch := omega) only [e73, s73_0, s73_1_6, s73_1_11, s73_4, s73_6, s73_8, s73_9, s73_37, s73_12, s73_38, s73_13, s73_15, s73_16_6, s73_16_11, s73_19, s73_22, s73_23, s73_26, s73_27, s73_28, s73_29, s73_31, s73_34, s73_39, s73_40, s73_41_6, s73_41_11, s73_44, s73_46, s73_48, s73_49, s73_54, s73_52, s73_55, s73_53, s73_58, s73_59, s73_61, s73_62, s73_64, s73_67, s73_72, s73_70, s73_73, s73_71, s73_75, s73_77_6, s73_77_11, s73_80, s73_91, s73_83, s73_92, s73_85, s73_87, s73_88, c54_6, ir_k_i, ir_tl_i, hq, n_eqM, k52, a1, k53, b1]
          simp [cCall, hq, hqcl, hqne, h1, h2, hh, hhne, hhcl, h3, ir_b]
        | true =>
          rw [h3] at b1
          have k52b : ir_ev (d + 3) 52 [.ref 6, .int (nI h), .int (nI s)] σ2 = some (some (.int (ir_b (ir_bit (σ 9 h) s))), σ2) := by rw [← b3 9 (by decide) (by decide)]; exact c52_6 hh12
          refine ⟨σ2, ?_, b3⟩
          simp (disch := omega) only [e73, s73_0, s73_1_6, s73_1_11, s73_4, s73_6, s73_8, s73_9, s73_37, s73_12, s73_38, s73_13, s73_15, s73_16_6, s73_16_11, s73_19, s73_22, s73_23, s73_26, s73_27, s73_28, s73_29, s73_31, s73_34, s73_39, s73_40, s73_41_6, s73_41_11, s73_44, s73_46, s73_48, s73_49, s73_54, s73_52, s73_55, s73_53, s73_58, s73_59, s73_61, s73_62, s73_64, s73_67, s73_72, s73_70, s73_73, s73_71, s73_75, s73_77_6, s73_77_11, s73_80, s73_91, s73_83, s73_92, s73_85, s73_87, s73_88, c54_6, ir_k_i, ir_tl_i, hq, n_eqM, k52, a1, k53, b1, k52b]
          cases h4 : ir_bit (σ 9 h) s <;> simp [cCall, hq, hqcl, hqne, h1, h2, hh, hhne, hhcl, h3, h4, ir_b]
theorem c33_11 {d a b : Nat} {σ : ir_S} (ha : a < 12) (hb : b < 12) : ir_ev (d + 2) 33 [.ref 16, .ref 11, .int (nI a), .int (nI b)] σ = some (some (.int (cH σ 11 a b)), σ) := by
  simp (disch := omega) only [e33, s33_0, s33_1, s33_2, s33_3, s33_4, s33_7, s33_8, s33_9, s33_12_6, s33_12_11, s33_15, c31, c50_11, ir_k_i, ir_tl_i]
  rfl
theorem c35_11 {d s f t : Nat} {σ : ir_S} (hf : f < 12) (ht : t < 12) (hn : netB σ 11) : ∃ σ', ir_ev (d + 3) 35 [.ref 16, .ref 11, .int (nI s), .int (nI f), .int (nI t)] σ = some (some (.int (ir_b (cB σ 11 s f t))), σ') ∧ (∀ c, c ≠ 16 → c ≠ 17 → σ' c = σ c) := by
  by_cases hft : f = t
  · subst hft
    refine ⟨σ, ?_, fun _ _ _ => rfl⟩
    simp (disch := omega) only [e35, s35_0, s35_1, s35_3, s35_30, s35_6, s35_31, s35_7, s35_35z, s35_35o, s35_35b, s35_8, s35_9, s35_10, s35_12, s35_15, s35_34, s35_18, s35_19, s35_20, s35_21, s35_23, s35_24, s35_27, n_lt_0, n_le_0, n_tl_0, n_el_0, n_eq_0, n_ad_0, n_lt_1, n_le_1, n_tl_1, n_el_1, n_eq_1, n_ad_1, n_lt_2, n_le_2, n_tl_2, n_el_2, n_eq_2, n_ad_2, n_lt_3, n_le_3, n_tl_3, n_el_3, n_eq_3, n_ad_3, n_lt_4, n_le_4, n_tl_4, n_el_4, n_eq_4, n_ad_4, n_lt_5, n_le_5, n_tl_5, n_el_5, n_eq_5, n_ad_5, n_lt_6, n_le_6, n_tl_6, n_el_6, n_eq_6, n_ad_6, n_lt_10, n_le_10, n_tl_10, n_el_10, n_eq_10, n_ad_10, n_lt_11, n_le_11, n_tl_11, n_el_11, n_eq_11, n_ad_11, n_lt_12, n_le_12, n_tl_12, n_el_12, n_eq_12, n_ad_12, n_lt_13, n_le_13, n_tl_13, n_el_13, n_eq_13, n_ad_13, n_lt_15, n_le_15, n_tl_15, n_el_15, n_eq_15, n_ad_15, n_lt_20, n_le_20, n_tl_20, n_el_20, n_eq_20, n_ad_20, n_lt_30, n_le_30, n_tl_30, n_el_30, n_eq_30, n_ad_30, n_lt_31, n_le_31, n_tl_31, n_el_31, n_eq_31, n_ad_31, n_lt_32, n_le_32, n_tl_32, n_el_32, n_eq_32, n_ad_32, n_lt_60, n_le_60, n_tl_60, n_el_60, n_eq_60, n_ad_60, n_lt_99, n_le_99, n_tl_99, n_el_99, n_eq_99, n_ad_99, n_lt_100, n_le_100, n_tl_100, n_el_100, n_eq_100, n_ad_100, n_lt_144, n_le_144, n_tl_144, n_el_144, n_eq_144, n_ad_144, n_lt_4096, n_le_4096, n_tl_4096, n_el_4096, n_eq_4096, n_ad_4096, n_mulK, nI_add, pk_mul, n_lt, n_le, n_eq, n_eqM, n_ix, n_cl]
    simp [cB, ir_b]
  · obtain ⟨σ1, h1, h2, -⟩ := c34_11 (d := d) (s := s) hf ht hn
    have h1 : ir_ev (d + 2) 34 [.ref 16, .ref 11, .int (nI s), .int (nI f), .int (nI t)] σ = some (some (.int (ir_b (cC σ 11 s f t))), σ1) := h1
    have hn1 : netB σ1 11 := by
      unfold netB at *
      rw [h2 1 (by decide) (by decide), h2 5 (by decide) (by decide), h2 4 (by decide) (by decide), h2 (11 + 1) (by decide) (by decide)]
      exact hn
    obtain ⟨σ2, g1, g2, -⟩ := c34_11 (d := d) (s := s) (σ := σ1) ht hf hn1
    have g1 : ir_ev (d + 2) 34 [.ref 16, .ref 11, .int (nI s), .int (nI t), .int (nI f)] σ1 = some (some (.int (ir_b (cC σ 11 s t f))), σ2) := by rw [← cC_ag (by decide) h2]; exact g1
    cases hc : cC σ 11 s f t with
    | false =>
      rw [hc] at h1
      refine ⟨σ1, ?_, h2⟩
      simp (disch := omega) only [e35, s35_0, s35_1, s35_3, s35_30, s35_6, s35_31, s35_7, s35_35z, s35_35o, s35_35b, s35_8, s35_9, s35_10, s35_12, s35_15, s35_34, s35_18, s35_19, s35_20, s35_21, s35_23, s35_24, s35_27, n_lt_0, n_le_0, n_tl_0, n_el_0, n_eq_0, n_ad_0, n_lt_1, n_le_1, n_tl_1, n_el_1, n_eq_1, n_ad_1, n_lt_2, n_le_2, n_tl_2, n_el_2, n_eq_2, n_ad_2, n_lt_3, n_le_3, n_tl_3, n_el_3, n_eq_3, n_ad_3, n_lt_4, n_le_4, n_tl_4, n_el_4, n_eq_4, n_ad_4, n_lt_5, n_le_5, n_tl_5, n_el_5, n_eq_5, n_ad_5, n_lt_6, n_le_6, n_tl_6, n_el_6, n_eq_6, n_ad_6, n_lt_10, n_le_10, n_tl_10, n_el_10, n_eq_10, n_ad_10, n_lt_11, n_le_11, n_tl_11, n_el_11, n_eq_11, n_ad_11, n_lt_12, n_le_12, n_tl_12, n_el_12, n_eq_12, n_ad_12, n_lt_13, n_le_13, n_tl_13, n_el_13, n_eq_13, n_ad_13, n_lt_15, n_le_15, n_tl_15, n_el_15, n_eq_15, n_ad_15, n_lt_20, n_le_20, n_tl_20, n_el_20, n_eq_20, n_ad_20, n_lt_30, n_le_30, n_tl_30, n_el_30, n_eq_30, n_ad_30, n_lt_31, n_le_31, n_tl_31, n_el_31, n_eq_31, n_ad_31, n_lt_32, n_le_32, n_tl_32, n_el_32, n_eq_32, n_ad_32, n_lt_60, n_le_60, n_tl_60, n_el_60, n_eq_60, n_ad_60, n_lt_99, n_le_99, n_tl_99, n_el_99, n_eq_99, n_ad_99, n_lt_100, n_le_100, n_tl_100, n_el_100, n_eq_100, n_ad_100, n_lt_144, n_le_144, n_tl_144, n_el_144, n_eq_144, n_ad_144, n_lt_4096, n_le_4096, n_tl_4096, n_el_4096, n_eq_4096, n_ad_4096, n_mulK, nI_add, pk_mul, n_lt, n_le, n_eq, n_eqM, n_ix, n_cl, h1, ir_k_i, ir_tl_i]
      simp [cB, hft, hc, ir_b]
    | true =>
      rw [hc] at h1
      refine ⟨σ2, ?_, fun c q1 q2 => by rw [g2 c q1 q2, h2 c q1 q2]⟩
      simp (disch := omega) only [e35, s35_0, s35_1, s35_3, s35_30, s35_6, s35_31, s35_7, s35_35z, s35_35o, s35_35b, s35_8, s35_9, s35_10, s35_12, s35_15, s35_34, s35_18, s35_19, s35_20, s35_21, s35_23, s35_24, s35_27, n_lt_0, n_le_0, n_tl_0, n_el_0, n_eq_0, n_ad_0, n_lt_1, n_le_1, n_tl_1, n_el_1, n_eq_1, n_ad_1, n_lt_2, n_le_2, n_tl_2, n_el_2, n_eq_2, n_ad_2, n_lt_3, n_le_3, n_tl_3, n_el_3, n_eq_3, n_ad_3, n_lt_4, n_le_4, n_tl_4, n_el_4, n_eq_4, n_ad_4, n_lt_5, n_le_5, n_tl_5, n_el_5, n_eq_5, n_ad_5, n_lt_6, n_le_6, n_tl_6, n_el_6, n_eq_6, n_ad_6, n_lt_10, n_le_10, n_tl_10, n_el_10, n_eq_10, n_ad_10, n_lt_11, n_le_11, n_tl_11, n_el_11, n_eq_11, n_ad_11, n_lt_12, n_le_12, n_tl_12, n_el_12, n_eq_12, n_ad_12, n_lt_13, n_le_13, n_tl_13, n_el_13, n_eq_13, n_ad_13, n_lt_15, n_le_15, n_tl_15, n_el_15, n_eq_15, n_ad_15, n_lt_20, n_le_20, n_tl_20, n_el_20, n_eq_20, n_ad_20, n_lt_30, n_le_30, n_tl_30, n_el_30, n_eq_30, n_ad_30, n_lt_31, n_le_31, n_tl_31, n_el_31, n_eq_31, n_ad_31, n_lt_32, n_le_32, n_tl_32, n_el_32, n_eq_32, n_ad_32, n_lt_60, n_le_60, n_tl_60, n_el_60, n_eq_60, n_ad_60, n_lt_99, n_le_99, n_tl_99, n_el_99, n_eq_99, n_ad_99, n_lt_100, n_le_100, n_tl_100, n_el_100, n_eq_100, n_ad_100, n_lt_144, n_le_144, n_tl_144, n_el_144, n_eq_144, n_ad_144, n_lt_4096, n_le_4096, n_tl_4096, n_el_4096, n_eq_4096, n_ad_4096, n_mulK, nI_add, pk_mul, n_lt, n_le, n_eq, n_eqM, n_ix, n_cl, h1, g1, ir_k_i, ir_tl_i]
      cases hc2 : cC σ 11 s t f <;> simp [cB, hft, hc, hc2, ir_b]
theorem c72_11 {d f t : Nat} {σ : ir_S} (hf : f < 12) (ht : t < 12) (hn : netB σ 11) : ∃ σ', ir_ev (d + 3) 72 [.ref 24, .ref 11, .int (nI f), .int (nI t)] σ = some (some (.int (nI ((cW σ 11 0 f t 30 f 1 (fun _ => nI f)).2.1 - 1) + if cC σ 11 0 f t = true then 100 else 0)), σ') ∧ (∀ c, c ≠ 16 → c ≠ 17 → σ' c = σ c) := by
  obtain ⟨σ1, h1, h2, h3, h4, h5, -⟩ := c34_11 (d := d) (s := 0) hf ht hn
  have h1 : ir_ev (d + 2) 34 [.ref 16, .ref 11, .int 0, .int (nI f), .int (nI t)] σ = some (some (.int (ir_b (cC σ 11 0 f t))), σ1) := h1
  refine ⟨σ1, ?_, h2⟩
  have e1 : nI (cW σ 11 0 f t 30 f 1 (fun _ => nI f)).2.1 - 1 = nI ((cW σ 11 0 f t 30 f 1 (fun _ => nI f)).2.1 - 1) := by
    have := nI_pred ((cW σ 11 0 f t 30 f 1 (fun _ => nI f)).2.1 - 1)
    rw [Nat.sub_add_cancel h5] at this
    exact this
  simp (disch := omega) only [e72, s72_0, s72_1, s72_4, s72_5, s72_6, s72_7, s72_8, s72_11, s72_13, s72_14, s72_17, s72_20, s72_21, s72_22, s72_24, s72_26, s72_37, s72_29, s72_39, s72_31, s72_33, s72_34, h1, c36, h3, ir_k_i, ir_tl_i, e1]
  cases hc : cC σ 11 0 f t <;> simp [ir_b]
theorem c73_11 {d f n s : Nat} {σ : ir_S} (hf : f < 12) (hnm : n < 6) (hs : setB σ 11) : ∃ σ', ir_ev (d + 4) 73 [.ref 24, .ref 11, .int (nI f), .int (nI n), .int (nI s)] σ = some (some (.int (cCall σ 11 f n s)), σ') ∧ (∀ c, c ≠ 16 → c ≠ 17 → σ' c = σ c) := by
  obtain ⟨hn, hq, hnames⟩ := id hs
  rcases hq with hq | ⟨q, hq12, hq⟩
  · refine ⟨σ, ?_, fun _ _ _ => rfl⟩
    simp (disch := omega) only [e73, s73_0, s73_1_6, s73_1_11, s73_4, s73_6, s73_8, s73_9, s73_37, s73_12, s73_38, s73_13, s73_15, s73_16_6, s73_16_11, s73_19, s73_22, s73_23, s73_26, s73_27, s73_28, s73_29, s73_31, s73_34, s73_39, s73_40, s73_41_6, s73_41_11, s73_44, s73_46, s73_48, s73_49, s73_54, s73_52, s73_55, s73_53, s73_58, s73_59, s73_61, s73_62, s73_64, s73_67, s73_72, s73_70, s73_73, s73_71, s73_75, s73_77_6, s73_77_11, s73_80, s73_91, s73_83, s73_92, s73_85, s73_87, s73_88, c54_11, ir_k_i, ir_tl_i, hq]
    simp [cCall, hq]
  have hqne : ¬ nI q = (-1 : Int32) := by rw [n_eqM (by omega)]; exact fun h => h
  have hqcl : (nI q).toNatClampNeg = q := n_cl (by omega)
  have k52 : ir_ev (d + 3) 52 [.ref 11, .int (nI q), .int 1] σ = some (some (.int (ir_b (ir_bit (σ 14 q) 1))), σ) := c52_11 (k := 1) hq12
  cases h1 : ir_bit (σ 14 q) 1 with
  | false =>
    rw [h1] at k52
    refine ⟨σ, ?_, fun _ _ _ => rfl⟩
    simp (disch := omega) only [e73, s73_0, s73_1_6, s73_1_11, s73_4, s73_6, s73_8, s73_9, s73_37, s73_12, s73_38, s73_13, s73_15, s73_16_6, s73_16_11, s73_19, s73_22, s73_23, s73_26, s73_27, s73_28, s73_29, s73_31, s73_34, s73_39, s73_40, s73_41_6, s73_41_11, s73_44, s73_46, s73_48, s73_49, s73_54, s73_52, s73_55, s73_53, s73_58, s73_59, s73_61, s73_62, s73_64, s73_67, s73_72, s73_70, s73_73, s73_71, s73_75, s73_77_6, s73_77_11, s73_80, s73_91, s73_83, s73_92, s73_85, s73_87, s73_88, c54_11, ir_k_i, ir_tl_i, hq, n_eqM, k52]
    simp [cCall, hq, hqcl, hqne, h1, ir_b]
  | true =>
    rw [h1] at k52
    obtain ⟨σ1, a1, a2⟩ := c35_11 (d := d) (s := 1) hf hq12 hn
    have a1 : ir_ev (d + 3) 35 [.ref 16, .ref 11, .int 1, .int (nI f), .int (nI q)] σ = some (some (.int (ir_b (cB σ 11 1 f q))), σ1) := a1
    cases h2 : cB σ 11 1 f q with
    | false =>
      rw [h2] at a1
      refine ⟨σ1, ?_, a2⟩
      simp (disch := omega) only [e73, s73_0, s73_1_6, s73_1_11, s73_4, s73_6, s73_8, s73_9, s73_37, s73_12, s73_38, s73_13, s73_15, s73_16_6, s73_16_11, s73_19, s73_22, s73_23, s73_26, s73_27, s73_28, s73_29, s73_31, s73_34, s73_39, s73_40, s73_41_6, s73_41_11, s73_44, s73_46, s73_48, s73_49, s73_54, s73_52, s73_55, s73_53, s73_58, s73_59, s73_61, s73_62, s73_64, s73_67, s73_72, s73_70, s73_73, s73_71, s73_75, s73_77_6, s73_77_11, s73_80, s73_91, s73_83, s73_92, s73_85, s73_87, s73_88, c54_11, ir_k_i, ir_tl_i, hq, n_eqM, k52, a1]
      simp [cCall, hq, hqcl, hqne, h1, h2, ir_b]
    | true =>
      rw [h2] at a1
      have k53 : ir_ev (d + 3) 53 [.ref 11, .int (nI n)] σ1 = some (some (.int (σ 15 n)), σ1) := by rw [← a2 15 (by decide) (by decide)]; exact c53_11 hnm
      rcases hnames n hnm with hh | ⟨h, hh12, hh⟩
      · refine ⟨σ1, ?_, a2⟩
        have hh : σ 15 n = -1 := hh
        rw [hh] at k53
        simp (disch := omega) only [e73, s73_0, s73_1_6, s73_1_11, s73_4, s73_6, s73_8, s73_9, s73_37, s73_12, s73_38, s73_13, s73_15, s73_16_6, s73_16_11, s73_19, s73_22, s73_23, s73_26, s73_27, s73_28, s73_29, s73_31, s73_34, s73_39, s73_40, s73_41_6, s73_41_11, s73_44, s73_46, s73_48, s73_49, s73_54, s73_52, s73_55, s73_53, s73_58, s73_59, s73_61, s73_62, s73_64, s73_67, s73_72, s73_70, s73_73, s73_71, s73_75, s73_77_6, s73_77_11, s73_80, s73_91, s73_83, s73_92, s73_85, s73_87, s73_88, c54_11, ir_k_i, ir_tl_i, hq, n_eqM, k52, a1, k53]
        simp [cCall, hq, hqcl, hqne, h1, h2, hh, ir_b]
      · have hh : σ 15 n = nI h := hh
        rw [hh] at k53
        have hhne : ¬ nI h = (-1 : Int32) := by rw [n_eqM (by omega)]; exact fun h => h
        have hhcl : (nI h).toNatClampNeg = h := n_cl (by omega)
        have hs1 := setB_ag (B := 11) (by decide) a2 hs
        obtain ⟨σ2, b1, b2⟩ := c35_11 (d := d) (s := s) (σ := σ1) hf hh12 hs1.1
        have hcb : cB σ1 11 s f h = cB σ 11 s f h := by
          unfold cB
          rw [cC_ag (by decide) a2, cC_ag (by decide) a2]
        rw [hcb] at b1
        have b3 : ∀ c, c ≠ 16 → c ≠ 17 → σ2 c = σ c := fun c q1 q2 => by rw [b2 c q1 q2, a2 c q1 q2]
        cases h3 : cB σ 11 s f h with
        | false =>
          rw [h3] at b1
          refine ⟨σ2, ?_, b3⟩
          simp (disch := omega) only [e73, s73_0, s73_1_6, s73_1_11, s73_4, s73_6, s73_8, s73_9, s73_37, s73_12, s73_38, s73_13, s73_15, s73_16_6, s73_16_11, s73_19, s73_22, s73_23, s73_26, s73_27, s73_28, s73_29, s73_31, s73_34, s73_39, s73_40, s73_41_6, s73_41_11, s73_44, s73_46, s73_48, s73_49, s73_54, s73_52, s73_55, s73_53, s73_58, s73_59, s73_61, s73_62, s73_64, s73_67, s73_72, s73_70, s73_73, s73_71, s73_75, s73_77_6, s73_77_11, s73_80, s73_91, s73_83, s73_92, s73_85, s73_87, s73_88, c54_11, ir_k_i, ir_tl_i, hq, n_eqM, k52, a1, k53, b1]
          simp [cCall, hq, hqcl, hqne, h1, h2, hh, hhne, hhcl, h3, ir_b]
        | true =>
          rw [h3] at b1
          have k52b : ir_ev (d + 3) 52 [.ref 11, .int (nI h), .int (nI s)] σ2 = some (some (.int (ir_b (ir_bit (σ 14 h) s))), σ2) := by rw [← b3 14 (by decide) (by decide)]; exact c52_11 hh12
          refine ⟨σ2, ?_, b3⟩
          simp (disch := omega) only [e73, s73_0, s73_1_6, s73_1_11, s73_4, s73_6, s73_8, s73_9, s73_37, s73_12, s73_38, s73_13, s73_15, s73_16_6, s73_16_11, s73_19, s73_22, s73_23, s73_26, s73_27, s73_28, s73_29, s73_31, s73_34, s73_39, s73_40, s73_41_6, s73_41_11, s73_44, s73_46, s73_48, s73_49, s73_54, s73_52, s73_55, s73_53, s73_58, s73_59, s73_61, s73_62, s73_64, s73_67, s73_72, s73_70, s73_73, s73_71, s73_75, s73_77_6, s73_77_11, s73_80, s73_91, s73_83, s73_92, s73_85, s73_87, s73_88, c54_11, ir_k_i, ir_tl_i, hq, n_eqM, k52, a1, k53, b1, k52b]
          cases h4 : ir_bit (σ 14 h) s <;> simp [cCall, hq, hqcl, hqne, h1, h2, hh, hhne, hhcl, h3, h4, ir_b]
