/-! the reference: asks, alike, parts, unlike -/
def frR (σ σ' : ir_S) : Prop := (∀ q, q ≠ 33 → q ≠ 41 → q ≠ 48 → q ≠ 50 → q ≠ 56 → q ≠ 57 → σ' q = σ q) ∧ ∀ k, k ≠ 0 → k ≠ 20 → k ≠ 25 → σ' 33 k = σ 33 k
theorem frR_rf (σ : ir_S) : frR σ σ := ⟨fun _ _ _ _ _ _ _ => rfl, fun _ _ _ _ => rfl⟩
theorem frR_tr {σ σ1 σ2 : ir_S} (h1 : frR σ σ1) (h2 : frR σ1 σ2) : frR σ σ2 := ⟨fun q a b c d e f => by rw [h2.1 q a b c d e f, h1.1 q a b c d e f], fun k a b c => by rw [h2.2 k a b c, h1.2 k a b c]⟩
theorem frR_3 {σ σ' : ir_S} (h : ag3 σ σ') : frR σ σ' := ⟨fun q a b _ d _ _ => h.1 q a b d, fun k _ _ c => h.2 k c⟩
theorem frR_5 {σ σ' : ir_S} (h : ag5 σ σ') : frR σ σ' := ⟨fun q a _ c _ _ _ => h.1 q a c, fun k _ c _ => h.2 k c⟩
theorem frR_57 {σ σ' : ir_S} (h : ∀ c, c ≠ 57 → σ' c = σ c) : frR σ σ' := ⟨fun q _ _ _ _ _ f => h q f, fun k _ _ _ => by rw [h 33 (by decide)]⟩
theorem frR_56 {σ : ir_S} {k : Nat} {v : Int32} : frR σ (ir_up σ 56 k v) := ⟨fun q _ _ _ _ e _ => u_n _ _ _ e, fun j _ _ _ => by rw [u_n _ _ _ (by decide)]⟩
theorem frR_33 {σ : ir_S} {v : Int32} : frR σ (ir_up σ 33 0 v) := ⟨fun q a _ _ _ _ _ => u_n _ _ _ a, fun j a _ _ => by rw [u_s, upd_n _ _ a]⟩
theorem frR_20 {σ : ir_S} {v : Int32} : frR σ (ir_up σ 33 20 v) := ⟨fun q a _ _ _ _ _ => u_n _ _ _ a, fun j _ a _ => by rw [u_s, upd_n _ _ a]⟩
theorem agS_frR {σ σ' : ir_S} (h : frR σ σ') : agS σ σ' := agS_of (fun c hc h3 => h.1 c h3 (dy_ne hc rfl) (dy_ne hc rfl) (dy_ne hc rfl) (dy_ne hc rfl) (dy_ne hc rfl)) (fun j hj => h.2 j (dy_nf hj rfl) (dy_nf hj rfl) (dy_nf hj rfl))
theorem n_12m (l : Nat) : (12 : Int32) * nI l = nI (l * 12) := by rw [Int32.mul_comm]; exact n_mulK l 12
theorem HL_3 {σ σ' : ir_S} {fs : List Nat} (h : ag3 σ σ') (hH : HL σ fs) : HL σ' fs := by
  unfold HL at *
  rw [h.2 20 (by decide), h.1 48 (by decide) (by decide) (by decide)]
  exact hH
theorem HL_56 {σ : ir_S} {fs : List Nat} {k : Nat} {v : Int32} (hH : HL σ fs) : HL (ir_up σ 56 k v) fs := by
  unfold HL at *
  rw [u_n _ _ _ (by decide), u_n _ _ _ (by decide)]
  exact hH
section ASKS
variable {σ : ir_S} {N m F C K : Nat} {LA LB : Nat → Nat}
theorem m160_in {d c : Nat} {fs : List Nat} (r : R0 σ N m F C K LA LB) (hc : c < C) (hfs : ∀ f ∈ fs, f < F) : ∀ n l τ, l + n = K → frR σ τ → HL τ fs → ∃ τ', ir_run (ir_ev (d + 8)) 160 (18, [.ref 33, .int (nI c), .int (nI l)], [], τ) = ir_run (ir_ev (d + 8)) 160 (48, [.ref 33, .int (nI c), .int (nI K)], [], τ') ∧ frR σ τ' ∧ (∀ l', l ≤ l' → l' < K → τ' 56 (l' * 12 + c) = mLk σ N m fs l') ∧ ∀ j, (∀ l', l ≤ l' → l' < K → j ≠ l' * 12 + c) → τ' 56 j = τ 56 j := by
  have hK := r.2.2.2.2.1
  have hC := r.2.2.2.1.1
  intro n
  induction n with
  | zero =>
    intro l τ hl hf hH
    have hl : l = K := by omega
    subst hl
    have e26 : τ 33 26 = nI l := by rw [hf.2 26 (by decide) (by decide) (by decide)]; exact r.2.2.2.2.2.2.1
    refine ⟨τ, ?_, hf, fun l' h1 h2 => by omega, fun _ _ => rfl⟩
    rw [s160_18]
    simp (disch := omega) only [s160_19, s160_20, s160_23, e26, n_lt_0, n_le_0, n_tl_0, n_el_0, n_eq_0, n_ad_0, n_lt_1, n_le_1, n_tl_1, n_el_1, n_eq_1, n_ad_1, n_lt_2, n_le_2, n_tl_2, n_el_2, n_eq_2, n_ad_2, n_lt_3, n_le_3, n_tl_3, n_el_3, n_eq_3, n_ad_3, n_lt_4, n_le_4, n_tl_4, n_el_4, n_eq_4, n_ad_4, n_lt_5, n_le_5, n_tl_5, n_el_5, n_eq_5, n_ad_5, n_lt_6, n_le_6, n_tl_6, n_el_6, n_eq_6, n_ad_6, n_lt_10, n_le_10, n_tl_10, n_el_10, n_eq_10, n_ad_10, n_lt_11, n_le_11, n_tl_11, n_el_11, n_eq_11, n_ad_11, n_lt_12, n_le_12, n_tl_12, n_el_12, n_eq_12, n_ad_12, n_lt_13, n_le_13, n_tl_13, n_el_13, n_eq_13, n_ad_13, n_lt_15, n_le_15, n_tl_15, n_el_15, n_eq_15, n_ad_15, n_lt_20, n_le_20, n_tl_20, n_el_20, n_eq_20, n_ad_20, n_lt_30, n_le_30, n_tl_30, n_el_30, n_eq_30, n_ad_30, n_lt_31, n_le_31, n_tl_31, n_el_31, n_eq_31, n_ad_31, n_lt_32, n_le_32, n_tl_32, n_el_32, n_eq_32, n_ad_32, n_lt_60, n_le_60, n_tl_60, n_el_60, n_eq_60, n_ad_60, n_lt_99, n_le_99, n_tl_99, n_el_99, n_eq_99, n_ad_99, n_lt_100, n_le_100, n_tl_100, n_el_100, n_eq_100, n_ad_100, n_lt_144, n_le_144, n_tl_144, n_el_144, n_eq_144, n_ad_144, n_lt_4096, n_le_4096, n_tl_4096, n_el_4096, n_eq_4096, n_ad_4096, n_mulK, nI_add, pk_mul, n_lt, n_le, n_eq, n_eqM, n_ix, n_cl, Nat.le_refl, if_true]
  | succ n ih =>
    intro l τ hl hf hH
    have q1 : ¬ K ≤ l := by omega
    have hlK : l < K := by omega
    have q2 : l * 12 + c < 144 := by omega
    have e26 : τ 33 26 = nI K := by rw [hf.2 26 (by decide) (by decide) (by decide)]; exact r.2.2.2.2.2.2.1
    have hag := agS_frR hf
    obtain ⟨τ1, a1, a2⟩ := askM (d := d) (R0_ag hag r) hfs hH hlK
    rw [mLk_ag hag] at a1
    have e56 : τ1 56 = τ 56 := a2.1 56 (by decide) (by decide) (by decide)
    obtain ⟨τ', z1, z2, z3, z4⟩ := ih (l + 1) (ir_up τ1 56 (l * 12 + c) (mLk σ N m fs l)) (by omega) (frR_tr hf (frR_tr (frR_3 a2) frR_56)) (HL_56 (HL_3 a2 hH))
    refine ⟨τ', ?_, z2, fun l' h1 h2 => ?_, fun j hj => ?_⟩
    · rw [s160_18]
      simp (disch := omega) only [s160_19, s160_20, s160_23, s160_26, s160_27, s160_30, s160_32, s160_33, s160_34, s160_35, s160_36, s160_37, s160_38, s160_41, s160_42, s160_45, xA56, xL56, xa56, e26, n_12m, n_lt_0, n_le_0, n_tl_0, n_el_0, n_eq_0, n_ad_0, n_lt_1, n_le_1, n_tl_1, n_el_1, n_eq_1, n_ad_1, n_lt_2, n_le_2, n_tl_2, n_el_2, n_eq_2, n_ad_2, n_lt_3, n_le_3, n_tl_3, n_el_3, n_eq_3, n_ad_3, n_lt_4, n_le_4, n_tl_4, n_el_4, n_eq_4, n_ad_4, n_lt_5, n_le_5, n_tl_5, n_el_5, n_eq_5, n_ad_5, n_lt_6, n_le_6, n_tl_6, n_el_6, n_eq_6, n_ad_6, n_lt_10, n_le_10, n_tl_10, n_el_10, n_eq_10, n_ad_10, n_lt_11, n_le_11, n_tl_11, n_el_11, n_eq_11, n_ad_11, n_lt_12, n_le_12, n_tl_12, n_el_12, n_eq_12, n_ad_12, n_lt_13, n_le_13, n_tl_13, n_el_13, n_eq_13, n_ad_13, n_lt_15, n_le_15, n_tl_15, n_el_15, n_eq_15, n_ad_15, n_lt_20, n_le_20, n_tl_20, n_el_20, n_eq_20, n_ad_20, n_lt_30, n_le_30, n_tl_30, n_el_30, n_eq_30, n_ad_30, n_lt_31, n_le_31, n_tl_31, n_el_31, n_eq_31, n_ad_31, n_lt_32, n_le_32, n_tl_32, n_el_32, n_eq_32, n_ad_32, n_lt_60, n_le_60, n_tl_60, n_el_60, n_eq_60, n_ad_60, n_lt_99, n_le_99, n_tl_99, n_el_99, n_eq_99, n_ad_99, n_lt_100, n_le_100, n_tl_100, n_el_100, n_eq_100, n_ad_100, n_lt_144, n_le_144, n_tl_144, n_el_144, n_eq_144, n_ad_144, n_lt_4096, n_le_4096, n_tl_4096, n_el_4096, n_eq_4096, n_ad_4096, n_mulK, nI_add, pk_mul, n_lt, n_le, n_eq, n_eqM, n_ix, n_cl, ir_k_i, ir_tl_i, if_neg q1, q2, decide_true, if_true, a1]
      exact z1
    · by_cases e : l' = l
      · subst e
        rw [z4 _ (fun l2 g1 g2 => by omega), u_s, upd_s]
      · exact z3 l' (by omega) h2
    · rw [z4 j (fun l2 g1 g2 => hj l2 (by omega) g2), u_s, upd_n _ _ (hj l (Nat.le_refl _) hlK), e56]
theorem m160_out {d : Nat} (r : R0 σ N m F C K LA LB) : ∀ n c τ l2, c + n = C → frR σ τ → (∀ l c', l < K → c' < c → τ 56 (l * 12 + c') = an0 σ N m l c') → ∃ τ', ir_run (ir_ev (d + 8)) 160 (2, [.ref 33, .int (nI c), l2], [], τ) = some (none, τ') ∧ frR σ τ' ∧ ∀ l c', l < K → c' < C → τ' 56 (l * 12 + c') = an0 σ N m l c' := by
  have hK := r.2.2.2.2.1
  have hC := r.2.2.2.1.1
  intro n
  induction n with
  | zero =>
    intro c τ l2 hc hf ht
    have hc : c = C := by omega
    subst hc
    have e17 : τ 33 17 = nI c := by rw [hf.2 17 (by decide) (by decide) (by decide)]; exact r.2.2.2.1.2.2.1
    refine ⟨τ, ?_, hf, ht⟩
    rw [s160_2]
    simp (disch := omega) only [s160_3, s160_4, s160_7, s160_54, e17, n_lt_0, n_le_0, n_tl_0, n_el_0, n_eq_0, n_ad_0, n_lt_1, n_le_1, n_tl_1, n_el_1, n_eq_1, n_ad_1, n_lt_2, n_le_2, n_tl_2, n_el_2, n_eq_2, n_ad_2, n_lt_3, n_le_3, n_tl_3, n_el_3, n_eq_3, n_ad_3, n_lt_4, n_le_4, n_tl_4, n_el_4, n_eq_4, n_ad_4, n_lt_5, n_le_5, n_tl_5, n_el_5, n_eq_5, n_ad_5, n_lt_6, n_le_6, n_tl_6, n_el_6, n_eq_6, n_ad_6, n_lt_10, n_le_10, n_tl_10, n_el_10, n_eq_10, n_ad_10, n_lt_11, n_le_11, n_tl_11, n_el_11, n_eq_11, n_ad_11, n_lt_12, n_le_12, n_tl_12, n_el_12, n_eq_12, n_ad_12, n_lt_13, n_le_13, n_tl_13, n_el_13, n_eq_13, n_ad_13, n_lt_15, n_le_15, n_tl_15, n_el_15, n_eq_15, n_ad_15, n_lt_20, n_le_20, n_tl_20, n_el_20, n_eq_20, n_ad_20, n_lt_30, n_le_30, n_tl_30, n_el_30, n_eq_30, n_ad_30, n_lt_31, n_le_31, n_tl_31, n_el_31, n_eq_31, n_ad_31, n_lt_32, n_le_32, n_tl_32, n_el_32, n_eq_32, n_ad_32, n_lt_60, n_le_60, n_tl_60, n_el_60, n_eq_60, n_ad_60, n_lt_99, n_le_99, n_tl_99, n_el_99, n_eq_99, n_ad_99, n_lt_100, n_le_100, n_tl_100, n_el_100, n_eq_100, n_ad_100, n_lt_144, n_le_144, n_tl_144, n_el_144, n_eq_144, n_ad_144, n_lt_4096, n_le_4096, n_tl_4096, n_el_4096, n_eq_4096, n_ad_4096, n_mulK, nI_add, pk_mul, n_lt, n_le, n_eq, n_eqM, n_ix, n_cl, Nat.le_refl, if_true]
  | succ n ih =>
    intro c τ l2 hc hf ht
    have q1 : ¬ C ≤ c := by omega
    have hcC : c < C := by omega
    have e17 : τ 33 17 = nI C := by rw [hf.2 17 (by decide) (by decide) (by decide)]; exact r.2.2.2.1.2.2.1
    have hag := agS_frR hf
    have rt := R0_ag hag r
    obtain ⟨τ1, a1, a2, a3⟩ := brkM (d := d + 7) (mm := 0) rt hcC
    have hfs := (acts_c (mm := 0) rt.2.2.1 rt.2.2.2.1 hcC).2
    rw [acts_ag hag] at a3 hfs
    obtain ⟨τ2, b1, b2, b3, b4⟩ := m160_in (d := d) r hcC hfs K 0 τ1 (by omega) (frR_tr hf (frR_5 a2)) a3
    obtain ⟨τ', z1, z2⟩ := ih (c + 1) τ2 (.int (nI K)) (by omega) b2 (fun l c' h1 h2 => by
      by_cases e : c' = c
      · subst e
        exact b3 l (by omega) h1
      · rw [b4 _ (fun l' g1 g2 => by omega), a2.1 56 (by decide) (by decide)]
        exact ht l c' h1 (by omega))
    refine ⟨τ', ?_, z2⟩
    rw [s160_2]
    simp (disch := omega) only [s160_3, s160_4, s160_7, s160_10, s160_11, s160_12, s160_13, s160_16, s160_17, e17, n_lt_0, n_le_0, n_tl_0, n_el_0, n_eq_0, n_ad_0, n_lt_1, n_le_1, n_tl_1, n_el_1, n_eq_1, n_ad_1, n_lt_2, n_le_2, n_tl_2, n_el_2, n_eq_2, n_ad_2, n_lt_3, n_le_3, n_tl_3, n_el_3, n_eq_3, n_ad_3, n_lt_4, n_le_4, n_tl_4, n_el_4, n_eq_4, n_ad_4, n_lt_5, n_le_5, n_tl_5, n_el_5, n_eq_5, n_ad_5, n_lt_6, n_le_6, n_tl_6, n_el_6, n_eq_6, n_ad_6, n_lt_10, n_le_10, n_tl_10, n_el_10, n_eq_10, n_ad_10, n_lt_11, n_le_11, n_tl_11, n_el_11, n_eq_11, n_ad_11, n_lt_12, n_le_12, n_tl_12, n_el_12, n_eq_12, n_ad_12, n_lt_13, n_le_13, n_tl_13, n_el_13, n_eq_13, n_ad_13, n_lt_15, n_le_15, n_tl_15, n_el_15, n_eq_15, n_ad_15, n_lt_20, n_le_20, n_tl_20, n_el_20, n_eq_20, n_ad_20, n_lt_30, n_le_30, n_tl_30, n_el_30, n_eq_30, n_ad_30, n_lt_31, n_le_31, n_tl_31, n_el_31, n_eq_31, n_ad_31, n_lt_32, n_le_32, n_tl_32, n_el_32, n_eq_32, n_ad_32, n_lt_60, n_le_60, n_tl_60, n_el_60, n_eq_60, n_ad_60, n_lt_99, n_le_99, n_tl_99, n_el_99, n_eq_99, n_ad_99, n_lt_100, n_le_100, n_tl_100, n_el_100, n_eq_100, n_ad_100, n_lt_144, n_le_144, n_tl_144, n_el_144, n_eq_144, n_ad_144, n_lt_4096, n_le_4096, n_tl_4096, n_el_4096, n_eq_4096, n_ad_4096, n_mulK, nI_add, pk_mul, n_lt, n_le, n_eq, n_eqM, n_ix, n_cl, ir_k_v, ir_tl_v, if_neg q1, a1]
    refine Eq.trans b1 ?_
    simp (disch := omega) only [s160_48, s160_51, n_lt_0, n_le_0, n_tl_0, n_el_0, n_eq_0, n_ad_0, n_lt_1, n_le_1, n_tl_1, n_el_1, n_eq_1, n_ad_1, n_lt_2, n_le_2, n_tl_2, n_el_2, n_eq_2, n_ad_2, n_lt_3, n_le_3, n_tl_3, n_el_3, n_eq_3, n_ad_3, n_lt_4, n_le_4, n_tl_4, n_el_4, n_eq_4, n_ad_4, n_lt_5, n_le_5, n_tl_5, n_el_5, n_eq_5, n_ad_5, n_lt_6, n_le_6, n_tl_6, n_el_6, n_eq_6, n_ad_6, n_lt_10, n_le_10, n_tl_10, n_el_10, n_eq_10, n_ad_10, n_lt_11, n_le_11, n_tl_11, n_el_11, n_eq_11, n_ad_11, n_lt_12, n_le_12, n_tl_12, n_el_12, n_eq_12, n_ad_12, n_lt_13, n_le_13, n_tl_13, n_el_13, n_eq_13, n_ad_13, n_lt_15, n_le_15, n_tl_15, n_el_15, n_eq_15, n_ad_15, n_lt_20, n_le_20, n_tl_20, n_el_20, n_eq_20, n_ad_20, n_lt_30, n_le_30, n_tl_30, n_el_30, n_eq_30, n_ad_30, n_lt_31, n_le_31, n_tl_31, n_el_31, n_eq_31, n_ad_31, n_lt_32, n_le_32, n_tl_32, n_el_32, n_eq_32, n_ad_32, n_lt_60, n_le_60, n_tl_60, n_el_60, n_eq_60, n_ad_60, n_lt_99, n_le_99, n_tl_99, n_el_99, n_eq_99, n_ad_99, n_lt_100, n_le_100, n_tl_100, n_el_100, n_eq_100, n_ad_100, n_lt_144, n_le_144, n_tl_144, n_el_144, n_eq_144, n_ad_144, n_lt_4096, n_le_4096, n_tl_4096, n_el_4096, n_eq_4096, n_ad_4096, n_mulK, nI_add, pk_mul, n_lt, n_le, n_eq, n_eqM, n_ix, n_cl]
    exact z1
theorem asks {d : Nat} (r : R0 σ N m F C K LA LB) : ∃ σ', ir_ev (d + 9) 160 [.ref 33] σ = some (none, σ') ∧ frR σ σ' ∧ ∀ l c, l < K → c < C → σ' 56 (l * 12 + c) = an0 σ N m l c := by
  obtain ⟨σ', z1, z2⟩ := m160_out (d := d) r C 0 σ .null (by omega) (frR_rf σ) (fun l c' _ h => by omega)
  refine ⟨σ', ?_, z2⟩
  simp only [e160, s160_0, s160_1]
  exact z1
end ASKS
/-- the reference's table -/
def TM (σ : ir_S) (K C : Nat) (A : Nat → Nat → Int32) (pr : Nat → Nat) : Prop := K ≤ 12 ∧ C ≤ 12 ∧ σ 33 17 = nI C ∧ σ 33 26 = nI K ∧ (∀ l c, l < K → c < C → σ 56 (l * 12 + c) = A l c) ∧ ∀ l, l < K → σ 55 l = nI (pr l) ∧ pr l ≤ 100
theorem TM_57 {σ σ' : ir_S} {K C : Nat} {A : Nat → Nat → Int32} {pr : Nat → Nat} (h : ∀ c, c ≠ 57 → σ' c = σ c) (ht : TM σ K C A pr) : TM σ' K C A pr := by
  unfold TM
  rw [h 33 (by decide), h 55 (by decide), h 56 (by decide)]
  exact ht
theorem TM_of {σ σ' : ir_S} {N m F C K : Nat} {LA LB : Nat → Nat} (r : R0 σ N m F C K LA LB) (hf : frR σ σ') (ha : ∀ l c, l < K → c < C → σ' 56 (l * 12 + c) = an0 σ N m l c) : TM σ' K C (an0 σ N m) (PR0 σ) := by
  refine ⟨r.2.2.2.2.1, r.2.2.2.1.1, ?_, ?_, ha, fun l hl => ⟨?_, (PR0_ok r hl).2.2⟩⟩
  · rw [hf.2 17 (by decide) (by decide) (by decide)]; exact r.2.2.2.1.2.2.1
  · rw [hf.2 26 (by decide) (by decide) (by decide)]; exact r.2.2.2.2.2.2.1
  · rw [hf.1 55 (by decide) (by decide) (by decide) (by decide) (by decide) (by decide), (r.2.2.2.2.2.2.2 l hl).2.2.2.2.1]
    exact (PR0_ok r hl).1
theorem i_or0 (x : Int32) : x ||| 0 = x := by apply b_ext; intro i _; rw [b_or, b_0]; simp
theorem and_alN {A : Nat → Int32} {s o c : Nat} (ho : o < 12) (hs : s < 4096) : s &&& alN A (o + 1) c = if s.testBit o = true ∧ A o = A c then (s &&& alN A o c) ||| 2 ^ o else s &&& alN A o c := by
  have h1 := alN_lt (A := A) (C := o) (c := c) (by omega)
  have h2 := alN_lt (A := A) (C := o + 1) (c := c) (by omega)
  apply Nat.eq_of_testBit_eq
  intro i
  rw [Nat.testBit_and, alN_tb (by omega)]
  by_cases q : s.testBit o = true ∧ A o = A c
  · rw [if_pos q, Nat.testBit_or, Nat.testBit_and, alN_tb (by omega), Nat.testBit_two_pow]
    by_cases e : o = i
    · subst e; simp [q.1, q.2]
    · have e1 : (decide (i < o + 1)) = decide (i < o) := by rw [decide_eq_decide]; omega
      simp [e, e1]
  · rw [if_neg q, Nat.testBit_and, alN_tb (by omega)]
    by_cases e : o = i
    · subst e
      have : ¬ (o < o) := by omega
      simp only [this, decide_false, Bool.false_and, Bool.and_false]
      cases hb : s.testBit o with
      | false => rfl
      | true =>
        have : ¬ A o = A c := fun z => q ⟨hb, z⟩
        simp [this]
    · have e1 : (decide (i < o + 1)) = decide (i < o) := by rw [decide_eq_decide]; omega
      rw [e1]
theorem m161_loop {E : Nat → List Value → ir_S → Option ir_R} {K C l s c : Nat} {σ : ir_S} {A : Nat → Nat → Int32} {pr : Nat → Nat} (ht : TM σ K C A pr) (hl : l < K) (hs : s < 4096) (hc : c < C) : ∀ n o, o + n = C → ir_run E 161 (6, [.ref 33, .int (nI l), .int (nI s), .int (nI c), .int (nI (s &&& alN (A l) o c)), .int (nI o)], [], σ) = some (some (.int (nI (s &&& alN (A l) C c))), σ) := by
  obtain ⟨hK, hC, t1, t2, t3, t4⟩ := ht
  intro n
  induction n with
  | zero =>
    intro o ho
    have ho : o = C := by omega
    subst ho
    rw [s161_6]
    simp (disch := omega) only [s161_8, s161_9, s161_12, s161_70, s161_72, t1, n_lt_0, n_le_0, n_tl_0, n_el_0, n_eq_0, n_ad_0, n_lt_1, n_le_1, n_tl_1, n_el_1, n_eq_1, n_ad_1, n_lt_2, n_le_2, n_tl_2, n_el_2, n_eq_2, n_ad_2, n_lt_3, n_le_3, n_tl_3, n_el_3, n_eq_3, n_ad_3, n_lt_4, n_le_4, n_tl_4, n_el_4, n_eq_4, n_ad_4, n_lt_5, n_le_5, n_tl_5, n_el_5, n_eq_5, n_ad_5, n_lt_6, n_le_6, n_tl_6, n_el_6, n_eq_6, n_ad_6, n_lt_10, n_le_10, n_tl_10, n_el_10, n_eq_10, n_ad_10, n_lt_11, n_le_11, n_tl_11, n_el_11, n_eq_11, n_ad_11, n_lt_12, n_le_12, n_tl_12, n_el_12, n_eq_12, n_ad_12, n_lt_13, n_le_13, n_tl_13, n_el_13, n_eq_13, n_ad_13, n_lt_15, n_le_15, n_tl_15, n_el_15, n_eq_15, n_ad_15, n_lt_20, n_le_20, n_tl_20, n_el_20, n_eq_20, n_ad_20, n_lt_30, n_le_30, n_tl_30, n_el_30, n_eq_30, n_ad_30, n_lt_31, n_le_31, n_tl_31, n_el_31, n_eq_31, n_ad_31, n_lt_32, n_le_32, n_tl_32, n_el_32, n_eq_32, n_ad_32, n_lt_60, n_le_60, n_tl_60, n_el_60, n_eq_60, n_ad_60, n_lt_99, n_le_99, n_tl_99, n_el_99, n_eq_99, n_ad_99, n_lt_100, n_le_100, n_tl_100, n_el_100, n_eq_100, n_ad_100, n_lt_144, n_le_144, n_tl_144, n_el_144, n_eq_144, n_ad_144, n_lt_4096, n_le_4096, n_tl_4096, n_el_4096, n_eq_4096, n_ad_4096, n_mulK, nI_add, pk_mul, n_lt, n_le, n_eq, n_eqM, n_ix, n_cl, Nat.le_refl, if_true]
  | succ n ih =>
    intro o ho
    have q1 : ¬ C ≤ o := by omega
    have q2 : l * 12 + o < 144 := by omega
    have q3 : l * 12 + c < 144 := by omega
    have hw : s &&& alN (A l) o c < 4096 := and_lt hs
    have hsh := s_shl (k := o) (by omega)
    have hor := s_or hw (p2_lt (k := o) (by omega))
    have e1 := t3 l o hl (by omega)
    have e2 := t3 l c hl hc
    have hb : ((nI s >>> (nI o &&& 31)) &&& 1 = 1) = (s.testBit o = true) := by rw [bit1, s_bit hs (by omega)]
    have z := ih (o + 1) (by omega)
    rw [and_alN (by omega) hs] at z
    rw [s161_6]
    by_cases e : s.testBit o = true
    · by_cases g : A l o = A l c
      · rw [if_pos ⟨e, g⟩] at z
        simp (disch := omega) only [s161_8, s161_9, s161_12, s161_15, s161_17, s161_18, s161_20, s161_21, s161_22, s161_23, s161_24, s161_27, s161_28, s161_31, s161_33, s161_34, s161_35, s161_37, s161_38, s161_39, s161_40, s161_43, s161_45, s161_46, s161_47, s161_48, s161_49, s161_50, s161_53, s161_54, s161_56, s161_57, s161_61, s161_62, s161_64, s161_67, xA56, xL56, xa56, t1, n_12m, n_lt_0, n_le_0, n_tl_0, n_el_0, n_eq_0, n_ad_0, n_lt_1, n_le_1, n_tl_1, n_el_1, n_eq_1, n_ad_1, n_lt_2, n_le_2, n_tl_2, n_el_2, n_eq_2, n_ad_2, n_lt_3, n_le_3, n_tl_3, n_el_3, n_eq_3, n_ad_3, n_lt_4, n_le_4, n_tl_4, n_el_4, n_eq_4, n_ad_4, n_lt_5, n_le_5, n_tl_5, n_el_5, n_eq_5, n_ad_5, n_lt_6, n_le_6, n_tl_6, n_el_6, n_eq_6, n_ad_6, n_lt_10, n_le_10, n_tl_10, n_el_10, n_eq_10, n_ad_10, n_lt_11, n_le_11, n_tl_11, n_el_11, n_eq_11, n_ad_11, n_lt_12, n_le_12, n_tl_12, n_el_12, n_eq_12, n_ad_12, n_lt_13, n_le_13, n_tl_13, n_el_13, n_eq_13, n_ad_13, n_lt_15, n_le_15, n_tl_15, n_el_15, n_eq_15, n_ad_15, n_lt_20, n_le_20, n_tl_20, n_el_20, n_eq_20, n_ad_20, n_lt_30, n_le_30, n_tl_30, n_el_30, n_eq_30, n_ad_30, n_lt_31, n_le_31, n_tl_31, n_el_31, n_eq_31, n_ad_31, n_lt_32, n_le_32, n_tl_32, n_el_32, n_eq_32, n_ad_32, n_lt_60, n_le_60, n_tl_60, n_el_60, n_eq_60, n_ad_60, n_lt_99, n_le_99, n_tl_99, n_el_99, n_eq_99, n_ad_99, n_lt_100, n_le_100, n_tl_100, n_el_100, n_eq_100, n_ad_100, n_lt_144, n_le_144, n_tl_144, n_el_144, n_eq_144, n_ad_144, n_lt_4096, n_le_4096, n_tl_4096, n_el_4096, n_eq_4096, n_ad_4096, n_mulK, nI_add, pk_mul, n_lt, n_le, n_eq, n_eqM, n_ix, n_cl, if_neg q1, q2, q3, decide_true, if_true, hb, e, e1, e2, g, hsh, hor]
        exact z
      · rw [if_neg (fun q => g q.2)] at z
        simp (disch := omega) only [s161_8, s161_9, s161_12, s161_15, s161_17, s161_18, s161_20, s161_21, s161_22, s161_23, s161_24, s161_27, s161_28, s161_31, s161_33, s161_34, s161_35, s161_37, s161_38, s161_39, s161_40, s161_43, s161_45, s161_46, s161_47, s161_48, s161_49, s161_50, s161_60, s161_61, s161_62, s161_64, s161_67, xA56, xL56, xa56, t1, n_12m, n_lt_0, n_le_0, n_tl_0, n_el_0, n_eq_0, n_ad_0, n_lt_1, n_le_1, n_tl_1, n_el_1, n_eq_1, n_ad_1, n_lt_2, n_le_2, n_tl_2, n_el_2, n_eq_2, n_ad_2, n_lt_3, n_le_3, n_tl_3, n_el_3, n_eq_3, n_ad_3, n_lt_4, n_le_4, n_tl_4, n_el_4, n_eq_4, n_ad_4, n_lt_5, n_le_5, n_tl_5, n_el_5, n_eq_5, n_ad_5, n_lt_6, n_le_6, n_tl_6, n_el_6, n_eq_6, n_ad_6, n_lt_10, n_le_10, n_tl_10, n_el_10, n_eq_10, n_ad_10, n_lt_11, n_le_11, n_tl_11, n_el_11, n_eq_11, n_ad_11, n_lt_12, n_le_12, n_tl_12, n_el_12, n_eq_12, n_ad_12, n_lt_13, n_le_13, n_tl_13, n_el_13, n_eq_13, n_ad_13, n_lt_15, n_le_15, n_tl_15, n_el_15, n_eq_15, n_ad_15, n_lt_20, n_le_20, n_tl_20, n_el_20, n_eq_20, n_ad_20, n_lt_30, n_le_30, n_tl_30, n_el_30, n_eq_30, n_ad_30, n_lt_31, n_le_31, n_tl_31, n_el_31, n_eq_31, n_ad_31, n_lt_32, n_le_32, n_tl_32, n_el_32, n_eq_32, n_ad_32, n_lt_60, n_le_60, n_tl_60, n_el_60, n_eq_60, n_ad_60, n_lt_99, n_le_99, n_tl_99, n_el_99, n_eq_99, n_ad_99, n_lt_100, n_le_100, n_tl_100, n_el_100, n_eq_100, n_ad_100, n_lt_144, n_le_144, n_tl_144, n_el_144, n_eq_144, n_ad_144, n_lt_4096, n_le_4096, n_tl_4096, n_el_4096, n_eq_4096, n_ad_4096, n_mulK, nI_add, pk_mul, n_lt, n_le, n_eq, n_eqM, n_ix, n_cl, if_neg q1, q2, q3, decide_true, if_true, hb, e, e1, e2, if_neg g, i_or0]
        exact z
    · rw [if_neg (fun q => e q.1)] at z
      simp (disch := omega) only [s161_8, s161_9, s161_12, s161_15, s161_17, s161_18, s161_20, s161_21, s161_22, s161_23, s161_24, s161_60, s161_61, s161_62, s161_64, s161_67, t1, n_lt_0, n_le_0, n_tl_0, n_el_0, n_eq_0, n_ad_0, n_lt_1, n_le_1, n_tl_1, n_el_1, n_eq_1, n_ad_1, n_lt_2, n_le_2, n_tl_2, n_el_2, n_eq_2, n_ad_2, n_lt_3, n_le_3, n_tl_3, n_el_3, n_eq_3, n_ad_3, n_lt_4, n_le_4, n_tl_4, n_el_4, n_eq_4, n_ad_4, n_lt_5, n_le_5, n_tl_5, n_el_5, n_eq_5, n_ad_5, n_lt_6, n_le_6, n_tl_6, n_el_6, n_eq_6, n_ad_6, n_lt_10, n_le_10, n_tl_10, n_el_10, n_eq_10, n_ad_10, n_lt_11, n_le_11, n_tl_11, n_el_11, n_eq_11, n_ad_11, n_lt_12, n_le_12, n_tl_12, n_el_12, n_eq_12, n_ad_12, n_lt_13, n_le_13, n_tl_13, n_el_13, n_eq_13, n_ad_13, n_lt_15, n_le_15, n_tl_15, n_el_15, n_eq_15, n_ad_15, n_lt_20, n_le_20, n_tl_20, n_el_20, n_eq_20, n_ad_20, n_lt_30, n_le_30, n_tl_30, n_el_30, n_eq_30, n_ad_30, n_lt_31, n_le_31, n_tl_31, n_el_31, n_eq_31, n_ad_31, n_lt_32, n_le_32, n_tl_32, n_el_32, n_eq_32, n_ad_32, n_lt_60, n_le_60, n_tl_60, n_el_60, n_eq_60, n_ad_60, n_lt_99, n_le_99, n_tl_99, n_el_99, n_eq_99, n_ad_99, n_lt_100, n_le_100, n_tl_100, n_el_100, n_eq_100, n_ad_100, n_lt_144, n_le_144, n_tl_144, n_el_144, n_eq_144, n_ad_144, n_lt_4096, n_le_4096, n_tl_4096, n_el_4096, n_eq_4096, n_ad_4096, n_mulK, nI_add, pk_mul, n_lt, n_le, n_eq, n_eqM, n_ix, n_cl, if_neg q1, hb, if_neg e, i_or0]
      exact z
theorem m161 {d K C l s c : Nat} {σ : ir_S} {A : Nat → Nat → Int32} {pr : Nat → Nat} (ht : TM σ K C A pr) (hl : l < K) (hs : s < 4096) (hc : c < C) : ir_ev (d + 1) 161 [.ref 33, .int (nI l), .int (nI s), .int (nI c)] σ = some (some (.int (nI (s &&& alN (A l) C c))), σ) := by
  have z := m161_loop (E := ir_ev d) ht hl hs hc C 0 (by omega)
  have e : s &&& alN (A l) 0 c = 0 := by simp [alN]
  rw [e] at z
  simp only [e161, s161_0, s161_1, s161_3, s161_4]
  exact z
theorem m162 {d K C l s : Nat} {σ : ir_S} {A : Nat → Nat → Int32} {pr : Nat → Nat} (ht : TM σ K C A pr) (hl : l < K) (hs : s < 2 ^ C) (h0 : s ≠ 0) : ir_ev (d + 2) 162 [.ref 33, .int (nI l), .int (nI s)] σ = some (some (.int (ir_b (!decide (s &&& alN (A l) C (lowN s) = s)))), σ) := by
  have hC := ht.2.1
  have h4 := pC hC
  have hlow := low_C hC hs h0
  have hand : s &&& alN (A l) C (lowN s) < 4096 := and_lt (by omega)
  simp (disch := omega) only [e162, s162_0, s162_1, s162_2, s162_3, s162_4, s162_7, s162_10, s162_11, s162_14, s162_15, s162_18, s162_19z, s162_19o, s162_19b, c182, nt_low s (by omega) h0, m161 ht hl (show s < 4096 by omega) hlow, ir_k_i, ir_tl_i, n_lt_0, n_le_0, n_tl_0, n_el_0, n_eq_0, n_ad_0, n_lt_1, n_le_1, n_tl_1, n_el_1, n_eq_1, n_ad_1, n_lt_2, n_le_2, n_tl_2, n_el_2, n_eq_2, n_ad_2, n_lt_3, n_le_3, n_tl_3, n_el_3, n_eq_3, n_ad_3, n_lt_4, n_le_4, n_tl_4, n_el_4, n_eq_4, n_ad_4, n_lt_5, n_le_5, n_tl_5, n_el_5, n_eq_5, n_ad_5, n_lt_6, n_le_6, n_tl_6, n_el_6, n_eq_6, n_ad_6, n_lt_10, n_le_10, n_tl_10, n_el_10, n_eq_10, n_ad_10, n_lt_11, n_le_11, n_tl_11, n_el_11, n_eq_11, n_ad_11, n_lt_12, n_le_12, n_tl_12, n_el_12, n_eq_12, n_ad_12, n_lt_13, n_le_13, n_tl_13, n_el_13, n_eq_13, n_ad_13, n_lt_15, n_le_15, n_tl_15, n_el_15, n_eq_15, n_ad_15, n_lt_20, n_le_20, n_tl_20, n_el_20, n_eq_20, n_ad_20, n_lt_30, n_le_30, n_tl_30, n_el_30, n_eq_30, n_ad_30, n_lt_31, n_le_31, n_tl_31, n_el_31, n_eq_31, n_ad_31, n_lt_32, n_le_32, n_tl_32, n_el_32, n_eq_32, n_ad_32, n_lt_60, n_le_60, n_tl_60, n_el_60, n_eq_60, n_ad_60, n_lt_99, n_le_99, n_tl_99, n_el_99, n_eq_99, n_ad_99, n_lt_100, n_le_100, n_tl_100, n_el_100, n_eq_100, n_ad_100, n_lt_144, n_le_144, n_tl_144, n_el_144, n_eq_144, n_ad_144, n_lt_4096, n_le_4096, n_tl_4096, n_el_4096, n_eq_4096, n_ad_4096, n_mulK, nI_add, pk_mul, n_lt, n_le, n_eq, n_eqM, n_ix, n_cl]
  by_cases e : s &&& alN (A l) C (lowN s) = s <;> simp [e, ir_b]
/-! unlike -/
theorem tb_lt {C s i : Nat} (hs : s < 2 ^ C) (h : s.testBit i = true) : i < C := by
  rcases Nat.lt_or_ge i C with q | q
  · exact q
  · rw [Nat.testBit_lt_two_pow (Nat.lt_of_lt_of_le hs (Nat.pow_le_pow_right (by decide) q))] at h
    cases h
theorem and_eq_iff {s x : Nat} : s &&& x = s ↔ ∀ i, s.testBit i = true → x.testBit i = true := by
  constructor
  · intro h i hi
    rw [← h, Nat.testBit_and, Bool.and_eq_true] at hi
    exact hi.2
  · intro h
    apply Nat.eq_of_testBit_eq
    intro i
    rw [Nat.testBit_and]
    cases hb : s.testBit i with
    | false => rfl
    | true => rw [h i hb]; rfl
theorem pair_lt {C a b : Nat} (ha : a < C) (hb : b < C) : 2 ^ a ||| 2 ^ b < 2 ^ C := Nat.or_lt_two_pow (Nat.pow_lt_pow_right (by decide) ha) (Nat.pow_lt_pow_right (by decide) hb)
theorem pair_part {A : Nat → Int32} {C a b : Nat} (hC : C ≤ 12) (ha : a < C) (hb : b < C) : (!decide ((2 ^ a ||| 2 ^ b) &&& alN A C (lowN (2 ^ a ||| 2 ^ b)) = 2 ^ a ||| 2 ^ b)) = !(alN A C a).testBit b := by
  have h4 := pC hC
  have hlt := pair_lt ha hb
  have htb : ∀ i, (2 ^ a ||| 2 ^ b).testBit i = (decide (a = i) || decide (b = i)) := fun i => by rw [Nat.testBit_or, Nat.testBit_two_pow, Nat.testBit_two_pow]
  have h0 : 2 ^ a ||| 2 ^ b ≠ 0 := fun e => by
    have := htb a
    rw [e] at this
    simp at this
  have hl := (low_bit (2 ^ a ||| 2 ^ b) (by omega) h0).1
  rw [htb] at hl
  have key : ((2 ^ a ||| 2 ^ b) &&& alN A C (lowN (2 ^ a ||| 2 ^ b)) = 2 ^ a ||| 2 ^ b) ↔ A a = A b := by
    rw [and_eq_iff]
    constructor
    · intro h
      have g1 := h a (by rw [htb]; simp)
      have g2 := h b (by rw [htb]; simp)
      rw [alN_tb hC] at g1 g2
      simp at g1 g2
      rw [g1.2, g2.2]
    · intro h i hi
      rw [htb] at hi
      rw [alN_tb hC]
      generalize lowN (2 ^ a ||| 2 ^ b) = x at *
      simp at hi hl
      rcases hi with rfl | rfl <;> rcases hl with rfl | rfl <;> simp [ha, hb, h]
  congr 1
  rw [alN_tb hC]
  by_cases e : A a = A b
  · simp [key.mpr e, hb, e]
  · have e2 : ¬ A b = A a := fun q => e q.symm
    have : ¬ ((2 ^ a ||| 2 ^ b) &&& alN A C (lowN (2 ^ a ||| 2 ^ b)) = 2 ^ a ||| 2 ^ b) := fun q => e (key.mp q)
    simp [this, e2]
theorem m163_loop {d K C a b : Nat} {σ : ir_S} {A : Nat → Nat → Int32} {pr : Nat → Nat} (ht : TM σ K C A pr) (ha : a < C) (hb : b < C) : ∀ n l w, l + n = K → w < 4096 → ir_run (ir_ev (d + 2)) 163 (32, [.ref 33, .int (nI a), .int (nI b), .int (nI w), .int (nI l)], [], σ) = some (some (.int (nI (ptF (fun l => !(alN (A l) C a).testBit b) n l w))), σ) := by
  obtain ⟨hK, hC, t1, t2, t3, t4⟩ := id ht
  have h4 := pC hC
  have hlt := pair_lt ha hb
  have h0 : 2 ^ a ||| 2 ^ b ≠ 0 := fun e => by
    have : (2 ^ a ||| 2 ^ b).testBit a = true := by rw [Nat.testBit_or, Nat.testBit_two_pow]; simp
    rw [e] at this
    simp at this
  intro n
  induction n with
  | zero =>
    intro l w hl hw
    have hl : l = K := by omega
    subst hl
    rw [s163_32]
    simp (disch := omega) only [s163_34, s163_35, s163_38, s163_74, s163_75, t2, n_lt_0, n_le_0, n_tl_0, n_el_0, n_eq_0, n_ad_0, n_lt_1, n_le_1, n_tl_1, n_el_1, n_eq_1, n_ad_1, n_lt_2, n_le_2, n_tl_2, n_el_2, n_eq_2, n_ad_2, n_lt_3, n_le_3, n_tl_3, n_el_3, n_eq_3, n_ad_3, n_lt_4, n_le_4, n_tl_4, n_el_4, n_eq_4, n_ad_4, n_lt_5, n_le_5, n_tl_5, n_el_5, n_eq_5, n_ad_5, n_lt_6, n_le_6, n_tl_6, n_el_6, n_eq_6, n_ad_6, n_lt_10, n_le_10, n_tl_10, n_el_10, n_eq_10, n_ad_10, n_lt_11, n_le_11, n_tl_11, n_el_11, n_eq_11, n_ad_11, n_lt_12, n_le_12, n_tl_12, n_el_12, n_eq_12, n_ad_12, n_lt_13, n_le_13, n_tl_13, n_el_13, n_eq_13, n_ad_13, n_lt_15, n_le_15, n_tl_15, n_el_15, n_eq_15, n_ad_15, n_lt_20, n_le_20, n_tl_20, n_el_20, n_eq_20, n_ad_20, n_lt_30, n_le_30, n_tl_30, n_el_30, n_eq_30, n_ad_30, n_lt_31, n_le_31, n_tl_31, n_el_31, n_eq_31, n_ad_31, n_lt_32, n_le_32, n_tl_32, n_el_32, n_eq_32, n_ad_32, n_lt_60, n_le_60, n_tl_60, n_el_60, n_eq_60, n_ad_60, n_lt_99, n_le_99, n_tl_99, n_el_99, n_eq_99, n_ad_99, n_lt_100, n_le_100, n_tl_100, n_el_100, n_eq_100, n_ad_100, n_lt_144, n_le_144, n_tl_144, n_el_144, n_eq_144, n_ad_144, n_lt_4096, n_le_4096, n_tl_4096, n_el_4096, n_eq_4096, n_ad_4096, n_mulK, nI_add, pk_mul, n_lt, n_le, n_eq, n_eqM, n_ix, n_cl, Nat.le_refl, if_true, ptF]
  | succ n ih =>
    intro l w hl hw
    have hlK : l < K := by omega
    have q1 : ¬ K ≤ l := by omega
    have hsa := s_shl (k := a) (by omega)
    have hsb := s_shl (k := b) (by omega)
    have hsl := s_shl (k := l) (by omega)
    have hab := s_or (p2_lt (k := a) (by omega)) (p2_lt (k := b) (by omega))
    have hor := s_or (a := w) (b := 2 ^ l) hw (p2_lt (by omega))
    have hp := m162 (d := d) ht hlK hlt h0
    rw [pair_part hC ha hb] at hp
    simp only [ptF]
    rw [s163_32]
    by_cases hq : (alN (A l) C a).testBit b = true
    · have z := ih (l + 1) w (by omega) hw
      rw [hq] at hp
      simp (disch := omega) only [s163_34, s163_35, s163_38, s163_41, s163_42, s163_43, s163_45, s163_46, s163_47, s163_48, s163_49, s163_50, s163_51, s163_52, s163_55, s163_65, s163_66, s163_67, s163_68, s163_71, t2, n_lt_0, n_le_0, n_tl_0, n_el_0, n_eq_0, n_ad_0, n_lt_1, n_le_1, n_tl_1, n_el_1, n_eq_1, n_ad_1, n_lt_2, n_le_2, n_tl_2, n_el_2, n_eq_2, n_ad_2, n_lt_3, n_le_3, n_tl_3, n_el_3, n_eq_3, n_ad_3, n_lt_4, n_le_4, n_tl_4, n_el_4, n_eq_4, n_ad_4, n_lt_5, n_le_5, n_tl_5, n_el_5, n_eq_5, n_ad_5, n_lt_6, n_le_6, n_tl_6, n_el_6, n_eq_6, n_ad_6, n_lt_10, n_le_10, n_tl_10, n_el_10, n_eq_10, n_ad_10, n_lt_11, n_le_11, n_tl_11, n_el_11, n_eq_11, n_ad_11, n_lt_12, n_le_12, n_tl_12, n_el_12, n_eq_12, n_ad_12, n_lt_13, n_le_13, n_tl_13, n_el_13, n_eq_13, n_ad_13, n_lt_15, n_le_15, n_tl_15, n_el_15, n_eq_15, n_ad_15, n_lt_20, n_le_20, n_tl_20, n_el_20, n_eq_20, n_ad_20, n_lt_30, n_le_30, n_tl_30, n_el_30, n_eq_30, n_ad_30, n_lt_31, n_le_31, n_tl_31, n_el_31, n_eq_31, n_ad_31, n_lt_32, n_le_32, n_tl_32, n_el_32, n_eq_32, n_ad_32, n_lt_60, n_le_60, n_tl_60, n_el_60, n_eq_60, n_ad_60, n_lt_99, n_le_99, n_tl_99, n_el_99, n_eq_99, n_ad_99, n_lt_100, n_le_100, n_tl_100, n_el_100, n_eq_100, n_ad_100, n_lt_144, n_le_144, n_tl_144, n_el_144, n_eq_144, n_ad_144, n_lt_4096, n_le_4096, n_tl_4096, n_el_4096, n_eq_4096, n_ad_4096, n_mulK, nI_add, pk_mul, n_lt, n_le, n_eq, n_eqM, n_ix, n_cl, if_neg q1, hsa, hsb, hab, hp, Bool.not_true, ir_b_f, ir_k_i, ir_tl_i, if_true, i_or0]
      simp [z, hq]
    · have hq : (alN (A l) C a).testBit b = false := by simpa using hq
      have z := ih (l + 1) (w ||| 2 ^ l) (by omega) (or_lt hw (p2_lt (by omega)))
      rw [hq] at hp
      have e1 : ¬ ((1 : Int32) = 0) := by decide
      simp (disch := omega) only [s163_34, s163_35, s163_38, s163_41, s163_42, s163_43, s163_45, s163_46, s163_47, s163_48, s163_49, s163_50, s163_51, s163_52, s163_55, s163_58, s163_59, s163_61, s163_62, s163_66, s163_67, s163_68, s163_71, t2, n_lt_0, n_le_0, n_tl_0, n_el_0, n_eq_0, n_ad_0, n_lt_1, n_le_1, n_tl_1, n_el_1, n_eq_1, n_ad_1, n_lt_2, n_le_2, n_tl_2, n_el_2, n_eq_2, n_ad_2, n_lt_3, n_le_3, n_tl_3, n_el_3, n_eq_3, n_ad_3, n_lt_4, n_le_4, n_tl_4, n_el_4, n_eq_4, n_ad_4, n_lt_5, n_le_5, n_tl_5, n_el_5, n_eq_5, n_ad_5, n_lt_6, n_le_6, n_tl_6, n_el_6, n_eq_6, n_ad_6, n_lt_10, n_le_10, n_tl_10, n_el_10, n_eq_10, n_ad_10, n_lt_11, n_le_11, n_tl_11, n_el_11, n_eq_11, n_ad_11, n_lt_12, n_le_12, n_tl_12, n_el_12, n_eq_12, n_ad_12, n_lt_13, n_le_13, n_tl_13, n_el_13, n_eq_13, n_ad_13, n_lt_15, n_le_15, n_tl_15, n_el_15, n_eq_15, n_ad_15, n_lt_20, n_le_20, n_tl_20, n_el_20, n_eq_20, n_ad_20, n_lt_30, n_le_30, n_tl_30, n_el_30, n_eq_30, n_ad_30, n_lt_31, n_le_31, n_tl_31, n_el_31, n_eq_31, n_ad_31, n_lt_32, n_le_32, n_tl_32, n_el_32, n_eq_32, n_ad_32, n_lt_60, n_le_60, n_tl_60, n_el_60, n_eq_60, n_ad_60, n_lt_99, n_le_99, n_tl_99, n_el_99, n_eq_99, n_ad_99, n_lt_100, n_le_100, n_tl_100, n_el_100, n_eq_100, n_ad_100, n_lt_144, n_le_144, n_tl_144, n_el_144, n_eq_144, n_ad_144, n_lt_4096, n_le_4096, n_tl_4096, n_el_4096, n_eq_4096, n_ad_4096, n_mulK, nI_add, pk_mul, n_lt, n_le, n_eq, n_eqM, n_ix, n_cl, if_neg q1, hsa, hsb, hab, hp, Bool.not_false, ir_b_t, ir_k_i, ir_tl_i, if_neg e1, hsl, hor]
      simp [z, hq]
theorem inr_in {k n : Nat} (hn : n ≤ 12) (hk : k < n) : inr (nI k) (nI n) = true := by
  unfold inr
  have q1 : ¬ nI k < 0 := by rw [n_lt_0 (by omega)]; omega
  have q2 : ¬ nI n ≤ nI k := by rw [n_le (by omega) (by omega)]; omega
  simp [q1, q2]
section UNL
variable {σ : ir_S} {N m F C K : Nat} {LA LB : Nat → Nat}
theorem c17n (h : σ 33 17 = nI C) (hC : C ≤ 12) : 0 ≤ (σ 33 17).toInt := by rw [h, nI_toInt (by omega)]; omega
theorem unlikeM {d a b : Nat} (r : R0 σ N m F C K LA LB) (ha : a < C) (hb : b < C) : ∃ σ', ir_ev (d + 10) 163 [.ref 33, .int (nI a), .int (nI b)] σ = some (some (.int (nI (ptF (fun l => !(AL0 σ N m C l a).testBit b) K 0 0))), σ') ∧ frR σ σ' := by
  have hC := r.2.2.2.1.1
  have r0 := R0_ag (agS_frR (frR_33 (σ := σ) (v := 0))) r
  obtain ⟨σ1, a1, a2, a3⟩ := asks (d := d) r0
  have ht := TM_of r0 a2 a3
  have z := m163_loop (d := d + 7) ht ha hb K 0 0 (by omega) (by decide)
  have e17 : (ir_up σ 33 0 0) 33 17 = nI C := r0.2.2.2.1.2.2.1
  have h145 : ∀ k, k < C → ir_ev (d + 9) 145 [.ref 33, .int (nI k)] (ir_up σ 33 0 0) = some (some (.int 1), ir_up σ 33 0 0) := by
    intro k hk
    rw [m145 (c17n e17 hC), e17, inr_in hC hk]
    rfl
  have e1 : ¬ ((1 : Int32) = 0) := by decide
  refine ⟨σ1, ?_, frR_tr frR_33 a2⟩
  simp only [e163, s163_0, s163_1, s163_2, s163_5, s163_6, s163_7, s163_10, s163_13, s163_14, s163_15, s163_18, s163_23, s163_24, s163_27, s163_28, s163_29, s163_30, h145 a ha, h145 b hb, a1, ir_k_i, ir_tl_i, ir_k_v, ir_tl_v, if_neg e1]
  refine Eq.trans z ?_
  have e : (fun l => !(alN (an0 (ir_up σ 33 0 0) N m l) C a).testBit b) = (fun l => !(AL0 σ N m C l a).testBit b) := by
    funext l
    rw [← AL0_ag (agS_frR (frR_33 (σ := σ) (v := 0)))]
    rfl
  rw [e]
end UNL
