theorem c66 {K C : Nat} {AL : Nat → Nat → Nat} {pr : Nat → Nat} {σ0 : ir_S} (ht : TBL σ0 K C AL pr) : ∀ n s dp d σ, popN s ≤ n → 0 < s → s < 2 ^ C → popN s + dp ≤ 12 → (∀ c, c ≠ 29 → σ c = σ0 c) → MEM σ C (WV AL pr K C 12) →
    ∃ σ', ir_ev (d + 2 * n + 4) 66 [.ref 25, .int (nI s), .int (nI dp)] σ = some (some (.int (nI (WV AL pr K C 12 s))), σ') ∧ (∀ c, c ≠ 29 → σ' c = σ0 c) ∧ MEM σ' C (WV AL pr K C 12) := by
  obtain ⟨hK, hC, t1, t2, t3, t4⟩ := id ht
  have h4 := pC hC
  have hWb : ∀ x, WV AL pr K C 12 x ≤ 1200 := fun x => WV_le (fun l hl => (t4 l hl).2) 12 x
  intro n
  induction n with
  | zero => intro s dp d σ h1 h0 hs _ _ _; have := pop_pos (s := s) (by omega) (by omega); omega
  | succ n ih =>
    intro s dp d σ hn h0 hs hd hag hM
    have e5 : σ 25 5 = nI C := by rw [hag 25 (by decide)]; exact t2
    have hsh := s_shl (k := C) (by omega)
    have q1 : ¬ s ≤ 0 := by omega
    have q2 : ¬ 2 ^ C ≤ s := by omega
    have q3 : dp ≤ 12 := by omega
    have q4 : s < 4096 := by omega
    rw [show d + 2 * (n + 1) + 4 = (d + 2 * n + 2) + 3 + 1 by omega]
    rcases hM s h0 hs with hm | hm
    · have hW : ∀ x σ, s &&& x ≠ s → s &&& x ≠ 0 → (∀ c, c ≠ 29 → σ c = σ0 c) → MEM σ C (WV AL pr K C 12) → ∃ σ', ir_ev ((d + 2 * n + 2) + 2) 66 [.ref 25, .int (nI (s &&& x)), .int (nI (dp + 1))] σ = some (some (.int (nI (WV AL pr K C 12 (s &&& x)))), σ') ∧ (∀ c, c ≠ 29 → σ' c = σ0 c) ∧ MEM σ' C (WV AL pr K C 12) := by
        intro x σ hx hx0 hag hM
        have hlt := pop_lt q4 (and_lt (b := x) q4) (fun i => and_sub) hx
        have hle : s &&& x ≤ s := Nat.and_le_left
        exact ih (s &&& x) (dp + 1) d σ (by omega) (by omega) (by omega) (by omega) hag hM
      obtain ⟨σ1, l5, a1, a2, a3⟩ := c66_loop (d := d + 2 * n + 2) ht hs (by omega) hWb hW K 0 none σ .null (by omega) (fun v hv => by cases hv) hag hM
      have hfix := WV_fix (AL := AL) (pr := pr) (K := K) (C := C) q4 (by omega)
      have hmax : ir_max (oI (wmin (cst (WV AL pr K C 12) AL pr C s) K 0 none)) 0 = nI (WV AL pr K C 12 s) := by
        rw [hfix]
        cases hw : wmin (cst (WV AL pr K C 12) AL pr C s) K 0 none with
        | none => decide
        | some v =>
          have hb := hWb s
          rw [hfix, hw] at hb
          have hb : v ≤ 1200 := hb
          show ir_max (nI v) (nI 0) = nI v
          rw [ir_max_n (by omega) (by omega), Nat.max_eq_left (Nat.zero_le _)]
      refine ⟨ir_up σ1 29 s (nI (WV AL pr K C 12 s)), ?_, fun c hc => by rw [u_n _ _ _ hc]; exact a2 c hc, fun s' h0' hs' => ?_⟩
      · simp (disch := omega) only [e66, s66_0, s66_1, s66_4, s66_5, s66_6, s66_7, s66_10, s66_11, s66_14, s66_15, s66_17, s66_22, s66_23, s66_26, s66_27, s66_28, s66_29, s66_32, s66_33, s66_34, s66_35, xA29, xL29, xa29, n_lt_0, n_le_0, n_tl_0, n_el_0, n_eq_0, n_ad_0, n_lt_1, n_le_1, n_tl_1, n_el_1, n_eq_1, n_ad_1, n_lt_2, n_le_2, n_tl_2, n_el_2, n_eq_2, n_ad_2, n_lt_3, n_le_3, n_tl_3, n_el_3, n_eq_3, n_ad_3, n_lt_4, n_le_4, n_tl_4, n_el_4, n_eq_4, n_ad_4, n_lt_5, n_le_5, n_tl_5, n_el_5, n_eq_5, n_ad_5, n_lt_6, n_le_6, n_tl_6, n_el_6, n_eq_6, n_ad_6, n_lt_10, n_le_10, n_tl_10, n_el_10, n_eq_10, n_ad_10, n_lt_11, n_le_11, n_tl_11, n_el_11, n_eq_11, n_ad_11, n_lt_12, n_le_12, n_tl_12, n_el_12, n_eq_12, n_ad_12, n_lt_13, n_le_13, n_tl_13, n_el_13, n_eq_13, n_ad_13, n_lt_15, n_le_15, n_tl_15, n_el_15, n_eq_15, n_ad_15, n_lt_20, n_le_20, n_tl_20, n_el_20, n_eq_20, n_ad_20, n_lt_30, n_le_30, n_tl_30, n_el_30, n_eq_30, n_ad_30, n_lt_31, n_le_31, n_tl_31, n_el_31, n_eq_31, n_ad_31, n_lt_32, n_le_32, n_tl_32, n_el_32, n_eq_32, n_ad_32, n_lt_60, n_le_60, n_tl_60, n_el_60, n_eq_60, n_ad_60, n_lt_99, n_le_99, n_tl_99, n_el_99, n_eq_99, n_ad_99, n_lt_100, n_le_100, n_tl_100, n_el_100, n_eq_100, n_ad_100, n_lt_144, n_le_144, n_tl_144, n_el_144, n_eq_144, n_ad_144, n_lt_4096, n_le_4096, n_tl_4096, n_el_4096, n_eq_4096, n_ad_4096, n_mulK, nI_add, pk_mul, n_lt, n_le, n_eq, n_eqM, n_ix, n_cl, e5, hsh, q1, q2, q3, q4, hm, if_false, if_true, decide_true]
        refine Eq.trans a1 ?_
        simp (disch := omega) only [s66_82, s66_83, s66_86, s66_87, s66_88, s66_89, s66_92, s66_93, s66_94, s66_97, s66_98, s66_99, xA29, xL29, xa29, n_lt_0, n_le_0, n_tl_0, n_el_0, n_eq_0, n_ad_0, n_lt_1, n_le_1, n_tl_1, n_el_1, n_eq_1, n_ad_1, n_lt_2, n_le_2, n_tl_2, n_el_2, n_eq_2, n_ad_2, n_lt_3, n_le_3, n_tl_3, n_el_3, n_eq_3, n_ad_3, n_lt_4, n_le_4, n_tl_4, n_el_4, n_eq_4, n_ad_4, n_lt_5, n_le_5, n_tl_5, n_el_5, n_eq_5, n_ad_5, n_lt_6, n_le_6, n_tl_6, n_el_6, n_eq_6, n_ad_6, n_lt_10, n_le_10, n_tl_10, n_el_10, n_eq_10, n_ad_10, n_lt_11, n_le_11, n_tl_11, n_el_11, n_eq_11, n_ad_11, n_lt_12, n_le_12, n_tl_12, n_el_12, n_eq_12, n_ad_12, n_lt_13, n_le_13, n_tl_13, n_el_13, n_eq_13, n_ad_13, n_lt_15, n_le_15, n_tl_15, n_el_15, n_eq_15, n_ad_15, n_lt_20, n_le_20, n_tl_20, n_el_20, n_eq_20, n_ad_20, n_lt_30, n_le_30, n_tl_30, n_el_30, n_eq_30, n_ad_30, n_lt_31, n_le_31, n_tl_31, n_el_31, n_eq_31, n_ad_31, n_lt_32, n_le_32, n_tl_32, n_el_32, n_eq_32, n_ad_32, n_lt_60, n_le_60, n_tl_60, n_el_60, n_eq_60, n_ad_60, n_lt_99, n_le_99, n_tl_99, n_el_99, n_eq_99, n_ad_99, n_lt_100, n_le_100, n_tl_100, n_el_100, n_eq_100, n_ad_100, n_lt_144, n_le_144, n_tl_144, n_el_144, n_eq_144, n_ad_144, n_lt_4096, n_le_4096, n_tl_4096, n_el_4096, n_eq_4096, n_ad_4096, n_mulK, nI_add, pk_mul, n_lt, n_le, n_eq, n_eqM, n_ix, n_cl, hmax, q4, decide_true, if_true, u_s, upd_s]
      · rw [u_s]
        by_cases e : s' = s
        · subst e; rw [upd_s]; exact Or.inr rfl
        · rw [upd_n _ _ e]; exact a3 s' h0' hs'
    · refine ⟨σ, ?_, hag, hM⟩
      have hb := hWb s
      have hne := oI_m1 (b := WV AL pr K C 12 s) (by omega)
      simp (disch := omega) only [e66, s66_0, s66_1, s66_4, s66_5, s66_6, s66_7, s66_10, s66_11, s66_14, s66_15, s66_17, s66_22, s66_23, s66_26, s66_27, s66_28, s66_29, s66_93, s66_94, s66_97, s66_98, s66_99, xA29, xL29, xa29, n_lt_0, n_le_0, n_tl_0, n_el_0, n_eq_0, n_ad_0, n_lt_1, n_le_1, n_tl_1, n_el_1, n_eq_1, n_ad_1, n_lt_2, n_le_2, n_tl_2, n_el_2, n_eq_2, n_ad_2, n_lt_3, n_le_3, n_tl_3, n_el_3, n_eq_3, n_ad_3, n_lt_4, n_le_4, n_tl_4, n_el_4, n_eq_4, n_ad_4, n_lt_5, n_le_5, n_tl_5, n_el_5, n_eq_5, n_ad_5, n_lt_6, n_le_6, n_tl_6, n_el_6, n_eq_6, n_ad_6, n_lt_10, n_le_10, n_tl_10, n_el_10, n_eq_10, n_ad_10, n_lt_11, n_le_11, n_tl_11, n_el_11, n_eq_11, n_ad_11, n_lt_12, n_le_12, n_tl_12, n_el_12, n_eq_12, n_ad_12, n_lt_13, n_le_13, n_tl_13, n_el_13, n_eq_13, n_ad_13, n_lt_15, n_le_15, n_tl_15, n_el_15, n_eq_15, n_ad_15, n_lt_20, n_le_20, n_tl_20, n_el_20, n_eq_20, n_ad_20, n_lt_30, n_le_30, n_tl_30, n_el_30, n_eq_30, n_ad_30, n_lt_31, n_le_31, n_tl_31, n_el_31, n_eq_31, n_ad_31, n_lt_32, n_le_32, n_tl_32, n_el_32, n_eq_32, n_ad_32, n_lt_60, n_le_60, n_tl_60, n_el_60, n_eq_60, n_ad_60, n_lt_99, n_le_99, n_tl_99, n_el_99, n_eq_99, n_ad_99, n_lt_100, n_le_100, n_tl_100, n_el_100, n_eq_100, n_ad_100, n_lt_144, n_le_144, n_tl_144, n_el_144, n_eq_144, n_ad_144, n_lt_4096, n_le_4096, n_tl_4096, n_el_4096, n_eq_4096, n_ad_4096, n_mulK, nI_add, pk_mul, n_lt, n_le, n_eq, n_eqM, n_ix, n_cl, e5, hsh, q1, q2, q3, q4, hm, hne, if_false, if_true, decide_true]
