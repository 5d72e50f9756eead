/-! node -/
theorem adj_lt {σ : ir_S} {N m a b : Nat} {LA LB : Nat → Nat} (hN : N ≤ 12) (hm : m ≤ 20) (hL : LN σ m N LA LB) (ha : a < 2147483648) (hb : b < 2147483648) (h : adjM σ m a b = true) : a < N ∧ b < N := by
  obtain ⟨l, hl, hh⟩ := (adjM_iff hm).mp h
  obtain ⟨g1, g2, g3, g4, g5⟩ := hL l hl
  rw [g4, g5] at hh
  rcases hh with ⟨y1, y2⟩ | ⟨y1, y2⟩
  · have e1 : LA l = a := (nI_eq (by omega) ha).mp y1
    have e2 : LB l = b := (nI_eq (by omega) hb).mp y2
    omega
  · have e1 : LA l = b := (nI_eq (by omega) hb).mp y1
    have e2 : LB l = a := (nI_eq (by omega) ha).mp y2
    omega
section ND
variable {N : Nat} {adj : Nat → Nat → Bool} {rel rel' : Nat → Bool}
theorem lev_add {t : Nat} (hadj : ∀ v, v < N → adj v N = false) (hrel : ∀ v, v < N → rel' v = rel v) : ∀ k v, v < N → lev (N + 1) adj rel' t k v = lev N adj rel t k v := by
  intro k
  induction k with
  | zero => intro v _; rfl
  | succ k ih =>
    intro v hv
    simp only [lev]
    rw [ih v hv, hrel v hv, List.range_succ, List.any_append]
    have e1 : (List.range N).any (fun u => adj v u && lev (N + 1) adj rel' t k u) = (List.range N).any (fun u => adj v u && lev N adj rel t k u) := by
      rw [Bool.eq_iff_iff, List.any_eq_true, List.any_eq_true]
      constructor
      · rintro ⟨u, hu, h⟩
        exact ⟨u, hu, by rw [← ih u (List.mem_range.mp hu)]; exact h⟩
      · rintro ⟨u, hu, h⟩
        exact ⟨u, hu, by rw [ih u (List.mem_range.mp hu)]; exact h⟩
    rw [e1]
    simp [hadj v hv]
theorem lev_new (hadj : ∀ v, v < N → adj v N = false) : ∀ k v, v < N → lev (N + 1) adj rel' N k v = false := by
  intro k
  induction k with
  | zero => intro v hv; have : ¬ v = N := by omega
            simp [lev, this]
  | succ k ih =>
    intro v hv
    simp only [lev]
    rw [ih v hv, List.range_succ, List.any_append]
    have e1 : (List.range N).any (fun u => adj v u && lev (N + 1) adj rel' N k u) = false := by
      rw [List.any_eq_false]
      intro u hu
      rw [ih u (List.mem_range.mp hu)]
      simp
    rw [e1]
    simp [hadj v hv]
theorem isNR_add {t a : Nat} {v : Int32} (hadj : ∀ v, v < N → adj v N = false) (hrel : ∀ v, v < N → rel' v = rel v) (ha : a < N) (h : isNR N adj rel t a v) : isNR (N + 1) adj rel' t a v := by
  have hl := lev_add (t := t) hadj hrel
  have hN : ∀ n, n < N + 1 → adj a n = true → n < N := fun n hn h => by
    rcases Nat.lt_or_ge n N with q | q
    · exact q
    · rw [show n = N by omega, hadj a ha] at h; cases h
  rcases h with ⟨rfl, h1⟩ | ⟨k, n, rfl, h2, h3, h4, h5, h6⟩
  · refine Or.inl ⟨rfl, fun k n hn h => ?_⟩
    have hn' := hN n hn h
    rw [hl k n hn']
    exact h1 k n hn' h
  · refine Or.inr ⟨k, n, rfl, by omega, h3, by rw [hl k n h2]; exact h4, fun j m hj hm h => ?_, fun m hm h => ?_⟩
    · have hm' := hN m hm h
      rw [hl j m hm']
      exact h5 j m hj hm' h
    · rw [hl k m (by omega)]
      exact h6 m hm h
end ND
section NP
variable {σ σ' : ir_S} {N m F C K : Nat} {LA LB : Nat → Nat}
theorem R1_node {k : Nat} (hk : k < 4) (hN : N < 12) (r : R1 σ N m LA LB) (a1 : σ' 1 4 = nI (N + 1)) (a2 : σ' 33 1 = nI (N + 1)) (a3 : σ' 1 5 = σ 1 5) (a4 : σ' 33 3 = σ 33 3) (a5 : σ' 2 = upd (σ 2) N (nI k)) (a6 : σ' 34 = upd (σ 34) N (nI k)) (a7 : σ' 1 6 = if k = 0 then σ 1 6 ||| ((1 : Int32) <<< (nI N &&& 31)) else σ 1 6) (a8 : σ' 3 = σ 3) (a9 : σ' 4 = σ 4) (b1 : σ' 5 = σ 5) (b2 : σ' 35 = σ 35) (b3 : σ' 36 = σ 36) : R1 σ' (N + 1) m LA LB := by
  obtain ⟨r1, r2, r3, r4, r5, r6, r7, r8, r9, r10, r11, r12, r13, r14⟩ := r
  have eadj : adjM σ' m = adjM σ m := by unfold adjM; rw [b2, b3]
  have hrel : ∀ v, v < N → relM σ' v = relM σ v := fun v hv => by unfold relM; rw [a6, upd_n _ _ (by omega)]
  have hadj : ∀ v, v < N → adjM σ m v N = false := fun v hv => by
    cases h : adjM σ m v N with
    | false => rfl
    | true => have := adj_lt r1 r2 r7 (by omega) (by omega) h; omega
  have hadj2 : ∀ v, v < N + 1 → adjM σ m N v = false := fun v hv => by
    cases h : adjM σ m N v with
    | false => rfl
    | true => have := adj_lt r1 r2 r7 (by omega) (by omega) h; omega
  refine ⟨by omega, r2, a1, a2, by rw [a3]; exact r5, by rw [a4]; exact r6, fun l hl => ?_, fun j hj => ?_, fun j hj => ?_, ?_, ?_, ?_, fun a t ha ht hat => ?_, fun a t ha ht h => ?_⟩
  · obtain ⟨g1, g2, g3, g4, g5⟩ := r7 l hl
    rw [b2, b3]
    exact ⟨by omega, by omega, g3, g4, g5⟩
  · rw [a5, a6]
    by_cases e : j = N
    · subst e
      rw [upd_s, upd_s]
      exact ⟨rfl, k, hk, rfl⟩
    · rw [upd_n _ _ e, upd_n _ _ e]
      exact r8 j (by omega)
  · rw [a7, a5]
    by_cases e0 : k = 0
    · subst e0
      rw [if_pos rfl, ir_bit_or (by omega) hj, r9 j hj]
      by_cases e : j = N
      · subst e
        have : (nI 0 : Int32) = 0 := rfl
        simp [upd_s, this]
      · rw [upd_n _ _ e]
        have e1 : (j < N + 1 ∧ σ 2 j = 0) ↔ (j < N ∧ σ 2 j = 0) := by
          constructor
          · rintro ⟨h1, h2⟩; exact ⟨by omega, h2⟩
          · rintro ⟨h1, h2⟩; exact ⟨by omega, h2⟩
        simp only [e, decide_false, Bool.or_false]
        exact decide_eq_decide.mpr e1.symm
    · rw [if_neg e0, r9 j hj, decide_eq_decide]
      by_cases e : j = N
      · subst e
        rw [upd_s]
        have hne : ¬ nI k = 0 := by rw [n_eq_0 (by omega)]; exact e0
        constructor
        · rintro ⟨h1, _⟩; omega
        · rintro ⟨_, h2⟩; exact absurd h2 hne
      · rw [upd_n _ _ e]
        constructor
        · rintro ⟨h1, h2⟩; exact ⟨by omega, h2⟩
        · rintro ⟨h1, h2⟩; exact ⟨by omega, h2⟩
  · rw [a9, b2, b3]; exact r10
  · rw [a8, eadj]; exact r11
  · rw [b1]; exact r12
  · rw [b1, eadj]
    by_cases ea : a = N
    · subst ea
      rw [r14 a t (by omega) (by omega) (Or.inl (Nat.le_refl _))]
      exact Or.inl ⟨rfl, fun k n hn h => by rw [hadj2 n hn] at h; cases h⟩
    · by_cases et : t = N
      · subst et
        rw [r14 a t (by omega) (by omega) (Or.inr (Nat.le_refl _))]
        refine Or.inl ⟨rfl, fun k n hn h => ?_⟩
        have hn' : n < t := by
          rcases Nat.lt_or_ge n t with q | q
          · exact q
          · rw [show n = t by omega, hadj a (by omega)] at h; cases h
        exact lev_new hadj k n hn'
      · exact isNR_add hadj hrel (by omega) (r13 a t (by omega) (by omega) hat)
  · rw [b1]
    exact r14 a t ha ht (by omega)
theorem c28 {d k : Nat} (r : R1 σ N m LA LB) (hk : k < 4) (hN : N < 12) : ∃ σ', ir_ev (d + 1) 28 [.ref 1, .int (nI k)] σ = some (some (.int (nI N)), σ') ∧ (∀ q, q ≠ 1 → q ≠ 2 → σ' q = σ q) ∧ σ' 2 = upd (σ 2) N (nI k) ∧ σ' 1 4 = nI (N + 1) ∧ σ' 1 5 = σ 1 5 ∧ σ' 1 6 = if k = 0 then σ 1 6 ||| ((1 : Int32) <<< (nI N &&& 31)) else σ 1 6 := by
  have e4 := r.2.2.1
  have q1 : ¬ k < 0 := by omega
  have q2 : ¬ 3 < k := by omega
  have hpred : nI (N + 1) - 1 = nI N := nI_pred N
  by_cases e0 : k = 0
  · subst e0
    refine ⟨ir_up (ir_up (ir_up σ 2 N (nI 0)) 1 6 (σ 1 6 ||| ((1 : Int32) <<< (nI N &&& 31)))) 1 4 (nI (N + 1)), ?_, fun q h1 h2 => by rw [u_n _ _ _ h1, u_n _ _ _ h1, u_n _ _ _ h2], ?_⟩
    · simp (disch := omega) only [e28, s28_0, s28_1, s28_18, s28_4, s28_19, s28_5, s28_6, s28_9, s28_10, s28_13, s28_15, s28_20, s28_21, s28_24, s28_25, s28_28, s28_29, s28_30, s28_31, s28_49, s28_34, s28_50i, s28_50r, s28_35i, s28_35r, s28_51, s28_36, s28_54, s28_39, s28_55, s28_40, s28_56, s28_41, s28_59, s28_44, s28_60, s28_45, s28_63, s28_46, s28_64, s28_65, xA2, xL2, xa2, n_lt_0, n_le_0, n_tl_0, n_el_0, n_eq_0, n_ad_0, n_lt_1, n_le_1, n_tl_1, n_el_1, n_eq_1, n_ad_1, n_lt_2, n_le_2, n_tl_2, n_el_2, n_eq_2, n_ad_2, n_lt_3, n_le_3, n_tl_3, n_el_3, n_eq_3, n_ad_3, n_lt_4, n_le_4, n_tl_4, n_el_4, n_eq_4, n_ad_4, n_lt_5, n_le_5, n_tl_5, n_el_5, n_eq_5, n_ad_5, n_lt_6, n_le_6, n_tl_6, n_el_6, n_eq_6, n_ad_6, n_lt_10, n_le_10, n_tl_10, n_el_10, n_eq_10, n_ad_10, n_lt_11, n_le_11, n_tl_11, n_el_11, n_eq_11, n_ad_11, n_lt_12, n_le_12, n_tl_12, n_el_12, n_eq_12, n_ad_12, n_lt_13, n_le_13, n_tl_13, n_el_13, n_eq_13, n_ad_13, n_lt_15, n_le_15, n_tl_15, n_el_15, n_eq_15, n_ad_15, n_lt_20, n_le_20, n_tl_20, n_el_20, n_eq_20, n_ad_20, n_lt_30, n_le_30, n_tl_30, n_el_30, n_eq_30, n_ad_30, n_lt_31, n_le_31, n_tl_31, n_el_31, n_eq_31, n_ad_31, n_lt_32, n_le_32, n_tl_32, n_el_32, n_eq_32, n_ad_32, n_lt_60, n_le_60, n_tl_60, n_el_60, n_eq_60, n_ad_60, n_lt_99, n_le_99, n_tl_99, n_el_99, n_eq_99, n_ad_99, n_lt_100, n_le_100, n_tl_100, n_el_100, n_eq_100, n_ad_100, n_lt_144, n_le_144, n_tl_144, n_el_144, n_eq_144, n_ad_144, n_lt_4096, n_le_4096, n_tl_4096, n_el_4096, n_eq_4096, n_ad_4096, n_mulK, nI_add, pk_mul, n_lt, n_le, n_eq, n_eqM, n_ix, n_cl, e4, q1, q2, hN, u_n, u_s, upd_s, upd_n, hpred, decide_true, if_true, if_false]
    · simp (disch := omega) only [u_n, u_s, upd_s, upd_n]
      simp
  · refine ⟨ir_up (ir_up σ 2 N (nI k)) 1 4 (nI (N + 1)), ?_, fun q h1 h2 => by rw [u_n _ _ _ h1, u_n _ _ _ h2], ?_⟩
    · simp (disch := omega) only [e28, s28_0, s28_1, s28_18, s28_4, s28_19, s28_5, s28_6, s28_9, s28_10, s28_13, s28_15, s28_20, s28_21, s28_24, s28_25, s28_28, s28_29, s28_30, s28_31, s28_49, s28_34, s28_50i, s28_50r, s28_35i, s28_35r, s28_51, s28_36, s28_54, s28_39, s28_55, s28_40, s28_56, s28_41, s28_59, s28_44, s28_60, s28_45, s28_63, s28_46, s28_64, s28_65, xA2, xL2, xa2, n_lt_0, n_le_0, n_tl_0, n_el_0, n_eq_0, n_ad_0, n_lt_1, n_le_1, n_tl_1, n_el_1, n_eq_1, n_ad_1, n_lt_2, n_le_2, n_tl_2, n_el_2, n_eq_2, n_ad_2, n_lt_3, n_le_3, n_tl_3, n_el_3, n_eq_3, n_ad_3, n_lt_4, n_le_4, n_tl_4, n_el_4, n_eq_4, n_ad_4, n_lt_5, n_le_5, n_tl_5, n_el_5, n_eq_5, n_ad_5, n_lt_6, n_le_6, n_tl_6, n_el_6, n_eq_6, n_ad_6, n_lt_10, n_le_10, n_tl_10, n_el_10, n_eq_10, n_ad_10, n_lt_11, n_le_11, n_tl_11, n_el_11, n_eq_11, n_ad_11, n_lt_12, n_le_12, n_tl_12, n_el_12, n_eq_12, n_ad_12, n_lt_13, n_le_13, n_tl_13, n_el_13, n_eq_13, n_ad_13, n_lt_15, n_le_15, n_tl_15, n_el_15, n_eq_15, n_ad_15, n_lt_20, n_le_20, n_tl_20, n_el_20, n_eq_20, n_ad_20, n_lt_30, n_le_30, n_tl_30, n_el_30, n_eq_30, n_ad_30, n_lt_31, n_le_31, n_tl_31, n_el_31, n_eq_31, n_ad_31, n_lt_32, n_le_32, n_tl_32, n_el_32, n_eq_32, n_ad_32, n_lt_60, n_le_60, n_tl_60, n_el_60, n_eq_60, n_ad_60, n_lt_99, n_le_99, n_tl_99, n_el_99, n_eq_99, n_ad_99, n_lt_100, n_le_100, n_tl_100, n_el_100, n_eq_100, n_ad_100, n_lt_144, n_le_144, n_tl_144, n_el_144, n_eq_144, n_ad_144, n_lt_4096, n_le_4096, n_tl_4096, n_el_4096, n_eq_4096, n_ad_4096, n_mulK, nI_add, pk_mul, n_lt, n_le, n_eq, n_eqM, n_ix, n_cl, e4, q1, q2, e0, hN, u_n, u_s, upd_s, upd_n, hpred, decide_true, if_true, if_false]
    · simp (disch := omega) only [u_n, u_s, upd_s, upd_n]
      simp [e0]
theorem mKin {d : Nat} {k : Int32} : ir_ev (d + 1) 119 [.long k.toInt64, .long 0, .long 3] σ = some (some (.int (ir_b (inr k 4))), σ) := by
  rw [c119, k_3, in_k1 (show 0 ≤ (4 : Int32).toInt by decide)]
theorem p_node {d : Nat} {v : Int32} (h : RR σ) : PAIR d 74 130 [.int v] σ := by
  obtain ⟨N, m, F, C, K, LA, LB, r⟩ := h
  have hN := r.1.1.1
  have r0 := RA_frR (frR_33 (v := 0)) r
  have e4 := r.1.1.2.2.1
  have x1 : σ 33 1 = nI N := r.1.1.2.2.2.1
  cases hv : inr v 4 with
  | false =>
    refine ⟨-1, σ, _, ?_, ?_, RR_of r0⟩
    · have k28 : ir_ev (d + 49) 28 [.ref 1, .int v] σ = some (some (.int (-1)), σ) := by
        have h3 : (3 < v) = (4 ≤ v) := by
          have a3 : (3 : Int32).toInt = 3 := by decide
          have a4 : (4 : Int32).toInt = 4 := by decide
          apply propext
          rw [Int32.lt_iff_toInt_lt, Int32.le_iff_toInt_le]
          omega
        unfold inr at hv
        simp only [e28, s28_0, s28_1, s28_4, s28_5, s28_6, s28_18, s28_19, h3]
        by_cases h1 : v < 0
        · simp [h1]
        · by_cases h2 : 4 ≤ v
          · simp [h1, h2]
          · simp [h1, h2] at hv
      simp only [e74, s74_0, s74_1, s74_2, s74_5, s74_6, s74_9, s74_12, k28, c110m, ir_k_i, ir_tl_i]
    · simp only [e130, s130_0, s130_1, s130_2, s130_5, s130_6, s130_7, s130_8, s130_11, s130_14, s130_26, s130_27, mKin, hv, ir_b_f, ir_k_i, ir_tl_i, if_true]
  | true =>
    obtain ⟨k, hk, rfl⟩ := inr_nI (n := 4) (by omega) hv
    by_cases hfull : N = 12
    · have q1 : ¬ k < 0 := by omega
      have q2 : ¬ 3 < k := by omega
      have q3 : ¬ N < 12 := by omega
      refine ⟨-1, σ, _, ?_, ?_, RR_of r0⟩
      · have k28 : ir_ev (d + 49) 28 [.ref 1, .int (nI k)] σ = some (some (.int (-1)), σ) := by
          simp (disch := omega) only [e28, s28_0, s28_1, s28_4, s28_5, s28_6, s28_9, s28_10, s28_13, s28_15, s28_18, s28_19, n_lt_0, n_le_0, n_tl_0, n_el_0, n_eq_0, n_ad_0, n_lt_1, n_le_1, n_tl_1, n_el_1, n_eq_1, n_ad_1, n_lt_2, n_le_2, n_tl_2, n_el_2, n_eq_2, n_ad_2, n_lt_3, n_le_3, n_tl_3, n_el_3, n_eq_3, n_ad_3, n_lt_4, n_le_4, n_tl_4, n_el_4, n_eq_4, n_ad_4, n_lt_5, n_le_5, n_tl_5, n_el_5, n_eq_5, n_ad_5, n_lt_6, n_le_6, n_tl_6, n_el_6, n_eq_6, n_ad_6, n_lt_10, n_le_10, n_tl_10, n_el_10, n_eq_10, n_ad_10, n_lt_11, n_le_11, n_tl_11, n_el_11, n_eq_11, n_ad_11, n_lt_12, n_le_12, n_tl_12, n_el_12, n_eq_12, n_ad_12, n_lt_13, n_le_13, n_tl_13, n_el_13, n_eq_13, n_ad_13, n_lt_15, n_le_15, n_tl_15, n_el_15, n_eq_15, n_ad_15, n_lt_20, n_le_20, n_tl_20, n_el_20, n_eq_20, n_ad_20, n_lt_30, n_le_30, n_tl_30, n_el_30, n_eq_30, n_ad_30, n_lt_31, n_le_31, n_tl_31, n_el_31, n_eq_31, n_ad_31, n_lt_32, n_le_32, n_tl_32, n_el_32, n_eq_32, n_ad_32, n_lt_60, n_le_60, n_tl_60, n_el_60, n_eq_60, n_ad_60, n_lt_99, n_le_99, n_tl_99, n_el_99, n_eq_99, n_ad_99, n_lt_100, n_le_100, n_tl_100, n_el_100, n_eq_100, n_ad_100, n_lt_144, n_le_144, n_tl_144, n_el_144, n_eq_144, n_ad_144, n_lt_4096, n_le_4096, n_tl_4096, n_el_4096, n_eq_4096, n_ad_4096, n_mulK, nI_add, pk_mul, n_lt, n_le, n_eq, n_eqM, n_ix, n_cl, e4, q1, q2, q3, if_false]
        simp only [e74, s74_0, s74_1, s74_2, s74_5, s74_6, s74_9, s74_12, k28, c110m, ir_k_i, ir_tl_i]
      · simp (disch := omega) only [e130, s130_0, s130_1, s130_2, s130_5, s130_6, s130_7, s130_8, s130_11, s130_14, s130_17, s130_18, s130_21, s130_23, s130_26, s130_27, mKin, hv, u_s, upd_n, x1, n_lt_0, n_le_0, n_tl_0, n_el_0, n_eq_0, n_ad_0, n_lt_1, n_le_1, n_tl_1, n_el_1, n_eq_1, n_ad_1, n_lt_2, n_le_2, n_tl_2, n_el_2, n_eq_2, n_ad_2, n_lt_3, n_le_3, n_tl_3, n_el_3, n_eq_3, n_ad_3, n_lt_4, n_le_4, n_tl_4, n_el_4, n_eq_4, n_ad_4, n_lt_5, n_le_5, n_tl_5, n_el_5, n_eq_5, n_ad_5, n_lt_6, n_le_6, n_tl_6, n_el_6, n_eq_6, n_ad_6, n_lt_10, n_le_10, n_tl_10, n_el_10, n_eq_10, n_ad_10, n_lt_11, n_le_11, n_tl_11, n_el_11, n_eq_11, n_ad_11, n_lt_12, n_le_12, n_tl_12, n_el_12, n_eq_12, n_ad_12, n_lt_13, n_le_13, n_tl_13, n_el_13, n_eq_13, n_ad_13, n_lt_15, n_le_15, n_tl_15, n_el_15, n_eq_15, n_ad_15, n_lt_20, n_le_20, n_tl_20, n_el_20, n_eq_20, n_ad_20, n_lt_30, n_le_30, n_tl_30, n_el_30, n_eq_30, n_ad_30, n_lt_31, n_le_31, n_tl_31, n_el_31, n_eq_31, n_ad_31, n_lt_32, n_le_32, n_tl_32, n_el_32, n_eq_32, n_ad_32, n_lt_60, n_le_60, n_tl_60, n_el_60, n_eq_60, n_ad_60, n_lt_99, n_le_99, n_tl_99, n_el_99, n_eq_99, n_ad_99, n_lt_100, n_le_100, n_tl_100, n_el_100, n_eq_100, n_ad_100, n_lt_144, n_le_144, n_tl_144, n_el_144, n_eq_144, n_ad_144, n_lt_4096, n_le_4096, n_tl_4096, n_el_4096, n_eq_4096, n_ad_4096, n_mulK, nI_add, pk_mul, n_lt, n_le, n_eq, n_eqM, n_ix, n_cl, hfull, ir_b_t, ir_k_i, ir_tl_i, i_10, if_true, if_false]
    · have hN12 : N < 12 := by omega
      obtain ⟨σ1, a1, a2, a3, a4, a5, a6⟩ := c28 (d := d + 48) r.1.1 hk hN12
      have hne := oI_m1 (b := N) (by omega)
      have en : ∀ q, q ≠ 1 → q ≠ 2 → q ≠ 25 → q ≠ 30 → (ir_up (ir_up σ1 25 6 0) 30 0 0) q = σ q := fun q a b c e => by rw [u_n _ _ _ e, u_n _ _ _ c, a2 q a b]
      have e1 : (ir_up (ir_up σ1 25 6 0) 30 0 0) 1 = σ1 1 := by rw [u_n _ _ _ (by decide), u_n _ _ _ (by decide)]
      have e2 : (ir_up (ir_up σ1 25 6 0) 30 0 0) 2 = upd (σ 2) N (nI k) := by rw [u_n _ _ _ (by decide), u_n _ _ _ (by decide), a3]
      have e25 : (ir_up (ir_up σ1 25 6 0) 30 0 0) 25 6 = 0 := by rw [u_n _ _ _ (by decide), u_s, upd_s]
      have e30 : (ir_up (ir_up σ1 25 6 0) 30 0 0) 30 0 = 0 := by rw [u_s, upd_s]
      have hc1 : ir_ev (d + 50) 74 [.ref 0, .int (nI k)] σ = some (some (.int (nI N)), ir_up (ir_up σ1 25 6 0) 30 0 0) := by
        simp only [e74, s74_0, s74_1, s74_2, s74_5, s74_6, s74_9, s74_12, a1, c110 hne, ir_k_i, ir_tl_i]
      generalize (ir_up (ir_up σ1 25 6 0) 30 0 0) = τ at *
      have e33 : τ 33 = σ 33 := en 33 (by decide) (by decide) (by decide) (by decide)
      have hn : ∀ q, q ≠ 33 → q ≠ 34 → (ir_up (ir_up (ir_up (ir_up τ 33 0 0) 33 34 (-1)) 34 N (nI k)) 33 1 (nI (N + 1))) q = τ q := fun q a b => by rw [u_n _ _ _ a, u_n _ _ _ b, u_n _ _ _ a, u_n _ _ _ a]
      have h33 : ∀ j, j ≠ 0 → j ≠ 34 → j ≠ 1 → (ir_up (ir_up (ir_up (ir_up τ 33 0 0) 33 34 (-1)) 34 N (nI k)) 33 1 (nI (N + 1))) 33 j = σ 33 j := fun j a b c => by
        rw [← e33]
        simp (disch := omega) only [u_s, upd_n, u_n]
      have f34 : (ir_up (ir_up (ir_up (ir_up τ 33 0 0) 33 34 (-1)) 34 N (nI k)) 33 1 (nI (N + 1))) 34 = upd (σ 34) N (nI k) := by
        rw [← en 34 (by decide) (by decide) (by decide) (by decide)]
        simp (disch := omega) only [u_s, u_n]
      have f1 : (ir_up (ir_up (ir_up (ir_up τ 33 0 0) 33 34 (-1)) 34 N (nI k)) 33 1 (nI (N + 1))) 33 1 = nI (N + 1) := by rw [u_s, upd_s]
      have fl : (ir_up (ir_up (ir_up (ir_up τ 33 0 0) 33 34 (-1)) 34 N (nI k)) 33 1 (nI (N + 1))) 33 34 = -1 := by simp (disch := omega) only [u_s, u_n, upd_s, upd_n]
      have hpred : nI (N + 1) - 1 = nI N := nI_pred N
      refine ⟨nI N, τ, ir_up (ir_up (ir_up (ir_up τ 33 0 0) 33 34 (-1)) 34 N (nI k)) 33 1 (nI (N + 1)), hc1, ?_, ?_⟩
      · simp (disch := omega) only [e130, s130_0, s130_1, s130_2, s130_5, s130_6, s130_7, s130_8, s130_11, s130_14, s130_17, s130_18, s130_21, s130_23, s130_28, s130_29, s130_32, s130_33, s130_36, s130_37, s130_40, s130_41, s130_42, s130_43i, s130_43r, s130_44, s130_47, s130_48, s130_49, s130_52, s130_53, s130_56, s130_57, s130_58, xA34, xL34, xa34, mKin, hv, u_s, u_n, upd_s, upd_n, e33, x1, m129, n_lt_0, n_le_0, n_tl_0, n_el_0, n_eq_0, n_ad_0, n_lt_1, n_le_1, n_tl_1, n_el_1, n_eq_1, n_ad_1, n_lt_2, n_le_2, n_tl_2, n_el_2, n_eq_2, n_ad_2, n_lt_3, n_le_3, n_tl_3, n_el_3, n_eq_3, n_ad_3, n_lt_4, n_le_4, n_tl_4, n_el_4, n_eq_4, n_ad_4, n_lt_5, n_le_5, n_tl_5, n_el_5, n_eq_5, n_ad_5, n_lt_6, n_le_6, n_tl_6, n_el_6, n_eq_6, n_ad_6, n_lt_10, n_le_10, n_tl_10, n_el_10, n_eq_10, n_ad_10, n_lt_11, n_le_11, n_tl_11, n_el_11, n_eq_11, n_ad_11, n_lt_12, n_le_12, n_tl_12, n_el_12, n_eq_12, n_ad_12, n_lt_13, n_le_13, n_tl_13, n_el_13, n_eq_13, n_ad_13, n_lt_15, n_le_15, n_tl_15, n_el_15, n_eq_15, n_ad_15, n_lt_20, n_le_20, n_tl_20, n_el_20, n_eq_20, n_ad_20, n_lt_30, n_le_30, n_tl_30, n_el_30, n_eq_30, n_ad_30, n_lt_31, n_le_31, n_tl_31, n_el_31, n_eq_31, n_ad_31, n_lt_32, n_le_32, n_tl_32, n_el_32, n_eq_32, n_ad_32, n_lt_60, n_le_60, n_tl_60, n_el_60, n_eq_60, n_ad_60, n_lt_99, n_le_99, n_tl_99, n_el_99, n_eq_99, n_ad_99, n_lt_100, n_le_100, n_tl_100, n_el_100, n_eq_100, n_ad_100, n_lt_144, n_le_144, n_tl_144, n_el_144, n_eq_144, n_ad_144, n_lt_4096, n_le_4096, n_tl_4096, n_el_4096, n_eq_4096, n_ad_4096, n_mulK, nI_add, pk_mul, n_lt, n_le, n_eq, n_eqM, n_ix, n_cl, hfull, hN12, hpred, decide_true, ir_b_t, ir_k_i, ir_tl_i, ir_k_v, ir_tl_v, i_10, if_true, if_false]
      · generalize (ir_up (ir_up (ir_up (ir_up τ 33 0 0) 33 34 (-1)) 34 N (nI k)) 33 1 (nI (N + 1))) = ρ at *
        have hnn : ∀ q, q ≠ 33 → q ≠ 34 → q ≠ 1 → q ≠ 2 → q ≠ 25 → q ≠ 30 → ρ q = σ q := fun q a b e f g h => by rw [hn q a b, en q e f g h]
        have g1 : ρ 1 = σ1 1 := by rw [hn 1 (by decide) (by decide), e1]
        have g2 : ρ 2 = upd (σ 2) N (nI k) := by rw [hn 2 (by decide) (by decide), e2]
        have g2' : ∀ x, x < N → ρ 2 x = σ 2 x := fun x hx => by rw [g2, upd_n _ _ (by omega)]
        refine RR_of (RA_ch (N' := N + 1) (m' := m) (F' := F) (C' := C) (K' := K) (LA' := LA) (LB' := LB) r ⟨R1_node hk hN12 r.1.1 (by rw [g1]; exact a4) f1 (by rw [g1]; exact a5) (h33 3 (by decide) (by decide) (by decide)) g2 f34 (by rw [g1]; exact a6) (hnn 3 (by decide) (by decide) (by decide) (by decide) (by decide) (by decide)) (hnn 4 (by decide) (by decide) (by decide) (by decide) (by decide) (by decide)) (hnn 5 (by decide) (by decide) (by decide) (by decide) (by decide) (by decide)) (hnn 35 (by decide) (by decide) (by decide) (by decide) (by decide) (by decide)) (hnn 36 (by decide) (by decide) (by decide) (by decide) (by decide) (by decide)), ?_, ?_, R4_c (fun c hc => ?_) (h33 17 (by decide) (by decide) (by decide)) r.1.2.2.2.1, ?_⟩ (hnn 31 (by decide) (by decide) (by decide) (by decide) (by decide) (by decide)) (hnn 32 (by decide) (by decide) (by decide) (by decide) (by decide) (by decide)) (hnn 49 (by decide) (by decide) (by decide) (by decide) (by decide) (by decide)) (h33 22 (by decide) (by decide) (by decide)) (by rw [hn 25 (by decide) (by decide)]; exact e25) (by rw [hn 30 (by decide) (by decide)]; exact e30) fl)
        · obtain ⟨t1, t2, t3, t4, t5, t6, t7, t8, t9, t10, t11⟩ := r.1.2.1
          have n37 := hnn 37 (by decide) (by decide) (by decide) (by decide) (by decide) (by decide)
          have n38 := hnn 38 (by decide) (by decide) (by decide) (by decide) (by decide) (by decide)
          have n39 := hnn 39 (by decide) (by decide) (by decide) (by decide) (by decide) (by decide)
          have n40 := hnn 40 (by decide) (by decide) (by decide) (by decide) (by decide) (by decide)
          have n6 := hnn 6 (by decide) (by decide) (by decide) (by decide) (by decide) (by decide)
          have n7 := hnn 7 (by decide) (by decide) (by decide) (by decide) (by decide) (by decide)
          have n8 := hnn 8 (by decide) (by decide) (by decide) (by decide) (by decide) (by decide)
          have n9 := hnn 9 (by decide) (by decide) (by decide) (by decide) (by decide) (by decide)
          have n10 := hnn 10 (by decide) (by decide) (by decide) (by decide) (by decide) (by decide)
          unfold R2
          rw [n37, n38, n39, n40, n6, n7, n8, n9, n10, h33 10 (by decide) (by decide) (by decide)]
          refine ⟨t1, t2, t3, t4, t5, t6, t7, fun a b ha hb => ?_, fun a b s ha hb hs hbit => ?_, fun n hn => nod_mono (by omega) (t10 n hn), nod_mono (by omega) t11⟩
          · rcases t8 a b ha hb with q | ⟨q1, q2, q3, q4, j, hj, q5⟩
            · exact Or.inl q
            · exact Or.inr ⟨by omega, by omega, by rw [g2' a q1]; exact q3, by rw [g2' b q2]; exact q4, j, by omega, q5⟩
          · obtain ⟨q1, q2⟩ := t9 a b s ha hb hs hbit
            exact ⟨by omega, by rw [g2' a q1]; exact q2⟩
        · obtain ⟨t1, t2, t3, t4⟩ := r.1.2.2.1
          have n18 := hnn 18 (by decide) (by decide) (by decide) (by decide) (by decide) (by decide)
          have n19 := hnn 19 (by decide) (by decide) (by decide) (by decide) (by decide) (by decide)
          have n42 := hnn 42 (by decide) (by decide) (by decide) (by decide) (by decide) (by decide)
          have n43 := hnn 43 (by decide) (by decide) (by decide) (by decide) (by decide) (by decide)
          have n44 := hnn 44 (by decide) (by decide) (by decide) (by decide) (by decide) (by decide)
          have n45 := hnn 45 (by decide) (by decide) (by decide) (by decide) (by decide) (by decide)
          refine ⟨t1, by rw [n18]; exact t2, by rw [h33 12 (by decide) (by decide) (by decide)]; exact t3, fun f hf => ?_⟩
          obtain ⟨y1, y2, y3, y4, y5⟩ := t4 f hf
          unfold fK fA fB fC at *
          rw [n19, n42, n43, n44, n45]
          refine ⟨y1, y2, y3, y4, ?_⟩
          rcases y5 with ⟨hk, x, hx, ha⟩ | ⟨hk, x, hx, ha⟩ | ⟨hk, ⟨x, hx, ha⟩, y, hy, hb⟩ | ⟨hk, ⟨x, hx, ha, hx2⟩, ⟨y, hy, hb⟩, z, hz, hc⟩ | ⟨hk, ⟨x, hx, ha, hx2⟩, ⟨y, hy, hb, hy2⟩, z, hz, hc⟩ | ⟨hk, ⟨x, hx, ha⟩, y, hy, hb⟩
          · exact Or.inl ⟨hk, x, hx, ha⟩
          · exact Or.inr (Or.inl ⟨hk, x, by omega, ha⟩)
          · exact Or.inr (Or.inr (Or.inl ⟨hk, ⟨x, hx, ha⟩, y, by omega, hb⟩))
          · exact Or.inr (Or.inr (Or.inr (Or.inl ⟨hk, ⟨x, by omega, ha, by rw [g2' x hx]; exact hx2⟩, ⟨y, by omega, hb⟩, z, hz, hc⟩)))
          · exact Or.inr (Or.inr (Or.inr (Or.inr (Or.inl ⟨hk, ⟨x, by omega, ha, by rw [g2' x hx]; exact hx2⟩, ⟨y, by omega, hb, by rw [g2' y hy]; exact hy2⟩, z, by omega, hc⟩))))
          · exact Or.inr (Or.inr (Or.inr (Or.inr (Or.inr ⟨hk, ⟨x, by omega, ha⟩, y, hy, hb⟩))))
        · have : c = 20 ∨ c = 21 ∨ c = 46 ∨ c = 47 := by simpa using hc
          exact hnn c (by omega) (by omega) (by omega) (by omega) (by omega) (by omega)
        · obtain ⟨t1, t2, t3, t4⟩ := r.1.2.2.2.2
          have n22 := hnn 22 (by decide) (by decide) (by decide) (by decide) (by decide) (by decide)
          have n23 := hnn 23 (by decide) (by decide) (by decide) (by decide) (by decide) (by decide)
          have n51 := hnn 51 (by decide) (by decide) (by decide) (by decide) (by decide) (by decide)
          have n52 := hnn 52 (by decide) (by decide) (by decide) (by decide) (by decide) (by decide)
          have n53 := hnn 53 (by decide) (by decide) (by decide) (by decide) (by decide) (by decide)
          have n54 := hnn 54 (by decide) (by decide) (by decide) (by decide) (by decide) (by decide)
          have n55 := hnn 55 (by decide) (by decide) (by decide) (by decide) (by decide) (by decide)
          refine ⟨t1, by rw [n22]; exact t2, by rw [h33 26 (by decide) (by decide) (by decide)]; exact t3, fun l hl => ?_⟩
          rw [n23, n51, n52, n53, n54, n55]
          obtain ⟨y1, y2, y3, y4, y5, y6, y7, y8⟩ := t4 l hl
          refine ⟨y1, y2, y3, y4, y5, y6, ?_, y8⟩
          rcases y7 with ⟨hk, ⟨x, hx, ha⟩, y, hy, hb⟩ | ⟨hk, ⟨x, hx, ha⟩, ⟨y, hy, hb⟩, z, hz, hc⟩ | ⟨hk, ⟨x, hx, ha⟩, y, hy, hb⟩ | ⟨hk, x, hx, ha⟩
          · exact Or.inl ⟨hk, ⟨x, by omega, ha⟩, y, by omega, hb⟩
          · exact Or.inr (Or.inl ⟨hk, ⟨x, by omega, ha⟩, ⟨y, hy, hb⟩, z, hz, hc⟩)
          · exact Or.inr (Or.inr (Or.inl ⟨hk, ⟨x, by omega, ha⟩, y, by omega, hb⟩))
          · exact Or.inr (Or.inr (Or.inr ⟨hk, x, hx, ha⟩))
end NP
