/-! Table.start, finish; NetSchool.prepare -/
theorem ir_min_n {a b : Nat} (ha : a < 2147483648) (hb : b < 2147483648) : ir_min (nI a) (nI b) = nI (min a b) := by
  unfold ir_min
  by_cases h : b < a
  · rw [if_pos (by rw [n_lt hb ha]; exact h), Nat.min_eq_right (by omega)]
  · rw [if_neg (by rw [n_lt hb ha]; exact h), Nat.min_eq_left (by omega)]
theorem c59_loop {E : Nat → List Value → ir_S → Option ir_R} {C : Nat} {v1 v2 : Value} (hC : C ≤ 12) : ∀ n i σ, i + n = 2 ^ C → σ 25 5 = nI C → (∀ s, s < i → σ 29 s = -1) → ∃ σ', ir_run E 59 (22, [.ref 25, v1, v2, .int (nI i)], [], σ) = some (none, σ') ∧ (∀ c, c ≠ 25 → c ≠ 29 → σ' c = σ c) ∧ (∀ j, j ≠ 6 → σ' 25 j = σ 25 j) ∧ σ' 25 6 = 1 ∧ ∀ s, s < 2 ^ C → σ' 29 s = -1 := by
  have h4 := pC hC
  have hsh := s_shl (k := C) (by omega)
  intro n
  induction n with
  | zero =>
    intro i σ hi h5 hm
    have hi : i = 2 ^ C := by omega
    subst hi
    refine ⟨ir_up σ 25 6 1, ?_, fun c q1 q2 => u_n _ _ _ q1, fun j q => by rw [u_s, upd_n _ _ q], by rw [u_s, upd_s], fun s hs => by rw [u_n _ _ _ (by decide)]; exact hm s (by omega)⟩
    rw [s59_22]
    simp (disch := omega) only [e59, s59_0, s59_1, s59_2, s59_4, s59_7, s59_10, s59_11, s59_12, s59_14, s59_17, s59_20, s59_21, s59_23, s59_24, s59_25, s59_28, s59_29, s59_45, s59_32, s59_46, s59_33, s59_47b0, s59_47b1, s59_36, s59_50, s59_37, s59_38, s59_39, s59_42, h5, hsh, n_lt_0, n_le_0, n_tl_0, n_el_0, n_eq_0, n_ad_0, n_lt_1, n_le_1, n_tl_1, n_el_1, n_eq_1, n_ad_1, n_lt_2, n_le_2, n_tl_2, n_el_2, n_eq_2, n_ad_2, n_lt_3, n_le_3, n_tl_3, n_el_3, n_eq_3, n_ad_3, n_lt_4, n_le_4, n_tl_4, n_el_4, n_eq_4, n_ad_4, n_lt_5, n_le_5, n_tl_5, n_el_5, n_eq_5, n_ad_5, n_lt_6, n_le_6, n_tl_6, n_el_6, n_eq_6, n_ad_6, n_lt_10, n_le_10, n_tl_10, n_el_10, n_eq_10, n_ad_10, n_lt_11, n_le_11, n_tl_11, n_el_11, n_eq_11, n_ad_11, n_lt_12, n_le_12, n_tl_12, n_el_12, n_eq_12, n_ad_12, n_lt_13, n_le_13, n_tl_13, n_el_13, n_eq_13, n_ad_13, n_lt_15, n_le_15, n_tl_15, n_el_15, n_eq_15, n_ad_15, n_lt_20, n_le_20, n_tl_20, n_el_20, n_eq_20, n_ad_20, n_lt_30, n_le_30, n_tl_30, n_el_30, n_eq_30, n_ad_30, n_lt_31, n_le_31, n_tl_31, n_el_31, n_eq_31, n_ad_31, n_lt_32, n_le_32, n_tl_32, n_el_32, n_eq_32, n_ad_32, n_lt_60, n_le_60, n_tl_60, n_el_60, n_eq_60, n_ad_60, n_lt_99, n_le_99, n_tl_99, n_el_99, n_eq_99, n_ad_99, n_lt_100, n_le_100, n_tl_100, n_el_100, n_eq_100, n_ad_100, n_lt_144, n_le_144, n_tl_144, n_el_144, n_eq_144, n_ad_144, n_lt_4096, n_le_4096, n_tl_4096, n_el_4096, n_eq_4096, n_ad_4096, n_mulK, nI_add, pk_mul, n_lt, n_le, n_eq, n_eqM, n_ix, n_cl, Nat.le_refl, if_true]
  | succ n ih =>
    intro i σ hi h5 hm
    have q1 : ¬ 2 ^ C ≤ i := by omega
    have q2 : i < 4096 := by omega
    obtain ⟨σ', z1, z2, z3, z4, z5⟩ := ih (i + 1) (ir_up σ 29 i (-1)) (by omega) (by rw [u_n _ _ _ (by decide)]; exact h5) (fun s hs => by
      rw [u_s]
      by_cases e : s = i
      · rw [e, upd_s]
      · rw [upd_n _ _ e]; exact hm s (by omega))
    refine ⟨σ', ?_, fun c q1 q2 => by rw [z2 c q1 q2, u_n _ _ _ q2], fun j q => by rw [z3 j q, u_n _ _ _ (by decide)], z4, z5⟩
    rw [s59_22]
    simp (disch := omega) only [e59, s59_0, s59_1, s59_2, s59_4, s59_7, s59_10, s59_11, s59_12, s59_14, s59_17, s59_20, s59_21, s59_23, s59_24, s59_25, s59_28, s59_29, s59_45, s59_32, s59_46, s59_33, s59_47b0, s59_47b1, s59_36, s59_50, s59_37, s59_38, s59_39, s59_42, xA29, xL29, xa29, h5, hsh, n_lt_0, n_le_0, n_tl_0, n_el_0, n_eq_0, n_ad_0, n_lt_1, n_le_1, n_tl_1, n_el_1, n_eq_1, n_ad_1, n_lt_2, n_le_2, n_tl_2, n_el_2, n_eq_2, n_ad_2, n_lt_3, n_le_3, n_tl_3, n_el_3, n_eq_3, n_ad_3, n_lt_4, n_le_4, n_tl_4, n_el_4, n_eq_4, n_ad_4, n_lt_5, n_le_5, n_tl_5, n_el_5, n_eq_5, n_ad_5, n_lt_6, n_le_6, n_tl_6, n_el_6, n_eq_6, n_ad_6, n_lt_10, n_le_10, n_tl_10, n_el_10, n_eq_10, n_ad_10, n_lt_11, n_le_11, n_tl_11, n_el_11, n_eq_11, n_ad_11, n_lt_12, n_le_12, n_tl_12, n_el_12, n_eq_12, n_ad_12, n_lt_13, n_le_13, n_tl_13, n_el_13, n_eq_13, n_ad_13, n_lt_15, n_le_15, n_tl_15, n_el_15, n_eq_15, n_ad_15, n_lt_20, n_le_20, n_tl_20, n_el_20, n_eq_20, n_ad_20, n_lt_30, n_le_30, n_tl_30, n_el_30, n_eq_30, n_ad_30, n_lt_31, n_le_31, n_tl_31, n_el_31, n_eq_31, n_ad_31, n_lt_32, n_le_32, n_tl_32, n_el_32, n_eq_32, n_ad_32, n_lt_60, n_le_60, n_tl_60, n_el_60, n_eq_60, n_ad_60, n_lt_99, n_le_99, n_tl_99, n_el_99, n_eq_99, n_ad_99, n_lt_100, n_le_100, n_tl_100, n_el_100, n_eq_100, n_ad_100, n_lt_144, n_le_144, n_tl_144, n_el_144, n_eq_144, n_ad_144, n_lt_4096, n_le_4096, n_tl_4096, n_el_4096, n_eq_4096, n_ad_4096, n_mulK, nI_add, pk_mul, n_lt, n_le, n_eq, n_eqM, n_ix, n_cl, if_neg q1, q2, decide_true, if_true]
    exact z1
theorem c59 {d K C : Nat} {σ : ir_S} (hK : K ≤ 12) (hC : C ≤ 12) : ∃ σ', ir_ev (d + 1) 59 [.ref 25, .int (nI K), .int (nI C)] σ = some (none, σ') ∧ (∀ c, c ≠ 25 → c ≠ 29 → σ' c = σ c) ∧ σ' 25 4 = nI K ∧ σ' 25 5 = nI C ∧ σ' 25 6 = 1 ∧ ∀ s, s < 2 ^ C → σ' 29 s = -1 := by
  obtain ⟨σ', z1, z2, z3, z4, z5⟩ := c59_loop (E := ir_ev d) (C := C) (v1 := .int (nI K)) (v2 := .int (nI C)) hC (2 ^ C) 0 (ir_up (ir_up σ 25 4 (nI K)) 25 5 (nI C)) (by omega) (by rw [u_s, upd_s]) (fun s hs => by omega)
  have e1 : ir_min (nI K) 12 = nI K := by
    have := ir_min_n (a := K) (b := 12) (by omega) (by omega)
    rw [Nat.min_eq_left hK] at this
    exact this
  have e2 : ir_min (nI C) 12 = nI C := by
    have := ir_min_n (a := C) (b := 12) (by omega) (by omega)
    rw [Nat.min_eq_left hC] at this
    exact this
  refine ⟨σ', ?_, fun c q1 q2 => by rw [z2 c q1 q2, u_n _ _ _ q1, u_n _ _ _ q1], by rw [z3 4 (by decide), u_s, upd_n _ _ (by decide), u_s, upd_s], by rw [z3 5 (by decide), u_s, upd_s], z4, z5⟩
  simp only [e59, s59_0, s59_1, s59_2, s59_4, s59_7, s59_10, s59_11, s59_12, s59_14, s59_17, s59_20, s59_21, e1, e2]
  exact z1
theorem alN_s (A : Nat → Int32) (C c : Nat) : alN A (C + 1) c = if A C = A c then alN A C c ||| 2 ^ C else alN A C c := by
  unfold alN
  rw [List.range_succ, List.foldl_append]
  rfl
theorem alN_congr {A B : Nat → Int32} {c : Nat} : ∀ {C : Nat}, (∀ i, i < C → A i = B i) → A c = B c → alN A C c = alN B C c := by
  intro C
  induction C with
  | zero => intro _ _; rfl
  | succ C ih =>
    intro h hc
    rw [alN_s, alN_s, ih (fun i hi => h i (by omega)) hc, h C (by omega), hc]
theorem c61_in {E : Nat → List Value → ir_S → Option ir_R} {C l c : Nat} {σ : ir_S} {v2 : Value} (hC : C ≤ 12) (hl : l < 12) (hc : c < C) (h5 : σ 25 5 = nI C) : ∀ n o, o + n = C → ir_run E 61 (43, [.ref 25, .int (nI l), v2, .int (nI (l * 12)), .int (nI c), .int (nI (alN (fun i => σ 26 (l * 12 + i)) o c)), .int (nI o)], [], σ) = ir_run E 61 (88, [.ref 25, .int (nI l), v2, .int (nI (l * 12)), .int (nI c), .int (nI (alN (fun i => σ 26 (l * 12 + i)) C c)), .int (nI C)], [], σ) := by
  intro n
  induction n with
  | zero =>
    intro o ho
    have ho : o = C := by omega
    subst ho
    rw [s61_43]
    simp (disch := omega) only [s61_45, s61_46, s61_49, h5, n_lt_0, n_le_0, n_tl_0, n_el_0, n_eq_0, n_ad_0, n_lt_1, n_le_1, n_tl_1, n_el_1, n_eq_1, n_ad_1, n_lt_2, n_le_2, n_tl_2, n_el_2, n_eq_2, n_ad_2, n_lt_3, n_le_3, n_tl_3, n_el_3, n_eq_3, n_ad_3, n_lt_4, n_le_4, n_tl_4, n_el_4, n_eq_4, n_ad_4, n_lt_5, n_le_5, n_tl_5, n_el_5, n_eq_5, n_ad_5, n_lt_6, n_le_6, n_tl_6, n_el_6, n_eq_6, n_ad_6, n_lt_10, n_le_10, n_tl_10, n_el_10, n_eq_10, n_ad_10, n_lt_11, n_le_11, n_tl_11, n_el_11, n_eq_11, n_ad_11, n_lt_12, n_le_12, n_tl_12, n_el_12, n_eq_12, n_ad_12, n_lt_13, n_le_13, n_tl_13, n_el_13, n_eq_13, n_ad_13, n_lt_15, n_le_15, n_tl_15, n_el_15, n_eq_15, n_ad_15, n_lt_20, n_le_20, n_tl_20, n_el_20, n_eq_20, n_ad_20, n_lt_30, n_le_30, n_tl_30, n_el_30, n_eq_30, n_ad_30, n_lt_31, n_le_31, n_tl_31, n_el_31, n_eq_31, n_ad_31, n_lt_32, n_le_32, n_tl_32, n_el_32, n_eq_32, n_ad_32, n_lt_60, n_le_60, n_tl_60, n_el_60, n_eq_60, n_ad_60, n_lt_99, n_le_99, n_tl_99, n_el_99, n_eq_99, n_ad_99, n_lt_100, n_le_100, n_tl_100, n_el_100, n_eq_100, n_ad_100, n_lt_144, n_le_144, n_tl_144, n_el_144, n_eq_144, n_ad_144, n_lt_4096, n_le_4096, n_tl_4096, n_el_4096, n_eq_4096, n_ad_4096, n_mulK, nI_add, pk_mul, n_lt, n_le, n_eq, n_eqM, n_ix, n_cl, Nat.le_refl, if_true]
  | succ n ih =>
    intro o ho
    have q1 : ¬ C ≤ o := by omega
    have q2 : l * 12 + o < 144 := by omega
    have q3 : l * 12 + c < 144 := by omega
    have hw := alN_lt (A := fun i => σ 26 (l * 12 + i)) (C := o) (c := c) (by omega)
    have hsh := s_shl (k := o) (by omega)
    have hor := s_or hw (p2_lt (k := o) (by omega))
    have z := ih (o + 1) (by omega)
    rw [alN_s] at z
    rw [s61_43]
    by_cases e : σ 26 (l * 12 + o) = σ 26 (l * 12 + c)
    · rw [if_pos e] at z
      simp (disch := omega) only [s61_45, s61_46, s61_49, s61_52, s61_53, s61_56, s61_57, s61_59, s61_60, s61_61, s61_62, s61_65, s61_66, s61_68, s61_69, s61_70, s61_73, s61_75, s61_76, s61_78, s61_79, s61_80, s61_82, s61_85, xA26, xL26, xa26, h5, n_lt_0, n_le_0, n_tl_0, n_el_0, n_eq_0, n_ad_0, n_lt_1, n_le_1, n_tl_1, n_el_1, n_eq_1, n_ad_1, n_lt_2, n_le_2, n_tl_2, n_el_2, n_eq_2, n_ad_2, n_lt_3, n_le_3, n_tl_3, n_el_3, n_eq_3, n_ad_3, n_lt_4, n_le_4, n_tl_4, n_el_4, n_eq_4, n_ad_4, n_lt_5, n_le_5, n_tl_5, n_el_5, n_eq_5, n_ad_5, n_lt_6, n_le_6, n_tl_6, n_el_6, n_eq_6, n_ad_6, n_lt_10, n_le_10, n_tl_10, n_el_10, n_eq_10, n_ad_10, n_lt_11, n_le_11, n_tl_11, n_el_11, n_eq_11, n_ad_11, n_lt_12, n_le_12, n_tl_12, n_el_12, n_eq_12, n_ad_12, n_lt_13, n_le_13, n_tl_13, n_el_13, n_eq_13, n_ad_13, n_lt_15, n_le_15, n_tl_15, n_el_15, n_eq_15, n_ad_15, n_lt_20, n_le_20, n_tl_20, n_el_20, n_eq_20, n_ad_20, n_lt_30, n_le_30, n_tl_30, n_el_30, n_eq_30, n_ad_30, n_lt_31, n_le_31, n_tl_31, n_el_31, n_eq_31, n_ad_31, n_lt_32, n_le_32, n_tl_32, n_el_32, n_eq_32, n_ad_32, n_lt_60, n_le_60, n_tl_60, n_el_60, n_eq_60, n_ad_60, n_lt_99, n_le_99, n_tl_99, n_el_99, n_eq_99, n_ad_99, n_lt_100, n_le_100, n_tl_100, n_el_100, n_eq_100, n_ad_100, n_lt_144, n_le_144, n_tl_144, n_el_144, n_eq_144, n_ad_144, n_lt_4096, n_le_4096, n_tl_4096, n_el_4096, n_eq_4096, n_ad_4096, n_mulK, nI_add, pk_mul, n_lt, n_le, n_eq, n_eqM, n_ix, n_cl, if_neg q1, q2, q3, decide_true, if_true, e, hsh, hor]
      exact z
    · rw [if_neg e] at z
      simp (disch := omega) only [s61_45, s61_46, s61_49, s61_52, s61_53, s61_56, s61_57, s61_59, s61_60, s61_61, s61_62, s61_65, s61_66, s61_68, s61_69, s61_70, s61_82, s61_85, xA26, xL26, xa26, h5, n_lt_0, n_le_0, n_tl_0, n_el_0, n_eq_0, n_ad_0, n_lt_1, n_le_1, n_tl_1, n_el_1, n_eq_1, n_ad_1, n_lt_2, n_le_2, n_tl_2, n_el_2, n_eq_2, n_ad_2, n_lt_3, n_le_3, n_tl_3, n_el_3, n_eq_3, n_ad_3, n_lt_4, n_le_4, n_tl_4, n_el_4, n_eq_4, n_ad_4, n_lt_5, n_le_5, n_tl_5, n_el_5, n_eq_5, n_ad_5, n_lt_6, n_le_6, n_tl_6, n_el_6, n_eq_6, n_ad_6, n_lt_10, n_le_10, n_tl_10, n_el_10, n_eq_10, n_ad_10, n_lt_11, n_le_11, n_tl_11, n_el_11, n_eq_11, n_ad_11, n_lt_12, n_le_12, n_tl_12, n_el_12, n_eq_12, n_ad_12, n_lt_13, n_le_13, n_tl_13, n_el_13, n_eq_13, n_ad_13, n_lt_15, n_le_15, n_tl_15, n_el_15, n_eq_15, n_ad_15, n_lt_20, n_le_20, n_tl_20, n_el_20, n_eq_20, n_ad_20, n_lt_30, n_le_30, n_tl_30, n_el_30, n_eq_30, n_ad_30, n_lt_31, n_le_31, n_tl_31, n_el_31, n_eq_31, n_ad_31, n_lt_32, n_le_32, n_tl_32, n_el_32, n_eq_32, n_ad_32, n_lt_60, n_le_60, n_tl_60, n_el_60, n_eq_60, n_ad_60, n_lt_99, n_le_99, n_tl_99, n_el_99, n_eq_99, n_ad_99, n_lt_100, n_le_100, n_tl_100, n_el_100, n_eq_100, n_ad_100, n_lt_144, n_le_144, n_tl_144, n_el_144, n_eq_144, n_ad_144, n_lt_4096, n_le_4096, n_tl_4096, n_el_4096, n_eq_4096, n_ad_4096, n_mulK, nI_add, pk_mul, n_lt, n_le, n_eq, n_eqM, n_ix, n_cl, if_neg q1, q2, q3, decide_true, if_true, if_neg e]
      exact z
theorem c61_loop {E : Nat → List Value → ir_S → Option ir_R} {C l : Nat} {v2 : Value} (hC : C ≤ 12) (hl : l < 12) : ∀ n c σ l5 l6, c + n = C → σ 25 5 = nI C → ∃ σ', ir_run E 61 (28, [.ref 25, .int (nI l), v2, .int (nI (l * 12)), .int (nI c), l5, l6], [], σ) = some (none, σ') ∧ (∀ q, q ≠ 27 → σ' q = σ q) ∧ (∀ j, j < l * 12 + c ∨ l * 12 + C ≤ j → σ' 27 j = σ 27 j) ∧ ∀ e, c ≤ e → e < C → σ' 27 (l * 12 + e) = nI (alN (fun i => σ 26 (l * 12 + i)) C e) := by
  intro n
  induction n with
  | zero =>
    intro c σ l5 l6 hc h5
    have hc : c = C := by omega
    subst hc
    refine ⟨σ, ?_, fun _ _ => rfl, fun _ _ => rfl, fun e h1 h2 => by omega⟩
    rw [s61_28]
    simp (disch := omega) only [s61_30, s61_31, s61_34, s61_105, h5, n_lt_0, n_le_0, n_tl_0, n_el_0, n_eq_0, n_ad_0, n_lt_1, n_le_1, n_tl_1, n_el_1, n_eq_1, n_ad_1, n_lt_2, n_le_2, n_tl_2, n_el_2, n_eq_2, n_ad_2, n_lt_3, n_le_3, n_tl_3, n_el_3, n_eq_3, n_ad_3, n_lt_4, n_le_4, n_tl_4, n_el_4, n_eq_4, n_ad_4, n_lt_5, n_le_5, n_tl_5, n_el_5, n_eq_5, n_ad_5, n_lt_6, n_le_6, n_tl_6, n_el_6, n_eq_6, n_ad_6, n_lt_10, n_le_10, n_tl_10, n_el_10, n_eq_10, n_ad_10, n_lt_11, n_le_11, n_tl_11, n_el_11, n_eq_11, n_ad_11, n_lt_12, n_le_12, n_tl_12, n_el_12, n_eq_12, n_ad_12, n_lt_13, n_le_13, n_tl_13, n_el_13, n_eq_13, n_ad_13, n_lt_15, n_le_15, n_tl_15, n_el_15, n_eq_15, n_ad_15, n_lt_20, n_le_20, n_tl_20, n_el_20, n_eq_20, n_ad_20, n_lt_30, n_le_30, n_tl_30, n_el_30, n_eq_30, n_ad_30, n_lt_31, n_le_31, n_tl_31, n_el_31, n_eq_31, n_ad_31, n_lt_32, n_le_32, n_tl_32, n_el_32, n_eq_32, n_ad_32, n_lt_60, n_le_60, n_tl_60, n_el_60, n_eq_60, n_ad_60, n_lt_99, n_le_99, n_tl_99, n_el_99, n_eq_99, n_ad_99, n_lt_100, n_le_100, n_tl_100, n_el_100, n_eq_100, n_ad_100, n_lt_144, n_le_144, n_tl_144, n_el_144, n_eq_144, n_ad_144, n_lt_4096, n_le_4096, n_tl_4096, n_el_4096, n_eq_4096, n_ad_4096, n_mulK, nI_add, pk_mul, n_lt, n_le, n_eq, n_eqM, n_ix, n_cl, Nat.le_refl, if_true]
  | succ n ih =>
    intro c σ l5 l6 hc h5
    have q1 : ¬ C ≤ c := by omega
    have q2 : l * 12 + c < 144 := by omega
    have hin := c61_in (E := E) (v2 := v2) hC hl (show c < C by omega) h5 C 0 (by omega)
    obtain ⟨σ', z1, z2, z3, z4⟩ := ih (c + 1) (ir_up σ 27 (l * 12 + c) (nI (alN (fun i => σ 26 (l * 12 + i)) C c))) (.int (nI (alN (fun i => σ 26 (l * 12 + i)) C c))) (.int (nI C)) (by omega) (by rw [u_n _ _ _ (by decide)]; exact h5)
    have e26 : (ir_up σ 27 (l * 12 + c) (nI (alN (fun i => σ 26 (l * 12 + i)) C c))) 26 = σ 26 := u_n _ _ _ (by decide)
    refine ⟨σ', ?_, fun q hq => by rw [z2 q hq, u_n _ _ _ hq], fun j hj => by rw [z3 j (by omega), u_s, upd_n _ _ (by omega)], fun e h1 h2 => ?_⟩
    · rw [s61_28]
      simp (disch := omega) only [s61_30, s61_31, s61_34, s61_37, s61_38, s61_40, s61_41, h5, n_lt_0, n_le_0, n_tl_0, n_el_0, n_eq_0, n_ad_0, n_lt_1, n_le_1, n_tl_1, n_el_1, n_eq_1, n_ad_1, n_lt_2, n_le_2, n_tl_2, n_el_2, n_eq_2, n_ad_2, n_lt_3, n_le_3, n_tl_3, n_el_3, n_eq_3, n_ad_3, n_lt_4, n_le_4, n_tl_4, n_el_4, n_eq_4, n_ad_4, n_lt_5, n_le_5, n_tl_5, n_el_5, n_eq_5, n_ad_5, n_lt_6, n_le_6, n_tl_6, n_el_6, n_eq_6, n_ad_6, n_lt_10, n_le_10, n_tl_10, n_el_10, n_eq_10, n_ad_10, n_lt_11, n_le_11, n_tl_11, n_el_11, n_eq_11, n_ad_11, n_lt_12, n_le_12, n_tl_12, n_el_12, n_eq_12, n_ad_12, n_lt_13, n_le_13, n_tl_13, n_el_13, n_eq_13, n_ad_13, n_lt_15, n_le_15, n_tl_15, n_el_15, n_eq_15, n_ad_15, n_lt_20, n_le_20, n_tl_20, n_el_20, n_eq_20, n_ad_20, n_lt_30, n_le_30, n_tl_30, n_el_30, n_eq_30, n_ad_30, n_lt_31, n_le_31, n_tl_31, n_el_31, n_eq_31, n_ad_31, n_lt_32, n_le_32, n_tl_32, n_el_32, n_eq_32, n_ad_32, n_lt_60, n_le_60, n_tl_60, n_el_60, n_eq_60, n_ad_60, n_lt_99, n_le_99, n_tl_99, n_el_99, n_eq_99, n_ad_99, n_lt_100, n_le_100, n_tl_100, n_el_100, n_eq_100, n_ad_100, n_lt_144, n_le_144, n_tl_144, n_el_144, n_eq_144, n_ad_144, n_lt_4096, n_le_4096, n_tl_4096, n_el_4096, n_eq_4096, n_ad_4096, n_mulK, nI_add, pk_mul, n_lt, n_le, n_eq, n_eqM, n_ix, n_cl, if_neg q1]
      refine Eq.trans hin ?_
      simp (disch := omega) only [s61_88, s61_89, s61_92, s61_93, s61_95, s61_96, s61_98, s61_99, s61_102, xA27, xL27, xa27, n_lt_0, n_le_0, n_tl_0, n_el_0, n_eq_0, n_ad_0, n_lt_1, n_le_1, n_tl_1, n_el_1, n_eq_1, n_ad_1, n_lt_2, n_le_2, n_tl_2, n_el_2, n_eq_2, n_ad_2, n_lt_3, n_le_3, n_tl_3, n_el_3, n_eq_3, n_ad_3, n_lt_4, n_le_4, n_tl_4, n_el_4, n_eq_4, n_ad_4, n_lt_5, n_le_5, n_tl_5, n_el_5, n_eq_5, n_ad_5, n_lt_6, n_le_6, n_tl_6, n_el_6, n_eq_6, n_ad_6, n_lt_10, n_le_10, n_tl_10, n_el_10, n_eq_10, n_ad_10, n_lt_11, n_le_11, n_tl_11, n_el_11, n_eq_11, n_ad_11, n_lt_12, n_le_12, n_tl_12, n_el_12, n_eq_12, n_ad_12, n_lt_13, n_le_13, n_tl_13, n_el_13, n_eq_13, n_ad_13, n_lt_15, n_le_15, n_tl_15, n_el_15, n_eq_15, n_ad_15, n_lt_20, n_le_20, n_tl_20, n_el_20, n_eq_20, n_ad_20, n_lt_30, n_le_30, n_tl_30, n_el_30, n_eq_30, n_ad_30, n_lt_31, n_le_31, n_tl_31, n_el_31, n_eq_31, n_ad_31, n_lt_32, n_le_32, n_tl_32, n_el_32, n_eq_32, n_ad_32, n_lt_60, n_le_60, n_tl_60, n_el_60, n_eq_60, n_ad_60, n_lt_99, n_le_99, n_tl_99, n_el_99, n_eq_99, n_ad_99, n_lt_100, n_le_100, n_tl_100, n_el_100, n_eq_100, n_ad_100, n_lt_144, n_le_144, n_tl_144, n_el_144, n_eq_144, n_ad_144, n_lt_4096, n_le_4096, n_tl_4096, n_el_4096, n_eq_4096, n_ad_4096, n_mulK, nI_add, pk_mul, n_lt, n_le, n_eq, n_eqM, n_ix, n_cl, q2, decide_true, if_true]
      exact z1
    · by_cases he : e = c
      · subst he
        rw [z3 _ (by omega), u_s, upd_s]
      · rw [z4 e (by omega) h2, e26]
theorem c61 {d C K l : Nat} {p : Int32} {σ : ir_S} (hC : C ≤ 12) (hK : K ≤ 12) (hl : l < K) (h4 : σ 25 4 = nI K) (h5 : σ 25 5 = nI C) : ∃ σ', ir_ev (d + 1) 61 [.ref 25, .int (nI l), .int p] σ = some (none, σ') ∧ (∀ q, q ≠ 27 → q ≠ 28 → σ' q = σ q) ∧ σ' 28 = upd (σ 28) l p ∧ (∀ j, j < l * 12 ∨ l * 12 + C ≤ j → σ' 27 j = σ 27 j) ∧ ∀ e, e < C → σ' 27 (l * 12 + e) = nI (alN (fun i => σ 26 (l * 12 + i)) C e) := by
  obtain ⟨σ', z1, z2, z3, z4⟩ := c61_loop (E := ir_ev d) (v2 := .int p) hC (show l < 12 by omega) C 0 (ir_up σ 28 l p) .null .null (by omega) (by rw [u_n _ _ _ (by decide)]; exact h5)
  have q1 : ¬ l < 0 := by omega
  have q2 : l < 12 := by omega
  refine ⟨σ', ?_, fun q h1 h2 => by rw [z2 q h1, u_n _ _ _ h2], by rw [z2 28 (by decide), u_s], fun j hj => by rw [z3 j (by omega), u_n _ _ _ (by decide)], fun e he => by rw [z4 e (by omega) he, u_n _ _ _ (by decide)]⟩
  simp (disch := omega) only [e61, s61_0, s61_1, s61_4, s61_5, s61_6, s61_9, s61_13, s61_14, s61_17, s61_18, s61_19, s61_20, s61_21, s61_23, s61_24, s61_25, s61_26, xA28, xL28, xa28, h4, n_lt_0, n_le_0, n_tl_0, n_el_0, n_eq_0, n_ad_0, n_lt_1, n_le_1, n_tl_1, n_el_1, n_eq_1, n_ad_1, n_lt_2, n_le_2, n_tl_2, n_el_2, n_eq_2, n_ad_2, n_lt_3, n_le_3, n_tl_3, n_el_3, n_eq_3, n_ad_3, n_lt_4, n_le_4, n_tl_4, n_el_4, n_eq_4, n_ad_4, n_lt_5, n_le_5, n_tl_5, n_el_5, n_eq_5, n_ad_5, n_lt_6, n_le_6, n_tl_6, n_el_6, n_eq_6, n_ad_6, n_lt_10, n_le_10, n_tl_10, n_el_10, n_eq_10, n_ad_10, n_lt_11, n_le_11, n_tl_11, n_el_11, n_eq_11, n_ad_11, n_lt_12, n_le_12, n_tl_12, n_el_12, n_eq_12, n_ad_12, n_lt_13, n_le_13, n_tl_13, n_el_13, n_eq_13, n_ad_13, n_lt_15, n_le_15, n_tl_15, n_el_15, n_eq_15, n_ad_15, n_lt_20, n_le_20, n_tl_20, n_el_20, n_eq_20, n_ad_20, n_lt_30, n_le_30, n_tl_30, n_el_30, n_eq_30, n_ad_30, n_lt_31, n_le_31, n_tl_31, n_el_31, n_eq_31, n_ad_31, n_lt_32, n_le_32, n_tl_32, n_el_32, n_eq_32, n_ad_32, n_lt_60, n_le_60, n_tl_60, n_el_60, n_eq_60, n_ad_60, n_lt_99, n_le_99, n_tl_99, n_el_99, n_eq_99, n_ad_99, n_lt_100, n_le_100, n_tl_100, n_el_100, n_eq_100, n_ad_100, n_lt_144, n_le_144, n_tl_144, n_el_144, n_eq_144, n_ad_144, n_lt_4096, n_le_4096, n_tl_4096, n_el_4096, n_eq_4096, n_ad_4096, n_mulK, nI_add, pk_mul, n_lt, n_le, n_eq, n_eqM, n_ix, n_cl, q1, q2, hl, decide_true, if_true, if_false]
  exact z1
/-! prepare -/
section PREP
variable {σ : ir_S} {N m F C K : Nat} {LA LB : Nat → Nat}
theorem c115_in {d c : Nat} {fs : List Nat} (r : R0 σ N m F C K LA LB) (hc : c < C) (hfs : ∀ f ∈ fs, f < F) : ∀ n l τ, l + n = K → VB σ fs 11 τ → τ 23 = σ 23 → τ 22 1 = nI K → ∃ τ', ir_run (ir_ev (d + 5)) 115 (53, [.ref 0, .int (nI c), .int (nI l)], [], τ) = ir_run (ir_ev (d + 5)) 115 (91, [.ref 0, .int (nI c), .int (nI K)], [], τ') ∧ (∀ q, q ≠ 16 → q ≠ 17 → q ≠ 26 → τ' q = τ q) ∧ (∀ l', l ≤ l' → l' < K → τ' 26 (l' * 12 + c) = mLk σ N m fs l') ∧ ∀ j, (∀ l', l ≤ l' → l' < K → j ≠ l' * 12 + c) → τ' 26 j = τ 26 j := by
  have hK := r.2.2.2.2.1
  have hC := r.2.2.2.1.1
  intro n
  induction n with
  | zero =>
    intro l τ hl hv h23 h22
    have hl : l = K := by omega
    subst hl
    refine ⟨τ, ?_, fun _ _ _ _ => rfl, fun l' h1 h2 => by omega, fun _ _ => rfl⟩
    rw [s115_53]
    simp (disch := omega) only [s115_54, s115_55, s115_58_18, s115_58_20, s115_58_22, s115_61, c1_22, h22, n_lt_0, n_le_0, n_tl_0, n_el_0, n_eq_0, n_ad_0, n_lt_1, n_le_1, n_tl_1, n_el_1, n_eq_1, n_ad_1, n_lt_2, n_le_2, n_tl_2, n_el_2, n_eq_2, n_ad_2, n_lt_3, n_le_3, n_tl_3, n_el_3, n_eq_3, n_ad_3, n_lt_4, n_le_4, n_tl_4, n_el_4, n_eq_4, n_ad_4, n_lt_5, n_le_5, n_tl_5, n_el_5, n_eq_5, n_ad_5, n_lt_6, n_le_6, n_tl_6, n_el_6, n_eq_6, n_ad_6, n_lt_10, n_le_10, n_tl_10, n_el_10, n_eq_10, n_ad_10, n_lt_11, n_le_11, n_tl_11, n_el_11, n_eq_11, n_ad_11, n_lt_12, n_le_12, n_tl_12, n_el_12, n_eq_12, n_ad_12, n_lt_13, n_le_13, n_tl_13, n_el_13, n_eq_13, n_ad_13, n_lt_15, n_le_15, n_tl_15, n_el_15, n_eq_15, n_ad_15, n_lt_20, n_le_20, n_tl_20, n_el_20, n_eq_20, n_ad_20, n_lt_30, n_le_30, n_tl_30, n_el_30, n_eq_30, n_ad_30, n_lt_31, n_le_31, n_tl_31, n_el_31, n_eq_31, n_ad_31, n_lt_32, n_le_32, n_tl_32, n_el_32, n_eq_32, n_ad_32, n_lt_60, n_le_60, n_tl_60, n_el_60, n_eq_60, n_ad_60, n_lt_99, n_le_99, n_tl_99, n_el_99, n_eq_99, n_ad_99, n_lt_100, n_le_100, n_tl_100, n_el_100, n_eq_100, n_ad_100, n_lt_144, n_le_144, n_tl_144, n_el_144, n_eq_144, n_ad_144, n_lt_4096, n_le_4096, n_tl_4096, n_el_4096, n_eq_4096, n_ad_4096, n_mulK, nI_add, pk_mul, n_lt, n_le, n_eq, n_eqM, n_ix, n_cl, ir_k_i, ir_tl_i, Nat.le_refl, if_true]
  | succ n ih =>
    intro l τ hl hv h23 h22
    have q1 : ¬ K ≤ l := by omega
    have hlK : l < K := by omega
    obtain ⟨τ1, a1, a2⟩ := ask_11 (d := d) r hfs hlK hv h23
    have e26 : τ1 26 = τ 26 := a2 26 (by decide) (by decide)
    obtain ⟨τ', z1, z2, z3, z4⟩ := ih (l + 1) (ir_up τ1 26 (l * 12 + c) (mLk σ N m fs l)) (by omega)
      (VB_ag (σ := τ) (by decide) (fun q hq => by rw [u_n _ _ _ (by omega), a2 q (by omega) (by omega)]) hv)
      (by rw [u_n _ _ _ (by decide), a2 23 (by decide) (by decide)]; exact h23) (by rw [u_n _ _ _ (by decide), a2 22 (by decide) (by decide)]; exact h22)
    refine ⟨τ', ?_, fun q h1 h2 h3 => by rw [z2 q h1 h2 h3, u_n _ _ _ h3, a2 q h1 h2], fun l' h1 h2 => ?_, fun j hj => ?_⟩
    · rw [s115_53]
      simp (disch := omega) only [s115_54, s115_55, s115_58_18, s115_58_20, s115_58_22, s115_61, s115_64, s115_65, s115_68, s115_69, s115_70, s115_71, s115_74, s115_75, s115_76, s115_79, s115_82, s115_85, s115_88, c1_22, h22, n_lt_0, n_le_0, n_tl_0, n_el_0, n_eq_0, n_ad_0, n_lt_1, n_le_1, n_tl_1, n_el_1, n_eq_1, n_ad_1, n_lt_2, n_le_2, n_tl_2, n_el_2, n_eq_2, n_ad_2, n_lt_3, n_le_3, n_tl_3, n_el_3, n_eq_3, n_ad_3, n_lt_4, n_le_4, n_tl_4, n_el_4, n_eq_4, n_ad_4, n_lt_5, n_le_5, n_tl_5, n_el_5, n_eq_5, n_ad_5, n_lt_6, n_le_6, n_tl_6, n_el_6, n_eq_6, n_ad_6, n_lt_10, n_le_10, n_tl_10, n_el_10, n_eq_10, n_ad_10, n_lt_11, n_le_11, n_tl_11, n_el_11, n_eq_11, n_ad_11, n_lt_12, n_le_12, n_tl_12, n_el_12, n_eq_12, n_ad_12, n_lt_13, n_le_13, n_tl_13, n_el_13, n_eq_13, n_ad_13, n_lt_15, n_le_15, n_tl_15, n_el_15, n_eq_15, n_ad_15, n_lt_20, n_le_20, n_tl_20, n_el_20, n_eq_20, n_ad_20, n_lt_30, n_le_30, n_tl_30, n_el_30, n_eq_30, n_ad_30, n_lt_31, n_le_31, n_tl_31, n_el_31, n_eq_31, n_ad_31, n_lt_32, n_le_32, n_tl_32, n_el_32, n_eq_32, n_ad_32, n_lt_60, n_le_60, n_tl_60, n_el_60, n_eq_60, n_ad_60, n_lt_99, n_le_99, n_tl_99, n_el_99, n_eq_99, n_ad_99, n_lt_100, n_le_100, n_tl_100, n_el_100, n_eq_100, n_ad_100, n_lt_144, n_le_144, n_tl_144, n_el_144, n_eq_144, n_ad_144, n_lt_4096, n_le_4096, n_tl_4096, n_el_4096, n_eq_4096, n_ad_4096, n_mulK, nI_add, pk_mul, n_lt, n_le, n_eq, n_eqM, n_ix, n_cl, ir_k_i, ir_tl_i, ir_k_v, ir_tl_v, if_neg q1, a1, c60 (show l < 12 by omega) (show c < 12 by omega)]
      exact z1
    · by_cases e : l' = l
      · subst e
        rw [z4 _ (fun l2 g1 g2 => by omega), u_s, upd_s]
      · exact z3 l' (by omega) h2
    · rw [z4 j (fun l2 g1 g2 => hj l2 (by omega) g2), u_s, upd_n _ _ (hj l (Nat.le_refl _) hlK), e26]
noncomputable def an0 (σ : ir_S) (N m l c : Nat) : Int32 := mLk σ N m (acts σ (nI c) 0) l
theorem an0_ag {σ' : ir_S} {l c : Nat} (h : agS σ σ') : an0 σ' N m l c = an0 σ N m l c := by unfold an0; rw [acts_ag h, mLk_ag h]
def frP (τ τ' : ir_S) : Prop := ∀ q, q < 11 ∨ (17 < q ∧ q ≠ 26) → τ' q = τ q
theorem agS_frP {τ τ' : ir_S} (h : frP τ τ') : agS τ τ' := by
  refine agS_of (fun c hc _ => h c ?_) (fun j _ => by rw [h 33 (by omega)])
  have h26 := dy_ne hc (k := 26) rfl
  apply Classical.byContradiction
  intro hn
  have h1 : Nat.ble 11 c = true := Nat.ble_eq.mpr (by omega)
  have h2 : Nat.ble c 17 = true := Nat.ble_eq.mpr (by omega)
  unfold dynC at hc
  rw [h1, h2] at hc
  simp at hc
theorem c115_out {d : Nat} (r : R0 σ N m F C K LA LB) : ∀ n c τ l2, c + n = C → frP σ τ → (∀ l c', l < K → c' < c → τ 26 (l * 12 + c') = an0 σ N m l c') → ∃ τ' l2', ir_run (ir_ev (d + 5)) 115 (34, [.ref 0, .int (nI c), l2], [], τ) = ir_run (ir_ev (d + 5)) 115 (97, [.ref 0, .int (nI C), l2'], [], τ') ∧ frP σ τ' ∧ ∀ l c', l < K → c' < C → τ' 26 (l * 12 + c') = an0 σ N m l c' := by
  have hK := r.2.2.2.2.1
  have hC := r.2.2.2.1.1
  intro n
  induction n with
  | zero =>
    intro c τ l2 hc hf ht
    have hc : c = C := by omega
    subst hc
    refine ⟨τ, l2, ?_, hf, ht⟩
    have e20 : τ 20 1 = nI c := by rw [hf 20 (by omega)]; exact r.2.2.2.1.2.1
    rw [s115_34]
    simp (disch := omega) only [s115_35, s115_36, s115_39_18, s115_39_20, s115_39_22, s115_42, c1_20, e20, n_lt_0, n_le_0, n_tl_0, n_el_0, n_eq_0, n_ad_0, n_lt_1, n_le_1, n_tl_1, n_el_1, n_eq_1, n_ad_1, n_lt_2, n_le_2, n_tl_2, n_el_2, n_eq_2, n_ad_2, n_lt_3, n_le_3, n_tl_3, n_el_3, n_eq_3, n_ad_3, n_lt_4, n_le_4, n_tl_4, n_el_4, n_eq_4, n_ad_4, n_lt_5, n_le_5, n_tl_5, n_el_5, n_eq_5, n_ad_5, n_lt_6, n_le_6, n_tl_6, n_el_6, n_eq_6, n_ad_6, n_lt_10, n_le_10, n_tl_10, n_el_10, n_eq_10, n_ad_10, n_lt_11, n_le_11, n_tl_11, n_el_11, n_eq_11, n_ad_11, n_lt_12, n_le_12, n_tl_12, n_el_12, n_eq_12, n_ad_12, n_lt_13, n_le_13, n_tl_13, n_el_13, n_eq_13, n_ad_13, n_lt_15, n_le_15, n_tl_15, n_el_15, n_eq_15, n_ad_15, n_lt_20, n_le_20, n_tl_20, n_el_20, n_eq_20, n_ad_20, n_lt_30, n_le_30, n_tl_30, n_el_30, n_eq_30, n_ad_30, n_lt_31, n_le_31, n_tl_31, n_el_31, n_eq_31, n_ad_31, n_lt_32, n_le_32, n_tl_32, n_el_32, n_eq_32, n_ad_32, n_lt_60, n_le_60, n_tl_60, n_el_60, n_eq_60, n_ad_60, n_lt_99, n_le_99, n_tl_99, n_el_99, n_eq_99, n_ad_99, n_lt_100, n_le_100, n_tl_100, n_el_100, n_eq_100, n_ad_100, n_lt_144, n_le_144, n_tl_144, n_el_144, n_eq_144, n_ad_144, n_lt_4096, n_le_4096, n_tl_4096, n_el_4096, n_eq_4096, n_ad_4096, n_mulK, nI_add, pk_mul, n_lt, n_le, n_eq, n_eqM, n_ix, n_cl, ir_k_i, ir_tl_i, Nat.le_refl, if_true]
  | succ n ih =>
    intro c τ l2 hc hf ht
    have q1 : ¬ C ≤ c := by omega
    have hcC : c < C := by omega
    have e20 : τ 20 1 = nI C := by rw [hf 20 (by omega)]; exact r.2.2.2.1.2.1
    have hag := agS_frP hf
    have rt := R0_ag hag r
    obtain ⟨τ1, a1, a2⟩ := brk (d := d + 1) (c := nI c) (mm := 0) rt
    have hfs := (acts_c (mm := 0) rt.2.2.1 rt.2.2.2.1 hcC).2
    have a8 := a2.2.2.2.2.2.2.2
    obtain ⟨τ2, b1, b2, b3, b4⟩ := c115_in (d := d) rt hcC hfs K 0 τ1 (by omega) (BR_VB a2) (a8 23 (by omega)) (by rw [a8 22 (by omega)]; exact rt.2.2.2.2.2.1)
    have hf2 : frP σ τ2 := fun q hq => by rw [b2 q (by omega) (by omega) (by omega), a8 q (by omega), hf q hq]
    obtain ⟨τ', l2', z1, z2⟩ := ih (c + 1) τ2 (.int (nI K)) (by omega) hf2 (fun l c' h1 h2 => by
      by_cases e : c' = c
      · subst e
        rw [b3 l (by omega) h1, ← an0_ag hag]
        rfl
      · rw [b4 _ (fun l' g1 g2 => by omega), a8 26 (by omega)]
        exact ht l c' h1 (by omega))
    refine ⟨τ', l2', ?_, z2⟩
    rw [s115_34]
    simp (disch := omega) only [s115_35, s115_36, s115_39_18, s115_39_20, s115_39_22, s115_42, s115_45, s115_46, s115_47, s115_48, s115_51, s115_52, c1_20, e20, n_lt_0, n_le_0, n_tl_0, n_el_0, n_eq_0, n_ad_0, n_lt_1, n_le_1, n_tl_1, n_el_1, n_eq_1, n_ad_1, n_lt_2, n_le_2, n_tl_2, n_el_2, n_eq_2, n_ad_2, n_lt_3, n_le_3, n_tl_3, n_el_3, n_eq_3, n_ad_3, n_lt_4, n_le_4, n_tl_4, n_el_4, n_eq_4, n_ad_4, n_lt_5, n_le_5, n_tl_5, n_el_5, n_eq_5, n_ad_5, n_lt_6, n_le_6, n_tl_6, n_el_6, n_eq_6, n_ad_6, n_lt_10, n_le_10, n_tl_10, n_el_10, n_eq_10, n_ad_10, n_lt_11, n_le_11, n_tl_11, n_el_11, n_eq_11, n_ad_11, n_lt_12, n_le_12, n_tl_12, n_el_12, n_eq_12, n_ad_12, n_lt_13, n_le_13, n_tl_13, n_el_13, n_eq_13, n_ad_13, n_lt_15, n_le_15, n_tl_15, n_el_15, n_eq_15, n_ad_15, n_lt_20, n_le_20, n_tl_20, n_el_20, n_eq_20, n_ad_20, n_lt_30, n_le_30, n_tl_30, n_el_30, n_eq_30, n_ad_30, n_lt_31, n_le_31, n_tl_31, n_el_31, n_eq_31, n_ad_31, n_lt_32, n_le_32, n_tl_32, n_el_32, n_eq_32, n_ad_32, n_lt_60, n_le_60, n_tl_60, n_el_60, n_eq_60, n_ad_60, n_lt_99, n_le_99, n_tl_99, n_el_99, n_eq_99, n_ad_99, n_lt_100, n_le_100, n_tl_100, n_el_100, n_eq_100, n_ad_100, n_lt_144, n_le_144, n_tl_144, n_el_144, n_eq_144, n_ad_144, n_lt_4096, n_le_4096, n_tl_4096, n_el_4096, n_eq_4096, n_ad_4096, n_mulK, nI_add, pk_mul, n_lt, n_le, n_eq, n_eqM, n_ix, n_cl, ir_k_i, ir_tl_i, ir_k_v, ir_tl_v, if_neg q1, a1]
    refine Eq.trans b1 ?_
    simp (disch := omega) only [s115_91, s115_94, n_lt_0, n_le_0, n_tl_0, n_el_0, n_eq_0, n_ad_0, n_lt_1, n_le_1, n_tl_1, n_el_1, n_eq_1, n_ad_1, n_lt_2, n_le_2, n_tl_2, n_el_2, n_eq_2, n_ad_2, n_lt_3, n_le_3, n_tl_3, n_el_3, n_eq_3, n_ad_3, n_lt_4, n_le_4, n_tl_4, n_el_4, n_eq_4, n_ad_4, n_lt_5, n_le_5, n_tl_5, n_el_5, n_eq_5, n_ad_5, n_lt_6, n_le_6, n_tl_6, n_el_6, n_eq_6, n_ad_6, n_lt_10, n_le_10, n_tl_10, n_el_10, n_eq_10, n_ad_10, n_lt_11, n_le_11, n_tl_11, n_el_11, n_eq_11, n_ad_11, n_lt_12, n_le_12, n_tl_12, n_el_12, n_eq_12, n_ad_12, n_lt_13, n_le_13, n_tl_13, n_el_13, n_eq_13, n_ad_13, n_lt_15, n_le_15, n_tl_15, n_el_15, n_eq_15, n_ad_15, n_lt_20, n_le_20, n_tl_20, n_el_20, n_eq_20, n_ad_20, n_lt_30, n_le_30, n_tl_30, n_el_30, n_eq_30, n_ad_30, n_lt_31, n_le_31, n_tl_31, n_el_31, n_eq_31, n_ad_31, n_lt_32, n_le_32, n_tl_32, n_el_32, n_eq_32, n_ad_32, n_lt_60, n_le_60, n_tl_60, n_el_60, n_eq_60, n_ad_60, n_lt_99, n_le_99, n_tl_99, n_el_99, n_eq_99, n_ad_99, n_lt_100, n_le_100, n_tl_100, n_el_100, n_eq_100, n_ad_100, n_lt_144, n_le_144, n_tl_144, n_el_144, n_eq_144, n_ad_144, n_lt_4096, n_le_4096, n_tl_4096, n_el_4096, n_eq_4096, n_ad_4096, n_mulK, nI_add, pk_mul, n_lt, n_le, n_eq, n_eqM, n_ix, n_cl]
    exact z1
theorem c115_fin {d : Nat} (hC : C ≤ 12) (hK : K ≤ 12) : ∀ n l τ l2, l + n = K → τ 22 1 = nI K → τ 25 4 = nI K → τ 25 5 = nI C → ∃ τ', ir_run (ir_ev (d + 5)) 115 (99, [.ref 0, .int (nI l), l2], [], τ) = some (none, τ') ∧ (∀ q, q ≠ 27 → q ≠ 28 → τ' q = τ q) ∧ (∀ l' e, l ≤ l' → l' < K → e < C → τ' 27 (l' * 12 + e) = nI (alN (fun i => τ 26 (l' * 12 + i)) C e)) ∧ (∀ l', l ≤ l' → l' < K → τ' 28 l' = τ 23 (l' * 5 + 4)) ∧ (∀ j, j < l * 12 → τ' 27 j = τ 27 j) ∧ ∀ j, j < l → τ' 28 j = τ 28 j := by
  intro n
  induction n with
  | zero =>
    intro l τ l2 hl h22 h4 h5
    have hl : l = K := by omega
    subst hl
    refine ⟨τ, ?_, fun _ _ _ => rfl, fun l' e h1 h2 => by omega, fun l' h1 h2 => by omega, fun _ _ => rfl, fun _ _ => rfl⟩
    rw [s115_99]
    simp (disch := omega) only [s115_100, s115_101, s115_104_18, s115_104_20, s115_104_22, s115_107, s115_133, c1_22, h22, n_lt_0, n_le_0, n_tl_0, n_el_0, n_eq_0, n_ad_0, n_lt_1, n_le_1, n_tl_1, n_el_1, n_eq_1, n_ad_1, n_lt_2, n_le_2, n_tl_2, n_el_2, n_eq_2, n_ad_2, n_lt_3, n_le_3, n_tl_3, n_el_3, n_eq_3, n_ad_3, n_lt_4, n_le_4, n_tl_4, n_el_4, n_eq_4, n_ad_4, n_lt_5, n_le_5, n_tl_5, n_el_5, n_eq_5, n_ad_5, n_lt_6, n_le_6, n_tl_6, n_el_6, n_eq_6, n_ad_6, n_lt_10, n_le_10, n_tl_10, n_el_10, n_eq_10, n_ad_10, n_lt_11, n_le_11, n_tl_11, n_el_11, n_eq_11, n_ad_11, n_lt_12, n_le_12, n_tl_12, n_el_12, n_eq_12, n_ad_12, n_lt_13, n_le_13, n_tl_13, n_el_13, n_eq_13, n_ad_13, n_lt_15, n_le_15, n_tl_15, n_el_15, n_eq_15, n_ad_15, n_lt_20, n_le_20, n_tl_20, n_el_20, n_eq_20, n_ad_20, n_lt_30, n_le_30, n_tl_30, n_el_30, n_eq_30, n_ad_30, n_lt_31, n_le_31, n_tl_31, n_el_31, n_eq_31, n_ad_31, n_lt_32, n_le_32, n_tl_32, n_el_32, n_eq_32, n_ad_32, n_lt_60, n_le_60, n_tl_60, n_el_60, n_eq_60, n_ad_60, n_lt_99, n_le_99, n_tl_99, n_el_99, n_eq_99, n_ad_99, n_lt_100, n_le_100, n_tl_100, n_el_100, n_eq_100, n_ad_100, n_lt_144, n_le_144, n_tl_144, n_el_144, n_eq_144, n_ad_144, n_lt_4096, n_le_4096, n_tl_4096, n_el_4096, n_eq_4096, n_ad_4096, n_mulK, nI_add, pk_mul, n_lt, n_le, n_eq, n_eqM, n_ix, n_cl, ir_k_i, ir_tl_i, Nat.le_refl, if_true]
  | succ n ih =>
    intro l τ l2 hl h22 h4 h5
    have q1 : ¬ K ≤ l := by omega
    have k4 : ir_ev (d + 5) 5 [.ref 22, .int (nI l), .int 4] τ = some (some (.int (τ 23 (l * 5 + 4))), τ) := c5_22 (f := 4) (by omega) (by decide)
    obtain ⟨τ1, a1, a2, a3, a4, a5⟩ := c61 (d := d + 4) (p := τ 23 (l * 5 + 4)) hC hK (show l < K by omega) h4 h5
    obtain ⟨τ', z1, z2, z3, z4, z5, z6⟩ := ih (l + 1) τ1 l2 (by omega) (by rw [a2 22 (by decide) (by decide)]; exact h22) (by rw [a2 25 (by decide) (by decide)]; exact h4) (by rw [a2 25 (by decide) (by decide)]; exact h5)
    have e26 := a2 26 (by decide) (by decide)
    have e23 := a2 23 (by decide) (by decide)
    refine ⟨τ', ?_, fun q g1 g2 => by rw [z2 q g1 g2, a2 q g1 g2], fun l' e g1 g2 g3 => ?_, fun l' g1 g2 => ?_, fun j hj => by rw [z5 j (by omega), a4 j (by omega)], fun j hj => by rw [z6 j (by omega), a3, upd_n _ _ (by omega)]⟩
    · rw [s115_99]
      simp (disch := omega) only [s115_100, s115_101, s115_104_18, s115_104_20, s115_104_22, s115_107, s115_110, s115_111, s115_114, s115_115, s115_116, s115_119, s115_120, s115_121_18, s115_121_20, s115_121_22, s115_124, s115_127, s115_130, c1_22, h22, n_lt_0, n_le_0, n_tl_0, n_el_0, n_eq_0, n_ad_0, n_lt_1, n_le_1, n_tl_1, n_el_1, n_eq_1, n_ad_1, n_lt_2, n_le_2, n_tl_2, n_el_2, n_eq_2, n_ad_2, n_lt_3, n_le_3, n_tl_3, n_el_3, n_eq_3, n_ad_3, n_lt_4, n_le_4, n_tl_4, n_el_4, n_eq_4, n_ad_4, n_lt_5, n_le_5, n_tl_5, n_el_5, n_eq_5, n_ad_5, n_lt_6, n_le_6, n_tl_6, n_el_6, n_eq_6, n_ad_6, n_lt_10, n_le_10, n_tl_10, n_el_10, n_eq_10, n_ad_10, n_lt_11, n_le_11, n_tl_11, n_el_11, n_eq_11, n_ad_11, n_lt_12, n_le_12, n_tl_12, n_el_12, n_eq_12, n_ad_12, n_lt_13, n_le_13, n_tl_13, n_el_13, n_eq_13, n_ad_13, n_lt_15, n_le_15, n_tl_15, n_el_15, n_eq_15, n_ad_15, n_lt_20, n_le_20, n_tl_20, n_el_20, n_eq_20, n_ad_20, n_lt_30, n_le_30, n_tl_30, n_el_30, n_eq_30, n_ad_30, n_lt_31, n_le_31, n_tl_31, n_el_31, n_eq_31, n_ad_31, n_lt_32, n_le_32, n_tl_32, n_el_32, n_eq_32, n_ad_32, n_lt_60, n_le_60, n_tl_60, n_el_60, n_eq_60, n_ad_60, n_lt_99, n_le_99, n_tl_99, n_el_99, n_eq_99, n_ad_99, n_lt_100, n_le_100, n_tl_100, n_el_100, n_eq_100, n_ad_100, n_lt_144, n_le_144, n_tl_144, n_el_144, n_eq_144, n_ad_144, n_lt_4096, n_le_4096, n_tl_4096, n_el_4096, n_eq_4096, n_ad_4096, n_mulK, nI_add, pk_mul, n_lt, n_le, n_eq, n_eqM, n_ix, n_cl, ir_k_i, ir_tl_i, ir_k_v, ir_tl_v, if_neg q1, k4, a1]
      exact z1
    · by_cases q : l' = l
      · subst q
        rw [z5 _ (by omega), a5 e g3]
      · rw [z3 l' e (by omega) g2 g3, e26]
    · by_cases q : l' = l
      · subst q
        rw [z6 _ (by omega), a3, upd_s]
      · rw [z4 l' (by omega) g2, e23]
noncomputable def AL0 (σ : ir_S) (N m C l c : Nat) : Nat := alN (fun i => an0 σ N m l i) C c
def PR0 (σ : ir_S) (l : Nat) : Nat := (σ 23 (l * 5 + 4)).toNatClampNeg
noncomputable def WV0 (σ : ir_S) (N m C K s : Nat) : Nat := WV (AL0 σ N m C) (PR0 σ) K C 12 s
def TB (σ : ir_S) (N m C K : Nat) : Prop := TBL σ K C (AL0 σ N m C) (PR0 σ) ∧ MEM σ C (WV (AL0 σ N m C) (PR0 σ) K C 12)
theorem AL0_ag {σ' : ir_S} (h : agS σ σ') : AL0 σ' N m C = AL0 σ N m C := by
  funext l c
  unfold AL0
  congr 1
  funext i
  exact an0_ag h
theorem PR0_ag {σ' : ir_S} (h : agS σ σ') : PR0 σ' = PR0 σ := by
  have e : ∀ τ, PR0 τ = PR0 (stat τ) := fun τ => rfl
  rw [e, e σ, h]
theorem AL0_lt {l c : Nat} (hC : C ≤ 12) : AL0 σ N m C l c < 2 ^ C := by
  apply Nat.lt_pow_two_of_testBit
  intro i hi
  unfold AL0
  rw [alN_tb hC]
  simp
  intro h
  omega
theorem AL0_tb {l c i : Nat} (hC : C ≤ 12) : (AL0 σ N m C l c).testBit i = (decide (i < C) && decide (an0 σ N m l i = an0 σ N m l c)) := alN_tb hC
theorem PR0_ok {l : Nat} (r : R0 σ N m F C K LA LB) (hl : l < K) : σ 23 (l * 5 + 4) = nI (PR0 σ l) ∧ 1 ≤ PR0 σ l ∧ PR0 σ l ≤ 100 := by
  obtain ⟨p, h1, h2, h3⟩ := (r.2.2.2.2.2.2.2 l hl).2.2.2.2.2.1
  unfold PR0
  rw [h3, n_cl (by omega)]
  exact ⟨rfl, h1, h2⟩
def frT (τ τ' : ir_S) : Prop := ∀ q, q < 11 ∨ (17 < q ∧ q < 25) ∨ 29 < q → τ' q = τ q
theorem agS_frT {τ τ' : ir_S} (h : frT τ τ') : agS τ τ' := by
  refine agS_of (fun c hc _ => h c ?_) (fun j _ => by rw [h 33 (by omega)])
  apply Classical.byContradiction
  intro hn
  unfold dynC at hc
  rcases Nat.lt_or_ge 17 c with g | g
  · have h1 : Nat.ble 25 c = true := Nat.ble_eq.mpr (by omega)
    have h2 : Nat.ble c 32 = true := Nat.ble_eq.mpr (by omega)
    rw [h1, h2] at hc
    simp at hc
  · have h1 : Nat.ble 11 c = true := Nat.ble_eq.mpr (by omega)
    have h2 : Nat.ble c 17 = true := Nat.ble_eq.mpr (by omega)
    rw [h1, h2] at hc
    simp at hc
theorem prep {d : Nat} (r : R0 σ N m F C K LA LB) (h : σ 25 6 = 0 ∨ (σ 25 6 = 1 ∧ TB σ N m C K)) : ∃ σ', ir_ev (d + 6) 115 [.ref 0] σ = some (none, σ') ∧ frT σ σ' ∧ σ' 25 6 = 1 ∧ TB σ' N m C K := by
  have hK := r.2.2.2.2.1
  have hC := r.2.2.2.1.1
  rcases h with h | ⟨h, ht⟩
  · have h58 : ir_ev (d + 5) 58 [.ref 25] σ = some (some (.int (ir_b false)), σ) := c58 h
    obtain ⟨σ1, a1, a2, a3, a4, a5, a6⟩ := c59 (d := d + 4) (σ := σ) hK hC
    have ag1 : agS σ σ1 := agS_frT (fun q hq => a2 q (by omega) (by omega))
    have r1 := R0_ag ag1 r
    obtain ⟨σ2, l2, b1, b2, b3⟩ := c115_out (d := d) r1 C 0 σ1 .null (by omega) (fun _ _ => rfl) (fun l c' _ h => by omega)
    have e25 := b2 25 (by omega)
    have e29 := b2 29 (by omega)
    have e22 : σ2 22 1 = nI K := by rw [b2 22 (by omega)]; exact r1.2.2.2.2.2.1
    obtain ⟨σ3, z1, z2, z3, z4, -, -⟩ := c115_fin (d := d) hC hK K 0 σ2 l2 (by omega) e22 (by rw [e25]; exact a3) (by rw [e25]; exact a4)
    have fr : frT σ σ3 := fun q hq => by rw [z2 q (by omega) (by omega), b2 q (by omega), a2 q (by omega) (by omega)]
    have ag3' := agS_frT fr
    have ag12 := agS_frP b2
    have r3 := R0_ag ag3' r
    refine ⟨σ3, ?_, fr, by rw [z2 25 (by decide) (by decide), e25]; exact a5, ⟨hK, hC, by rw [z2 25 (by decide) (by decide), e25]; exact a3, by rw [z2 25 (by decide) (by decide), e25]; exact a4, fun l c hl hc => ⟨?_, AL0_lt hC, ?_⟩, fun l hl => ⟨?_, (PR0_ok r3 hl).2.2⟩⟩, fun s h0 hs => Or.inl ?_⟩
    · simp only [e115, s115_0, s115_1, s115_4, s115_7, s115_11, s115_12, s115_15, s115_16, s115_19_18, s115_19_20, s115_19_22, s115_22, s115_23, s115_26_18, s115_26_20, s115_26_22, s115_29, s115_32, s115_33, h58, ir_b_f, c1_22, c1_20, r.2.2.2.2.2.1, r.2.2.2.1.2.1, a1, ir_k_i, ir_tl_i, ir_k_v, ir_tl_v, if_true]
      refine Eq.trans b1 ?_
      simp only [s115_97, s115_98]
      exact z1
    · rw [z3 l c (by omega) hl hc]
      congr 1
      unfold AL0
      refine alN_congr (fun i hi => ?_) ?_
      · show σ2 26 (l * 12 + i) = _
        rw [b3 l i hl hi, an0_ag ag3', an0_ag ag1]
      · show σ2 26 (l * 12 + c) = _
        rw [b3 l c hl hc, an0_ag ag3', an0_ag ag1]
    · rw [AL0_tb hC]
      simp [hc]
    · rw [z4 l (by omega) hl, ← (PR0_ok r3 hl).1, fr 23 (by omega), b2 23 (by omega), a2 23 (by omega) (by omega)]
    · rw [z2 29 (by decide) (by decide), e29]
      exact a6 s hs
  · have h58 : ir_ev (d + 5) 58 [.ref 25] σ = some (some (.int (ir_b true)), σ) := c58 h
    have e : ¬ ((1 : Int32) = 0) := by decide
    refine ⟨σ, ?_, fun _ _ => rfl, h, ht⟩
    simp only [e115, s115_0, s115_1, s115_4, s115_7, s115_10, h58, ir_b_t, ir_k_i, ir_tl_i, e, if_false]
end PREP
