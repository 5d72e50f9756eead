/-! looksThatPart, groupsOf -/
def ptF (f : Nat → Bool) : Nat → Nat → Nat → Nat
  | 0, _, w => w
  | n + 1, l, w => ptF f n (l + 1) (if f l = true then w ||| 2 ^ l else w)
theorem c63_loop {d K C a b : Nat} {AL : Nat → Nat → Nat} {pr : Nat → Nat} {σ : ir_S} (ht : TBL σ K C AL pr) (ha : a < C) (hb : b < C) : ∀ n l w, l + n = K → w < 4096 → ir_run (ir_ev (d + 1)) 63 (5, [.ref 25, .int (nI a), .int (nI b), .int (nI w), .int (nI l)], [], σ) = some (some (.int (nI (ptF (fun l => !(AL l a).testBit b) n l w))), σ) := by
  obtain ⟨hK, hC, t1, t2, t3, t4⟩ := ht
  have h4 := pC hC
  intro n
  induction n with
  | zero =>
    intro l w hl hw
    have hl : l = K := by omega
    subst hl
    rw [s63_5]
    simp (disch := omega) only [s63_7, s63_8, s63_11, s63_41, s63_42, t1, n_lt_0, n_le_0, n_tl_0, n_el_0, n_eq_0, n_ad_0, n_lt_1, n_le_1, n_tl_1, n_el_1, n_eq_1, n_ad_1, n_lt_2, n_le_2, n_tl_2, n_el_2, n_eq_2, n_ad_2, n_lt_3, n_le_3, n_tl_3, n_el_3, n_eq_3, n_ad_3, n_lt_4, n_le_4, n_tl_4, n_el_4, n_eq_4, n_ad_4, n_lt_5, n_le_5, n_tl_5, n_el_5, n_eq_5, n_ad_5, n_lt_6, n_le_6, n_tl_6, n_el_6, n_eq_6, n_ad_6, n_lt_10, n_le_10, n_tl_10, n_el_10, n_eq_10, n_ad_10, n_lt_11, n_le_11, n_tl_11, n_el_11, n_eq_11, n_ad_11, n_lt_12, n_le_12, n_tl_12, n_el_12, n_eq_12, n_ad_12, n_lt_13, n_le_13, n_tl_13, n_el_13, n_eq_13, n_ad_13, n_lt_15, n_le_15, n_tl_15, n_el_15, n_eq_15, n_ad_15, n_lt_20, n_le_20, n_tl_20, n_el_20, n_eq_20, n_ad_20, n_lt_30, n_le_30, n_tl_30, n_el_30, n_eq_30, n_ad_30, n_lt_31, n_le_31, n_tl_31, n_el_31, n_eq_31, n_ad_31, n_lt_32, n_le_32, n_tl_32, n_el_32, n_eq_32, n_ad_32, n_lt_60, n_le_60, n_tl_60, n_el_60, n_eq_60, n_ad_60, n_lt_99, n_le_99, n_tl_99, n_el_99, n_eq_99, n_ad_99, n_lt_100, n_le_100, n_tl_100, n_el_100, n_eq_100, n_ad_100, n_lt_144, n_le_144, n_tl_144, n_el_144, n_eq_144, n_ad_144, n_lt_4096, n_le_4096, n_tl_4096, n_el_4096, n_eq_4096, n_ad_4096, n_mulK, nI_add, pk_mul, n_lt, n_le, n_eq, n_eqM, n_ix, n_cl, Nat.le_refl, if_true, ptF]
  | succ n ih =>
    intro l w hl hw
    have hlK : l < K := by omega
    have q1 : ¬ K ≤ l := by omega
    obtain ⟨a1, a2, a3⟩ := t3 l a hlK ha
    have hbit := s_bit (s := AL l a) (k := b) (by omega) (by omega)
    have hsh := s_shl (k := l) (by omega)
    have hor := s_or (a := w) (b := 2 ^ l) hw (p2_lt (by omega))
    simp only [ptF]
    rw [s63_5]
    by_cases hq : (AL l a).testBit b = true
    · have z := ih (l + 1) w (by omega) hw
      rw [hq] at hbit
      simp (disch := omega) only [s63_7, s63_8, s63_11, s63_14, s63_15, s63_17, s63_18, s63_21, s63_22, s63_25, s63_35, s63_38, t1, n_lt_0, n_le_0, n_tl_0, n_el_0, n_eq_0, n_ad_0, n_lt_1, n_le_1, n_tl_1, n_el_1, n_eq_1, n_ad_1, n_lt_2, n_le_2, n_tl_2, n_el_2, n_eq_2, n_ad_2, n_lt_3, n_le_3, n_tl_3, n_el_3, n_eq_3, n_ad_3, n_lt_4, n_le_4, n_tl_4, n_el_4, n_eq_4, n_ad_4, n_lt_5, n_le_5, n_tl_5, n_el_5, n_eq_5, n_ad_5, n_lt_6, n_le_6, n_tl_6, n_el_6, n_eq_6, n_ad_6, n_lt_10, n_le_10, n_tl_10, n_el_10, n_eq_10, n_ad_10, n_lt_11, n_le_11, n_tl_11, n_el_11, n_eq_11, n_ad_11, n_lt_12, n_le_12, n_tl_12, n_el_12, n_eq_12, n_ad_12, n_lt_13, n_le_13, n_tl_13, n_el_13, n_eq_13, n_ad_13, n_lt_15, n_le_15, n_tl_15, n_el_15, n_eq_15, n_ad_15, n_lt_20, n_le_20, n_tl_20, n_el_20, n_eq_20, n_ad_20, n_lt_30, n_le_30, n_tl_30, n_el_30, n_eq_30, n_ad_30, n_lt_31, n_le_31, n_tl_31, n_el_31, n_eq_31, n_ad_31, n_lt_32, n_le_32, n_tl_32, n_el_32, n_eq_32, n_ad_32, n_lt_60, n_le_60, n_tl_60, n_el_60, n_eq_60, n_ad_60, n_lt_99, n_le_99, n_tl_99, n_el_99, n_eq_99, n_ad_99, n_lt_100, n_le_100, n_tl_100, n_el_100, n_eq_100, n_ad_100, n_lt_144, n_le_144, n_tl_144, n_el_144, n_eq_144, n_ad_144, n_lt_4096, n_le_4096, n_tl_4096, n_el_4096, n_eq_4096, n_ad_4096, n_mulK, nI_add, pk_mul, n_lt, n_le, n_eq, n_eqM, n_ix, n_cl, if_neg q1, c62 (show l < 12 by omega) (show a < 12 by omega), a1, c116, hbit, ir_b_t, ir_k_i, ir_tl_i]
      simp [z, hq]
    · have z := ih (l + 1) (w ||| 2 ^ l) (by omega) (or_lt hw (p2_lt (by omega)))
      have hq : (AL l a).testBit b = false := by simpa using hq
      rw [hq] at hbit
      simp (disch := omega) only [s63_7, s63_8, s63_11, s63_14, s63_15, s63_17, s63_18, s63_21, s63_22, s63_25, s63_28, s63_29, s63_30, s63_32, s63_33, s63_34, s63_35, s63_38, t1, n_lt_0, n_le_0, n_tl_0, n_el_0, n_eq_0, n_ad_0, n_lt_1, n_le_1, n_tl_1, n_el_1, n_eq_1, n_ad_1, n_lt_2, n_le_2, n_tl_2, n_el_2, n_eq_2, n_ad_2, n_lt_3, n_le_3, n_tl_3, n_el_3, n_eq_3, n_ad_3, n_lt_4, n_le_4, n_tl_4, n_el_4, n_eq_4, n_ad_4, n_lt_5, n_le_5, n_tl_5, n_el_5, n_eq_5, n_ad_5, n_lt_6, n_le_6, n_tl_6, n_el_6, n_eq_6, n_ad_6, n_lt_10, n_le_10, n_tl_10, n_el_10, n_eq_10, n_ad_10, n_lt_11, n_le_11, n_tl_11, n_el_11, n_eq_11, n_ad_11, n_lt_12, n_le_12, n_tl_12, n_el_12, n_eq_12, n_ad_12, n_lt_13, n_le_13, n_tl_13, n_el_13, n_eq_13, n_ad_13, n_lt_15, n_le_15, n_tl_15, n_el_15, n_eq_15, n_ad_15, n_lt_20, n_le_20, n_tl_20, n_el_20, n_eq_20, n_ad_20, n_lt_30, n_le_30, n_tl_30, n_el_30, n_eq_30, n_ad_30, n_lt_31, n_le_31, n_tl_31, n_el_31, n_eq_31, n_ad_31, n_lt_32, n_le_32, n_tl_32, n_el_32, n_eq_32, n_ad_32, n_lt_60, n_le_60, n_tl_60, n_el_60, n_eq_60, n_ad_60, n_lt_99, n_le_99, n_tl_99, n_el_99, n_eq_99, n_ad_99, n_lt_100, n_le_100, n_tl_100, n_el_100, n_eq_100, n_ad_100, n_lt_144, n_le_144, n_tl_144, n_el_144, n_eq_144, n_ad_144, n_lt_4096, n_le_4096, n_tl_4096, n_el_4096, n_eq_4096, n_ad_4096, n_mulK, nI_add, pk_mul, n_lt, n_le, n_eq, n_eqM, n_ix, n_cl, if_neg q1, c62 (show l < 12 by omega) (show a < 12 by omega), a1, c116, hbit, hsh, hor, ir_b_f, ir_k_i, ir_tl_i]
      simp [z, hq]
theorem c63 {d K C a b : Nat} {AL : Nat → Nat → Nat} {pr : Nat → Nat} {σ : ir_S} (ht : TBL σ K C AL pr) (ha : a < C) (hb : b < C) : ir_ev (d + 2) 63 [.ref 25, .int (nI a), .int (nI b)] σ = some (some (.int (nI (ptF (fun l => !(AL l a).testBit b) K 0 0))), σ) := by
  simp only [e63, s63_0, s63_1, s63_2, s63_3]
  exact c63_loop ht ha hb K 0 0 (by omega) (by decide)
def grF (al : Nat → Nat) : Nat → Nat → Nat → Nat
  | 0, _, n => n
  | k + 1, r, n => if r = 0 then n else grF al k (sdf r (al (lowN r))) (n + 1)
theorem c64_loop {d K C l : Nat} {AL : Nat → Nat → Nat} {pr : Nat → Nat} {σ : ir_S} {S : Value} (ht : TBL σ K C AL pr) (hl : l < K) : ∀ k i r n, i + k = C → n ≤ i → r < 2 ^ C → ir_run (ir_ev (d + 2)) 64 (8, [.ref 25, .int (nI l), S, .int (nI r), .int (nI n), .int (nI i)], [], σ) = some (some (.int (nI (grF (AL l) k r n))), σ) := by
  obtain ⟨hK, hC, t1, t2, t3, t4⟩ := ht
  have h4 := pC hC
  intro k
  induction k with
  | zero =>
    intro i r n hi hn hr
    have hi : i = C := by omega
    subst hi
    rw [s64_8]
    simp (disch := omega) only [s64_10, s64_11, s64_14, s64_44, s64_46, t2, n_lt_0, n_le_0, n_tl_0, n_el_0, n_eq_0, n_ad_0, n_lt_1, n_le_1, n_tl_1, n_el_1, n_eq_1, n_ad_1, n_lt_2, n_le_2, n_tl_2, n_el_2, n_eq_2, n_ad_2, n_lt_3, n_le_3, n_tl_3, n_el_3, n_eq_3, n_ad_3, n_lt_4, n_le_4, n_tl_4, n_el_4, n_eq_4, n_ad_4, n_lt_5, n_le_5, n_tl_5, n_el_5, n_eq_5, n_ad_5, n_lt_6, n_le_6, n_tl_6, n_el_6, n_eq_6, n_ad_6, n_lt_10, n_le_10, n_tl_10, n_el_10, n_eq_10, n_ad_10, n_lt_11, n_le_11, n_tl_11, n_el_11, n_eq_11, n_ad_11, n_lt_12, n_le_12, n_tl_12, n_el_12, n_eq_12, n_ad_12, n_lt_13, n_le_13, n_tl_13, n_el_13, n_eq_13, n_ad_13, n_lt_15, n_le_15, n_tl_15, n_el_15, n_eq_15, n_ad_15, n_lt_20, n_le_20, n_tl_20, n_el_20, n_eq_20, n_ad_20, n_lt_30, n_le_30, n_tl_30, n_el_30, n_eq_30, n_ad_30, n_lt_31, n_le_31, n_tl_31, n_el_31, n_eq_31, n_ad_31, n_lt_32, n_le_32, n_tl_32, n_el_32, n_eq_32, n_ad_32, n_lt_60, n_le_60, n_tl_60, n_el_60, n_eq_60, n_ad_60, n_lt_99, n_le_99, n_tl_99, n_el_99, n_eq_99, n_ad_99, n_lt_100, n_le_100, n_tl_100, n_el_100, n_eq_100, n_ad_100, n_lt_144, n_le_144, n_tl_144, n_el_144, n_eq_144, n_ad_144, n_lt_4096, n_le_4096, n_tl_4096, n_el_4096, n_eq_4096, n_ad_4096, n_mulK, nI_add, pk_mul, n_lt, n_le, n_eq, n_eqM, n_ix, n_cl, Nat.le_refl, if_true, grF]
  | succ k ih =>
    intro i r n hi hn hr
    have q1 : ¬ C ≤ i := by omega
    simp only [grF]
    rw [s64_8]
    by_cases hr0 : r = 0
    · subst hr0
      simp (disch := omega) only [s64_10, s64_11, s64_14, s64_17, s64_18, s64_44, s64_46, t2, n_lt_0, n_le_0, n_tl_0, n_el_0, n_eq_0, n_ad_0, n_lt_1, n_le_1, n_tl_1, n_el_1, n_eq_1, n_ad_1, n_lt_2, n_le_2, n_tl_2, n_el_2, n_eq_2, n_ad_2, n_lt_3, n_le_3, n_tl_3, n_el_3, n_eq_3, n_ad_3, n_lt_4, n_le_4, n_tl_4, n_el_4, n_eq_4, n_ad_4, n_lt_5, n_le_5, n_tl_5, n_el_5, n_eq_5, n_ad_5, n_lt_6, n_le_6, n_tl_6, n_el_6, n_eq_6, n_ad_6, n_lt_10, n_le_10, n_tl_10, n_el_10, n_eq_10, n_ad_10, n_lt_11, n_le_11, n_tl_11, n_el_11, n_eq_11, n_ad_11, n_lt_12, n_le_12, n_tl_12, n_el_12, n_eq_12, n_ad_12, n_lt_13, n_le_13, n_tl_13, n_el_13, n_eq_13, n_ad_13, n_lt_15, n_le_15, n_tl_15, n_el_15, n_eq_15, n_ad_15, n_lt_20, n_le_20, n_tl_20, n_el_20, n_eq_20, n_ad_20, n_lt_30, n_le_30, n_tl_30, n_el_30, n_eq_30, n_ad_30, n_lt_31, n_le_31, n_tl_31, n_el_31, n_eq_31, n_ad_31, n_lt_32, n_le_32, n_tl_32, n_el_32, n_eq_32, n_ad_32, n_lt_60, n_le_60, n_tl_60, n_el_60, n_eq_60, n_ad_60, n_lt_99, n_le_99, n_tl_99, n_el_99, n_eq_99, n_ad_99, n_lt_100, n_le_100, n_tl_100, n_el_100, n_eq_100, n_ad_100, n_lt_144, n_le_144, n_tl_144, n_el_144, n_eq_144, n_ad_144, n_lt_4096, n_le_4096, n_tl_4096, n_el_4096, n_eq_4096, n_ad_4096, n_mulK, nI_add, pk_mul, n_lt, n_le, n_eq, n_eqM, n_ix, n_cl, if_neg q1, if_true]
    · have hc := low_C hC hr hr0
      obtain ⟨a1, a2, a3⟩ := t3 l (lowN r) hl hc
      have hlow := low_low r (by omega) hr0
      have hclr := s_clr (r := r) (p := AL l (lowN r)) (by omega) (by omega)
      have hsl : sdf r (AL l (lowN r)) ≤ r := Nat.and_le_left
      have z := ih (i + 1) (sdf r (AL l (lowN r))) (n + 1) (by omega) (by omega) (by omega)
      simp (disch := omega) only [s64_10, s64_11, s64_14, s64_17, s64_18, s64_21, s64_22, s64_23, s64_24, s64_25, s64_28, s64_31, s64_32, s64_33, s64_34, s64_35, s64_38, s64_41, t2, n_lt_0, n_le_0, n_tl_0, n_el_0, n_eq_0, n_ad_0, n_lt_1, n_le_1, n_tl_1, n_el_1, n_eq_1, n_ad_1, n_lt_2, n_le_2, n_tl_2, n_el_2, n_eq_2, n_ad_2, n_lt_3, n_le_3, n_tl_3, n_el_3, n_eq_3, n_ad_3, n_lt_4, n_le_4, n_tl_4, n_el_4, n_eq_4, n_ad_4, n_lt_5, n_le_5, n_tl_5, n_el_5, n_eq_5, n_ad_5, n_lt_6, n_le_6, n_tl_6, n_el_6, n_eq_6, n_ad_6, n_lt_10, n_le_10, n_tl_10, n_el_10, n_eq_10, n_ad_10, n_lt_11, n_le_11, n_tl_11, n_el_11, n_eq_11, n_ad_11, n_lt_12, n_le_12, n_tl_12, n_el_12, n_eq_12, n_ad_12, n_lt_13, n_le_13, n_tl_13, n_el_13, n_eq_13, n_ad_13, n_lt_15, n_le_15, n_tl_15, n_el_15, n_eq_15, n_ad_15, n_lt_20, n_le_20, n_tl_20, n_el_20, n_eq_20, n_ad_20, n_lt_30, n_le_30, n_tl_30, n_el_30, n_eq_30, n_ad_30, n_lt_31, n_le_31, n_tl_31, n_el_31, n_eq_31, n_ad_31, n_lt_32, n_le_32, n_tl_32, n_el_32, n_eq_32, n_ad_32, n_lt_60, n_le_60, n_tl_60, n_el_60, n_eq_60, n_ad_60, n_lt_99, n_le_99, n_tl_99, n_el_99, n_eq_99, n_ad_99, n_lt_100, n_le_100, n_tl_100, n_el_100, n_eq_100, n_ad_100, n_lt_144, n_le_144, n_tl_144, n_el_144, n_eq_144, n_ad_144, n_lt_4096, n_le_4096, n_tl_4096, n_el_4096, n_eq_4096, n_ad_4096, n_mulK, nI_add, pk_mul, n_lt, n_le, n_eq, n_eqM, n_ix, n_cl, if_neg q1, if_neg hr0, c117, hlow, c62 (show l < 12 by omega) (show lowN r < 12 by omega), a1, hclr, ir_k_i, ir_tl_i]
      exact z
theorem c64 {d K C l s : Nat} {AL : Nat → Nat → Nat} {pr : Nat → Nat} {σ : ir_S} (ht : TBL σ K C AL pr) (hl : l < K) (hs : s < 2 ^ C) : ir_ev (d + 3) 64 [.ref 25, .int (nI l), .int (nI s)] σ = some (some (.int (nI (grF (AL l) C s 0))), σ) := by
  simp only [e64, s64_0, s64_1, s64_2, s64_3, s64_5, s64_6]
  exact c64_loop ht hl C 0 s 0 (by omega) (by omega) hs
