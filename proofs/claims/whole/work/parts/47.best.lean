/-! groups, largest, tells, first on either side -/
theorem sdf_and {r x : Nat} (hr : r < 4096) : sdf r (r &&& x) = sdf r x := by
  apply Nat.eq_of_testBit_eq
  intro i
  rw [sdf_tb hr, sdf_tb hr, Nat.testBit_and]
  cases r.testBit i <;> simp
section BEST
variable {K C : Nat} {A : Nat → Nat → Int32} {pr : Nat → Nat} {σ : ir_S}
theorem m165_loop {d l : Nat} (ht : TM σ K C A pr) (hl : l < K) : ∀ k r n, popN r ≤ k → r < 2 ^ C → n + k < 100 → ir_run (ir_ev (d + 1)) 165 (30, [.ref 33, .int (nI l), .int (nI n), .int (nI r)], [], σ) = some (some (.int (nI (grF (alN (A l) C) k r n))), σ) := by
  have hC := ht.2.1
  have h4 := pC hC
  have fin : ∀ n, ir_run (ir_ev (d + 1)) 165 (30, [.ref 33, .int (nI l), .int (nI n), .int (nI 0)], [], σ) = some (some (.int (nI n)), σ) := by
    intro n
    rw [s165_30]
    simp (disch := omega) only [s165_31, s165_55, s165_56, n_lt_0, n_le_0, n_tl_0, n_el_0, n_eq_0, n_ad_0, n_lt_1, n_le_1, n_tl_1, n_el_1, n_eq_1, n_ad_1, n_lt_2, n_le_2, n_tl_2, n_el_2, n_eq_2, n_ad_2, n_lt_3, n_le_3, n_tl_3, n_el_3, n_eq_3, n_ad_3, n_lt_4, n_le_4, n_tl_4, n_el_4, n_eq_4, n_ad_4, n_lt_5, n_le_5, n_tl_5, n_el_5, n_eq_5, n_ad_5, n_lt_6, n_le_6, n_tl_6, n_el_6, n_eq_6, n_ad_6, n_lt_10, n_le_10, n_tl_10, n_el_10, n_eq_10, n_ad_10, n_lt_11, n_le_11, n_tl_11, n_el_11, n_eq_11, n_ad_11, n_lt_12, n_le_12, n_tl_12, n_el_12, n_eq_12, n_ad_12, n_lt_13, n_le_13, n_tl_13, n_el_13, n_eq_13, n_ad_13, n_lt_15, n_le_15, n_tl_15, n_el_15, n_eq_15, n_ad_15, n_lt_20, n_le_20, n_tl_20, n_el_20, n_eq_20, n_ad_20, n_lt_30, n_le_30, n_tl_30, n_el_30, n_eq_30, n_ad_30, n_lt_31, n_le_31, n_tl_31, n_el_31, n_eq_31, n_ad_31, n_lt_32, n_le_32, n_tl_32, n_el_32, n_eq_32, n_ad_32, n_lt_60, n_le_60, n_tl_60, n_el_60, n_eq_60, n_ad_60, n_lt_99, n_le_99, n_tl_99, n_el_99, n_eq_99, n_ad_99, n_lt_100, n_le_100, n_tl_100, n_el_100, n_eq_100, n_ad_100, n_lt_144, n_le_144, n_tl_144, n_el_144, n_eq_144, n_ad_144, n_lt_4096, n_le_4096, n_tl_4096, n_el_4096, n_eq_4096, n_ad_4096, n_mulK, nI_add, pk_mul, n_lt, n_le, n_eq, n_eqM, n_ix, n_cl, if_true]
  intro k
  induction k with
  | zero =>
    intro r n hk hr hn
    have := pop_0 (r := r) (by omega) (by omega)
    subst this
    exact fin n
  | succ k ih =>
    intro r n hk hr hn
    simp only [grF]
    by_cases hr0 : r = 0
    · subst hr0
      rw [if_pos rfl]
      exact fin n
    · rw [if_neg hr0]
      have hlow := low_C hC hr hr0
      have hclr := s_clr (r := r) (p := r &&& alN (A l) C (lowN r)) (by omega) (and_lt (by omega))
      have hsl : sdf r (r &&& alN (A l) C (lowN r)) ≤ r := Nat.and_le_left
      have hpop := pop_sdf (A := A l) hC hr hr0
      have z := ih (sdf r (r &&& alN (A l) C (lowN r))) (n + 1) (by omega) (by omega) (by omega)
      rw [s165_30]
      simp (disch := omega) only [s165_31, s165_34, s165_37, s165_38, s165_39, s165_40, s165_41, s165_42, s165_45, s165_48, s165_49, s165_50, s165_51, s165_52, n_lt_0, n_le_0, n_tl_0, n_el_0, n_eq_0, n_ad_0, n_lt_1, n_le_1, n_tl_1, n_el_1, n_eq_1, n_ad_1, n_lt_2, n_le_2, n_tl_2, n_el_2, n_eq_2, n_ad_2, n_lt_3, n_le_3, n_tl_3, n_el_3, n_eq_3, n_ad_3, n_lt_4, n_le_4, n_tl_4, n_el_4, n_eq_4, n_ad_4, n_lt_5, n_le_5, n_tl_5, n_el_5, n_eq_5, n_ad_5, n_lt_6, n_le_6, n_tl_6, n_el_6, n_eq_6, n_ad_6, n_lt_10, n_le_10, n_tl_10, n_el_10, n_eq_10, n_ad_10, n_lt_11, n_le_11, n_tl_11, n_el_11, n_eq_11, n_ad_11, n_lt_12, n_le_12, n_tl_12, n_el_12, n_eq_12, n_ad_12, n_lt_13, n_le_13, n_tl_13, n_el_13, n_eq_13, n_ad_13, n_lt_15, n_le_15, n_tl_15, n_el_15, n_eq_15, n_ad_15, n_lt_20, n_le_20, n_tl_20, n_el_20, n_eq_20, n_ad_20, n_lt_30, n_le_30, n_tl_30, n_el_30, n_eq_30, n_ad_30, n_lt_31, n_le_31, n_tl_31, n_el_31, n_eq_31, n_ad_31, n_lt_32, n_le_32, n_tl_32, n_el_32, n_eq_32, n_ad_32, n_lt_60, n_le_60, n_tl_60, n_el_60, n_eq_60, n_ad_60, n_lt_99, n_le_99, n_tl_99, n_el_99, n_eq_99, n_ad_99, n_lt_100, n_le_100, n_tl_100, n_el_100, n_eq_100, n_ad_100, n_lt_144, n_le_144, n_tl_144, n_el_144, n_eq_144, n_ad_144, n_lt_4096, n_le_4096, n_tl_4096, n_el_4096, n_eq_4096, n_ad_4096, n_mulK, nI_add, pk_mul, n_lt, n_le, n_eq, n_eqM, n_ix, n_cl, if_neg hr0, c182, nt_low r (by omega) hr0, m161 ht hl (show r < 4096 by omega) hlow, hclr, ir_k_i, ir_tl_i]
      rw [← sdf_and (r := r) (x := alN (A l) C (lowN r)) (by omega)]
      exact z
theorem m171_loop {d l s : Nat} (ht : TM σ K C A pr) (hl : l < K) : ∀ k r g l5, popN r ≤ k → r < 2 ^ C → g ≤ 12 → ir_run (ir_ev (d + 1)) 171 (5, [.ref 33, .int (nI l), .int (nI s), .int (nI g), .int (nI r), l5], [], σ) = some (some (.int (nI (grt popN (alN (A l) C) k r g))), σ) := by
  have hC := ht.2.1
  have h4 := pC hC
  have fin : ∀ g l5, ir_run (ir_ev (d + 1)) 171 (5, [.ref 33, .int (nI l), .int (nI s), .int (nI g), .int (nI 0), l5], [], σ) = some (some (.int (nI g)), σ) := by
    intro g l5
    rw [s171_5]
    simp (disch := omega) only [s171_7, s171_46, s171_47, n_lt_0, n_le_0, n_tl_0, n_el_0, n_eq_0, n_ad_0, n_lt_1, n_le_1, n_tl_1, n_el_1, n_eq_1, n_ad_1, n_lt_2, n_le_2, n_tl_2, n_el_2, n_eq_2, n_ad_2, n_lt_3, n_le_3, n_tl_3, n_el_3, n_eq_3, n_ad_3, n_lt_4, n_le_4, n_tl_4, n_el_4, n_eq_4, n_ad_4, n_lt_5, n_le_5, n_tl_5, n_el_5, n_eq_5, n_ad_5, n_lt_6, n_le_6, n_tl_6, n_el_6, n_eq_6, n_ad_6, n_lt_10, n_le_10, n_tl_10, n_el_10, n_eq_10, n_ad_10, n_lt_11, n_le_11, n_tl_11, n_el_11, n_eq_11, n_ad_11, n_lt_12, n_le_12, n_tl_12, n_el_12, n_eq_12, n_ad_12, n_lt_13, n_le_13, n_tl_13, n_el_13, n_eq_13, n_ad_13, n_lt_15, n_le_15, n_tl_15, n_el_15, n_eq_15, n_ad_15, n_lt_20, n_le_20, n_tl_20, n_el_20, n_eq_20, n_ad_20, n_lt_30, n_le_30, n_tl_30, n_el_30, n_eq_30, n_ad_30, n_lt_31, n_le_31, n_tl_31, n_el_31, n_eq_31, n_ad_31, n_lt_32, n_le_32, n_tl_32, n_el_32, n_eq_32, n_ad_32, n_lt_60, n_le_60, n_tl_60, n_el_60, n_eq_60, n_ad_60, n_lt_99, n_le_99, n_tl_99, n_el_99, n_eq_99, n_ad_99, n_lt_100, n_le_100, n_tl_100, n_el_100, n_eq_100, n_ad_100, n_lt_144, n_le_144, n_tl_144, n_el_144, n_eq_144, n_ad_144, n_lt_4096, n_le_4096, n_tl_4096, n_el_4096, n_eq_4096, n_ad_4096, n_mulK, nI_add, pk_mul, n_lt, n_le, n_eq, n_eqM, n_ix, n_cl, if_true]
  intro k
  induction k with
  | zero =>
    intro r g l5 hk hr hg
    have := pop_0 (r := r) (by omega) (by omega)
    subst this
    exact fin g l5
  | succ k ih =>
    intro r g l5 hk hr hg
    simp only [grt]
    by_cases hr0 : r = 0
    · subst hr0
      rw [if_pos rfl]
      exact fin g l5
    · rw [if_neg hr0]
      have hlow := low_C hC hr hr0
      have hand : r &&& alN (A l) C (lowN r) < 4096 := and_lt (by omega)
      have hclr := s_clr (r := r) (p := r &&& alN (A l) C (lowN r)) (by omega) hand
      have hsl : sdf r (r &&& alN (A l) C (lowN r)) ≤ r := Nat.and_le_left
      have hpop := pop_sdf (A := A l) hC hr hr0
      have hp12 := pop_12 (r &&& alN (A l) C (lowN r))
      have hmx := ir_max_n (a := g) (b := popN (r &&& alN (A l) C (lowN r))) (by omega) (by omega)
      have z := ih (sdf r (r &&& alN (A l) C (lowN r))) (max g (popN (r &&& alN (A l) C (lowN r)))) (.int (nI (r &&& alN (A l) C (lowN r)))) (by omega) (by omega) (by omega)
      rw [s171_5]
      simp (disch := omega) only [s171_7, s171_10, s171_11, s171_12, s171_14, s171_16, s171_19, s171_22, s171_24, s171_25, s171_27, s171_30, s171_33, s171_34, s171_36, s171_38, s171_39, s171_40, s171_41, s171_43, n_lt_0, n_le_0, n_tl_0, n_el_0, n_eq_0, n_ad_0, n_lt_1, n_le_1, n_tl_1, n_el_1, n_eq_1, n_ad_1, n_lt_2, n_le_2, n_tl_2, n_el_2, n_eq_2, n_ad_2, n_lt_3, n_le_3, n_tl_3, n_el_3, n_eq_3, n_ad_3, n_lt_4, n_le_4, n_tl_4, n_el_4, n_eq_4, n_ad_4, n_lt_5, n_le_5, n_tl_5, n_el_5, n_eq_5, n_ad_5, n_lt_6, n_le_6, n_tl_6, n_el_6, n_eq_6, n_ad_6, n_lt_10, n_le_10, n_tl_10, n_el_10, n_eq_10, n_ad_10, n_lt_11, n_le_11, n_tl_11, n_el_11, n_eq_11, n_ad_11, n_lt_12, n_le_12, n_tl_12, n_el_12, n_eq_12, n_ad_12, n_lt_13, n_le_13, n_tl_13, n_el_13, n_eq_13, n_ad_13, n_lt_15, n_le_15, n_tl_15, n_el_15, n_eq_15, n_ad_15, n_lt_20, n_le_20, n_tl_20, n_el_20, n_eq_20, n_ad_20, n_lt_30, n_le_30, n_tl_30, n_el_30, n_eq_30, n_ad_30, n_lt_31, n_le_31, n_tl_31, n_el_31, n_eq_31, n_ad_31, n_lt_32, n_le_32, n_tl_32, n_el_32, n_eq_32, n_ad_32, n_lt_60, n_le_60, n_tl_60, n_el_60, n_eq_60, n_ad_60, n_lt_99, n_le_99, n_tl_99, n_el_99, n_eq_99, n_ad_99, n_lt_100, n_le_100, n_tl_100, n_el_100, n_eq_100, n_ad_100, n_lt_144, n_le_144, n_tl_144, n_el_144, n_eq_144, n_ad_144, n_lt_4096, n_le_4096, n_tl_4096, n_el_4096, n_eq_4096, n_ad_4096, n_mulK, nI_add, pk_mul, n_lt, n_le, n_eq, n_eqM, n_ix, n_cl, if_neg hr0, c182, nt_low r (by omega) hr0, m161 ht hl (show r < 4096 by omega) hlow, c183, bc_pop _ hand, hmx, hclr, ir_k_i, ir_tl_i]
      exact z
theorem m171 {d l s : Nat} (ht : TM σ K C A pr) (hl : l < K) (hs : s < 2 ^ C) : ir_ev (d + 2) 171 [.ref 33, .int (nI l), .int (nI s)] σ = some (some (.int (nI (grt popN (alN (A l) C) C s 0))), σ) := by
  have hC := ht.2.1
  have h4 := pC hC
  simp only [e171, s171_0, s171_1, s171_2, s171_3]
  exact m171_loop ht hl C s 0 .null (pop_C s (by omega) C (by omega) hs) hs (by omega)
def tlN (gp pr : Nat → Nat) (l : Nat) (b : Option Nat) : Option Nat := match b with
  | none => some l
  | some x => if gp l < gp x ∨ (gp l = gp x ∧ pr l < pr x) then some l else some x
def tlF (pt : Nat → Bool) (gp pr : Nat → Nat) : Nat → Nat → Option Nat → Option Nat
  | 0, _, b => b
  | n + 1, l, b => tlF pt gp pr n (l + 1) (if pt l = true then tlN gp pr l b else b)
theorem tlN_lt {gp pr : Nat → Nat} {l : Nat} {b : Option Nat} (hb : ∀ x, b = some x → x < l) : ∀ x, tlN gp pr l b = some x → x < l + 1 := by
  intro x hx
  cases b with
  | none => cases hx; omega
  | some y =>
    have := hb y rfl
    unfold tlN at hx
    by_cases q : gp l < gp y ∨ (gp l = gp y ∧ pr l < pr y)
    · simp only [if_pos q] at hx; cases hx; omega
    · simp only [if_neg q] at hx; cases hx; omega
theorem n_sub_lt {a b : Nat} (ha : a ≤ 100) (hb : b ≤ 100) : (nI a - nI b < 0) = (a < b) ∧ (nI a - nI b = 0) = (a = b) := by
  have h1 : (nI a - nI b).toInt = (a : Int) - b := by
    rw [Int32.toInt_sub, nI_toInt (by omega), nI_toInt (by omega)]
    rw [Int.bmod_eq_of_le (by omega) (by omega)]
  have h0 : (0 : Int32).toInt = 0 := by decide
  refine ⟨propext ?_, propext ?_⟩
  · rw [Int32.lt_iff_toInt_lt, h1, h0]; omega
  · rw [← Int32.toInt_inj, h1, h0]; omega
theorem grt12 {al : Nat → Nat} {k r g : Nat} (hg : g ≤ 12) : grt popN al k r g ≤ 12 := grt_le (B := 12) pop_12 k r g hg
theorem m172_loop {d s : Nat} (ht : TM σ K C A pr) (hs : s < 2 ^ C) (h0 : s ≠ 0) : ∀ n l b l4, l + n = K → (∀ x, b = some x → x < l) → ir_run (ir_ev (d + 2)) 172 (23, [.ref 33, .int (nI s), .int (oI b), .int (nI l), l4], [], σ) = some (some (.int (oI (tlF (fun l => !decide (s &&& alN (A l) C (lowN s) = s)) (fun l => grt popN (alN (A l) C) C s 0) pr n l b))), σ) := by
  obtain ⟨hK, hC, t1, t2, t3, t4⟩ := id ht
  have h4 := pC hC
  intro n
  induction n with
  | zero =>
    intro l b l4 hl hb
    have hl : l = K := by omega
    subst hl
    rw [s172_23]
    simp (disch := omega) only [s172_24, s172_25, s172_28, s172_99, s172_100, t2, n_lt_0, n_le_0, n_tl_0, n_el_0, n_eq_0, n_ad_0, n_lt_1, n_le_1, n_tl_1, n_el_1, n_eq_1, n_ad_1, n_lt_2, n_le_2, n_tl_2, n_el_2, n_eq_2, n_ad_2, n_lt_3, n_le_3, n_tl_3, n_el_3, n_eq_3, n_ad_3, n_lt_4, n_le_4, n_tl_4, n_el_4, n_eq_4, n_ad_4, n_lt_5, n_le_5, n_tl_5, n_el_5, n_eq_5, n_ad_5, n_lt_6, n_le_6, n_tl_6, n_el_6, n_eq_6, n_ad_6, n_lt_10, n_le_10, n_tl_10, n_el_10, n_eq_10, n_ad_10, n_lt_11, n_le_11, n_tl_11, n_el_11, n_eq_11, n_ad_11, n_lt_12, n_le_12, n_tl_12, n_el_12, n_eq_12, n_ad_12, n_lt_13, n_le_13, n_tl_13, n_el_13, n_eq_13, n_ad_13, n_lt_15, n_le_15, n_tl_15, n_el_15, n_eq_15, n_ad_15, n_lt_20, n_le_20, n_tl_20, n_el_20, n_eq_20, n_ad_20, n_lt_30, n_le_30, n_tl_30, n_el_30, n_eq_30, n_ad_30, n_lt_31, n_le_31, n_tl_31, n_el_31, n_eq_31, n_ad_31, n_lt_32, n_le_32, n_tl_32, n_el_32, n_eq_32, n_ad_32, n_lt_60, n_le_60, n_tl_60, n_el_60, n_eq_60, n_ad_60, n_lt_99, n_le_99, n_tl_99, n_el_99, n_eq_99, n_ad_99, n_lt_100, n_le_100, n_tl_100, n_el_100, n_eq_100, n_ad_100, n_lt_144, n_le_144, n_tl_144, n_el_144, n_eq_144, n_ad_144, n_lt_4096, n_le_4096, n_tl_4096, n_el_4096, n_eq_4096, n_ad_4096, n_mulK, nI_add, pk_mul, n_lt, n_le, n_eq, n_eqM, n_ix, n_cl, Nat.le_refl, if_true, tlF]
  | succ n ih =>
    intro l b l4 hl hb
    have hlK : l < K := by omega
    have hl12 : l < 12 := by omega
    have q1 : ¬ K ≤ l := by omega
    have hp := m162 (d := d) ht hlK hs h0
    have e1 : ¬ ((1 : Int32) = 0) := by decide
    simp only [tlF]
    rw [s172_23]
    by_cases e : s &&& alN (A l) C (lowN s) = s
    · have z := ih (l + 1) b l4 (by omega) (fun x hx => by have := hb x hx; omega)
      simp (disch := omega) only [s172_24, s172_25, s172_28, s172_31, s172_32, s172_33, s172_34, s172_37, s172_40, s172_93, s172_96, t2, n_lt_0, n_le_0, n_tl_0, n_el_0, n_eq_0, n_ad_0, n_lt_1, n_le_1, n_tl_1, n_el_1, n_eq_1, n_ad_1, n_lt_2, n_le_2, n_tl_2, n_el_2, n_eq_2, n_ad_2, n_lt_3, n_le_3, n_tl_3, n_el_3, n_eq_3, n_ad_3, n_lt_4, n_le_4, n_tl_4, n_el_4, n_eq_4, n_ad_4, n_lt_5, n_le_5, n_tl_5, n_el_5, n_eq_5, n_ad_5, n_lt_6, n_le_6, n_tl_6, n_el_6, n_eq_6, n_ad_6, n_lt_10, n_le_10, n_tl_10, n_el_10, n_eq_10, n_ad_10, n_lt_11, n_le_11, n_tl_11, n_el_11, n_eq_11, n_ad_11, n_lt_12, n_le_12, n_tl_12, n_el_12, n_eq_12, n_ad_12, n_lt_13, n_le_13, n_tl_13, n_el_13, n_eq_13, n_ad_13, n_lt_15, n_le_15, n_tl_15, n_el_15, n_eq_15, n_ad_15, n_lt_20, n_le_20, n_tl_20, n_el_20, n_eq_20, n_ad_20, n_lt_30, n_le_30, n_tl_30, n_el_30, n_eq_30, n_ad_30, n_lt_31, n_le_31, n_tl_31, n_el_31, n_eq_31, n_ad_31, n_lt_32, n_le_32, n_tl_32, n_el_32, n_eq_32, n_ad_32, n_lt_60, n_le_60, n_tl_60, n_el_60, n_eq_60, n_ad_60, n_lt_99, n_le_99, n_tl_99, n_el_99, n_eq_99, n_ad_99, n_lt_100, n_le_100, n_tl_100, n_el_100, n_eq_100, n_ad_100, n_lt_144, n_le_144, n_tl_144, n_el_144, n_eq_144, n_ad_144, n_lt_4096, n_le_4096, n_tl_4096, n_el_4096, n_eq_4096, n_ad_4096, n_mulK, nI_add, pk_mul, n_lt, n_le, n_eq, n_eqM, n_ix, n_cl, if_neg q1, hp, e, decide_true, Bool.not_true, ir_b_f, ir_k_i, ir_tl_i, if_true]
      simp only [Bool.false_eq_true, if_false]
      exact z
    · simp only [e, decide_false, Bool.not_false, if_true]
      have hg1 := grt12 (al := alN (A l) C) (k := C) (r := s) (g := 0) (by omega)
      cases b with
      | none =>
        have z := ih (l + 1) (some l) (.int (-1)) (by omega) (fun x hx => by cases hx; omega)
        have e2 : ¬ ((0 : Int32) ≤ -1) := by decide
        have e3 : ((-1 : Int32) < 0) := by decide
        simp (disch := omega) only [s172_24, s172_25, s172_28, s172_31, s172_32, s172_33, s172_34, s172_37, s172_43, s172_44, s172_47, s172_48, s172_64, s172_66, s172_68, s172_91, s172_92, s172_93, s172_96, t2, n_lt_0, n_le_0, n_tl_0, n_el_0, n_eq_0, n_ad_0, n_lt_1, n_le_1, n_tl_1, n_el_1, n_eq_1, n_ad_1, n_lt_2, n_le_2, n_tl_2, n_el_2, n_eq_2, n_ad_2, n_lt_3, n_le_3, n_tl_3, n_el_3, n_eq_3, n_ad_3, n_lt_4, n_le_4, n_tl_4, n_el_4, n_eq_4, n_ad_4, n_lt_5, n_le_5, n_tl_5, n_el_5, n_eq_5, n_ad_5, n_lt_6, n_le_6, n_tl_6, n_el_6, n_eq_6, n_ad_6, n_lt_10, n_le_10, n_tl_10, n_el_10, n_eq_10, n_ad_10, n_lt_11, n_le_11, n_tl_11, n_el_11, n_eq_11, n_ad_11, n_lt_12, n_le_12, n_tl_12, n_el_12, n_eq_12, n_ad_12, n_lt_13, n_le_13, n_tl_13, n_el_13, n_eq_13, n_ad_13, n_lt_15, n_le_15, n_tl_15, n_el_15, n_eq_15, n_ad_15, n_lt_20, n_le_20, n_tl_20, n_el_20, n_eq_20, n_ad_20, n_lt_30, n_le_30, n_tl_30, n_el_30, n_eq_30, n_ad_30, n_lt_31, n_le_31, n_tl_31, n_el_31, n_eq_31, n_ad_31, n_lt_32, n_le_32, n_tl_32, n_el_32, n_eq_32, n_ad_32, n_lt_60, n_le_60, n_tl_60, n_el_60, n_eq_60, n_ad_60, n_lt_99, n_le_99, n_tl_99, n_el_99, n_eq_99, n_ad_99, n_lt_100, n_le_100, n_tl_100, n_el_100, n_eq_100, n_ad_100, n_lt_144, n_le_144, n_tl_144, n_el_144, n_eq_144, n_ad_144, n_lt_4096, n_le_4096, n_tl_4096, n_el_4096, n_eq_4096, n_ad_4096, n_mulK, nI_add, pk_mul, n_lt, n_le, n_eq, n_eqM, n_ix, n_cl, if_neg q1, hp, e, decide_false, Bool.not_false, ir_b_t, ir_k_i, ir_tl_i, if_neg e1, oI, if_neg e2, if_pos e3, tlN]
        exact z
      | some x =>
        have hx := hb x rfl
        have hx12 : x < 12 := by omega
        have hg2 := grt12 (al := alN (A x) C) (k := C) (r := s) (g := 0) (by omega)
        have hs1 := n_sub_lt (a := grt popN (alN (A l) C) C s 0) (b := grt popN (alN (A x) C) C s 0) (by omega) (by omega)
        have k1 := m171 (d := d) ht hlK hs
        have k2 := m171 (d := d) (l := x) ht (by omega) hs
        have p1 := t4 l hlK
        have p2 := t4 x (by omega)
        have hx0 : 0 ≤ x := by omega
        have hT : tlN (fun l => grt popN (alN (A l) C) C s 0) pr l (some x) = if grt popN (alN (A l) C) C s 0 < grt popN (alN (A x) C) C s 0 ∨ (grt popN (alN (A l) C) C s 0 = grt popN (alN (A x) C) C s 0 ∧ pr l < pr x) then some l else some x := rfl
        rw [hT]
        by_cases g1 : grt popN (alN (A l) C) C s 0 < grt popN (alN (A x) C) C s 0
        · have z := ih (l + 1) (some l) (.int (nI (grt popN (alN (A l) C) C s 0) - nI (grt popN (alN (A x) C) C s 0))) (by omega) (fun y hy => by cases hy; omega)
          rw [if_pos (Or.inl g1)]
          simp (disch := omega) only [s172_24, s172_25, s172_28, s172_31, s172_32, s172_33, s172_34, s172_37, s172_43, s172_44, s172_51, s172_52, s172_53, s172_54, s172_57, s172_58, s172_59, s172_60, s172_63, s172_64, s172_66, s172_68, s172_91, s172_92, s172_93, s172_96, t2, n_lt_0, n_le_0, n_tl_0, n_el_0, n_eq_0, n_ad_0, n_lt_1, n_le_1, n_tl_1, n_el_1, n_eq_1, n_ad_1, n_lt_2, n_le_2, n_tl_2, n_el_2, n_eq_2, n_ad_2, n_lt_3, n_le_3, n_tl_3, n_el_3, n_eq_3, n_ad_3, n_lt_4, n_le_4, n_tl_4, n_el_4, n_eq_4, n_ad_4, n_lt_5, n_le_5, n_tl_5, n_el_5, n_eq_5, n_ad_5, n_lt_6, n_le_6, n_tl_6, n_el_6, n_eq_6, n_ad_6, n_lt_10, n_le_10, n_tl_10, n_el_10, n_eq_10, n_ad_10, n_lt_11, n_le_11, n_tl_11, n_el_11, n_eq_11, n_ad_11, n_lt_12, n_le_12, n_tl_12, n_el_12, n_eq_12, n_ad_12, n_lt_13, n_le_13, n_tl_13, n_el_13, n_eq_13, n_ad_13, n_lt_15, n_le_15, n_tl_15, n_el_15, n_eq_15, n_ad_15, n_lt_20, n_le_20, n_tl_20, n_el_20, n_eq_20, n_ad_20, n_lt_30, n_le_30, n_tl_30, n_el_30, n_eq_30, n_ad_30, n_lt_31, n_le_31, n_tl_31, n_el_31, n_eq_31, n_ad_31, n_lt_32, n_le_32, n_tl_32, n_el_32, n_eq_32, n_ad_32, n_lt_60, n_le_60, n_tl_60, n_el_60, n_eq_60, n_ad_60, n_lt_99, n_le_99, n_tl_99, n_el_99, n_eq_99, n_ad_99, n_lt_100, n_le_100, n_tl_100, n_el_100, n_eq_100, n_ad_100, n_lt_144, n_le_144, n_tl_144, n_el_144, n_eq_144, n_ad_144, n_lt_4096, n_le_4096, n_tl_4096, n_el_4096, n_eq_4096, n_ad_4096, n_mulK, nI_add, pk_mul, n_lt, n_le, n_eq, n_eqM, n_ix, n_cl, if_neg q1, hp, e, decide_false, Bool.not_false, ir_b_t, ir_k_i, ir_tl_i, if_neg e1, oI, hx0, if_true, k1, k2, hs1.1, g1]
          exact z
        · by_cases g2 : grt popN (alN (A l) C) C s 0 = grt popN (alN (A x) C) C s 0
          · by_cases g3 : pr l < pr x
            · have z := ih (l + 1) (some l) (.int (nI (grt popN (alN (A l) C) C s 0) - nI (grt popN (alN (A x) C) C s 0))) (by omega) (fun y hy => by cases hy; omega)
              rw [if_pos (Or.inr ⟨g2, g3⟩)]
              have g3' : ¬ pr x ≤ pr l := by omega
              simp (disch := omega) only [s172_24, s172_25, s172_28, s172_31, s172_32, s172_33, s172_34, s172_37, s172_43, s172_44, s172_51, s172_52, s172_53, s172_54, s172_57, s172_58, s172_59, s172_60, s172_63, s172_64, s172_66, s172_68, s172_71, s172_73, s172_76, s172_77, s172_80, s172_81, s172_82, s172_83, s172_86, s172_87, s172_88, s172_91, s172_92, s172_93, s172_96, xA55, xL55, xa55, t2, n_lt_0, n_le_0, n_tl_0, n_el_0, n_eq_0, n_ad_0, n_lt_1, n_le_1, n_tl_1, n_el_1, n_eq_1, n_ad_1, n_lt_2, n_le_2, n_tl_2, n_el_2, n_eq_2, n_ad_2, n_lt_3, n_le_3, n_tl_3, n_el_3, n_eq_3, n_ad_3, n_lt_4, n_le_4, n_tl_4, n_el_4, n_eq_4, n_ad_4, n_lt_5, n_le_5, n_tl_5, n_el_5, n_eq_5, n_ad_5, n_lt_6, n_le_6, n_tl_6, n_el_6, n_eq_6, n_ad_6, n_lt_10, n_le_10, n_tl_10, n_el_10, n_eq_10, n_ad_10, n_lt_11, n_le_11, n_tl_11, n_el_11, n_eq_11, n_ad_11, n_lt_12, n_le_12, n_tl_12, n_el_12, n_eq_12, n_ad_12, n_lt_13, n_le_13, n_tl_13, n_el_13, n_eq_13, n_ad_13, n_lt_15, n_le_15, n_tl_15, n_el_15, n_eq_15, n_ad_15, n_lt_20, n_le_20, n_tl_20, n_el_20, n_eq_20, n_ad_20, n_lt_30, n_le_30, n_tl_30, n_el_30, n_eq_30, n_ad_30, n_lt_31, n_le_31, n_tl_31, n_el_31, n_eq_31, n_ad_31, n_lt_32, n_le_32, n_tl_32, n_el_32, n_eq_32, n_ad_32, n_lt_60, n_le_60, n_tl_60, n_el_60, n_eq_60, n_ad_60, n_lt_99, n_le_99, n_tl_99, n_el_99, n_eq_99, n_ad_99, n_lt_100, n_le_100, n_tl_100, n_el_100, n_eq_100, n_ad_100, n_lt_144, n_le_144, n_tl_144, n_el_144, n_eq_144, n_ad_144, n_lt_4096, n_le_4096, n_tl_4096, n_el_4096, n_eq_4096, n_ad_4096, n_mulK, nI_add, pk_mul, n_lt, n_le, n_eq, n_eqM, n_ix, n_cl, if_neg q1, hp, e, decide_true, decide_false, Bool.not_false, ir_b_t, ir_k_i, ir_tl_i, if_neg e1, oI, hx0, if_true, k1, k2, hs1.1, hs1.2, if_neg g1, if_pos g2, hl12, hx12, p1.1, p2.1, if_neg g3']
              exact z
            · have z := ih (l + 1) (some x) (.int (nI (grt popN (alN (A l) C) C s 0) - nI (grt popN (alN (A x) C) C s 0))) (by omega) (fun y hy => by cases hy; omega)
              rw [if_neg (fun q => by omega)]
              have g3' : pr x ≤ pr l := by omega
              simp (disch := omega) only [s172_24, s172_25, s172_28, s172_31, s172_32, s172_33, s172_34, s172_37, s172_43, s172_44, s172_51, s172_52, s172_53, s172_54, s172_57, s172_58, s172_59, s172_60, s172_63, s172_64, s172_66, s172_68, s172_71, s172_73, s172_76, s172_77, s172_80, s172_81, s172_82, s172_83, s172_86, s172_87, s172_88, s172_93, s172_96, xA55, xL55, xa55, t2, n_lt_0, n_le_0, n_tl_0, n_el_0, n_eq_0, n_ad_0, n_lt_1, n_le_1, n_tl_1, n_el_1, n_eq_1, n_ad_1, n_lt_2, n_le_2, n_tl_2, n_el_2, n_eq_2, n_ad_2, n_lt_3, n_le_3, n_tl_3, n_el_3, n_eq_3, n_ad_3, n_lt_4, n_le_4, n_tl_4, n_el_4, n_eq_4, n_ad_4, n_lt_5, n_le_5, n_tl_5, n_el_5, n_eq_5, n_ad_5, n_lt_6, n_le_6, n_tl_6, n_el_6, n_eq_6, n_ad_6, n_lt_10, n_le_10, n_tl_10, n_el_10, n_eq_10, n_ad_10, n_lt_11, n_le_11, n_tl_11, n_el_11, n_eq_11, n_ad_11, n_lt_12, n_le_12, n_tl_12, n_el_12, n_eq_12, n_ad_12, n_lt_13, n_le_13, n_tl_13, n_el_13, n_eq_13, n_ad_13, n_lt_15, n_le_15, n_tl_15, n_el_15, n_eq_15, n_ad_15, n_lt_20, n_le_20, n_tl_20, n_el_20, n_eq_20, n_ad_20, n_lt_30, n_le_30, n_tl_30, n_el_30, n_eq_30, n_ad_30, n_lt_31, n_le_31, n_tl_31, n_el_31, n_eq_31, n_ad_31, n_lt_32, n_le_32, n_tl_32, n_el_32, n_eq_32, n_ad_32, n_lt_60, n_le_60, n_tl_60, n_el_60, n_eq_60, n_ad_60, n_lt_99, n_le_99, n_tl_99, n_el_99, n_eq_99, n_ad_99, n_lt_100, n_le_100, n_tl_100, n_el_100, n_eq_100, n_ad_100, n_lt_144, n_le_144, n_tl_144, n_el_144, n_eq_144, n_ad_144, n_lt_4096, n_le_4096, n_tl_4096, n_el_4096, n_eq_4096, n_ad_4096, n_mulK, nI_add, pk_mul, n_lt, n_le, n_eq, n_eqM, n_ix, n_cl, if_neg q1, hp, e, decide_true, decide_false, Bool.not_false, ir_b_t, ir_k_i, ir_tl_i, if_neg e1, oI, hx0, if_true, k1, k2, hs1.1, hs1.2, if_neg g1, if_pos g2, hl12, hx12, p1.1, p2.1, if_pos g3']
              exact z
          · have z := ih (l + 1) (some x) (.int (nI (grt popN (alN (A l) C) C s 0) - nI (grt popN (alN (A x) C) C s 0))) (by omega) (fun y hy => by cases hy; omega)
            rw [if_neg (fun q => by omega)]
            simp (disch := omega) only [s172_24, s172_25, s172_28, s172_31, s172_32, s172_33, s172_34, s172_37, s172_43, s172_44, s172_51, s172_52, s172_53, s172_54, s172_57, s172_58, s172_59, s172_60, s172_63, s172_64, s172_66, s172_68, s172_71, s172_73, s172_93, s172_96, t2, n_lt_0, n_le_0, n_tl_0, n_el_0, n_eq_0, n_ad_0, n_lt_1, n_le_1, n_tl_1, n_el_1, n_eq_1, n_ad_1, n_lt_2, n_le_2, n_tl_2, n_el_2, n_eq_2, n_ad_2, n_lt_3, n_le_3, n_tl_3, n_el_3, n_eq_3, n_ad_3, n_lt_4, n_le_4, n_tl_4, n_el_4, n_eq_4, n_ad_4, n_lt_5, n_le_5, n_tl_5, n_el_5, n_eq_5, n_ad_5, n_lt_6, n_le_6, n_tl_6, n_el_6, n_eq_6, n_ad_6, n_lt_10, n_le_10, n_tl_10, n_el_10, n_eq_10, n_ad_10, n_lt_11, n_le_11, n_tl_11, n_el_11, n_eq_11, n_ad_11, n_lt_12, n_le_12, n_tl_12, n_el_12, n_eq_12, n_ad_12, n_lt_13, n_le_13, n_tl_13, n_el_13, n_eq_13, n_ad_13, n_lt_15, n_le_15, n_tl_15, n_el_15, n_eq_15, n_ad_15, n_lt_20, n_le_20, n_tl_20, n_el_20, n_eq_20, n_ad_20, n_lt_30, n_le_30, n_tl_30, n_el_30, n_eq_30, n_ad_30, n_lt_31, n_le_31, n_tl_31, n_el_31, n_eq_31, n_ad_31, n_lt_32, n_le_32, n_tl_32, n_el_32, n_eq_32, n_ad_32, n_lt_60, n_le_60, n_tl_60, n_el_60, n_eq_60, n_ad_60, n_lt_99, n_le_99, n_tl_99, n_el_99, n_eq_99, n_ad_99, n_lt_100, n_le_100, n_tl_100, n_el_100, n_eq_100, n_ad_100, n_lt_144, n_le_144, n_tl_144, n_el_144, n_eq_144, n_ad_144, n_lt_4096, n_le_4096, n_tl_4096, n_el_4096, n_eq_4096, n_ad_4096, n_mulK, nI_add, pk_mul, n_lt, n_le, n_eq, n_eqM, n_ix, n_cl, if_neg q1, hp, e, decide_false, Bool.not_false, ir_b_t, ir_k_i, ir_tl_i, if_neg e1, oI, hx0, if_true, k1, k2, hs1.1, hs1.2, if_neg g1, if_neg g2]
            exact z
/-! the class: greatestPart, mostTelling -/
variable {AL : Nat → Nat → Nat}
theorem c70_loop {d l s : Nat} (ht : TBL σ K C AL pr) (hl : l < K) (hs : s < 2 ^ C) : ∀ n c g, c + n = C → g ≤ 12 → ir_run (ir_ev (d + 1)) 70 (5, [.ref 25, .int (nI l), .int (nI s), .int (nI g), .int (nI c)], [], σ) = some (some (.int (nI (gpF (AL l) s n c g))), σ) := by
  obtain ⟨hK, hC, t1, t2, t3, t4⟩ := ht
  have h4 := pC hC
  intro n
  induction n with
  | zero =>
    intro c g hc hg
    have hc : c = C := by omega
    subst hc
    rw [s70_5]
    simp (disch := omega) only [s70_7, s70_8, s70_11, s70_46, s70_47, t2, n_lt_0, n_le_0, n_tl_0, n_el_0, n_eq_0, n_ad_0, n_lt_1, n_le_1, n_tl_1, n_el_1, n_eq_1, n_ad_1, n_lt_2, n_le_2, n_tl_2, n_el_2, n_eq_2, n_ad_2, n_lt_3, n_le_3, n_tl_3, n_el_3, n_eq_3, n_ad_3, n_lt_4, n_le_4, n_tl_4, n_el_4, n_eq_4, n_ad_4, n_lt_5, n_le_5, n_tl_5, n_el_5, n_eq_5, n_ad_5, n_lt_6, n_le_6, n_tl_6, n_el_6, n_eq_6, n_ad_6, n_lt_10, n_le_10, n_tl_10, n_el_10, n_eq_10, n_ad_10, n_lt_11, n_le_11, n_tl_11, n_el_11, n_eq_11, n_ad_11, n_lt_12, n_le_12, n_tl_12, n_el_12, n_eq_12, n_ad_12, n_lt_13, n_le_13, n_tl_13, n_el_13, n_eq_13, n_ad_13, n_lt_15, n_le_15, n_tl_15, n_el_15, n_eq_15, n_ad_15, n_lt_20, n_le_20, n_tl_20, n_el_20, n_eq_20, n_ad_20, n_lt_30, n_le_30, n_tl_30, n_el_30, n_eq_30, n_ad_30, n_lt_31, n_le_31, n_tl_31, n_el_31, n_eq_31, n_ad_31, n_lt_32, n_le_32, n_tl_32, n_el_32, n_eq_32, n_ad_32, n_lt_60, n_le_60, n_tl_60, n_el_60, n_eq_60, n_ad_60, n_lt_99, n_le_99, n_tl_99, n_el_99, n_eq_99, n_ad_99, n_lt_100, n_le_100, n_tl_100, n_el_100, n_eq_100, n_ad_100, n_lt_144, n_le_144, n_tl_144, n_el_144, n_eq_144, n_ad_144, n_lt_4096, n_le_4096, n_tl_4096, n_el_4096, n_eq_4096, n_ad_4096, n_mulK, nI_add, pk_mul, n_lt, n_le, n_eq, n_eqM, n_ix, n_cl, Nat.le_refl, if_true, gpF]
  | succ n ih =>
    intro c g hc hg
    have q1 : ¬ C ≤ c := by omega
    have hbit := s_bit (s := s) (k := c) (by omega) (by omega)
    obtain ⟨a1, a2, a3⟩ := t3 l c hl (by omega)
    have hand := s_and (a := s) (b := AL l c) (by omega) (by omega)
    have hal : s &&& AL l c < 4096 := and_lt (by omega)
    have hp12 := pop_12 (s &&& AL l c)
    have hmx := ir_max_n (a := g) (b := popN (s &&& AL l c)) (by omega) (by omega)
    have e1 : ¬ ((1 : Int32) = 0) := by decide
    simp only [gpF]
    rw [s70_5]
    cases hb : s.testBit c with
    | false =>
      rw [hb] at hbit
      have z := ih (c + 1) g (by omega) hg
      simp (disch := omega) only [s70_7, s70_8, s70_11, s70_14, s70_15, s70_17, s70_20, s70_40, s70_43, t2, n_lt_0, n_le_0, n_tl_0, n_el_0, n_eq_0, n_ad_0, n_lt_1, n_le_1, n_tl_1, n_el_1, n_eq_1, n_ad_1, n_lt_2, n_le_2, n_tl_2, n_el_2, n_eq_2, n_ad_2, n_lt_3, n_le_3, n_tl_3, n_el_3, n_eq_3, n_ad_3, n_lt_4, n_le_4, n_tl_4, n_el_4, n_eq_4, n_ad_4, n_lt_5, n_le_5, n_tl_5, n_el_5, n_eq_5, n_ad_5, n_lt_6, n_le_6, n_tl_6, n_el_6, n_eq_6, n_ad_6, n_lt_10, n_le_10, n_tl_10, n_el_10, n_eq_10, n_ad_10, n_lt_11, n_le_11, n_tl_11, n_el_11, n_eq_11, n_ad_11, n_lt_12, n_le_12, n_tl_12, n_el_12, n_eq_12, n_ad_12, n_lt_13, n_le_13, n_tl_13, n_el_13, n_eq_13, n_ad_13, n_lt_15, n_le_15, n_tl_15, n_el_15, n_eq_15, n_ad_15, n_lt_20, n_le_20, n_tl_20, n_el_20, n_eq_20, n_ad_20, n_lt_30, n_le_30, n_tl_30, n_el_30, n_eq_30, n_ad_30, n_lt_31, n_le_31, n_tl_31, n_el_31, n_eq_31, n_ad_31, n_lt_32, n_le_32, n_tl_32, n_el_32, n_eq_32, n_ad_32, n_lt_60, n_le_60, n_tl_60, n_el_60, n_eq_60, n_ad_60, n_lt_99, n_le_99, n_tl_99, n_el_99, n_eq_99, n_ad_99, n_lt_100, n_le_100, n_tl_100, n_el_100, n_eq_100, n_ad_100, n_lt_144, n_le_144, n_tl_144, n_el_144, n_eq_144, n_ad_144, n_lt_4096, n_le_4096, n_tl_4096, n_el_4096, n_eq_4096, n_ad_4096, n_mulK, nI_add, pk_mul, n_lt, n_le, n_eq, n_eqM, n_ix, n_cl, if_neg q1, c116, hbit, ir_b_f, ir_k_i, ir_tl_i, if_true]
      simp only [Bool.false_eq_true, if_false]
      exact z
    | true =>
      rw [hb] at hbit
      have z := ih (c + 1) (max g (popN (s &&& AL l c))) (by omega) (by omega)
      simp (disch := omega) only [s70_7, s70_8, s70_11, s70_14, s70_15, s70_17, s70_20, s70_23, s70_24, s70_25, s70_26, s70_27, s70_29, s70_32, s70_33, s70_36, s70_39, s70_40, s70_43, t2, n_lt_0, n_le_0, n_tl_0, n_el_0, n_eq_0, n_ad_0, n_lt_1, n_le_1, n_tl_1, n_el_1, n_eq_1, n_ad_1, n_lt_2, n_le_2, n_tl_2, n_el_2, n_eq_2, n_ad_2, n_lt_3, n_le_3, n_tl_3, n_el_3, n_eq_3, n_ad_3, n_lt_4, n_le_4, n_tl_4, n_el_4, n_eq_4, n_ad_4, n_lt_5, n_le_5, n_tl_5, n_el_5, n_eq_5, n_ad_5, n_lt_6, n_le_6, n_tl_6, n_el_6, n_eq_6, n_ad_6, n_lt_10, n_le_10, n_tl_10, n_el_10, n_eq_10, n_ad_10, n_lt_11, n_le_11, n_tl_11, n_el_11, n_eq_11, n_ad_11, n_lt_12, n_le_12, n_tl_12, n_el_12, n_eq_12, n_ad_12, n_lt_13, n_le_13, n_tl_13, n_el_13, n_eq_13, n_ad_13, n_lt_15, n_le_15, n_tl_15, n_el_15, n_eq_15, n_ad_15, n_lt_20, n_le_20, n_tl_20, n_el_20, n_eq_20, n_ad_20, n_lt_30, n_le_30, n_tl_30, n_el_30, n_eq_30, n_ad_30, n_lt_31, n_le_31, n_tl_31, n_el_31, n_eq_31, n_ad_31, n_lt_32, n_le_32, n_tl_32, n_el_32, n_eq_32, n_ad_32, n_lt_60, n_le_60, n_tl_60, n_el_60, n_eq_60, n_ad_60, n_lt_99, n_le_99, n_tl_99, n_el_99, n_eq_99, n_ad_99, n_lt_100, n_le_100, n_tl_100, n_el_100, n_eq_100, n_ad_100, n_lt_144, n_le_144, n_tl_144, n_el_144, n_eq_144, n_ad_144, n_lt_4096, n_le_4096, n_tl_4096, n_el_4096, n_eq_4096, n_ad_4096, n_mulK, nI_add, pk_mul, n_lt, n_le, n_eq, n_eqM, n_ix, n_cl, if_neg q1, c116, hbit, ir_b_t, ir_k_i, ir_tl_i, if_neg e1, c62 (show l < 12 by omega) (show c < 12 by omega), a1, hand, c183, bc_pop _ hal, hmx]
      simp only [if_true]
      exact z
theorem c70 {d l s : Nat} (ht : TBL σ K C AL pr) (hl : l < K) (hs : s < 2 ^ C) : ir_ev (d + 2) 70 [.ref 25, .int (nI l), .int (nI s)] σ = some (some (.int (nI (gpF (AL l) s C 0 0))), σ) := by
  simp only [e70, s70_0, s70_1, s70_2, s70_3]
  exact c70_loop ht hl hs C 0 0 (by omega) (by omega)
theorem gp12 {al : Nat → Nat} {s : Nat} : ∀ n c g, g ≤ 12 → gpF al s n c g ≤ 12 := by
  intro n
  induction n with
  | zero => intro c g hg; exact hg
  | succ n ih =>
    intro c g hg
    simp only [gpF]
    have := pop_12 (s &&& al c)
    by_cases q : s.testBit c = true
    · rw [if_pos q]; exact ih _ _ (by omega)
    · rw [if_neg q]; exact ih _ _ hg
theorem c69_loop {d s : Nat} (ht : TBL σ K C AL pr) (hs : s < 2 ^ C) : ∀ n l b bs l5 l6 l7, l + n = K → (∀ x, b = some x → x < l ∧ bs = nI (gpF (AL x) s C 0 0)) → ir_run (ir_ev (d + 2)) 69 (7, [.ref 25, .int (nI s), .int (oI b), .int bs, .int (nI l), l5, l6, l7], [], σ) = some (some (.int (oI (tlF (fun l => decide (gpF (AL l) s C 0 0 < popN s)) (fun l => gpF (AL l) s C 0 0) pr n l b))), σ) := by
  obtain ⟨hK, hC, t1, t2, t3, t4⟩ := id ht
  have h4 := pC hC
  have hps := bc_pop s (by omega)
  have hp12 := pop_12 s
  have e1 : ¬ ((1 : Int32) = 0) := by decide
  intro n
  induction n with
  | zero =>
    intro l b bs l5 l6 l7 hl hb
    have hl : l = K := by omega
    subst hl
    rw [s69_7]
    simp (disch := omega) only [s69_9, s69_10, s69_13, s69_103, s69_104, t1, n_lt_0, n_le_0, n_tl_0, n_el_0, n_eq_0, n_ad_0, n_lt_1, n_le_1, n_tl_1, n_el_1, n_eq_1, n_ad_1, n_lt_2, n_le_2, n_tl_2, n_el_2, n_eq_2, n_ad_2, n_lt_3, n_le_3, n_tl_3, n_el_3, n_eq_3, n_ad_3, n_lt_4, n_le_4, n_tl_4, n_el_4, n_eq_4, n_ad_4, n_lt_5, n_le_5, n_tl_5, n_el_5, n_eq_5, n_ad_5, n_lt_6, n_le_6, n_tl_6, n_el_6, n_eq_6, n_ad_6, n_lt_10, n_le_10, n_tl_10, n_el_10, n_eq_10, n_ad_10, n_lt_11, n_le_11, n_tl_11, n_el_11, n_eq_11, n_ad_11, n_lt_12, n_le_12, n_tl_12, n_el_12, n_eq_12, n_ad_12, n_lt_13, n_le_13, n_tl_13, n_el_13, n_eq_13, n_ad_13, n_lt_15, n_le_15, n_tl_15, n_el_15, n_eq_15, n_ad_15, n_lt_20, n_le_20, n_tl_20, n_el_20, n_eq_20, n_ad_20, n_lt_30, n_le_30, n_tl_30, n_el_30, n_eq_30, n_ad_30, n_lt_31, n_le_31, n_tl_31, n_el_31, n_eq_31, n_ad_31, n_lt_32, n_le_32, n_tl_32, n_el_32, n_eq_32, n_ad_32, n_lt_60, n_le_60, n_tl_60, n_el_60, n_eq_60, n_ad_60, n_lt_99, n_le_99, n_tl_99, n_el_99, n_eq_99, n_ad_99, n_lt_100, n_le_100, n_tl_100, n_el_100, n_eq_100, n_ad_100, n_lt_144, n_le_144, n_tl_144, n_el_144, n_eq_144, n_ad_144, n_lt_4096, n_le_4096, n_tl_4096, n_el_4096, n_eq_4096, n_ad_4096, n_mulK, nI_add, pk_mul, n_lt, n_le, n_eq, n_eqM, n_ix, n_cl, Nat.le_refl, if_true, tlF]
  | succ n ih =>
    intro l b bs l5 l6 l7 hl hb
    have hlK : l < K := by omega
    have hl12 : l < 12 := by omega
    have q1 : ¬ K ≤ l := by omega
    have k1 := c70 (d := d) ht hlK hs
    have hg := gp12 (al := AL l) (s := s) C 0 0 (by omega)
    -- whether the look is the better one
    have fw : ∀ l6, ∃ fwb : Bool, (∀ nb, tlN (fun l => gpF (AL l) s C 0 0) pr l b = nb → nb = if fwb = true then some l else b) ∧ (b = none → fwb = true) ∧ ir_run (ir_ev (d + 2)) 69 (41, [.ref 25, .int (nI s), .int (oI b), .int bs, .int (nI l), .int (nI (gpF (AL l) s C 0 0)), l6, l7], [], σ) = ir_run (ir_ev (d + 2)) 69 (81, [.ref 25, .int (nI s), .int (oI b), .int bs, .int (nI l), .int (nI (gpF (AL l) s C 0 0)), l6, .int (ir_b fwb)], [], σ) := by
      intro l6
      cases b with
      | none =>
        refine ⟨true, fun nb h => h ▸ rfl, fun _ => rfl, ?_⟩
        simp (disch := omega) only [s69_41, s69_42, s69_43, s69_74, s69_75, s69_79, oI, if_true, ir_b_t]
      | some x =>
        obtain ⟨hx, rfl⟩ := hb x rfl
        have hx12 : x < 12 := by omega
        have hg2 := gp12 (al := AL x) (s := s) C 0 0 (by omega)
        have hxm := oI_m1 (b := x) (by omega)
        have p1 := t4 l hlK
        have p2 := t4 x (by omega)
        by_cases g1 : gpF (AL l) s C 0 0 < gpF (AL x) s C 0 0
        · refine ⟨true, fun nb h => ?_, fun h => (by cases h), ?_⟩
          · rw [← h]; simp only [tlN, g1, true_or, if_true]
          · simp (disch := omega) only [s69_41, s69_42, s69_43, s69_46, s69_48, s69_49, s69_74, s69_75, s69_79, oI, if_true, if_neg hxm, if_false, g1, n_lt_0, n_le_0, n_tl_0, n_el_0, n_eq_0, n_ad_0, n_lt_1, n_le_1, n_tl_1, n_el_1, n_eq_1, n_ad_1, n_lt_2, n_le_2, n_tl_2, n_el_2, n_eq_2, n_ad_2, n_lt_3, n_le_3, n_tl_3, n_el_3, n_eq_3, n_ad_3, n_lt_4, n_le_4, n_tl_4, n_el_4, n_eq_4, n_ad_4, n_lt_5, n_le_5, n_tl_5, n_el_5, n_eq_5, n_ad_5, n_lt_6, n_le_6, n_tl_6, n_el_6, n_eq_6, n_ad_6, n_lt_10, n_le_10, n_tl_10, n_el_10, n_eq_10, n_ad_10, n_lt_11, n_le_11, n_tl_11, n_el_11, n_eq_11, n_ad_11, n_lt_12, n_le_12, n_tl_12, n_el_12, n_eq_12, n_ad_12, n_lt_13, n_le_13, n_tl_13, n_el_13, n_eq_13, n_ad_13, n_lt_15, n_le_15, n_tl_15, n_el_15, n_eq_15, n_ad_15, n_lt_20, n_le_20, n_tl_20, n_el_20, n_eq_20, n_ad_20, n_lt_30, n_le_30, n_tl_30, n_el_30, n_eq_30, n_ad_30, n_lt_31, n_le_31, n_tl_31, n_el_31, n_eq_31, n_ad_31, n_lt_32, n_le_32, n_tl_32, n_el_32, n_eq_32, n_ad_32, n_lt_60, n_le_60, n_tl_60, n_el_60, n_eq_60, n_ad_60, n_lt_99, n_le_99, n_tl_99, n_el_99, n_eq_99, n_ad_99, n_lt_100, n_le_100, n_tl_100, n_el_100, n_eq_100, n_ad_100, n_lt_144, n_le_144, n_tl_144, n_el_144, n_eq_144, n_ad_144, n_lt_4096, n_le_4096, n_tl_4096, n_el_4096, n_eq_4096, n_ad_4096, n_mulK, nI_add, pk_mul, n_lt, n_le, n_eq, n_eqM, n_ix, n_cl, ir_b_t]
        · by_cases g2 : gpF (AL l) s C 0 0 = gpF (AL x) s C 0 0
          · by_cases g3 : pr l < pr x
            · refine ⟨true, fun nb h => ?_, fun h => (by cases h), ?_⟩
              · rw [← h]; simp only [tlN, g2, g3, true_and, or_true, if_true]
              · have g3' : ¬ pr x ≤ pr l := by omega
                simp (disch := omega) only [s69_41, s69_42, s69_43, s69_46, s69_48, s69_49, s69_52, s69_54, s69_55, s69_58, s69_59, s69_62, s69_64, s69_65, s69_66, s69_69, s69_70, s69_71, s69_74, s69_75, s69_79, xA28, xL28, xa28, oI, if_true, if_neg hxm, if_false, if_neg g1, if_pos g2, hl12, hx12, p1.1, p2.1, decide_true, if_neg g3', n_lt_0, n_le_0, n_tl_0, n_el_0, n_eq_0, n_ad_0, n_lt_1, n_le_1, n_tl_1, n_el_1, n_eq_1, n_ad_1, n_lt_2, n_le_2, n_tl_2, n_el_2, n_eq_2, n_ad_2, n_lt_3, n_le_3, n_tl_3, n_el_3, n_eq_3, n_ad_3, n_lt_4, n_le_4, n_tl_4, n_el_4, n_eq_4, n_ad_4, n_lt_5, n_le_5, n_tl_5, n_el_5, n_eq_5, n_ad_5, n_lt_6, n_le_6, n_tl_6, n_el_6, n_eq_6, n_ad_6, n_lt_10, n_le_10, n_tl_10, n_el_10, n_eq_10, n_ad_10, n_lt_11, n_le_11, n_tl_11, n_el_11, n_eq_11, n_ad_11, n_lt_12, n_le_12, n_tl_12, n_el_12, n_eq_12, n_ad_12, n_lt_13, n_le_13, n_tl_13, n_el_13, n_eq_13, n_ad_13, n_lt_15, n_le_15, n_tl_15, n_el_15, n_eq_15, n_ad_15, n_lt_20, n_le_20, n_tl_20, n_el_20, n_eq_20, n_ad_20, n_lt_30, n_le_30, n_tl_30, n_el_30, n_eq_30, n_ad_30, n_lt_31, n_le_31, n_tl_31, n_el_31, n_eq_31, n_ad_31, n_lt_32, n_le_32, n_tl_32, n_el_32, n_eq_32, n_ad_32, n_lt_60, n_le_60, n_tl_60, n_el_60, n_eq_60, n_ad_60, n_lt_99, n_le_99, n_tl_99, n_el_99, n_eq_99, n_ad_99, n_lt_100, n_le_100, n_tl_100, n_el_100, n_eq_100, n_ad_100, n_lt_144, n_le_144, n_tl_144, n_el_144, n_eq_144, n_ad_144, n_lt_4096, n_le_4096, n_tl_4096, n_el_4096, n_eq_4096, n_ad_4096, n_mulK, nI_add, pk_mul, n_lt, n_le, n_eq, n_eqM, n_ix, n_cl, ir_b_t]
            · refine ⟨false, fun nb h => ?_, fun h => (by cases h), ?_⟩
              · rw [← h]; simp [tlN, g2, g3]
              · have g3' : pr x ≤ pr l := by omega
                simp (disch := omega) only [s69_41, s69_42, s69_43, s69_46, s69_48, s69_49, s69_52, s69_54, s69_55, s69_58, s69_59, s69_62, s69_64, s69_65, s69_66, s69_69, s69_70, s69_71, s69_78, s69_79, xA28, xL28, xa28, oI, if_true, if_neg hxm, if_false, if_neg g1, if_pos g2, hl12, hx12, p1.1, p2.1, decide_true, if_pos g3', n_lt_0, n_le_0, n_tl_0, n_el_0, n_eq_0, n_ad_0, n_lt_1, n_le_1, n_tl_1, n_el_1, n_eq_1, n_ad_1, n_lt_2, n_le_2, n_tl_2, n_el_2, n_eq_2, n_ad_2, n_lt_3, n_le_3, n_tl_3, n_el_3, n_eq_3, n_ad_3, n_lt_4, n_le_4, n_tl_4, n_el_4, n_eq_4, n_ad_4, n_lt_5, n_le_5, n_tl_5, n_el_5, n_eq_5, n_ad_5, n_lt_6, n_le_6, n_tl_6, n_el_6, n_eq_6, n_ad_6, n_lt_10, n_le_10, n_tl_10, n_el_10, n_eq_10, n_ad_10, n_lt_11, n_le_11, n_tl_11, n_el_11, n_eq_11, n_ad_11, n_lt_12, n_le_12, n_tl_12, n_el_12, n_eq_12, n_ad_12, n_lt_13, n_le_13, n_tl_13, n_el_13, n_eq_13, n_ad_13, n_lt_15, n_le_15, n_tl_15, n_el_15, n_eq_15, n_ad_15, n_lt_20, n_le_20, n_tl_20, n_el_20, n_eq_20, n_ad_20, n_lt_30, n_le_30, n_tl_30, n_el_30, n_eq_30, n_ad_30, n_lt_31, n_le_31, n_tl_31, n_el_31, n_eq_31, n_ad_31, n_lt_32, n_le_32, n_tl_32, n_el_32, n_eq_32, n_ad_32, n_lt_60, n_le_60, n_tl_60, n_el_60, n_eq_60, n_ad_60, n_lt_99, n_le_99, n_tl_99, n_el_99, n_eq_99, n_ad_99, n_lt_100, n_le_100, n_tl_100, n_el_100, n_eq_100, n_ad_100, n_lt_144, n_le_144, n_tl_144, n_el_144, n_eq_144, n_ad_144, n_lt_4096, n_le_4096, n_tl_4096, n_el_4096, n_eq_4096, n_ad_4096, n_mulK, nI_add, pk_mul, n_lt, n_le, n_eq, n_eqM, n_ix, n_cl, ir_b_f]
          · refine ⟨false, fun nb h => ?_, fun h => (by cases h), ?_⟩
            · rw [← h]; simp [tlN, g1, g2]
            · simp (disch := omega) only [s69_41, s69_42, s69_43, s69_46, s69_48, s69_49, s69_52, s69_54, s69_55, s69_78, s69_79, oI, if_neg hxm, if_false, if_neg g1, if_neg g2, n_lt_0, n_le_0, n_tl_0, n_el_0, n_eq_0, n_ad_0, n_lt_1, n_le_1, n_tl_1, n_el_1, n_eq_1, n_ad_1, n_lt_2, n_le_2, n_tl_2, n_el_2, n_eq_2, n_ad_2, n_lt_3, n_le_3, n_tl_3, n_el_3, n_eq_3, n_ad_3, n_lt_4, n_le_4, n_tl_4, n_el_4, n_eq_4, n_ad_4, n_lt_5, n_le_5, n_tl_5, n_el_5, n_eq_5, n_ad_5, n_lt_6, n_le_6, n_tl_6, n_el_6, n_eq_6, n_ad_6, n_lt_10, n_le_10, n_tl_10, n_el_10, n_eq_10, n_ad_10, n_lt_11, n_le_11, n_tl_11, n_el_11, n_eq_11, n_ad_11, n_lt_12, n_le_12, n_tl_12, n_el_12, n_eq_12, n_ad_12, n_lt_13, n_le_13, n_tl_13, n_el_13, n_eq_13, n_ad_13, n_lt_15, n_le_15, n_tl_15, n_el_15, n_eq_15, n_ad_15, n_lt_20, n_le_20, n_tl_20, n_el_20, n_eq_20, n_ad_20, n_lt_30, n_le_30, n_tl_30, n_el_30, n_eq_30, n_ad_30, n_lt_31, n_le_31, n_tl_31, n_el_31, n_eq_31, n_ad_31, n_lt_32, n_le_32, n_tl_32, n_el_32, n_eq_32, n_ad_32, n_lt_60, n_le_60, n_tl_60, n_el_60, n_eq_60, n_ad_60, n_lt_99, n_le_99, n_tl_99, n_el_99, n_eq_99, n_ad_99, n_lt_100, n_le_100, n_tl_100, n_el_100, n_eq_100, n_ad_100, n_lt_144, n_le_144, n_tl_144, n_el_144, n_eq_144, n_ad_144, n_lt_4096, n_le_4096, n_tl_4096, n_el_4096, n_eq_4096, n_ad_4096, n_mulK, nI_add, pk_mul, n_lt, n_le, n_eq, n_eqM, n_ix, n_cl, ir_b_f]
    simp only [tlF]
    by_cases hpt : gpF (AL l) s C 0 0 < popN s
    · have hpt' : ¬ popN s ≤ gpF (AL l) s C 0 0 := by omega
      obtain ⟨fwb, f1, f2, f3⟩ := fw (.int 1)
      have f1 := f1 _ rfl
      simp only [hpt, decide_true, if_true]
      rw [f1, s69_7]
      simp (disch := omega) only [s69_9, s69_10, s69_13, s69_16, s69_17, s69_19, s69_20, s69_23, s69_25, s69_27, s69_28, s69_31, s69_34, s69_35, s69_39, t1, n_lt_0, n_le_0, n_tl_0, n_el_0, n_eq_0, n_ad_0, n_lt_1, n_le_1, n_tl_1, n_el_1, n_eq_1, n_ad_1, n_lt_2, n_le_2, n_tl_2, n_el_2, n_eq_2, n_ad_2, n_lt_3, n_le_3, n_tl_3, n_el_3, n_eq_3, n_ad_3, n_lt_4, n_le_4, n_tl_4, n_el_4, n_eq_4, n_ad_4, n_lt_5, n_le_5, n_tl_5, n_el_5, n_eq_5, n_ad_5, n_lt_6, n_le_6, n_tl_6, n_el_6, n_eq_6, n_ad_6, n_lt_10, n_le_10, n_tl_10, n_el_10, n_eq_10, n_ad_10, n_lt_11, n_le_11, n_tl_11, n_el_11, n_eq_11, n_ad_11, n_lt_12, n_le_12, n_tl_12, n_el_12, n_eq_12, n_ad_12, n_lt_13, n_le_13, n_tl_13, n_el_13, n_eq_13, n_ad_13, n_lt_15, n_le_15, n_tl_15, n_el_15, n_eq_15, n_ad_15, n_lt_20, n_le_20, n_tl_20, n_el_20, n_eq_20, n_ad_20, n_lt_30, n_le_30, n_tl_30, n_el_30, n_eq_30, n_ad_30, n_lt_31, n_le_31, n_tl_31, n_el_31, n_eq_31, n_ad_31, n_lt_32, n_le_32, n_tl_32, n_el_32, n_eq_32, n_ad_32, n_lt_60, n_le_60, n_tl_60, n_el_60, n_eq_60, n_ad_60, n_lt_99, n_le_99, n_tl_99, n_el_99, n_eq_99, n_ad_99, n_lt_100, n_le_100, n_tl_100, n_el_100, n_eq_100, n_ad_100, n_lt_144, n_le_144, n_tl_144, n_el_144, n_eq_144, n_ad_144, n_lt_4096, n_le_4096, n_tl_4096, n_el_4096, n_eq_4096, n_ad_4096, n_mulK, nI_add, pk_mul, n_lt, n_le, n_eq, n_eqM, n_ix, n_cl, if_neg q1, k1, c183, hps, ir_k_i, ir_tl_i, if_neg hpt']
      refine Eq.trans f3 ?_
      cases hfw : fwb with
      | true =>
        have z := ih (l + 1) (some l) (nI (gpF (AL l) s C 0 0)) (.int (nI (gpF (AL l) s C 0 0))) (.int 1) (.int 1) (by omega) (fun x hx => by cases hx; exact ⟨by omega, rfl⟩)
        simp (disch := omega) only [s69_81, s69_83, s69_86, s69_88, s69_91, s69_93, s69_94, s69_96, s69_97, s69_100, ir_b_t, if_neg e1, n_lt_0, n_le_0, n_tl_0, n_el_0, n_eq_0, n_ad_0, n_lt_1, n_le_1, n_tl_1, n_el_1, n_eq_1, n_ad_1, n_lt_2, n_le_2, n_tl_2, n_el_2, n_eq_2, n_ad_2, n_lt_3, n_le_3, n_tl_3, n_el_3, n_eq_3, n_ad_3, n_lt_4, n_le_4, n_tl_4, n_el_4, n_eq_4, n_ad_4, n_lt_5, n_le_5, n_tl_5, n_el_5, n_eq_5, n_ad_5, n_lt_6, n_le_6, n_tl_6, n_el_6, n_eq_6, n_ad_6, n_lt_10, n_le_10, n_tl_10, n_el_10, n_eq_10, n_ad_10, n_lt_11, n_le_11, n_tl_11, n_el_11, n_eq_11, n_ad_11, n_lt_12, n_le_12, n_tl_12, n_el_12, n_eq_12, n_ad_12, n_lt_13, n_le_13, n_tl_13, n_el_13, n_eq_13, n_ad_13, n_lt_15, n_le_15, n_tl_15, n_el_15, n_eq_15, n_ad_15, n_lt_20, n_le_20, n_tl_20, n_el_20, n_eq_20, n_ad_20, n_lt_30, n_le_30, n_tl_30, n_el_30, n_eq_30, n_ad_30, n_lt_31, n_le_31, n_tl_31, n_el_31, n_eq_31, n_ad_31, n_lt_32, n_le_32, n_tl_32, n_el_32, n_eq_32, n_ad_32, n_lt_60, n_le_60, n_tl_60, n_el_60, n_eq_60, n_ad_60, n_lt_99, n_le_99, n_tl_99, n_el_99, n_eq_99, n_ad_99, n_lt_100, n_le_100, n_tl_100, n_el_100, n_eq_100, n_ad_100, n_lt_144, n_le_144, n_tl_144, n_el_144, n_eq_144, n_ad_144, n_lt_4096, n_le_4096, n_tl_4096, n_el_4096, n_eq_4096, n_ad_4096, n_mulK, nI_add, pk_mul, n_lt, n_le, n_eq, n_eqM, n_ix, n_cl, if_true]
        exact z
      | false =>
        have z := ih (l + 1) b bs (.int (nI (gpF (AL l) s C 0 0))) (.int 1) (.int 0) (by omega) (fun x hx => by have := hb x hx; exact ⟨by omega, this.2⟩)
        simp (disch := omega) only [s69_81, s69_83, s69_86, s69_88, s69_97, s69_100, ir_b_f, if_neg e1, n_lt_0, n_le_0, n_tl_0, n_el_0, n_eq_0, n_ad_0, n_lt_1, n_le_1, n_tl_1, n_el_1, n_eq_1, n_ad_1, n_lt_2, n_le_2, n_tl_2, n_el_2, n_eq_2, n_ad_2, n_lt_3, n_le_3, n_tl_3, n_el_3, n_eq_3, n_ad_3, n_lt_4, n_le_4, n_tl_4, n_el_4, n_eq_4, n_ad_4, n_lt_5, n_le_5, n_tl_5, n_el_5, n_eq_5, n_ad_5, n_lt_6, n_le_6, n_tl_6, n_el_6, n_eq_6, n_ad_6, n_lt_10, n_le_10, n_tl_10, n_el_10, n_eq_10, n_ad_10, n_lt_11, n_le_11, n_tl_11, n_el_11, n_eq_11, n_ad_11, n_lt_12, n_le_12, n_tl_12, n_el_12, n_eq_12, n_ad_12, n_lt_13, n_le_13, n_tl_13, n_el_13, n_eq_13, n_ad_13, n_lt_15, n_le_15, n_tl_15, n_el_15, n_eq_15, n_ad_15, n_lt_20, n_le_20, n_tl_20, n_el_20, n_eq_20, n_ad_20, n_lt_30, n_le_30, n_tl_30, n_el_30, n_eq_30, n_ad_30, n_lt_31, n_le_31, n_tl_31, n_el_31, n_eq_31, n_ad_31, n_lt_32, n_le_32, n_tl_32, n_el_32, n_eq_32, n_ad_32, n_lt_60, n_le_60, n_tl_60, n_el_60, n_eq_60, n_ad_60, n_lt_99, n_le_99, n_tl_99, n_el_99, n_eq_99, n_ad_99, n_lt_100, n_le_100, n_tl_100, n_el_100, n_eq_100, n_ad_100, n_lt_144, n_le_144, n_tl_144, n_el_144, n_eq_144, n_ad_144, n_lt_4096, n_le_4096, n_tl_4096, n_el_4096, n_eq_4096, n_ad_4096, n_mulK, nI_add, pk_mul, n_lt, n_le, n_eq, n_eqM, n_ix, n_cl, if_true, Bool.false_eq_true, if_false]
        exact z
    · have hpt' : popN s ≤ gpF (AL l) s C 0 0 := by omega
      obtain ⟨fwb, f1, f2, f3⟩ := fw (.int 0)
      have z := ih (l + 1) b bs (.int (nI (gpF (AL l) s C 0 0))) (.int 0) (.int (ir_b fwb)) (by omega) (fun x hx => by have := hb x hx; exact ⟨by omega, this.2⟩)
      simp only [hpt, decide_false, Bool.false_eq_true, if_false]
      rw [s69_7]
      simp (disch := omega) only [s69_9, s69_10, s69_13, s69_16, s69_17, s69_19, s69_20, s69_23, s69_25, s69_27, s69_28, s69_31, s69_38, s69_39, t1, n_lt_0, n_le_0, n_tl_0, n_el_0, n_eq_0, n_ad_0, n_lt_1, n_le_1, n_tl_1, n_el_1, n_eq_1, n_ad_1, n_lt_2, n_le_2, n_tl_2, n_el_2, n_eq_2, n_ad_2, n_lt_3, n_le_3, n_tl_3, n_el_3, n_eq_3, n_ad_3, n_lt_4, n_le_4, n_tl_4, n_el_4, n_eq_4, n_ad_4, n_lt_5, n_le_5, n_tl_5, n_el_5, n_eq_5, n_ad_5, n_lt_6, n_le_6, n_tl_6, n_el_6, n_eq_6, n_ad_6, n_lt_10, n_le_10, n_tl_10, n_el_10, n_eq_10, n_ad_10, n_lt_11, n_le_11, n_tl_11, n_el_11, n_eq_11, n_ad_11, n_lt_12, n_le_12, n_tl_12, n_el_12, n_eq_12, n_ad_12, n_lt_13, n_le_13, n_tl_13, n_el_13, n_eq_13, n_ad_13, n_lt_15, n_le_15, n_tl_15, n_el_15, n_eq_15, n_ad_15, n_lt_20, n_le_20, n_tl_20, n_el_20, n_eq_20, n_ad_20, n_lt_30, n_le_30, n_tl_30, n_el_30, n_eq_30, n_ad_30, n_lt_31, n_le_31, n_tl_31, n_el_31, n_eq_31, n_ad_31, n_lt_32, n_le_32, n_tl_32, n_el_32, n_eq_32, n_ad_32, n_lt_60, n_le_60, n_tl_60, n_el_60, n_eq_60, n_ad_60, n_lt_99, n_le_99, n_tl_99, n_el_99, n_eq_99, n_ad_99, n_lt_100, n_le_100, n_tl_100, n_el_100, n_eq_100, n_ad_100, n_lt_144, n_le_144, n_tl_144, n_el_144, n_eq_144, n_ad_144, n_lt_4096, n_le_4096, n_tl_4096, n_el_4096, n_eq_4096, n_ad_4096, n_mulK, nI_add, pk_mul, n_lt, n_le, n_eq, n_eqM, n_ix, n_cl, if_neg q1, k1, c183, hps, ir_k_i, ir_tl_i, if_pos hpt']
      refine Eq.trans f3 ?_
      simp (disch := omega) only [s69_81, s69_83, s69_97, s69_100, n_lt_0, n_le_0, n_tl_0, n_el_0, n_eq_0, n_ad_0, n_lt_1, n_le_1, n_tl_1, n_el_1, n_eq_1, n_ad_1, n_lt_2, n_le_2, n_tl_2, n_el_2, n_eq_2, n_ad_2, n_lt_3, n_le_3, n_tl_3, n_el_3, n_eq_3, n_ad_3, n_lt_4, n_le_4, n_tl_4, n_el_4, n_eq_4, n_ad_4, n_lt_5, n_le_5, n_tl_5, n_el_5, n_eq_5, n_ad_5, n_lt_6, n_le_6, n_tl_6, n_el_6, n_eq_6, n_ad_6, n_lt_10, n_le_10, n_tl_10, n_el_10, n_eq_10, n_ad_10, n_lt_11, n_le_11, n_tl_11, n_el_11, n_eq_11, n_ad_11, n_lt_12, n_le_12, n_tl_12, n_el_12, n_eq_12, n_ad_12, n_lt_13, n_le_13, n_tl_13, n_el_13, n_eq_13, n_ad_13, n_lt_15, n_le_15, n_tl_15, n_el_15, n_eq_15, n_ad_15, n_lt_20, n_le_20, n_tl_20, n_el_20, n_eq_20, n_ad_20, n_lt_30, n_le_30, n_tl_30, n_el_30, n_eq_30, n_ad_30, n_lt_31, n_le_31, n_tl_31, n_el_31, n_eq_31, n_ad_31, n_lt_32, n_le_32, n_tl_32, n_el_32, n_eq_32, n_ad_32, n_lt_60, n_le_60, n_tl_60, n_el_60, n_eq_60, n_ad_60, n_lt_99, n_le_99, n_tl_99, n_el_99, n_eq_99, n_ad_99, n_lt_100, n_le_100, n_tl_100, n_el_100, n_eq_100, n_ad_100, n_lt_144, n_le_144, n_tl_144, n_el_144, n_eq_144, n_ad_144, n_lt_4096, n_le_4096, n_tl_4096, n_el_4096, n_eq_4096, n_ad_4096, n_mulK, nI_add, pk_mul, n_lt, n_le, n_eq, n_eqM, n_ix, n_cl, if_true]
      exact z
theorem c69 {d s : Nat} (ht : TBL σ K C AL pr) (hs : s < 2 ^ C) : ir_ev (d + 3) 69 [.ref 25, .int (nI s)] σ = some (some (.int (oI (tlF (fun l => decide (gpF (AL l) s C 0 0 < popN s)) (fun l => gpF (AL l) s C 0 0) pr K 0 none))), σ) := by
  simp only [e69, s69_0, s69_1, s69_2, s69_3, s69_4, s69_5]
  exact c69_loop ht hs K 0 none 0 .null .null .null (by omega) (fun x hx => by cases hx)
end BEST
/-! the best way's first look -/
def fsF (f : Nat → Option Nat) (w : Nat) : Nat → Nat → Option Nat
  | 0, _ => none
  | n + 1, l => if f l = some w then some l else fsF f w n (l + 1)
theorem oI_eq {o : Option Nat} {w : Nat} (ho : ∀ v, o = some v → v ≤ 1300) (hw : w ≤ 1300) : (oI o = nI w) = (o = some w) := by
  apply propext
  cases o with
  | none => exact ⟨fun h => absurd h.symm (oI_m1 (by omega)), fun h => by cases h⟩
  | some v =>
    have := ho v rfl
    show nI v = nI w ↔ _
    rw [nI_eq (by omega) (by omega)]
    exact ⟨fun h => by rw [h], fun h => by cases h; rfl⟩
theorem cst_le {K C s l : Nat} {AL : Nat → Nat → Nat} {pr W : Nat → Nat} (hp : pr l ≤ 100) (hWb : ∀ x, W x ≤ 1200) : ∀ v, cst W AL pr C s l = some v → v ≤ 1300 := by
  intro v hv
  unfold cst at hv
  cases hg : gmo W (AL l) s C s 0 with
  | none => rw [hg] at hv; cases hv
  | some g =>
    rw [hg] at hv
    have h1 := gmo_le (B := 1200) hWb _ _ _ (Nat.zero_le _) g hg
    cases hv
    show pr l + g ≤ _
    omega
theorem c68_loop {d K C s w : Nat} {AL : Nat → Nat → Nat} {pr W : Nat → Nat} {σ0 : ir_S} (ht : TBL σ0 K C AL pr) (hs : s < 2 ^ C) (hw : w ≤ 1200) (hWb : ∀ x, W x ≤ 1200)
    (hW : ∀ x σ, s &&& x ≠ s → s &&& x ≠ 0 → (∀ c, c ≠ 29 → σ c = σ0 c) → MEM σ C W → ∃ σ', ir_ev (d + 2) 66 [.ref 25, .int (nI (s &&& x)), .int (nI (0 + 1))] σ = some (some (.int (nI (W (s &&& x)))), σ') ∧ (∀ c, c ≠ 29 → σ' c = σ0 c) ∧ MEM σ' C W) :
    ∀ n l σ, l + n = K → (∀ c, c ≠ 29 → σ c = σ0 c) → MEM σ C W → ∃ σ', ir_run (ir_ev (d + 3)) 68 (9, [.ref 25, .int (nI s), .int (nI w), .int (nI l)], [], σ) = some (some (.int (oI (fsF (cst W AL pr C s) w n l))), σ') ∧ (∀ c, c ≠ 29 → σ' c = σ0 c) ∧ MEM σ' C W := by
  obtain ⟨hK, hC, t1, t2, t3, t4⟩ := id ht
  intro n
  induction n with
  | zero =>
    intro l σ hl hag hM
    have hl : l = K := by omega
    subst hl
    refine ⟨σ, ?_, hag, hM⟩
    have e4 : σ 25 4 = nI l := by rw [hag 25 (by decide)]; exact t1
    rw [s68_9]
    simp (disch := omega) only [s68_10, s68_11, s68_14, s68_36, s68_37, e4, n_lt_0, n_le_0, n_tl_0, n_el_0, n_eq_0, n_ad_0, n_lt_1, n_le_1, n_tl_1, n_el_1, n_eq_1, n_ad_1, n_lt_2, n_le_2, n_tl_2, n_el_2, n_eq_2, n_ad_2, n_lt_3, n_le_3, n_tl_3, n_el_3, n_eq_3, n_ad_3, n_lt_4, n_le_4, n_tl_4, n_el_4, n_eq_4, n_ad_4, n_lt_5, n_le_5, n_tl_5, n_el_5, n_eq_5, n_ad_5, n_lt_6, n_le_6, n_tl_6, n_el_6, n_eq_6, n_ad_6, n_lt_10, n_le_10, n_tl_10, n_el_10, n_eq_10, n_ad_10, n_lt_11, n_le_11, n_tl_11, n_el_11, n_eq_11, n_ad_11, n_lt_12, n_le_12, n_tl_12, n_el_12, n_eq_12, n_ad_12, n_lt_13, n_le_13, n_tl_13, n_el_13, n_eq_13, n_ad_13, n_lt_15, n_le_15, n_tl_15, n_el_15, n_eq_15, n_ad_15, n_lt_20, n_le_20, n_tl_20, n_el_20, n_eq_20, n_ad_20, n_lt_30, n_le_30, n_tl_30, n_el_30, n_eq_30, n_ad_30, n_lt_31, n_le_31, n_tl_31, n_el_31, n_eq_31, n_ad_31, n_lt_32, n_le_32, n_tl_32, n_el_32, n_eq_32, n_ad_32, n_lt_60, n_le_60, n_tl_60, n_el_60, n_eq_60, n_ad_60, n_lt_99, n_le_99, n_tl_99, n_el_99, n_eq_99, n_ad_99, n_lt_100, n_le_100, n_tl_100, n_el_100, n_eq_100, n_ad_100, n_lt_144, n_le_144, n_tl_144, n_el_144, n_eq_144, n_ad_144, n_lt_4096, n_le_4096, n_tl_4096, n_el_4096, n_eq_4096, n_ad_4096, n_mulK, nI_add, pk_mul, n_lt, n_le, n_eq, n_eqM, n_ix, n_cl, Nat.le_refl, if_true, fsF, oI]
  | succ n ih =>
    intro l σ hl hag hM
    have hlK : l < K := by omega
    have q1 : ¬ K ≤ l := by omega
    have e4 : σ 25 4 = nI K := by rw [hag 25 (by decide)]; exact t1
    obtain ⟨σ1, a1, a2, a3⟩ := c67 (d := d) (dp := 0) ht hlK hs (by omega) hWb hW hag hM
    have a1 : ir_ev (d + 3) 67 [.ref 25, .int (nI l), .int (nI s), .int 0] σ = some (some (.int (oI (cst W AL pr C s l))), σ1) := a1
    have heq := oI_eq (w := w) (cst_le (K := K) (AL := AL) (C := C) (s := s) (t4 l hlK).2 hWb) (by omega)
    simp only [fsF]
    by_cases e : cst W AL pr C s l = some w
    · refine ⟨σ1, ?_, a2, a3⟩
      rw [s68_9]
      simp (disch := omega) only [s68_10, s68_11, s68_14, s68_17, s68_18, s68_19, s68_20, s68_21, s68_24, s68_25, s68_28, s68_29, e4, n_lt_0, n_le_0, n_tl_0, n_el_0, n_eq_0, n_ad_0, n_lt_1, n_le_1, n_tl_1, n_el_1, n_eq_1, n_ad_1, n_lt_2, n_le_2, n_tl_2, n_el_2, n_eq_2, n_ad_2, n_lt_3, n_le_3, n_tl_3, n_el_3, n_eq_3, n_ad_3, n_lt_4, n_le_4, n_tl_4, n_el_4, n_eq_4, n_ad_4, n_lt_5, n_le_5, n_tl_5, n_el_5, n_eq_5, n_ad_5, n_lt_6, n_le_6, n_tl_6, n_el_6, n_eq_6, n_ad_6, n_lt_10, n_le_10, n_tl_10, n_el_10, n_eq_10, n_ad_10, n_lt_11, n_le_11, n_tl_11, n_el_11, n_eq_11, n_ad_11, n_lt_12, n_le_12, n_tl_12, n_el_12, n_eq_12, n_ad_12, n_lt_13, n_le_13, n_tl_13, n_el_13, n_eq_13, n_ad_13, n_lt_15, n_le_15, n_tl_15, n_el_15, n_eq_15, n_ad_15, n_lt_20, n_le_20, n_tl_20, n_el_20, n_eq_20, n_ad_20, n_lt_30, n_le_30, n_tl_30, n_el_30, n_eq_30, n_ad_30, n_lt_31, n_le_31, n_tl_31, n_el_31, n_eq_31, n_ad_31, n_lt_32, n_le_32, n_tl_32, n_el_32, n_eq_32, n_ad_32, n_lt_60, n_le_60, n_tl_60, n_el_60, n_eq_60, n_ad_60, n_lt_99, n_le_99, n_tl_99, n_el_99, n_eq_99, n_ad_99, n_lt_100, n_le_100, n_tl_100, n_el_100, n_eq_100, n_ad_100, n_lt_144, n_le_144, n_tl_144, n_el_144, n_eq_144, n_ad_144, n_lt_4096, n_le_4096, n_tl_4096, n_el_4096, n_eq_4096, n_ad_4096, n_mulK, nI_add, pk_mul, n_lt, n_le, n_eq, n_eqM, n_ix, n_cl, if_neg q1, a1, ir_k_i, ir_tl_i, heq, if_pos e]
      rfl
    · obtain ⟨σ', z1, z2⟩ := ih (l + 1) σ1 (by omega) a2 a3
      refine ⟨σ', ?_, z2⟩
      rw [s68_9]
      simp (disch := omega) only [s68_10, s68_11, s68_14, s68_17, s68_18, s68_19, s68_20, s68_21, s68_24, s68_25, s68_30, s68_33, e4, n_lt_0, n_le_0, n_tl_0, n_el_0, n_eq_0, n_ad_0, n_lt_1, n_le_1, n_tl_1, n_el_1, n_eq_1, n_ad_1, n_lt_2, n_le_2, n_tl_2, n_el_2, n_eq_2, n_ad_2, n_lt_3, n_le_3, n_tl_3, n_el_3, n_eq_3, n_ad_3, n_lt_4, n_le_4, n_tl_4, n_el_4, n_eq_4, n_ad_4, n_lt_5, n_le_5, n_tl_5, n_el_5, n_eq_5, n_ad_5, n_lt_6, n_le_6, n_tl_6, n_el_6, n_eq_6, n_ad_6, n_lt_10, n_le_10, n_tl_10, n_el_10, n_eq_10, n_ad_10, n_lt_11, n_le_11, n_tl_11, n_el_11, n_eq_11, n_ad_11, n_lt_12, n_le_12, n_tl_12, n_el_12, n_eq_12, n_ad_12, n_lt_13, n_le_13, n_tl_13, n_el_13, n_eq_13, n_ad_13, n_lt_15, n_le_15, n_tl_15, n_el_15, n_eq_15, n_ad_15, n_lt_20, n_le_20, n_tl_20, n_el_20, n_eq_20, n_ad_20, n_lt_30, n_le_30, n_tl_30, n_el_30, n_eq_30, n_ad_30, n_lt_31, n_le_31, n_tl_31, n_el_31, n_eq_31, n_ad_31, n_lt_32, n_le_32, n_tl_32, n_el_32, n_eq_32, n_ad_32, n_lt_60, n_le_60, n_tl_60, n_el_60, n_eq_60, n_ad_60, n_lt_99, n_le_99, n_tl_99, n_el_99, n_eq_99, n_ad_99, n_lt_100, n_le_100, n_tl_100, n_el_100, n_eq_100, n_ad_100, n_lt_144, n_le_144, n_tl_144, n_el_144, n_eq_144, n_ad_144, n_lt_4096, n_le_4096, n_tl_4096, n_el_4096, n_eq_4096, n_ad_4096, n_mulK, nI_add, pk_mul, n_lt, n_le, n_eq, n_eqM, n_ix, n_cl, if_neg q1, a1, ir_k_i, ir_tl_i, heq, if_neg e]
      exact z1
theorem c68 {d K C s : Nat} {AL : Nat → Nat → Nat} {pr : Nat → Nat} {σ : ir_S} (ht : TBL σ K C AL pr) (h0 : 0 < s) (hs : s < 2 ^ C) (hM : MEM σ C (WV AL pr K C 12)) : ∃ σ', ir_ev (d + 30) 68 [.ref 25, .int (nI s)] σ = some (some (.int (oI (fsF (cst (WV AL pr K C 12) AL pr C s) (WV AL pr K C 12 s) K 0))), σ') ∧ (∀ c, c ≠ 29 → σ' c = σ c) ∧ MEM σ' C (WV AL pr K C 12) := by
  obtain ⟨hK, hC, t1, t2, t3, t4⟩ := id ht
  have h4 := pC hC
  have hp12 := pop_12 s
  have hWb : ∀ x, WV AL pr K C 12 x ≤ 1200 := fun x => WV_le (fun l hl => (t4 l hl).2) 12 x
  obtain ⟨σ1, a1, a2, a3⟩ := c66 ht 12 s 0 (d + 1) σ hp12 h0 hs (by omega) (fun _ _ => rfl) hM
  have a1 : ir_ev (d + 29) 66 [.ref 25, .int (nI s), .int 0] σ = some (some (.int (nI (WV AL pr K C 12 s))), σ1) := by
    rw [show d + 29 = d + 1 + 2 * 12 + 4 by omega]; exact a1
  obtain ⟨σ', z1, z2⟩ := c68_loop (d := d + 26) (w := WV AL pr K C 12 s) ht hs (hWb s) hWb (fun x τ hx hx0 hag hm => by
    have hlt := pop_lt (s := s) (by omega) (and_lt (b := x) (by omega)) (fun i => and_sub) hx
    have hle : s &&& x ≤ s := Nat.and_le_left
    have := c66 ht 12 (s &&& x) (0 + 1) d τ (pop_12 _) (by omega) (by omega) (by omega) hag hm
    rw [show d + 26 + 2 = d + 2 * 12 + 4 by omega]
    exact this) K 0 σ1 (by omega) a2 a3
  refine ⟨σ', ?_, z2⟩
  simp only [e68, s68_0, s68_1, s68_2, s68_3, s68_6, s68_7, s68_8, a1, ir_k_i, ir_tl_i]
  exact z1
theorem m173_loop {d K C s w : Nat} {A : Nat → Nat → Int32} {pr W : Nat → Nat} {σ0 : ir_S} (ht : TM σ0 K C A pr) (hC0 : 0 < C) (hs : s < 2 ^ C) (h0 : s ≠ 0) (hw : w ≤ 1200) (hWb : ∀ x, W x ≤ 1200)
    (hW : ∀ x σ, s &&& x ≠ s → s &&& x ≠ 0 → (∀ c, c ≠ 57 → σ c = σ0 c) → MEMM σ C W → ∃ σ', ir_ev (d + 1) 167 [.ref 33, .int (nI (s &&& x))] σ = some (some (.int (nI (W (s &&& x)))), σ') ∧ (∀ c, c ≠ 57 → σ' c = σ0 c) ∧ MEMM σ' C W) :
    ∀ n l σ, l + n = K → (∀ c, c ≠ 57 → σ c = σ0 c) → MEMM σ C W → ∃ σ', ir_run (ir_ev (d + 2)) 173 (27, [.ref 33, .int (nI s), .int (nI w), .int (nI l)], [], σ) = some (some (.int (oI (fsF (cst W (fun l => alN (A l) C) pr C s) w n l))), σ') ∧ (∀ c, c ≠ 57 → σ' c = σ0 c) := by
  obtain ⟨hK, hC, t1, t2, t3, t4⟩ := id ht
  have e1 : ¬ ((1 : Int32) = 0) := by decide
  intro n
  induction n with
  | zero =>
    intro l σ hl hag hM
    have hl : l = K := by omega
    subst hl
    refine ⟨σ, ?_, hag⟩
    have e26 : σ 33 26 = nI l := by rw [hag 33 (by decide)]; exact t2
    rw [s173_27]
    simp (disch := omega) only [s173_28, s173_29, s173_32, s173_69, s173_70, e26, n_lt_0, n_le_0, n_tl_0, n_el_0, n_eq_0, n_ad_0, n_lt_1, n_le_1, n_tl_1, n_el_1, n_eq_1, n_ad_1, n_lt_2, n_le_2, n_tl_2, n_el_2, n_eq_2, n_ad_2, n_lt_3, n_le_3, n_tl_3, n_el_3, n_eq_3, n_ad_3, n_lt_4, n_le_4, n_tl_4, n_el_4, n_eq_4, n_ad_4, n_lt_5, n_le_5, n_tl_5, n_el_5, n_eq_5, n_ad_5, n_lt_6, n_le_6, n_tl_6, n_el_6, n_eq_6, n_ad_6, n_lt_10, n_le_10, n_tl_10, n_el_10, n_eq_10, n_ad_10, n_lt_11, n_le_11, n_tl_11, n_el_11, n_eq_11, n_ad_11, n_lt_12, n_le_12, n_tl_12, n_el_12, n_eq_12, n_ad_12, n_lt_13, n_le_13, n_tl_13, n_el_13, n_eq_13, n_ad_13, n_lt_15, n_le_15, n_tl_15, n_el_15, n_eq_15, n_ad_15, n_lt_20, n_le_20, n_tl_20, n_el_20, n_eq_20, n_ad_20, n_lt_30, n_le_30, n_tl_30, n_el_30, n_eq_30, n_ad_30, n_lt_31, n_le_31, n_tl_31, n_el_31, n_eq_31, n_ad_31, n_lt_32, n_le_32, n_tl_32, n_el_32, n_eq_32, n_ad_32, n_lt_60, n_le_60, n_tl_60, n_el_60, n_eq_60, n_ad_60, n_lt_99, n_le_99, n_tl_99, n_el_99, n_eq_99, n_ad_99, n_lt_100, n_le_100, n_tl_100, n_el_100, n_eq_100, n_ad_100, n_lt_144, n_le_144, n_tl_144, n_el_144, n_eq_144, n_ad_144, n_lt_4096, n_le_4096, n_tl_4096, n_el_4096, n_eq_4096, n_ad_4096, n_mulK, nI_add, pk_mul, n_lt, n_le, n_eq, n_eqM, n_ix, n_cl, Nat.le_refl, if_true, fsF, oI]
  | succ n ih =>
    intro l σ hl hag hM
    have hlK : l < K := by omega
    have hl12 : l < 12 := by omega
    have q1 : ¬ K ≤ l := by omega
    have e26 : σ 33 26 = nI K := by rw [hag 33 (by decide)]; exact t2
    have hp := m162 (d := d) (TM_57 hag ht) hlK hs h0
    have hcg := cst_grt (W := W) (AA := A) (pr := pr) (l := l) hC hC0 hs h0
    simp only [fsF]
    by_cases e : s &&& alN (A l) C (lowN s) = s
    · rw [if_pos e] at hcg
      obtain ⟨σ', z1, z2⟩ := ih (l + 1) σ (by omega) hag hM
      have hn : ¬ (none = some w) := fun h => by cases h
      refine ⟨σ', ?_, z2⟩
      rw [hcg, if_neg hn, s173_27]
      simp (disch := omega) only [s173_28, s173_29, s173_32, s173_35, s173_36, s173_37, s173_38, s173_41, s173_63, s173_66, e26, n_lt_0, n_le_0, n_tl_0, n_el_0, n_eq_0, n_ad_0, n_lt_1, n_le_1, n_tl_1, n_el_1, n_eq_1, n_ad_1, n_lt_2, n_le_2, n_tl_2, n_el_2, n_eq_2, n_ad_2, n_lt_3, n_le_3, n_tl_3, n_el_3, n_eq_3, n_ad_3, n_lt_4, n_le_4, n_tl_4, n_el_4, n_eq_4, n_ad_4, n_lt_5, n_le_5, n_tl_5, n_el_5, n_eq_5, n_ad_5, n_lt_6, n_le_6, n_tl_6, n_el_6, n_eq_6, n_ad_6, n_lt_10, n_le_10, n_tl_10, n_el_10, n_eq_10, n_ad_10, n_lt_11, n_le_11, n_tl_11, n_el_11, n_eq_11, n_ad_11, n_lt_12, n_le_12, n_tl_12, n_el_12, n_eq_12, n_ad_12, n_lt_13, n_le_13, n_tl_13, n_el_13, n_eq_13, n_ad_13, n_lt_15, n_le_15, n_tl_15, n_el_15, n_eq_15, n_ad_15, n_lt_20, n_le_20, n_tl_20, n_el_20, n_eq_20, n_ad_20, n_lt_30, n_le_30, n_tl_30, n_el_30, n_eq_30, n_ad_30, n_lt_31, n_le_31, n_tl_31, n_el_31, n_eq_31, n_ad_31, n_lt_32, n_le_32, n_tl_32, n_el_32, n_eq_32, n_ad_32, n_lt_60, n_le_60, n_tl_60, n_el_60, n_eq_60, n_ad_60, n_lt_99, n_le_99, n_tl_99, n_el_99, n_eq_99, n_ad_99, n_lt_100, n_le_100, n_tl_100, n_el_100, n_eq_100, n_ad_100, n_lt_144, n_le_144, n_tl_144, n_el_144, n_eq_144, n_ad_144, n_lt_4096, n_le_4096, n_tl_4096, n_el_4096, n_eq_4096, n_ad_4096, n_mulK, nI_add, pk_mul, n_lt, n_le, n_eq, n_eqM, n_ix, n_cl, if_neg q1, hp, e, decide_true, Bool.not_true, ir_b_f, ir_k_i, ir_tl_i, if_true]
      exact z1
    · rw [if_neg e] at hcg
      obtain ⟨σ1, a1, a2, a3⟩ := m166 (d := d) ht hlK hs h0 e hWb hW hag hM
      have e55 : σ 55 l = nI (pr l) := by rw [hag 55 (by decide)]; exact (t4 l hlK).1
      have hg := grt_le (al := alN (A l) C) hWb C s 0 (Nat.zero_le _)
      have hpl := (t4 l hlK).2
      rw [hcg]
      by_cases g : pr l + grt W (alN (A l) C) C s 0 = w
      · refine ⟨σ1, ?_, a2⟩
        rw [if_pos (by rw [g]), s173_27]
        simp (disch := omega) only [s173_28, s173_29, s173_32, s173_35, s173_36, s173_37, s173_38, s173_41, s173_44, s173_45, s173_48, s173_49, s173_50, s173_51, s173_52, s173_53, s173_56, s173_57, s173_58, s173_61, s173_62, xA55, xL55, xa55, e26, e55, n_lt_0, n_le_0, n_tl_0, n_el_0, n_eq_0, n_ad_0, n_lt_1, n_le_1, n_tl_1, n_el_1, n_eq_1, n_ad_1, n_lt_2, n_le_2, n_tl_2, n_el_2, n_eq_2, n_ad_2, n_lt_3, n_le_3, n_tl_3, n_el_3, n_eq_3, n_ad_3, n_lt_4, n_le_4, n_tl_4, n_el_4, n_eq_4, n_ad_4, n_lt_5, n_le_5, n_tl_5, n_el_5, n_eq_5, n_ad_5, n_lt_6, n_le_6, n_tl_6, n_el_6, n_eq_6, n_ad_6, n_lt_10, n_le_10, n_tl_10, n_el_10, n_eq_10, n_ad_10, n_lt_11, n_le_11, n_tl_11, n_el_11, n_eq_11, n_ad_11, n_lt_12, n_le_12, n_tl_12, n_el_12, n_eq_12, n_ad_12, n_lt_13, n_le_13, n_tl_13, n_el_13, n_eq_13, n_ad_13, n_lt_15, n_le_15, n_tl_15, n_el_15, n_eq_15, n_ad_15, n_lt_20, n_le_20, n_tl_20, n_el_20, n_eq_20, n_ad_20, n_lt_30, n_le_30, n_tl_30, n_el_30, n_eq_30, n_ad_30, n_lt_31, n_le_31, n_tl_31, n_el_31, n_eq_31, n_ad_31, n_lt_32, n_le_32, n_tl_32, n_el_32, n_eq_32, n_ad_32, n_lt_60, n_le_60, n_tl_60, n_el_60, n_eq_60, n_ad_60, n_lt_99, n_le_99, n_tl_99, n_el_99, n_eq_99, n_ad_99, n_lt_100, n_le_100, n_tl_100, n_el_100, n_eq_100, n_ad_100, n_lt_144, n_le_144, n_tl_144, n_el_144, n_eq_144, n_ad_144, n_lt_4096, n_le_4096, n_tl_4096, n_el_4096, n_eq_4096, n_ad_4096, n_mulK, nI_add, pk_mul, n_lt, n_le, n_eq, n_eqM, n_ix, n_cl, if_neg q1, hl12, hp, e, decide_true, decide_false, Bool.not_false, ir_b_t, ir_k_i, ir_tl_i, if_true, if_neg e1, a1, if_pos g]
        rfl
      · obtain ⟨σ', z1, z2⟩ := ih (l + 1) σ1 (by omega) a2 a3
        refine ⟨σ', ?_, z2⟩
        rw [if_neg (fun q => g (Option.some.inj q)), s173_27]
        simp (disch := omega) only [s173_28, s173_29, s173_32, s173_35, s173_36, s173_37, s173_38, s173_41, s173_44, s173_45, s173_48, s173_49, s173_50, s173_51, s173_52, s173_53, s173_56, s173_57, s173_58, s173_63, s173_66, xA55, xL55, xa55, e26, e55, n_lt_0, n_le_0, n_tl_0, n_el_0, n_eq_0, n_ad_0, n_lt_1, n_le_1, n_tl_1, n_el_1, n_eq_1, n_ad_1, n_lt_2, n_le_2, n_tl_2, n_el_2, n_eq_2, n_ad_2, n_lt_3, n_le_3, n_tl_3, n_el_3, n_eq_3, n_ad_3, n_lt_4, n_le_4, n_tl_4, n_el_4, n_eq_4, n_ad_4, n_lt_5, n_le_5, n_tl_5, n_el_5, n_eq_5, n_ad_5, n_lt_6, n_le_6, n_tl_6, n_el_6, n_eq_6, n_ad_6, n_lt_10, n_le_10, n_tl_10, n_el_10, n_eq_10, n_ad_10, n_lt_11, n_le_11, n_tl_11, n_el_11, n_eq_11, n_ad_11, n_lt_12, n_le_12, n_tl_12, n_el_12, n_eq_12, n_ad_12, n_lt_13, n_le_13, n_tl_13, n_el_13, n_eq_13, n_ad_13, n_lt_15, n_le_15, n_tl_15, n_el_15, n_eq_15, n_ad_15, n_lt_20, n_le_20, n_tl_20, n_el_20, n_eq_20, n_ad_20, n_lt_30, n_le_30, n_tl_30, n_el_30, n_eq_30, n_ad_30, n_lt_31, n_le_31, n_tl_31, n_el_31, n_eq_31, n_ad_31, n_lt_32, n_le_32, n_tl_32, n_el_32, n_eq_32, n_ad_32, n_lt_60, n_le_60, n_tl_60, n_el_60, n_eq_60, n_ad_60, n_lt_99, n_le_99, n_tl_99, n_el_99, n_eq_99, n_ad_99, n_lt_100, n_le_100, n_tl_100, n_el_100, n_eq_100, n_ad_100, n_lt_144, n_le_144, n_tl_144, n_el_144, n_eq_144, n_ad_144, n_lt_4096, n_le_4096, n_tl_4096, n_el_4096, n_eq_4096, n_ad_4096, n_mulK, nI_add, pk_mul, n_lt, n_le, n_eq, n_eqM, n_ix, n_cl, if_neg q1, hl12, hp, e, decide_true, decide_false, Bool.not_false, ir_b_t, ir_k_i, ir_tl_i, if_true, if_neg e1, a1, if_neg g]
        exact z1
/-! fresh -/
theorem m169_loop {E : Nat → List Value → ir_S → Option ir_R} : ∀ n i σ, i + n = 4096 → (∀ s, s < i → σ 57 s = -1) → ∃ σ', ir_run E 169 (6, [.ref 33, .int (nI i)], [], σ) = some (none, σ') ∧ (∀ c, c ≠ 57 → σ' c = σ c) ∧ ∀ s, s < 4096 → σ' 57 s = -1 := by
  intro n
  induction n with
  | zero =>
    intro i σ hi hm
    have hi : i = 4096 := by omega
    refine ⟨σ, ?_, fun _ _ => rfl, fun s hs => hm s (by omega)⟩
    have q : 4096 ≤ i := by omega
    rw [s169_6]
    simp (disch := omega) only [s169_7, s169_8, s169_11, s169_12, s169_28, xA57, xL57, xa57, n_lt_0, n_le_0, n_tl_0, n_el_0, n_eq_0, n_ad_0, n_lt_1, n_le_1, n_tl_1, n_el_1, n_eq_1, n_ad_1, n_lt_2, n_le_2, n_tl_2, n_el_2, n_eq_2, n_ad_2, n_lt_3, n_le_3, n_tl_3, n_el_3, n_eq_3, n_ad_3, n_lt_4, n_le_4, n_tl_4, n_el_4, n_eq_4, n_ad_4, n_lt_5, n_le_5, n_tl_5, n_el_5, n_eq_5, n_ad_5, n_lt_6, n_le_6, n_tl_6, n_el_6, n_eq_6, n_ad_6, n_lt_10, n_le_10, n_tl_10, n_el_10, n_eq_10, n_ad_10, n_lt_11, n_le_11, n_tl_11, n_el_11, n_eq_11, n_ad_11, n_lt_12, n_le_12, n_tl_12, n_el_12, n_eq_12, n_ad_12, n_lt_13, n_le_13, n_tl_13, n_el_13, n_eq_13, n_ad_13, n_lt_15, n_le_15, n_tl_15, n_el_15, n_eq_15, n_ad_15, n_lt_20, n_le_20, n_tl_20, n_el_20, n_eq_20, n_ad_20, n_lt_30, n_le_30, n_tl_30, n_el_30, n_eq_30, n_ad_30, n_lt_31, n_le_31, n_tl_31, n_el_31, n_eq_31, n_ad_31, n_lt_32, n_le_32, n_tl_32, n_el_32, n_eq_32, n_ad_32, n_lt_60, n_le_60, n_tl_60, n_el_60, n_eq_60, n_ad_60, n_lt_99, n_le_99, n_tl_99, n_el_99, n_eq_99, n_ad_99, n_lt_100, n_le_100, n_tl_100, n_el_100, n_eq_100, n_ad_100, n_lt_144, n_le_144, n_tl_144, n_el_144, n_eq_144, n_ad_144, n_lt_4096, n_le_4096, n_tl_4096, n_el_4096, n_eq_4096, n_ad_4096, n_mulK, nI_add, pk_mul, n_lt, n_le, n_eq, n_eqM, n_ix, n_cl, q, if_true]
  | succ n ih =>
    intro i σ hi hm
    have q1 : ¬ 4096 ≤ i := by omega
    have q2 : i < 4096 := by omega
    obtain ⟨σ', z1, z2, z3⟩ := ih (i + 1) (ir_up σ 57 i (-1)) (by omega) (fun s hs => by
      rw [u_s]
      by_cases e : s = i
      · rw [e, upd_s]
      · rw [upd_n _ _ e]; exact hm s (by omega))
    refine ⟨σ', ?_, fun c hc => by rw [z2 c hc, u_n _ _ _ hc], z3⟩
    rw [s169_6]
    simp (disch := omega) only [s169_7, s169_8, s169_11, s169_12, s169_15, s169_16, s169_19, s169_20, s169_21, s169_22, s169_25, xA57, xL57, xa57, n_lt_0, n_le_0, n_tl_0, n_el_0, n_eq_0, n_ad_0, n_lt_1, n_le_1, n_tl_1, n_el_1, n_eq_1, n_ad_1, n_lt_2, n_le_2, n_tl_2, n_el_2, n_eq_2, n_ad_2, n_lt_3, n_le_3, n_tl_3, n_el_3, n_eq_3, n_ad_3, n_lt_4, n_le_4, n_tl_4, n_el_4, n_eq_4, n_ad_4, n_lt_5, n_le_5, n_tl_5, n_el_5, n_eq_5, n_ad_5, n_lt_6, n_le_6, n_tl_6, n_el_6, n_eq_6, n_ad_6, n_lt_10, n_le_10, n_tl_10, n_el_10, n_eq_10, n_ad_10, n_lt_11, n_le_11, n_tl_11, n_el_11, n_eq_11, n_ad_11, n_lt_12, n_le_12, n_tl_12, n_el_12, n_eq_12, n_ad_12, n_lt_13, n_le_13, n_tl_13, n_el_13, n_eq_13, n_ad_13, n_lt_15, n_le_15, n_tl_15, n_el_15, n_eq_15, n_ad_15, n_lt_20, n_le_20, n_tl_20, n_el_20, n_eq_20, n_ad_20, n_lt_30, n_le_30, n_tl_30, n_el_30, n_eq_30, n_ad_30, n_lt_31, n_le_31, n_tl_31, n_el_31, n_eq_31, n_ad_31, n_lt_32, n_le_32, n_tl_32, n_el_32, n_eq_32, n_ad_32, n_lt_60, n_le_60, n_tl_60, n_el_60, n_eq_60, n_ad_60, n_lt_99, n_le_99, n_tl_99, n_el_99, n_eq_99, n_ad_99, n_lt_100, n_le_100, n_tl_100, n_el_100, n_eq_100, n_ad_100, n_lt_144, n_le_144, n_tl_144, n_el_144, n_eq_144, n_ad_144, n_lt_4096, n_le_4096, n_tl_4096, n_el_4096, n_eq_4096, n_ad_4096, n_mulK, nI_add, pk_mul, n_lt, n_le, n_eq, n_eqM, n_ix, n_cl, if_neg q1, q2, decide_true, if_true]
    exact z1
