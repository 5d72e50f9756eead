/-! the reference: small methods -/
theorem lg_neg (x y : Int64) : (lg_cmp x y < 0) = ¬ y ≤ x := by
  have h := lg_cmp_ge x y
  have h2 : (lg_cmp x y < 0) = ¬ (0 ≤ lg_cmp x y) := propext Int32.not_le.symm
  rw [h2]
  exact propext (not_congr h)
theorem lg_pos (x y : Int64) : (0 < lg_cmp x y) = ¬ x ≤ y := by
  unfold lg_cmp
  apply propext
  by_cases h1 : x > y
  · have h9 : y < x := h1
    have h2 : ¬ x ≤ y := Int64.not_le.mpr h9
    simp [h9, h2]
  · have h9 : ¬ y < x := h1
    have h2 : x ≤ y := Int64.not_lt.mp h9
    by_cases h3 : x = y
    · subst h3
      simp
    · simp [h9, h2, h3]
theorem c119 {σ : ir_S} {d : Nat} {x y z : Int64} : ir_ev (d + 1) 119 [.long x, .long y, .long z] σ = some (some (.int (ir_b (decide (y ≤ x) && decide (x ≤ z)))), σ) := by
  simp only [e119, s119_0, s119_1, s119_2, s119_3, s119_17, s119_6, s119_18z, s119_18o, s119_18b, s119_7, s119_9, s119_10, s119_13, s119_14, lg_neg, lg_pos]
  by_cases h1 : y ≤ x <;> by_cases h2 : x ≤ z <;> simp [h1, h2, ir_b]
def inr (x k : Int32) : Bool := decide (¬ x < 0) && decide (¬ k ≤ x)
theorem in_k1 {x k : Int32} (hk : 0 ≤ k.toInt) : (decide ((0 : Int64) ≤ x.toInt64) && decide (x.toInt64 ≤ (k - 1).toInt64)) = inr x k := by
  have e1 : ((0 : Int64) ≤ x.toInt64) ↔ ¬ x < 0 := by
    rw [Int64.le_iff_toInt_le, Int32.toInt_toInt64, Int32.not_lt, Int32.le_iff_toInt_le]
    rfl
  have e2 : (x.toInt64 ≤ (k - 1).toInt64) ↔ ¬ k ≤ x := by
    rw [Int64.le_iff_toInt_le, Int32.toInt_toInt64, Int32.toInt_toInt64, Int32.not_le, Int32.lt_iff_toInt_lt]
    have hk2 : k.toInt < 2147483648 := Int32.toInt_lt k
    have e3 : (k - 1).toInt = k.toInt - 1 := by
      rw [Int32.toInt_sub, show (1 : Int32).toInt = 1 from rfl]
      rw [Int.bmod_eq_of_le (by omega) (by omega)]
    omega
  unfold inr
  rw [decide_eq_decide.mpr e1, decide_eq_decide.mpr e2]
def isNm (σ : ir_S) (n : Int32) : Bool := inr n (σ 33 1)
def isHm (σ : ir_S) (n : Int32) : Bool := isNm σ n && decide (σ 34 n.toNatClampNeg = 0)
def isRm (σ : ir_S) (n : Int32) : Bool := isNm σ n && decide (1 < σ 34 n.toNatClampNeg)
def isWm (σ : ir_S) (n : Int32) : Bool := isNm σ n && decide (σ 34 n.toNatClampNeg = 3)
theorem m122 {σ : ir_S} {d : Nat} {n : Int32} (h : 0 ≤ (σ 33 1).toInt) : ir_ev (d + 2) 122 [.ref 33, .int n] σ = some (some (.int (ir_b (isNm σ n))), σ) := by
  simp only [e122, s122_0, s122_1, s122_2, s122_3, s122_4, s122_7, s122_8, s122_9, s122_10, s122_13z, s122_13o, s122_13b, c119, ir_k_i, ir_tl_i, in_k1 h]
  rfl
theorem inr_ix {x k : Int32} {m : Nat} (h : inr x k = true) (hk : k.toInt ≤ m) : ir_ixb x m = true := by
  unfold inr at h
  rw [Bool.and_eq_true, decide_eq_true_iff, decide_eq_true_iff] at h
  exact n_ixb h.1 h.2 hk
theorem m123 {σ : ir_S} {d : Nat} {n : Int32} (h : 0 ≤ (σ 33 1).toInt) (h12 : (σ 33 1).toInt ≤ 12) : ir_ev (d + 3) 123 [.ref 33, .int n] σ = some (some (.int (ir_b (isHm σ n))), σ) := by
  simp only [e123, s123_0, s123_1, s123_2, s123_5, s123_21, s123_8, s123_22z, s123_22o, s123_22b, s123_9, s123_12, s123_13, s123_14, s123_17, s123_18, m122 h, ir_k_i, ir_tl_i, xa34]
  cases h1 : isNm σ n with
  | false => simp [isHm, h1, ir_b]
  | true =>
    have h2 := inr_ix h1 h12
    by_cases h3 : σ 34 n.toNatClampNeg = 0 <;> simp [isHm, h1, h2, h3, ir_b]
theorem m124 {σ : ir_S} {d : Nat} {n : Int32} (h : 0 ≤ (σ 33 1).toInt) (h12 : (σ 33 1).toInt ≤ 12) : ir_ev (d + 3) 124 [.ref 33, .int n] σ = some (some (.int (ir_b (isRm σ n))), σ) := by
  simp only [e124, s124_0, s124_1, s124_2, s124_5, s124_22, s124_8, s124_23z, s124_23o, s124_23b, s124_9, s124_12, s124_13, s124_14, s124_15, s124_18, s124_19, m122 h, ir_k_i, ir_tl_i, xa34]
  cases h1 : isNm σ n with
  | false => simp [isRm, h1, ir_b]
  | true =>
    have h2 := inr_ix h1 h12
    by_cases h3 : σ 34 n.toNatClampNeg ≤ 1
    · have h4 : ¬ 1 < σ 34 n.toNatClampNeg := Int32.not_lt.mpr h3
      simp [isRm, h1, h2, h3, h4, ir_b]
    · have h4 : 1 < σ 34 n.toNatClampNeg := Int32.not_le.mp h3
      simp [isRm, h1, h2, h3, h4, ir_b]
theorem m125 {σ : ir_S} {d : Nat} {n : Int32} (h : 0 ≤ (σ 33 1).toInt) (h12 : (σ 33 1).toInt ≤ 12) : ir_ev (d + 3) 125 [.ref 33, .int n] σ = some (some (.int (ir_b (isWm σ n))), σ) := by
  simp only [e125, s125_0, s125_1, s125_2, s125_5, s125_22, s125_8, s125_23z, s125_23o, s125_23b, s125_9, s125_12, s125_13, s125_14, s125_15, s125_18, s125_19, m122 h, ir_k_i, ir_tl_i, xa34]
  cases h1 : isNm σ n with
  | false => simp [isWm, h1, ir_b]
  | true =>
    have h2 := inr_ix h1 h12
    by_cases h3 : σ 34 n.toNatClampNeg = 3 <;> simp [isWm, h1, h2, h3, ir_b]
theorem k_3 : (3 : Int64) = ((4 : Int32) - 1).toInt64 := by decide
theorem k_5 : (5 : Int64) = ((6 : Int32) - 1).toInt64 := by decide
theorem k_1 : (1 : Int64) = ((2 : Int32) - 1).toInt64 := by decide
theorem k_4 : (4 : Int64) = ((5 : Int32) - 1).toInt64 := by decide
theorem m126 {σ : ir_S} {d : Nat} {n : Int32} : ir_ev (d + 2) 126 [.int n] σ = some (some (.int (ir_b (inr n 4))), σ) := by
  simp only [e126, s126_0, s126_1, s126_2, s126_3, s126_6, s126_9z, s126_9o, s126_9b, c119, ir_k_i, ir_tl_i, k_3, in_k1 (show 0 ≤ (4 : Int32).toInt by decide)]
theorem m127 {σ : ir_S} {d : Nat} {n : Int32} : ir_ev (d + 2) 127 [.int n] σ = some (some (.int (ir_b (inr n 6))), σ) := by
  simp only [e127, s127_0, s127_1, s127_2, s127_3, s127_6, s127_9z, s127_9o, s127_9b, c119, ir_k_i, ir_tl_i, k_5, in_k1 (show 0 ≤ (6 : Int32).toInt by decide)]
theorem m144 {σ : ir_S} {d : Nat} {n : Int32} (h : 0 ≤ (σ 33 12).toInt) : ir_ev (d + 2) 144 [.ref 33, .int n] σ = some (some (.int (ir_b (inr n (σ 33 12)))), σ) := by
  simp only [e144, s144_0, s144_1, s144_2, s144_3, s144_4, s144_7, s144_8, s144_9, s144_10, s144_13z, s144_13o, s144_13b, c119, ir_k_i, ir_tl_i, in_k1 h]
theorem m145 {σ : ir_S} {d : Nat} {n : Int32} (h : 0 ≤ (σ 33 17).toInt) : ir_ev (d + 2) 145 [.ref 33, .int n] σ = some (some (.int (ir_b (inr n (σ 33 17)))), σ) := by
  simp only [e145, s145_0, s145_1, s145_2, s145_3, s145_4, s145_7, s145_8, s145_9, s145_10, s145_13z, s145_13o, s145_13b, c119, ir_k_i, ir_tl_i, in_k1 h]
theorem m156 {σ : ir_S} {d : Nat} {n : Int32} (h : 0 ≤ (σ 33 26).toInt) : ir_ev (d + 2) 156 [.ref 33, .int n] σ = some (some (.int (ir_b (inr n (σ 33 26)))), σ) := by
  simp only [e156, s156_0, s156_1, s156_2, s156_3, s156_4, s156_7, s156_8, s156_9, s156_10, s156_13z, s156_13o, s156_13b, c119, ir_k_i, ir_tl_i, in_k1 h]
theorem m118 {σ : ir_S} {d : Nat} : ir_ev (d + 1) 118 [.ref 33] σ = some (some (.int (σ 33 0)), σ) := by simp only [e118, s118_0, s118_1, s118_4]
theorem m120 {σ : ir_S} {d : Nat} : ir_ev (d + 1) 120 [.ref 33] σ = some (some (.int 0), ir_up σ 33 0 1) := by simp only [e120, s120_0, s120_1, s120_2, s120_5, s120_6]
theorem m129 {σ : ir_S} {d : Nat} : ir_ev (d + 1) 129 [.ref 33] σ = some (none, ir_up σ 33 34 (-1)) := by simp only [e129, s129_0, s129_1, s129_2, s129_5]
/-! lineOf -/
def lnF (A B : Nat → Int32) (a b : Int32) : Nat → Nat → Int32
  | 0, _ => -1
  | n + 1, i => if (A i = a ∧ B i = b) ∨ (A i = b ∧ B i = a) then nI i else lnF A B a b n (i + 1)
theorem m128_loop {E : Nat → List Value → ir_S → Option ir_R} {σ : ir_S} {a b : Int32} {m : Nat} (hm : m ≤ 20) (hl : σ 33 3 = nI m) : ∀ n i, i + n = m → ir_run E 128 (2, [.ref 33, .int a, .int b, .int (nI i)], [], σ) = some (some (.int (lnF (σ 35) (σ 36) a b n i)), σ) := by
  intro n
  induction n with
  | zero =>
    intro i hi
    have hi : i = m := by omega
    subst hi
    rw [s128_2]
    simp (disch := omega) only [e128, s128_0, s128_1, s128_3, s128_4, s128_7, s128_58, s128_10, s128_59, s128_11, s128_14, s128_15, s128_16, s128_17, s128_30, s128_20, s128_31, s128_21, s128_34, s128_24, s128_35, s128_25, s128_36, s128_26, s128_37, s128_27, s128_52, s128_40, s128_50, s128_55, s128_41, s128_51, s128_44, s128_45, s128_46, s128_47, hl, n_lt_0, n_le_0, n_tl_0, n_el_0, n_eq_0, n_ad_0, n_lt_1, n_le_1, n_tl_1, n_el_1, n_eq_1, n_ad_1, n_lt_2, n_le_2, n_tl_2, n_el_2, n_eq_2, n_ad_2, n_lt_3, n_le_3, n_tl_3, n_el_3, n_eq_3, n_ad_3, n_lt_4, n_le_4, n_tl_4, n_el_4, n_eq_4, n_ad_4, n_lt_5, n_le_5, n_tl_5, n_el_5, n_eq_5, n_ad_5, n_lt_6, n_le_6, n_tl_6, n_el_6, n_eq_6, n_ad_6, n_lt_10, n_le_10, n_tl_10, n_el_10, n_eq_10, n_ad_10, n_lt_11, n_le_11, n_tl_11, n_el_11, n_eq_11, n_ad_11, n_lt_12, n_le_12, n_tl_12, n_el_12, n_eq_12, n_ad_12, n_lt_13, n_le_13, n_tl_13, n_el_13, n_eq_13, n_ad_13, n_lt_15, n_le_15, n_tl_15, n_el_15, n_eq_15, n_ad_15, n_lt_20, n_le_20, n_tl_20, n_el_20, n_eq_20, n_ad_20, n_lt_30, n_le_30, n_tl_30, n_el_30, n_eq_30, n_ad_30, n_lt_31, n_le_31, n_tl_31, n_el_31, n_eq_31, n_ad_31, n_lt_32, n_le_32, n_tl_32, n_el_32, n_eq_32, n_ad_32, n_lt_60, n_le_60, n_tl_60, n_el_60, n_eq_60, n_ad_60, n_lt_99, n_le_99, n_tl_99, n_el_99, n_eq_99, n_ad_99, n_lt_100, n_le_100, n_tl_100, n_el_100, n_eq_100, n_ad_100, n_lt_144, n_le_144, n_tl_144, n_el_144, n_eq_144, n_ad_144, n_lt_4096, n_le_4096, n_tl_4096, n_el_4096, n_eq_4096, n_ad_4096, n_mulK, nI_add, pk_mul, n_lt, n_le, n_eq, n_eqM, n_ix, n_cl]
    simp [lnF]
  | succ n ih =>
    intro i hi
    have h1 : ¬ m ≤ i := by omega
    have h2 : i < 20 := by omega
    have hih := ih (i + 1) (by omega)
    rw [s128_2]
    simp (disch := omega) only [e128, s128_0, s128_1, s128_3, s128_4, s128_7, s128_58, s128_10, s128_59, s128_11, s128_14, s128_15, s128_16, s128_17, s128_30, s128_20, s128_31, s128_21, s128_34, s128_24, s128_35, s128_25, s128_36, s128_26, s128_37, s128_27, s128_52, s128_40, s128_50, s128_55, s128_41, s128_51, s128_44, s128_45, s128_46, s128_47, xA35, xL35, xa35, xA36, xL36, xa36, hl, n_lt_0, n_le_0, n_tl_0, n_el_0, n_eq_0, n_ad_0, n_lt_1, n_le_1, n_tl_1, n_el_1, n_eq_1, n_ad_1, n_lt_2, n_le_2, n_tl_2, n_el_2, n_eq_2, n_ad_2, n_lt_3, n_le_3, n_tl_3, n_el_3, n_eq_3, n_ad_3, n_lt_4, n_le_4, n_tl_4, n_el_4, n_eq_4, n_ad_4, n_lt_5, n_le_5, n_tl_5, n_el_5, n_eq_5, n_ad_5, n_lt_6, n_le_6, n_tl_6, n_el_6, n_eq_6, n_ad_6, n_lt_10, n_le_10, n_tl_10, n_el_10, n_eq_10, n_ad_10, n_lt_11, n_le_11, n_tl_11, n_el_11, n_eq_11, n_ad_11, n_lt_12, n_le_12, n_tl_12, n_el_12, n_eq_12, n_ad_12, n_lt_13, n_le_13, n_tl_13, n_el_13, n_eq_13, n_ad_13, n_lt_15, n_le_15, n_tl_15, n_el_15, n_eq_15, n_ad_15, n_lt_20, n_le_20, n_tl_20, n_el_20, n_eq_20, n_ad_20, n_lt_30, n_le_30, n_tl_30, n_el_30, n_eq_30, n_ad_30, n_lt_31, n_le_31, n_tl_31, n_el_31, n_eq_31, n_ad_31, n_lt_32, n_le_32, n_tl_32, n_el_32, n_eq_32, n_ad_32, n_lt_60, n_le_60, n_tl_60, n_el_60, n_eq_60, n_ad_60, n_lt_99, n_le_99, n_tl_99, n_el_99, n_eq_99, n_ad_99, n_lt_100, n_le_100, n_tl_100, n_el_100, n_eq_100, n_ad_100, n_lt_144, n_le_144, n_tl_144, n_el_144, n_eq_144, n_ad_144, n_lt_4096, n_le_4096, n_tl_4096, n_el_4096, n_eq_4096, n_ad_4096, n_mulK, nI_add, pk_mul, n_lt, n_le, n_eq, n_eqM, n_ix, n_cl, h2, decide_true, if_true, if_neg h1, hih, lnF]
    repeat' split
    all_goals simp_all
theorem m128 {d : Nat} {σ : ir_S} {a b : Int32} {m : Nat} (hm : m ≤ 20) (hl : σ 33 3 = nI m) : ir_ev (d + 1) 128 [.ref 33, .int a, .int b] σ = some (some (.int (lnF (σ 35) (σ 36) a b m 0)), σ) := by
  simp only [e128, s128_0, s128_1, s128_3, s128_4, s128_7, s128_58, s128_10, s128_59, s128_11, s128_14, s128_15, s128_16, s128_17, s128_30, s128_20, s128_31, s128_21, s128_34, s128_24, s128_35, s128_25, s128_36, s128_26, s128_37, s128_27, s128_52, s128_40, s128_50, s128_55, s128_41, s128_51, s128_44, s128_45, s128_46, s128_47]
  exact m128_loop hm hl m 0 (by omega)
/-! held, isDenied: the active faults fs -/
def HL (σ : ir_S) (fs : List Nat) : Prop := fs.length ≤ 2 ∧ σ 33 20 = nI fs.length ∧ ∀ k f, fs[k]? = some f → σ 48 k = nI f ∧ f < 12
def heF (σ : ir_S) (K a b both : Int32) (v : Int32) (f : Nat) : Int32 := if σ 42 f = K ∧ σ 43 f = a ∧ (both = 0 ∨ σ 44 f = b) then nI f else v
theorem m148_loop {E : Nat → List Value → ir_S → Option ir_R} {σ : ir_S} {K a b both : Int32} {fs : List Nat} (hf : HL σ fs) : ∀ n i v l7, i + n = fs.length → ir_run E 148 (6, [.ref 33, .int K, .int a, .int b, .int both, .int v, .int (nI i), l7], [], σ) = some (some (.int ((fs.drop i).foldl (heF σ K a b both) v)), σ) := by
  obtain ⟨h0, h1, h2⟩ := hf
  intro n
  induction n with
  | zero =>
    intro i v l7 hi
    have hi : i = fs.length := by omega
    subst hi
    rw [s148_6]
    simp (disch := omega) only [e148, s148_0, s148_1, s148_3, s148_4, s148_8, s148_9, s148_12, s148_77, s148_15, s148_79, s148_16, s148_19, s148_21, s148_22, s148_24, s148_25, s148_28, s148_30, s148_31, s148_32, s148_67, s148_35, s148_69, s148_36, s148_71, s148_39, s148_74, s148_41, s148_42, s148_43, s148_46, s148_48, s148_62, s148_51, s148_64, s148_52, s148_55, s148_57, s148_58, s148_59, h1, n_lt_0, n_le_0, n_tl_0, n_el_0, n_eq_0, n_ad_0, n_lt_1, n_le_1, n_tl_1, n_el_1, n_eq_1, n_ad_1, n_lt_2, n_le_2, n_tl_2, n_el_2, n_eq_2, n_ad_2, n_lt_3, n_le_3, n_tl_3, n_el_3, n_eq_3, n_ad_3, n_lt_4, n_le_4, n_tl_4, n_el_4, n_eq_4, n_ad_4, n_lt_5, n_le_5, n_tl_5, n_el_5, n_eq_5, n_ad_5, n_lt_6, n_le_6, n_tl_6, n_el_6, n_eq_6, n_ad_6, n_lt_10, n_le_10, n_tl_10, n_el_10, n_eq_10, n_ad_10, n_lt_11, n_le_11, n_tl_11, n_el_11, n_eq_11, n_ad_11, n_lt_12, n_le_12, n_tl_12, n_el_12, n_eq_12, n_ad_12, n_lt_13, n_le_13, n_tl_13, n_el_13, n_eq_13, n_ad_13, n_lt_15, n_le_15, n_tl_15, n_el_15, n_eq_15, n_ad_15, n_lt_20, n_le_20, n_tl_20, n_el_20, n_eq_20, n_ad_20, n_lt_30, n_le_30, n_tl_30, n_el_30, n_eq_30, n_ad_30, n_lt_31, n_le_31, n_tl_31, n_el_31, n_eq_31, n_ad_31, n_lt_32, n_le_32, n_tl_32, n_el_32, n_eq_32, n_ad_32, n_lt_60, n_le_60, n_tl_60, n_el_60, n_eq_60, n_ad_60, n_lt_99, n_le_99, n_tl_99, n_el_99, n_eq_99, n_ad_99, n_lt_100, n_le_100, n_tl_100, n_el_100, n_eq_100, n_ad_100, n_lt_144, n_le_144, n_tl_144, n_el_144, n_eq_144, n_ad_144, n_lt_4096, n_le_4096, n_tl_4096, n_el_4096, n_eq_4096, n_ad_4096, n_mulK, nI_add, pk_mul, n_lt, n_le, n_eq, n_eqM, n_ix, n_cl, Nat.le_refl, if_true]
    simp
  | succ n ih =>
    intro i v l7 hi
    have hlt : i < fs.length := by omega
    obtain ⟨hk, hk12⟩ := h2 i _ (List.getElem?_eq_getElem hlt)
    have q1 : ¬ fs.length ≤ i := by omega
    have q2 : i < 2 := by omega
    rw [s148_6, List.drop_eq_getElem_cons hlt, List.foldl_cons]
    simp (disch := omega) only [e148, s148_0, s148_1, s148_3, s148_4, s148_8, s148_9, s148_12, s148_77, s148_15, s148_79, s148_16, s148_19, s148_21, s148_22, s148_24, s148_25, s148_28, s148_30, s148_31, s148_32, s148_67, s148_35, s148_69, s148_36, s148_71, s148_39, s148_74, s148_41, s148_42, s148_43, s148_46, s148_48, s148_62, s148_51, s148_64, s148_52, s148_55, s148_57, s148_58, s148_59, xA48, xL48, xa48, xA42, xL42, xa42, xA43, xL43, xa43, xA44, xL44, xa44, h1, n_lt_0, n_le_0, n_tl_0, n_el_0, n_eq_0, n_ad_0, n_lt_1, n_le_1, n_tl_1, n_el_1, n_eq_1, n_ad_1, n_lt_2, n_le_2, n_tl_2, n_el_2, n_eq_2, n_ad_2, n_lt_3, n_le_3, n_tl_3, n_el_3, n_eq_3, n_ad_3, n_lt_4, n_le_4, n_tl_4, n_el_4, n_eq_4, n_ad_4, n_lt_5, n_le_5, n_tl_5, n_el_5, n_eq_5, n_ad_5, n_lt_6, n_le_6, n_tl_6, n_el_6, n_eq_6, n_ad_6, n_lt_10, n_le_10, n_tl_10, n_el_10, n_eq_10, n_ad_10, n_lt_11, n_le_11, n_tl_11, n_el_11, n_eq_11, n_ad_11, n_lt_12, n_le_12, n_tl_12, n_el_12, n_eq_12, n_ad_12, n_lt_13, n_le_13, n_tl_13, n_el_13, n_eq_13, n_ad_13, n_lt_15, n_le_15, n_tl_15, n_el_15, n_eq_15, n_ad_15, n_lt_20, n_le_20, n_tl_20, n_el_20, n_eq_20, n_ad_20, n_lt_30, n_le_30, n_tl_30, n_el_30, n_eq_30, n_ad_30, n_lt_31, n_le_31, n_tl_31, n_el_31, n_eq_31, n_ad_31, n_lt_32, n_le_32, n_tl_32, n_el_32, n_eq_32, n_ad_32, n_lt_60, n_le_60, n_tl_60, n_el_60, n_eq_60, n_ad_60, n_lt_99, n_le_99, n_tl_99, n_el_99, n_eq_99, n_ad_99, n_lt_100, n_le_100, n_tl_100, n_el_100, n_eq_100, n_ad_100, n_lt_144, n_le_144, n_tl_144, n_el_144, n_eq_144, n_ad_144, n_lt_4096, n_le_4096, n_tl_4096, n_el_4096, n_eq_4096, n_ad_4096, n_mulK, nI_add, pk_mul, n_lt, n_le, n_eq, n_eqM, n_ix, n_cl, if_neg q1, q2, hk, hk12, decide_true, if_true]
    have e1 := ih (i + 1) (nI fs[i]) (.int (nI fs[i])) (by omega)
    have e2 := ih (i + 1) v (.int (nI fs[i])) (by omega)
    by_cases z3 : both = 0
    · subst z3
      by_cases z1 : σ 42 fs[i] = K <;> by_cases z2 : σ 43 fs[i] = a <;> simp [z1, z2, e1, e2, heF]
    · by_cases z1 : σ 42 fs[i] = K <;> by_cases z2 : σ 43 fs[i] = a <;> by_cases z4 : σ 44 fs[i] = b <;> simp [z1, z2, z3, z4, e1, e2, heF]
def heL (σ : ir_S) (fs : List Nat) (K a b both : Int32) : Int32 := fs.foldl (heF σ K a b both) (-1)
theorem m148 {d : Nat} {σ : ir_S} {K a b both : Int32} {fs : List Nat} (hf : HL σ fs) : ir_ev (d + 1) 148 [.ref 33, .int K, .int a, .int b, .int both] σ = some (some (.int (heL σ fs K a b both)), σ) := by
  simp only [e148, s148_0, s148_1, s148_3, s148_4, s148_8, s148_9, s148_12, s148_77, s148_15, s148_79, s148_16, s148_19, s148_21, s148_22, s148_24, s148_25, s148_28, s148_30, s148_31, s148_32, s148_67, s148_35, s148_69, s148_36, s148_71, s148_39, s148_74, s148_41, s148_42, s148_43, s148_46, s148_48, s148_62, s148_51, s148_64, s148_52, s148_55, s148_57, s148_58, s148_59]
  exact m148_loop hf fs.length 0 (-1) .null (by omega)
