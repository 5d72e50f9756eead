/-! WORST, as both sides reckon it: al: which causes a look finds alike; pr: prices; K looks; C causes -/
def gmo (W al : Nat → Nat) (s : Nat) : Nat → Nat → Nat → Option Nat
  | 0, _, g => some g
  | k + 1, r, g => if r = 0 then some g else if s &&& al (lowN r) = s then none else gmo W al s k (sdf r (s &&& al (lowN r))) (max g (W (s &&& al (lowN r))))
def cst (W : Nat → Nat) (AL : Nat → Nat → Nat) (pr : Nat → Nat) (C s l : Nat) : Option Nat := (gmo W (AL l) s C s 0).map (fun g => pr l + g)
def bmin (b c : Option Nat) : Option Nat := match c with
  | none => b
  | some c => match b with
    | none => some c
    | some b => if c < b then some c else some b
def wmin (f : Nat → Option Nat) : Nat → Nat → Option Nat → Option Nat
  | 0, _, b => b
  | n + 1, l, b => wmin f n (l + 1) (bmin b (f l))
def WV (AL : Nat → Nat → Nat) (pr : Nat → Nat) (K C : Nat) : Nat → Nat → Nat
  | 0, _ => 0
  | n + 1, s => if s = 0 then 0 else (wmin (cst (WV AL pr K C n) AL pr C s) K 0 none).getD 0
theorem WV_0 {AL : Nat → Nat → Nat} {pr : Nat → Nat} {K C : Nat} : ∀ n, WV AL pr K C n 0 = 0 := by
  intro n
  cases n with
  | zero => rfl
  | succ n => simp [WV]
theorem and_sub {s x i : Nat} (h : (s &&& x).testBit i = true) : s.testBit i = true := by
  rw [Nat.testBit_and, Bool.and_eq_true] at h
  exact h.1
theorem gmo_c {W W' al : Nat → Nat} {s : Nat} (h : ∀ x, s &&& x ≠ s → W (s &&& x) = W' (s &&& x)) : ∀ k r g, gmo W al s k r g = gmo W' al s k r g := by
  intro k
  induction k with
  | zero => intro r g; rfl
  | succ k ih =>
    intro r g
    simp only [gmo]
    by_cases q1 : r = 0
    · rw [if_pos q1, if_pos q1]
    · rw [if_neg q1, if_neg q1]
      by_cases q2 : s &&& al (lowN r) = s
      · rw [if_pos q2, if_pos q2]
      · rw [if_neg q2, if_neg q2, h _ q2, ih]
theorem wmin_c {f f' : Nat → Option Nat} (h : ∀ l, f l = f' l) : ∀ n l b, wmin f n l b = wmin f' n l b := by
  intro n
  induction n with
  | zero => intro l b; rfl
  | succ n ih => intro l b; simp only [wmin, h l, ih]
theorem WV_st {AL : Nat → Nat → Nat} {pr : Nat → Nat} {K C : Nat} : ∀ n n' s, s < 4096 → popN s ≤ n → popN s ≤ n' → s ≠ 0 → WV AL pr K C n s = WV AL pr K C n' s := by
  intro n
  induction n with
  | zero => intro n' s hs h1 _ h0; have := pop_pos hs h0; omega
  | succ n ih =>
    intro n' s hs h1 h2 h0
    cases n' with
    | zero => have := pop_pos hs h0; omega
    | succ n' =>
      simp only [WV, if_neg h0]
      have key : ∀ x, s &&& x ≠ s → WV AL pr K C n (s &&& x) = WV AL pr K C n' (s &&& x) := by
        intro x hx
        by_cases hz : s &&& x = 0
        · rw [hz, WV_0, WV_0]
        · have hlt := pop_lt hs (and_lt hs) (fun i => and_sub) hx
          exact ih n' (s &&& x) (and_lt hs) (by omega) (by omega) hz
      congr 1
      apply wmin_c
      intro l
      unfold cst
      congr 1
      exact gmo_c key _ _ _
theorem WV_fix {AL : Nat → Nat → Nat} {pr : Nat → Nat} {K C s : Nat} (hs : s < 4096) (h0 : s ≠ 0) : WV AL pr K C 12 s = (wmin (cst (WV AL pr K C 12) AL pr C s) K 0 none).getD 0 := by
  have e : WV AL pr K C 13 s = if s = 0 then 0 else (wmin (cst (WV AL pr K C 12) AL pr C s) K 0 none).getD 0 := rfl
  rw [WV_st 12 13 s hs (pop_12 s) (Nat.le_trans (pop_12 s) (by decide)) h0, e, if_neg h0]
theorem gmo_le {W al : Nat → Nat} {s B : Nat} (h : ∀ x, W x ≤ B) : ∀ k r g, g ≤ B → ∀ v, gmo W al s k r g = some v → v ≤ B := by
  intro k
  induction k with
  | zero => intro r g hg v hv; cases hv; exact hg
  | succ k ih =>
    intro r g hg v hv
    simp only [gmo] at hv
    by_cases q1 : r = 0
    · rw [if_pos q1] at hv; cases hv; exact hg
    · rw [if_neg q1] at hv
      by_cases q2 : s &&& al (lowN r) = s
      · rw [if_pos q2] at hv; cases hv
      · rw [if_neg q2] at hv
        exact ih _ _ (Nat.max_le.mpr ⟨hg, h _⟩) v hv
theorem wmin_le {f : Nat → Option Nat} {B L : Nat} (h : ∀ l v, l < L → f l = some v → v ≤ B) : ∀ n l b, l + n ≤ L → (∀ v, b = some v → v ≤ B) → ∀ v, wmin f n l b = some v → v ≤ B := by
  intro n
  induction n with
  | zero => intro l b _ hb v hv; exact hb v hv
  | succ n ih =>
    intro l b hl hb v hv
    refine ih (l + 1) _ (by omega) ?_ v hv
    intro w hw
    unfold bmin at hw
    cases hf : f l with
    | none => rw [hf] at hw; exact hb w hw
    | some c =>
      rw [hf] at hw
      cases b with
      | none => cases hw; exact h l c (by omega) hf
      | some b =>
        by_cases q : c < b
        · simp only [if_pos q] at hw; cases hw; exact h l c (by omega) hf
        · simp only [if_neg q] at hw; cases hw; exact hb b rfl
theorem WV_le {AL : Nat → Nat → Nat} {pr : Nat → Nat} {K C : Nat} (hp : ∀ l, l < K → pr l ≤ 100) : ∀ n s, WV AL pr K C n s ≤ 100 * n := by
  intro n
  induction n with
  | zero => intro s; exact Nat.le_refl _
  | succ n ih =>
    intro s
    simp only [WV]
    by_cases h0 : s = 0
    · rw [if_pos h0]; omega
    · rw [if_neg h0]
      cases hw : wmin (cst (WV AL pr K C n) AL pr C s) K 0 none with
      | none => simp
      | some v =>
        have := wmin_le (B := 100 * (n + 1)) (L := K) (fun l v hl hv => by
          unfold cst at hv
          cases hg : gmo (WV AL pr K C n) (AL l) s C s 0 with
          | none => rw [hg] at hv; cases hv
          | some g =>
            rw [hg] at hv
            have h1 := gmo_le (B := 100 * n) ih _ _ _ (Nat.zero_le _) g hg
            have h2 := hp l hl
            cases hv
            show pr l + g ≤ _
            omega) K 0 none (by omega) (fun v hv => by cases hv) v hw
        simpa using this
/-! the class's table -/
def TBL (σ : ir_S) (K C : Nat) (AL : Nat → Nat → Nat) (pr : Nat → Nat) : Prop := K ≤ 12 ∧ C ≤ 12 ∧ σ 25 4 = nI K ∧ σ 25 5 = nI C ∧ (∀ l c, l < K → c < C → σ 27 (l * 12 + c) = nI (AL l c) ∧ AL l c < 2 ^ C ∧ (AL l c).testBit c = true) ∧ ∀ l, l < K → σ 28 l = nI (pr l) ∧ pr l ≤ 100
def MEM (σ : ir_S) (C : Nat) (W : Nat → Nat) : Prop := ∀ s, 0 < s → s < 2 ^ C → σ 29 s = -1 ∨ σ 29 s = nI (W s)
theorem TBL_ag {σ σ' : ir_S} {K C : Nat} {AL : Nat → Nat → Nat} {pr : Nat → Nat} (h : ∀ c, c ≠ 29 → σ' c = σ c) (ht : TBL σ K C AL pr) : TBL σ' K C AL pr := by
  unfold TBL
  rw [h 25 (by decide), h 27 (by decide), h 28 (by decide)]
  exact ht
theorem c62 {d l c : Nat} {σ : ir_S} (hl : l < 12) (hc : c < 12) : ir_ev (d + 1) 62 [.ref 25, .int (nI l), .int (nI c)] σ = some (some (.int (σ 27 (l * 12 + c))), σ) := by
  have h1 : ¬ 144 ≤ l * 12 + c := by omega
  have h2 : l * 12 + c < 144 := by omega
  simp (disch := omega) only [e62, s62_0, s62_1, s62_3, s62_4, s62_5, s62_6, s62_7, s62_8, s62_29, s62_11, s62_30, s62_12, s62_13, s62_16, s62_17, s62_20, s62_21, s62_24, s62_25, s62_26, xA27, xL27, xa27, n_lt_0, n_le_0, n_tl_0, n_el_0, n_eq_0, n_ad_0, n_lt_1, n_le_1, n_tl_1, n_el_1, n_eq_1, n_ad_1, n_lt_2, n_le_2, n_tl_2, n_el_2, n_eq_2, n_ad_2, n_lt_3, n_le_3, n_tl_3, n_el_3, n_eq_3, n_ad_3, n_lt_4, n_le_4, n_tl_4, n_el_4, n_eq_4, n_ad_4, n_lt_5, n_le_5, n_tl_5, n_el_5, n_eq_5, n_ad_5, n_lt_6, n_le_6, n_tl_6, n_el_6, n_eq_6, n_ad_6, n_lt_10, n_le_10, n_tl_10, n_el_10, n_eq_10, n_ad_10, n_lt_11, n_le_11, n_tl_11, n_el_11, n_eq_11, n_ad_11, n_lt_12, n_le_12, n_tl_12, n_el_12, n_eq_12, n_ad_12, n_lt_13, n_le_13, n_tl_13, n_el_13, n_eq_13, n_ad_13, n_lt_15, n_le_15, n_tl_15, n_el_15, n_eq_15, n_ad_15, n_lt_20, n_le_20, n_tl_20, n_el_20, n_eq_20, n_ad_20, n_lt_30, n_le_30, n_tl_30, n_el_30, n_eq_30, n_ad_30, n_lt_31, n_le_31, n_tl_31, n_el_31, n_eq_31, n_ad_31, n_lt_32, n_le_32, n_tl_32, n_el_32, n_eq_32, n_ad_32, n_lt_60, n_le_60, n_tl_60, n_el_60, n_eq_60, n_ad_60, n_lt_99, n_le_99, n_tl_99, n_el_99, n_eq_99, n_ad_99, n_lt_100, n_le_100, n_tl_100, n_el_100, n_eq_100, n_ad_100, n_lt_144, n_le_144, n_tl_144, n_el_144, n_eq_144, n_ad_144, n_lt_4096, n_le_4096, n_tl_4096, n_el_4096, n_eq_4096, n_ad_4096, n_mulK, nI_add, pk_mul, n_lt, n_le, n_eq, n_eqM, n_ix, n_cl]
  simp [h1, h2]
theorem pC {C : Nat} (hC : C ≤ 12) : 2 ^ C ≤ 4096 := Nat.pow_le_pow_right (n := 2) (by decide) hC
theorem low_C {C r : Nat} (hC : C ≤ 12) (hr : r < 2 ^ C) (h0 : r ≠ 0) : lowN r < C := by
  have h4 := pC hC
  rcases Nat.lt_or_ge (lowN r) C with h | h
  · exact h
  · have h1 := (low_bit r (by omega) h0).1
    rw [Nat.testBit_lt_two_pow (Nat.lt_of_lt_of_le hr (Nat.pow_le_pow_right (by decide) h))] at h1
    cases h1
theorem ir_max_n {a b : Nat} (ha : a < 2147483648) (hb : b < 2147483648) : ir_max (nI a) (nI b) = nI (max a b) := by
  unfold ir_max
  rw [show (nI a < nI b) = (a < b) from n_lt ha hb]
  by_cases h : a < b
  · rw [if_pos (by rw [n_lt ha hb]; exact h), Nat.max_eq_right (by omega)]
  · rw [if_neg (by rw [n_lt ha hb]; exact h), Nat.max_eq_left (by omega)]
