/-! WORST, as both sides reckon it: al: which causes a look finds alike; pr: prices; K looks; C causes -/
def gmo (W al : Nat → Nat) (s : Nat) : Nat → Nat → Nat → Option Nat
  | 0, _, g => some g
  | k + 1, r, g => if r = 0 then some g else if s &&& al (lowN r) = s then none else gmo W al s k (sdf r (s &&& al (lowN r))) (max g (W (s &&& al (lowN r))))
def cst (W : Nat → Nat) (AL : Nat → Nat → Nat) (pr : Nat → Nat) (C s l : Nat) : Option Nat := (gmo W (AL l) s C s 0).map (fun g => pr l + g)
def bmin (b c : Option Nat) : Option Nat := match c with
  | none => b
  | some c => match b with
    | none => some c
    | some b => if c < b then some c else some b
def wmin (f : Nat → Option Nat) : Nat → Nat → Option Nat → Option Nat
  | 0, _, b => b
  | n + 1, l, b => wmin f n (l + 1) (bmin b (f l))
def WV (AL : Nat → Nat → Nat) (pr : Nat → Nat) (K C : Nat) : Nat → Nat → Nat
  | 0, _ => 0
  | n + 1, s => if s = 0 then 0 else (wmin (cst (WV AL pr K C n) AL pr C s) K 0 none).getD 0
theorem WV_0 {AL : Nat → Nat → Nat} {pr : Nat → Nat} {K C : Nat} : ∀ n, WV AL pr K C n 0 = 0 := by
  intro n
  cases n with
  | zero => rfl
  | succ n => simp [WV]
theorem and_sub {s x i : Nat} (h : (s &&& x).testBit i = true) : s.testBit i = true := by
  rw [Nat.testBit_and, Bool.and_eq_true] at h
  exact h.1
theorem gmo_c {W W' al : Nat → Nat} {s : Nat} (h : ∀ x, s &&& x ≠ s → W (s &&& x) = W' (s &&& x)) : ∀ k r g, gmo W al s k r g = gmo W' al s k r g := by
  intro k
  induction k with
  | zero => intro r g; rfl
  | succ k ih =>
    intro r g
    simp only [gmo]
    by_cases q1 : r = 0
    · rw [if_pos q1, if_pos q1]
    · rw [if_neg q1, if_neg q1]
      by_cases q2 : s &&& al (lowN r) = s
      · rw [if_pos q2, if_pos q2]
      · rw [if_neg q2, if_neg q2, h _ q2, ih]
theorem wmin_c {f f' : Nat → Option Nat} (h : ∀ l, f l = f' l) : ∀ n l b, wmin f n l b = wmin f' n l b := by
  intro n
  induction n with
  | zero => intro l b; rfl
  | succ n ih => intro l b; simp only [wmin, h l, ih]
theorem WV_st {AL : Nat → Nat → Nat} {pr : Nat → Nat} {K C : Nat} : ∀ n n' s, s < 4096 → popN s ≤ n → popN s ≤ n' → s ≠ 0 → WV AL pr K C n s = WV AL pr K C n' s := by
  intro n
  induction n with
  | zero => intro n' s hs h1 _ h0; have := pop_pos hs h0; omega
  | succ n ih =>
    intro n' s hs h1 h2 h0
    cases n' with
    | zero => have := pop_pos hs h0; omega
    | succ n' =>
      simp only [WV, if_neg h0]
      have key : ∀ x, s &&& x ≠ s → WV AL pr K C n (s &&& x) = WV AL pr K C n' (s &&& x) := by
        intro x hx
        by_cases hz : s &&& x = 0
        · rw [hz, WV_0, WV_0]
        · have hlt := pop_lt hs (and_lt hs) (fun i => and_sub) hx
          exact ih n' (s &&& x) (and_lt hs) (by omega) (by omega) hz
      congr 1
      apply wmin_c
      intro l
      unfold cst
      congr 1
      exact gmo_c key _ _ _
theorem WV_s {AL : Nat → Nat → Nat} {pr : Nat → Nat} {K C : Nat} (n s : Nat) : WV AL pr K C (n + 1) s = if s = 0 then 0 else (wmin (cst (WV AL pr K C n) AL pr C s) K 0 none).getD 0 := rfl
theorem WV_fix {AL : Nat → Nat → Nat} {pr : Nat → Nat} {K C s : Nat} (hs : s < 4096) (h0 : s ≠ 0) : WV AL pr K C 12 s = (wmin (cst (WV AL pr K C 12) AL pr C s) K 0 none).getD 0 := by
  have h13 : popN s ≤ 12 + 1 := Nat.le_succ_of_le (pop_12 s)
  exact (WV_st 12 (12 + 1) s hs (pop_12 s) h13 h0).trans ((WV_s 12 s).trans (if_neg h0))
theorem gmo_le {W al : Nat → Nat} {s B : Nat} (h : ∀ x, W x ≤ B) : ∀ k r g, g ≤ B → ∀ v, gmo W al s k r g = some v → v ≤ B := by
  intro k
  induction k with
  | zero => intro r g hg v hv; cases hv; exact hg
  | succ k ih =>
    intro r g hg v hv
    simp only [gmo] at hv
    by_cases q1 : r = 0
    · rw [if_pos q1] at hv; cases hv; exact hg
    · rw [if_neg q1] at hv
      by_cases q2 : s &&& al (lowN r) = s
      · rw [if_pos q2] at hv; cases hv
      · rw [if_neg q2] at hv
        exact ih _ _ (Nat.max_le.mpr ⟨hg, h _⟩) v hv
theorem wmin_le {f : Nat → Option Nat} {B L : Nat} (h : ∀ l v, l < L → f l = some v → v ≤ B) : ∀ n l b, l + n ≤ L → (∀ v, b = some v → v ≤ B) → ∀ v, wmin f n l b = some v → v ≤ B := by
  intro n
  induction n with
  | zero => intro l b _ hb v hv; exact hb v hv
  | succ n ih =>
    intro l b hl hb v hv
    refine ih (l + 1) _ (by omega) ?_ v hv
    intro w hw
    unfold bmin at hw
    cases hf : f l with
    | none => rw [hf] at hw; exact hb w hw
    | some c =>
      rw [hf] at hw
      cases b with
      | none => cases hw; exact h l w (by omega) hf
      | some b =>
        by_cases q : c < b
        · simp only [if_pos q] at hw; cases hw; exact h l w (by omega) hf
        · simp only [if_neg q] at hw; cases hw; exact hb w rfl
theorem WV_le {AL : Nat → Nat → Nat} {pr : Nat → Nat} {K C : Nat} (hp : ∀ l, l < K → pr l ≤ 100) : ∀ n s, WV AL pr K C n s ≤ 100 * n := by
  intro n
  induction n with
  | zero => intro s; exact Nat.le_refl _
  | succ n ih =>
    intro s
    simp only [WV]
    by_cases h0 : s = 0
    · rw [if_pos h0]; omega
    · rw [if_neg h0]
      cases hw : wmin (cst (WV AL pr K C n) AL pr C s) K 0 none with
      | none => simp
      | some v =>
        have := wmin_le (B := 100 * (n + 1)) (L := K) (fun l v hl hv => by
          unfold cst at hv
          cases hg : gmo (WV AL pr K C n) (AL l) s C s 0 with
          | none => rw [hg] at hv; cases hv
          | some g =>
            rw [hg] at hv
            have h1 := gmo_le (B := 100 * n) ih _ _ _ (Nat.zero_le _) g hg
            have h2 := hp l hl
            cases hv
            show pr l + g ≤ _
            omega) K 0 none (by omega) (fun v hv => by cases hv) v hw
        simpa using this
