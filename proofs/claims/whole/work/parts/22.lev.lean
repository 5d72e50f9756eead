/-! levels: which nodes come to t within k lines, hosts never passed -/
def lev (N : Nat) (adj : Nat → Nat → Bool) (rel : Nat → Bool) (t : Nat) : Nat → Nat → Bool
  | 0, v => decide (v = t)
  | k + 1, v => lev N adj rel t k v || (rel v && (List.range N).any (fun u => adj v u && lev N adj rel t k u))
theorem lev_s {N : Nat} {adj : Nat → Nat → Bool} {rel : Nat → Bool} {t k v : Nat} (h : lev N adj rel t k v = true) : lev N adj rel t (k + 1) v = true := by
  simp only [lev, h, Bool.true_or]
theorem lev_mono {N : Nat} {adj : Nat → Nat → Bool} {rel : Nat → Bool} {t v : Nat} : ∀ {j k : Nat}, k ≤ j → lev N adj rel t k v = true → lev N adj rel t j v = true := by
  intro j
  induction j with
  | zero => intro k hk h; rw [show k = 0 by omega] at h; exact h
  | succ j ih =>
    intro k hk h
    rcases Nat.lt_or_ge k (j + 1) with h1 | h1
    · exact lev_s (ih (by omega) h)
    · rw [show k = j + 1 by omega] at h; exact h
theorem lev_step {N : Nat} {adj : Nat → Nat → Bool} {rel : Nat → Bool} {t k a b : Nat} (hr : rel a = true) (ha : adj a b = true) (hb : b < N) (h : lev N adj rel t k b = true) : lev N adj rel t (k + 1) a = true := by
  have : (List.range N).any (fun u => adj a u && lev N adj rel t k u) = true := List.any_eq_true.mpr ⟨b, List.mem_range.mpr hb, by simp [ha, h]⟩
  simp only [lev, hr, this, Bool.and_true, Bool.or_true]
theorem lev_inv {N : Nat} {adj : Nat → Nat → Bool} {rel : Nat → Bool} {t k a : Nat} (h : lev N adj rel t (k + 1) a = true) : lev N adj rel t k a = true ∨ (rel a = true ∧ ∃ b, b < N ∧ adj a b = true ∧ lev N adj rel t k b = true) := by
  simp only [lev, Bool.or_eq_true, Bool.and_eq_true] at h
  rcases h with h | ⟨h1, h2⟩
  · exact Or.inl h
  · obtain ⟨b, hb, h3⟩ := List.any_eq_true.mp h2
    rw [Bool.and_eq_true] at h3
    exact Or.inr ⟨h1, b, List.mem_range.mp hb, h3.1, h3.2⟩
theorem cnt_lt {p q : Nat → Bool} : ∀ {l : List Nat}, (∀ v ∈ l, p v = true → q v = true) → (∃ v ∈ l, q v = true ∧ p v = false) → l.countP p < l.countP q := by
  intro l
  induction l with
  | nil => rintro _ ⟨v, hv, _⟩; cases hv
  | cons a l ih =>
    intro h1 h2
    have hle : l.countP p ≤ l.countP q := List.countP_mono_left (fun v hv => h1 v (List.mem_cons_of_mem _ hv))
    rw [List.countP_cons, List.countP_cons]
    obtain ⟨v, hv, hq, hp⟩ := h2
    rcases List.mem_cons.mp hv with rfl | hv
    · simp only [hq, hp, if_true]
      simp
      omega
    · have := ih (fun v hv => h1 v (List.mem_cons_of_mem _ hv)) ⟨v, hv, hq, hp⟩
      by_cases e : p a = true
      · have e2 := h1 a List.mem_cons_self e
        simp only [e, e2, if_true]
        omega
      · simp only [e, if_false]
        by_cases e2 : q a = true
        · simp only [e2, if_true]
          simp
          omega
        · simp [e2]
          exact this
/-- more than N lines bring no more -/
theorem lev_sat {N : Nat} {adj : Nat → Nat → Bool} {rel : Nat → Bool} {t : Nat} (ht : t < N) : ∀ {k v : Nat}, v < N → lev N adj rel t k v = true → lev N adj rel t (N - 1) v = true := by
  have stab : ∀ i, (∀ v, v < N → lev N adj rel t (i + 1) v = true → lev N adj rel t i v = true) → ∀ j v, v < N → lev N adj rel t (i + j) v = true → lev N adj rel t i v = true := by
    intro i hi j
    induction j with
    | zero => intro v _ h; exact h
    | succ j ih =>
      intro v hv h
      rcases lev_inv (k := i + j) h with h | ⟨h1, b, hb, h2, h3⟩
      · exact ih v hv h
      · exact hi v hv (lev_step h1 h2 hb (ih b hb h3))
  have key : ∀ j, (∃ i, i < j ∧ ∀ v, v < N → lev N adj rel t (i + 1) v = true → lev N adj rel t i v = true) ∨ j + 1 ≤ (List.range N).countP (fun v => lev N adj rel t j v) := by
    intro j
    induction j with
    | zero =>
      right
      have : 0 < (List.range N).countP (fun v => lev N adj rel t 0 v) := List.countP_pos_iff.mpr ⟨t, List.mem_range.mpr ht, by simp [lev]⟩
      omega
    | succ j ih =>
      rcases ih with ⟨i, hi, h⟩ | ih
      · exact Or.inl ⟨i, by omega, h⟩
      · by_cases hs : ∀ v, v < N → lev N adj rel t (j + 1) v = true → lev N adj rel t j v = true
        · exact Or.inl ⟨j, by omega, hs⟩
        · right
          have hex : ∃ v, v ∈ List.range N ∧ lev N adj rel t (j + 1) v = true ∧ lev N adj rel t j v = false := by
            apply Classical.byContradiction
            intro hn
            apply hs
            intro v hv h1
            cases h2 : lev N adj rel t j v with
            | true => rfl
            | false => exact absurd ⟨v, List.mem_range.mpr hv, h1, h2⟩ hn
          obtain ⟨v, hv, h1, h2⟩ := hex
          have := cnt_lt (p := fun v => lev N adj rel t j v) (q := fun v => lev N adj rel t (j + 1) v) (l := List.range N) (fun v _ h => lev_s h) ⟨v, hv, h1, h2⟩
          omega
  intro k v hv h
  rcases key N with ⟨i, hi, hst⟩ | hc
  · have h1 : lev N adj rel t i v = true := by
      rcases Nat.lt_or_ge k i with h2 | h2
      · exact lev_mono (by omega) h
      · exact stab i hst (k - i) v hv (by rw [show i + (k - i) = k by omega]; exact h)
    exact lev_mono (by omega) h1
  · have : (List.range N).countP (fun v => lev N adj rel t N v) ≤ (List.range N).length := List.countP_le_length
    rw [List.length_range] at this
    omega
/-- v is the neighbour of a that is nearest to t: the fewest lines, then the lowest number; -1: none -/
def isNR (N : Nat) (adj : Nat → Nat → Bool) (rel : Nat → Bool) (t a : Nat) (v : Int32) : Prop :=
  (v = -1 ∧ ∀ k n, n < N → adj a n = true → lev N adj rel t k n = false) ∨
  ∃ k n, v = nI n ∧ n < N ∧ adj a n = true ∧ lev N adj rel t k n = true ∧ (∀ j m, j < k → m < N → adj a m = true → lev N adj rel t j m = false) ∧ ∀ m, m < n → adj a m = true → lev N adj rel t k m = false
theorem isNR_u {N : Nat} {adj : Nat → Nat → Bool} {rel : Nat → Bool} {t a : Nat} {v w : Int32} (hv : isNR N adj rel t a v) (hw : isNR N adj rel t a w) : v = w := by
  rcases hv with ⟨rfl, h1⟩ | ⟨k, n, rfl, h2, h3, h4, h5, h6⟩
  · rcases hw with ⟨rfl, _⟩ | ⟨k, n, rfl, h2, h3, h4, _⟩
    · rfl
    · exact absurd h4 (by rw [h1 k n h2 h3]; decide)
  · rcases hw with ⟨rfl, h1⟩ | ⟨k', n', rfl, g2, g3, g4, g5, g6⟩
    · exact absurd h4 (by rw [h1 k n h2 h3]; decide)
    · have e : k = k' := by
        rcases Nat.lt_trichotomy k k' with q | q | q
        · exact absurd h4 (by rw [g5 k n q h2 h3]; decide)
        · exact q
        · exact absurd g4 (by rw [h5 k' n' q g2 g3]; decide)
      subst e
      rcases Nat.lt_trichotomy n n' with q | q | q
      · exact absurd h4 (by rw [g6 n q h3]; decide)
      · rw [q]
      · exact absurd g4 (by rw [h6 n' q g3]; decide)
