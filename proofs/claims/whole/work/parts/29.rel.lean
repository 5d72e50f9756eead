/-! the relation of the class's cells and the reference's: the net, what is told, faults, causes, looks -/
def R1 (σ : ir_S) (N m : Nat) (LA LB : Nat → Nat) : Prop := N ≤ 12 ∧ m ≤ 20 ∧ σ 1 4 = nI N ∧ σ 33 1 = nI N ∧ σ 1 5 = nI m ∧ σ 33 3 = nI m ∧ LN σ m N LA LB ∧ (∀ j, j < N → σ 34 j = σ 2 j ∧ ∃ k, k < 4 ∧ σ 2 j = nI k) ∧ (∀ j, j < 32 → ir_bit (σ 1 6) j = decide (j < N ∧ σ 2 j = 0)) ∧ (∀ a b, a < 12 → b < 12 → σ 4 (a * 12 + b) = lnF (σ 35) (σ 36) (nI a) (nI b) m 0) ∧ (∀ a b, a < 12 → b < 32 → ir_bit (σ 3 a) b = (decide (b < 12) && adjM σ m a b)) ∧ (∀ i, i < 144 → nod 12 (σ 5 i)) ∧ (∀ a t, a < N → t < N → a ≠ t → isNR N (adjM σ m) (relM σ) t a (σ 5 (a * 12 + t))) ∧ (∀ a t, a < 12 → t < 12 → N ≤ a ∨ N ≤ t → σ 5 (a * 12 + t) = -1)
def R2 (σ : ir_S) (N : Nat) : Prop := (∀ i, i < 144 → σ 37 i = σ 7 i) ∧ (∀ i, i < 144 → σ 38 i = σ 8 i) ∧ (∀ i, i < 12 → σ 39 i = σ 9 i) ∧ (∀ i, i < 6 → σ 40 i = σ 10 i) ∧ σ 33 10 = σ 6 4 ∧ σ 6 5 = 0 ∧ σ 6 6 = 0 ∧ (∀ a b, a < 12 → b < 12 → σ 7 (a * 12 + b) = -1 ∨ (a < N ∧ b < N ∧ 2 ≤ σ 2 a ∧ σ 2 b = 0 ∧ ∃ k, k < N ∧ σ 7 (a * 12 + b) = nI k)) ∧ (∀ a b s, a < 12 → b < 12 → s < 4 → ir_bit (σ 8 (a * 12 + b)) s = true → a < N ∧ σ 2 a = 3) ∧ (∀ n, n < 6 → nod N (σ 10 n)) ∧ nod N (σ 6 4)
def faultN (σ : ir_S) (N m : Nat) (k a b c : Int32) : Prop := (k = 0 ∧ ∃ x, x < m ∧ a = nI x) ∨ (k = 1 ∧ ∃ x, x < N ∧ a = nI x) ∨ (k = 2 ∧ (∃ x, x < 6 ∧ a = nI x) ∧ ∃ y, y < N ∧ b = nI y) ∨ (k = 3 ∧ (∃ x, x < N ∧ a = nI x ∧ σ 2 x = 3) ∧ (∃ y, y < N ∧ b = nI y) ∧ ∃ z, z < 4 ∧ c = nI z) ∨ (k = 4 ∧ (∃ x, x < N ∧ a = nI x ∧ 2 ≤ σ 2 x) ∧ (∃ y, y < N ∧ b = nI y ∧ σ 2 y = 0) ∧ ∃ z, z < N ∧ c = nI z) ∨ (k = 5 ∧ (∃ x, x < N ∧ a = nI x) ∧ ∃ y, y < 4 ∧ b = nI y)
def R3 (σ : ir_S) (N m F : Nat) : Prop := F ≤ 12 ∧ σ 18 1 = nI F ∧ σ 33 12 = nI F ∧ ∀ f, f < F → σ 42 f = fK σ f ∧ σ 43 f = fA σ f ∧ σ 44 f = fB σ f ∧ σ 45 f = fC σ f ∧ faultN σ N m (fK σ f) (fA σ f) (fB σ f) (fC σ f)
def R4 (σ : ir_S) (F C : Nat) : Prop := C ≤ 12 ∧ σ 20 1 = nI C ∧ σ 33 17 = nI C ∧ ∀ c, c < C → σ 46 c = σ 21 (c * 5 + 1) ∧ σ 47 c = σ 21 (c * 5 + 2) ∧ (∃ f, f < F ∧ σ 21 (c * 5 + 1) = nI f) ∧ nod F (σ 21 (c * 5 + 2)) ∧ σ 21 (c * 5 + 1) ≠ σ 21 (c * 5 + 2)
def R5 (σ : ir_S) (N m K : Nat) : Prop := K ≤ 12 ∧ σ 22 1 = nI K ∧ σ 33 26 = nI K ∧ ∀ l, l < K → σ 51 l = σ 23 (l * 5) ∧ σ 52 l = σ 23 (l * 5 + 1) ∧ σ 53 l = σ 23 (l * 5 + 2) ∧ σ 54 l = σ 23 (l * 5 + 3) ∧ σ 55 l = σ 23 (l * 5 + 4) ∧ (∃ p, 1 ≤ p ∧ p ≤ 100 ∧ σ 23 (l * 5 + 4) = nI p) ∧ lookN N (σ 23 (l * 5)) (σ 23 (l * 5 + 1)) (σ 23 (l * 5 + 2)) (σ 23 (l * 5 + 3)) ∧ (σ 23 (l * 5) = 3 → σ 23 (l * 5 + 1) ≠ σ 23 (l * 5 + 2))
theorem faultN_V {σ : ir_S} {N m : Nat} {k a b c : Int32} (hN : N ≤ 12) (hm : m ≤ 20) (h : faultN σ N m k a b c) : faultV k a b c := by
  rcases h with ⟨hk, x, hx, ha⟩ | ⟨hk, x, hx, ha⟩ | ⟨hk, ⟨x, hx, ha⟩, y, hy, hb⟩ | ⟨hk, ⟨x, hx, ha, _⟩, ⟨y, hy, hb⟩, z, hz, hc⟩ | ⟨hk, ⟨x, hx, ha, _⟩, ⟨y, hy, hb, _⟩, z, hz, hc⟩ | ⟨hk, ⟨x, hx, ha⟩, y, hy, hb⟩
  · exact Or.inl ⟨hk, x, by omega, ha⟩
  · exact Or.inr (Or.inl ⟨hk, x, by omega, ha⟩)
  · exact Or.inr (Or.inr (Or.inl ⟨hk, ⟨x, hx, ha⟩, y, by omega, hb⟩))
  · exact Or.inr (Or.inr (Or.inr (Or.inl ⟨hk, ⟨x, by omega, ha⟩, ⟨y, by omega, hb⟩, z, hz, hc⟩)))
  · exact Or.inr (Or.inr (Or.inr (Or.inr (Or.inl ⟨hk, ⟨x, by omega, ha⟩, ⟨y, by omega, hb⟩, z, by omega, hc⟩))))
  · exact Or.inr (Or.inr (Or.inr (Or.inr (Or.inr ⟨hk, ⟨x, by omega, ha⟩, y, hy, hb⟩))))
theorem fold_c {β : Type} {g g' : β → Nat → β} : ∀ {fs : List Nat} {v v' : β}, v = v' → (∀ f ∈ fs, ∀ w, g w f = g' w f) → fs.foldl g v = fs.foldl g' v' := by
  intro fs
  induction fs with
  | nil => intro v v' h _; exact h
  | cons f fs ih =>
    intro v v' h hg
    rw [List.foldl_cons, List.foldl_cons]
    exact ih (by rw [h]; exact hg f List.mem_cons_self v') (fun q hq => hg q (List.mem_cons_of_mem _ hq))
/-- a property of each value that a fold may give -/
theorem fold_p {β : Type} {g : β → Nat → β} (P : β → Prop) : ∀ {fs : List Nat} {v : β}, P v → (∀ f ∈ fs, ∀ w, P w → P (g w f)) → P (fs.foldl g v) := by
  intro fs
  induction fs with
  | nil => intro v h _; exact h
  | cons f fs ih =>
    intro v h hg
    rw [List.foldl_cons]
    exact ih (hg f List.mem_cons_self v h) (fun q hq => hg q (List.mem_cons_of_mem _ hq))
section VIEW
variable {σ : ir_S} {N m F : Nat} {LA LB : Nat → Nat} {fs : List Nat} (h1 : R1 σ N m LA LB) (h2 : R2 σ N) (h3 : R3 σ N m F) (hfs : ∀ f ∈ fs, f < F)
theorem v_rt {a h : Nat} (h2 : R2 σ N) (h3 : R3 σ N m F) (hfs : ∀ f ∈ fs, f < F) (ha : a < 12) (hh : h < 12) : rtM σ fs a h = rtF σ fs a h := by
  unfold rtM rtF
  refine fold_c (h2.1 _ (by omega)) (fun f hf w => ?_)
  obtain ⟨e1, e2, e3, e4, _⟩ := h3.2.2.2 f (hfs f hf)
  rw [e1, e2, e3, e4]
  have : ((1 : Int32) = 0) = False := by decide
  simp only [this, false_or]
theorem v_dn {a h s : Nat} (h2 : R2 σ N) (h3 : R3 σ N m F) (hfs : ∀ f ∈ fs, f < F) (ha : a < 12) (hh : h < 12) : dnM σ fs a h s = dnF σ fs a h s := by
  unfold dnM dnF
  refine fold_c (by rw [h2.2.1 _ (by omega)]) (fun f hf w => ?_)
  obtain ⟨e1, e2, e3, e4, _⟩ := h3.2.2.2 f (hfs f hf)
  rw [e1, e2, e3, e4]
theorem v_or (P : Nat → Prop) (dP : ∀ f, Decidable (P f)) : ∀ (fs : List Nat) (v : Bool), fs.foldl (fun w f => if P f then true else w) v = fs.foldl (fun w f => w || decide (P f)) v := by
  intro fs v
  refine fold_c rfl (fun f _ w => ?_)
  by_cases q : P f <;> simp [q]
theorem v_ct {l : Nat} (h3 : R3 σ N m F) (hfs : ∀ f ∈ fs, f < F) : hvM σ fs 0 (nI l) 0 0 = ctF σ fs l := by
  unfold hvM ctF
  refine fold_c rfl (fun f hf w => ?_)
  obtain ⟨e1, e2, e3, e4, _⟩ := h3.2.2.2 f (hfs f hf)
  rw [e1, e2]
  by_cases q : fK σ f = 0 ∧ fA σ f = nI l
  · simp [q.1, q.2]
  · rw [if_neg (fun z => q ⟨z.1, z.2.1⟩)]; simp [q]
theorem v_as {t : Nat} (h3 : R3 σ N m F) (hfs : ∀ f ∈ fs, f < F) : hvM σ fs 1 (nI t) 0 0 = asF σ fs t := by
  unfold hvM asF
  refine fold_c rfl (fun f hf w => ?_)
  obtain ⟨e1, e2, e3, e4, _⟩ := h3.2.2.2 f (hfs f hf)
  rw [e1, e2]
  by_cases q : fK σ f = 1 ∧ fA σ f = nI t
  · simp [q.1, q.2]
  · rw [if_neg (fun z => q ⟨z.1, z.2.1⟩)]; simp [q]
theorem v_nm {n : Nat} (h2 : R2 σ N) (h3 : R3 σ N m F) (hfs : ∀ f ∈ fs, f < F) (hn : n < 6) : nmM σ fs n = nmF σ fs n := by
  unfold nmM nmF
  refine fold_c (h2.2.2.2.1 n hn) (fun f hf w => ?_)
  obtain ⟨e1, e2, e3, e4, _⟩ := h3.2.2.2 f (hfs f hf)
  rw [e1, e2, e3]
  simp only [true_or, and_true]
theorem v_on {h s : Nat} (h2 : R2 σ N) (h3 : R3 σ N m F) (hfs : ∀ f ∈ fs, f < F) (hh : h < 12) : onM σ fs h s = onF σ fs h s := by
  have key : ∀ (gs : List Nat) (v w : Bool), (∀ f ∈ gs, f < F) → (v && !gs.foldl (fun w f => if σ 42 f = 5 ∧ σ 43 f = nI h ∧ ((1 : Int32) = 0 ∨ σ 44 f = nI s) then true else w) w) = gs.foldl (fun v f => v && !decide (fK σ f = 5 ∧ fA σ f = nI h ∧ fB σ f = nI s)) (v && !w) := by
    intro gs
    induction gs with
    | nil => intro v w _; rfl
    | cons f gs ih =>
      intro v w hg
      rw [List.foldl_cons, List.foldl_cons, ih v _ (fun q hq => hg q (List.mem_cons_of_mem _ hq))]
      obtain ⟨e1, e2, e3, e4, _⟩ := h3.2.2.2 f (hg f List.mem_cons_self)
      have e0 : ((1 : Int32) = 0) = False := by decide
      rw [e1, e2, e3]
      simp only [e0, false_or]
      by_cases q : fK σ f = 5 ∧ fA σ f = nI h ∧ fB σ f = nI s
      · rw [if_pos q]; simp [q.1, q.2.1, q.2.2]
      · rw [if_neg q]; simp [q]
  unfold onM onF hvM
  rw [key fs _ false hfs, h2.2.2.1 h hh]
  simp
/-- a route that counts -/
theorem v_rt_ok {a h : Nat} (hN : N ≤ 12) (h2 : R2 σ N) (h3 : R3 σ N m F) (hfs : ∀ f ∈ fs, f < F) (ha : a < 12) (hh : h < 12) : rtF σ fs a h = -1 ∨ (a < N ∧ h < N ∧ 2 ≤ σ 2 a ∧ σ 2 h = 0 ∧ ∃ k, k < N ∧ rtF σ fs a h = nI k) := by
  unfold rtF
  refine fold_p (fun v => v = -1 ∨ (a < N ∧ h < N ∧ 2 ≤ σ 2 a ∧ σ 2 h = 0 ∧ ∃ k, k < N ∧ v = nI k)) (h2.2.2.2.2.2.2.2.1 a h ha hh) (fun f hf w hw => ?_)
  by_cases q : fK σ f = 4 ∧ fA σ f = nI a ∧ fB σ f = nI h
  · rw [if_pos q]
    have hv := (h3.2.2.2 f (hfs f hf)).2.2.2.2
    obtain ⟨q1, q2, q3⟩ := q
    rcases hv with ⟨hk, _⟩ | ⟨hk, _⟩ | ⟨hk, _⟩ | ⟨hk, _⟩ | ⟨hk, ⟨x, hx, hxa, hx2⟩, ⟨y, hy, hyb, hy2⟩, z, hz, hc⟩ | ⟨hk, _⟩
    · rw [q1] at hk; exact absurd hk (by decide)
    · rw [q1] at hk; exact absurd hk (by decide)
    · rw [q1] at hk; exact absurd hk (by decide)
    · rw [q1] at hk; exact absurd hk (by decide)
    · rw [q2] at hxa
      rw [q3] at hyb
      have e1 : a = x := (nI_eq (by omega) (by omega)).mp hxa
      have e2 : h = y := (nI_eq (by omega) (by omega)).mp hyb
      subst e1; subst e2
      exact Or.inr ⟨hx, hy, hx2, hy2, z, hz, hc⟩
    · rw [q1] at hk; exact absurd hk (by decide)
  · rw [if_neg q]; exact hw
theorem v_dn_ok {a h s : Nat} (hN : N ≤ 12) (h2 : R2 σ N) (h3 : R3 σ N m F) (hfs : ∀ f ∈ fs, f < F) (ha : a < 12) (hh : h < 12) (hs : s < 4) (hd : dnF σ fs a h s = true) : a < N ∧ σ 2 a = 3 := by
  revert hd
  unfold dnF
  refine fold_p (fun v => v = true → a < N ∧ σ 2 a = 3) (fun hb => h2.2.2.2.2.2.2.2.2.1 a h s ha hh hs hb) (fun f hf w hw => ?_)
  intro hq
  rw [Bool.or_eq_true] at hq
  rcases hq with hq | hq
  · exact hw hq
  · rw [decide_eq_true_iff] at hq
    obtain ⟨q1, q2, q3, q4⟩ := hq
    have hv := (h3.2.2.2 f (hfs f hf)).2.2.2.2
    rcases hv with ⟨hk, _⟩ | ⟨hk, _⟩ | ⟨hk, _⟩ | ⟨hk, ⟨x, hx, hxa, hx2⟩, _⟩ | ⟨hk, _⟩ | ⟨hk, _⟩
    · rw [q1] at hk; exact absurd hk (by decide)
    · rw [q1] at hk; exact absurd hk (by decide)
    · rw [q1] at hk; exact absurd hk (by decide)
    · rw [q2] at hxa
      have e1 : a = x := (nI_eq (by omega) (by omega)).mp hxa
      subst e1
      exact ⟨hx, hx2⟩
    · rw [q1] at hk; exact absurd hk (by decide)
    · rw [q1] at hk; exact absurd hk (by decide)
theorem v_nm_ok {n : Nat} (h2 : R2 σ N) (h3 : R3 σ N m F) (hfs : ∀ f ∈ fs, f < F) (hn : n < 6) : nod N (nmF σ fs n) := by
  unfold nmF
  refine fold_p (fun v => nod N v) (h2.2.2.2.2.2.2.2.2.2.1 n hn) (fun f hf w hw => ?_)
  by_cases q : fK σ f = 2 ∧ fA σ f = nI n
  · rw [if_pos q]
    have hv := (h3.2.2.2 f (hfs f hf)).2.2.2.2
    obtain ⟨q1, q2⟩ := q
    rcases hv with ⟨hk, _⟩ | ⟨hk, _⟩ | ⟨hk, _, y, hy, hb⟩ | ⟨hk, _⟩ | ⟨hk, _⟩ | ⟨hk, _⟩
    · rw [q1] at hk; exact absurd hk (by decide)
    · rw [q1] at hk; exact absurd hk (by decide)
    · exact Or.inr ⟨y, hy, hb⟩
    · rw [q1] at hk; exact absurd hk (by decide)
    · rw [q1] at hk; exact absurd hk (by decide)
    · rw [q1] at hk; exact absurd hk (by decide)
  · rw [if_neg q]; exact hw
end VIEW
