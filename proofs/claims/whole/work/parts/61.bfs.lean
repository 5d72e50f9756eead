/-! findNearestFor: ring by ring -/
theorem ptF_tb {f : Nat → Bool} : ∀ n l w i, (ptF f n l w).testBit i = (w.testBit i || (decide (l ≤ i) && decide (i < l + n) && f i)) := by
  intro n
  induction n with
  | zero =>
    intro l w i
    have : ¬ (l ≤ i ∧ i < l + 0) := by omega
    simp only [ptF]
    by_cases h1 : l ≤ i
    · have h2 : ¬ i < l := by omega
      simp [h1, h2]
    · simp [h1]
  | succ n ih =>
    intro l w i
    simp only [ptF]
    rw [ih]
    by_cases hf : f l = true
    · rw [if_pos hf, Nat.testBit_or, Nat.testBit_two_pow]
      rcases Nat.lt_trichotomy i l with q | q | q
      · have h1 : ¬ l + 1 ≤ i := by omega
        have h2 : ¬ l = i := by omega
        have h3 : ¬ l ≤ i := by omega
        simp [h1, h2, h3]
      · subst q
        have h1 : ¬ i + 1 ≤ i := by omega
        have h2 : i < i + (n + 1) := by omega
        simp [hf]
      · have h1 : l + 1 ≤ i := by omega
        have h2 : ¬ l = i := by omega
        have h3 : l ≤ i := by omega
        have e : decide (i < l + 1 + n) = decide (i < l + (n + 1)) := by rw [decide_eq_decide]; omega
        simp only [h1, h2, h3, e, decide_true, decide_false, Bool.or_false, Bool.true_and]
    · rw [if_neg hf]
      have hf : f l = false := by simpa using hf
      rcases Nat.lt_trichotomy i l with q | q | q
      · have h1 : ¬ l + 1 ≤ i := by omega
        have h3 : ¬ l ≤ i := by omega
        simp [h1, h3]
      · subst q
        have h1 : ¬ i + 1 ≤ i := by omega
        simp [hf]
      · have h1 : l + 1 ≤ i := by omega
        have h3 : l ≤ i := by omega
        have e : decide (i < l + 1 + n) = decide (i < l + (n + 1)) := by rw [decide_eq_decide]; omega
        simp only [h1, h3, e, decide_true, Bool.true_and]
def bset (p : Nat → Bool) : Nat := ptF p 12 0 0
theorem bset_lt (p : Nat → Bool) : bset p < 4096 := ptF_lt (L := 12) (by omega) 12 0 0 (by omega) (by decide)
theorem bset_tb (p : Nat → Bool) (i : Nat) : (bset p).testBit i = (decide (i < 12) && p i) := by
  unfold bset
  rw [ptF_tb]
  simp
theorem i_bset {x : Int32} {p : Nat → Bool} (h : ∀ j, j < 32 → ir_bit x j = (decide (j < 12) && p j)) : x = nI (bset p) := by
  have hl := bset_lt p
  apply b_ext
  intro i hi
  rw [← ir_bit_bt _ hi, h i hi, bt_nI (by omega), bset_tb]
def le1 (N : Nat) (adj : Nat → Nat → Bool) (rel : Nat → Bool) (t : Nat) : Nat → Nat → Bool
  | 0, _ => false
  | k + 1, v => lev N adj rel t k v
def nrL (N : Nat) (adj : Nat → Nat → Bool) (rel : Nat → Bool) (t L v : Nat) : Bool := (List.range N).any (fun u => adj v u && le1 N adj rel t L u)
section LV
variable {N : Nat} {adj adj0 : Nat → Nat → Bool} {rel : Nat → Bool} {t : Nat}
theorem le1_s {L v : Nat} (h : le1 N adj rel t L v = true) : lev N adj rel t L v = true := by
  cases L with
  | zero => cases h
  | succ L => exact lev_s h
theorem nrL_iff {L v : Nat} : nrL N adj rel t L v = true ↔ ∃ u, u < N ∧ adj v u = true ∧ le1 N adj rel t L u = true := by
  unfold nrL
  rw [List.any_eq_true]
  constructor
  · rintro ⟨u, hu, h⟩
    rw [Bool.and_eq_true] at h
    exact ⟨u, List.mem_range.mp hu, h.1, h.2⟩
  · rintro ⟨u, hu, h1, h2⟩
    exact ⟨u, List.mem_range.mpr hu, by rw [h1, h2]; rfl⟩
theorem nrL_s {L v : Nat} (h : nrL N adj rel t L v = true) : nrL N adj rel t (L + 1) v = true := by
  obtain ⟨u, hu, h1, h2⟩ := nrL_iff.mp h
  exact nrL_iff.mpr ⟨u, hu, h1, le1_s h2⟩
theorem lev_eq (L v : Nat) : lev N adj rel t (L + 1) v = (lev N adj rel t L v || (rel v && nrL N adj rel t (L + 1) v)) := rfl
theorem lev_nr {L v : Nat} (hr : rel v = true) : lev N adj rel t L v = (decide (v = t) || nrL N adj rel t L v) := by
  induction L with
  | zero =>
    have : nrL N adj rel t 0 v = false := by
      cases h : nrL N adj rel t 0 v with
      | false => rfl
      | true => obtain ⟨u, _, _, h2⟩ := nrL_iff.mp h; cases h2
    rw [this, Bool.or_false]
    rfl
  | succ L ih =>
    rw [lev_eq, ih, hr]
    cases h : nrL N adj rel t L v with
    | true => rw [nrL_s h]; simp
    | false => simp
theorem lev_stab {i : Nat} (hi : ∀ v, v < N → lev N adj rel t (i + 1) v = true → lev N adj rel t i v = true) : ∀ j v, v < N → lev N adj rel t (i + j) v = true → lev N adj rel t i v = true := by
  intro j
  induction j with
  | zero => intro v _ h; exact h
  | succ j ih =>
    intro v hv h
    rcases lev_inv (k := i + j) h with h | ⟨h1, b, hb, h2, h3⟩
    · exact ih v hv h
    · exact hi v hv (lev_step h1 h2 hb (ih b hb h3))
theorem lev_le {L : Nat} (ht : t < N) (hL : (∀ v, v < N → lev N adj rel t L v = true → le1 N adj rel t L v = true) ∨ N ≤ L) : ∀ k u, u < N → lev N adj rel t k u = true → le1 N adj rel t L u = true := by
  intro k u hu h
  rcases hL with hL | hL
  · cases L with
    | zero =>
      have := hL t ht (by simp [lev])
      cases this
    | succ L =>
      show lev N adj rel t L u = true
      rcases Nat.lt_or_ge k L with q | q
      · exact lev_mono (by omega) h
      · exact lev_stab (fun v hv h => hL v hv h) (k - L) u hu (by rw [show L + (k - L) = k by omega]; exact h)
  · cases L with
    | zero => omega
    | succ L =>
      show lev N adj rel t L u = true
      exact lev_mono (by omega) (lev_sat ht hu h)
theorem lev_adj (h : ∀ a b, a < N → b < N → adj0 a b = true → adj a b = true) : ∀ k v, v < N → lev N adj0 rel t k v = true → lev N adj rel t k v = true := by
  intro k
  induction k with
  | zero => intro v _ h; exact h
  | succ k ih =>
    intro v hv hl
    rcases lev_inv hl with hl | ⟨h1, b, hb, h2, h3⟩
    · exact lev_s (ih v hv hl)
    · exact lev_step h1 (h v b hv hb h2) hb (ih b hb h3)
/-- a node that has no neighbour within reach keeps what it had: nothing -/
theorem nr_keep {L a : Nat} {v : Int32} (h0 : ∀ a b, a < N → b < N → adj0 a b = true → adj a b = true) (ha : a < N) (hall : ∀ k u, u < N → lev N adj rel t k u = true → le1 N adj rel t L u = true) (hn : nrL N adj rel t L a = false) (hv : isNR N adj0 rel t a v) : isNR N adj rel t a v := by
  have hno : ∀ k n, n < N → adj a n = true → lev N adj rel t k n = false := by
    intro k n hn' hadj
    cases h : lev N adj rel t k n with
    | false => rfl
    | true =>
      rw [nrL_iff.mpr ⟨n, hn', hadj, hall k n hn' h⟩] at hn
      cases hn
  rcases hv with ⟨rfl, _⟩ | ⟨k, n, rfl, h2, h3, h4, _⟩
  · exact Or.inl ⟨rfl, hno⟩
  · have := hno k n h2 (h0 a n ha h2 h3)
    rw [lev_adj h0 k n h2 h4] at this
    cases this
end LV
section BFS
variable {σ : ir_S} {N t : Nat} {adj : Nat → Nat → Bool} {nb : Nat → Nat} {E : Nat → List Value → ir_S → Option ir_R}
def clB (nb : Nat → Nat) (g r v : Nat) : Bool := !decide (nb v &&& g = 0) && !r.testBit v
theorem c30_in {d r g : Nat} {L : Value} (hN : N ≤ 12) (ht : t < 12) (hnb : ∀ a, a < N → nb a < 4096) (hr : r < 4096) (hg : g < 4096) : ∀ n i w τ l7, i + n = N → w < 4096 → τ 1 4 = nI N → (∀ a, a < N → τ 3 a = nI (nb a)) →
    ∃ τ' w' l7', ir_run (ir_ev (d + 2)) 30 (26, [.ref 1, .int (nI t), .int (nI r), .int (nI g), L, .int (nI w), .int (nI i), l7], [], τ) = ir_run (ir_ev (d + 2)) 30 (92, [.ref 1, .int (nI t), .int (nI r), .int (nI g), L, .int (nI w'), .int (nI N), l7'], [], τ') ∧ (∀ c, c ≠ 5 → τ' c = τ c) ∧ w' < 4096 ∧ (∀ v, w'.testBit v = (w.testBit v || (decide (i ≤ v) && decide (v < N) && clB nb g r v))) ∧ (∀ v, i ≤ v → v < N → clB nb g r v = true → τ' 5 (v * 12 + t) = nI (lowN (nb v &&& g))) ∧ ∀ j, (∀ v, i ≤ v → v < N → clB nb g r v = true → j ≠ v * 12 + t) → τ' 5 j = τ 5 j := by
  intro n
  induction n with
  | zero =>
    intro i w τ l7 hi hw h4 h3
    have hi : i = N := by omega
    subst hi
    refine ⟨τ, w, l7, ?_, fun _ _ => rfl, hw, fun v => ?_, fun v h1 h2 => by omega, fun _ _ => rfl⟩
    · rw [s30_26]
      simp (disch := omega) only [s30_28, s30_29, s30_32, h4, n_lt_0, n_le_0, n_tl_0, n_el_0, n_eq_0, n_ad_0, n_lt_1, n_le_1, n_tl_1, n_el_1, n_eq_1, n_ad_1, n_lt_2, n_le_2, n_tl_2, n_el_2, n_eq_2, n_ad_2, n_lt_3, n_le_3, n_tl_3, n_el_3, n_eq_3, n_ad_3, n_lt_4, n_le_4, n_tl_4, n_el_4, n_eq_4, n_ad_4, n_lt_5, n_le_5, n_tl_5, n_el_5, n_eq_5, n_ad_5, n_lt_6, n_le_6, n_tl_6, n_el_6, n_eq_6, n_ad_6, n_lt_10, n_le_10, n_tl_10, n_el_10, n_eq_10, n_ad_10, n_lt_11, n_le_11, n_tl_11, n_el_11, n_eq_11, n_ad_11, n_lt_12, n_le_12, n_tl_12, n_el_12, n_eq_12, n_ad_12, n_lt_13, n_le_13, n_tl_13, n_el_13, n_eq_13, n_ad_13, n_lt_15, n_le_15, n_tl_15, n_el_15, n_eq_15, n_ad_15, n_lt_20, n_le_20, n_tl_20, n_el_20, n_eq_20, n_ad_20, n_lt_30, n_le_30, n_tl_30, n_el_30, n_eq_30, n_ad_30, n_lt_31, n_le_31, n_tl_31, n_el_31, n_eq_31, n_ad_31, n_lt_32, n_le_32, n_tl_32, n_el_32, n_eq_32, n_ad_32, n_lt_60, n_le_60, n_tl_60, n_el_60, n_eq_60, n_ad_60, n_lt_99, n_le_99, n_tl_99, n_el_99, n_eq_99, n_ad_99, n_lt_100, n_le_100, n_tl_100, n_el_100, n_eq_100, n_ad_100, n_lt_144, n_le_144, n_tl_144, n_el_144, n_eq_144, n_ad_144, n_lt_4096, n_le_4096, n_tl_4096, n_el_4096, n_eq_4096, n_ad_4096, n_mulK, nI_add, pk_mul, n_lt, n_le, n_eq, n_eqM, n_ix, n_cl, Nat.le_refl, if_true]
    · by_cases q : i ≤ v
      · have : ¬ v < i := by omega
        simp [this]
      · simp [q]
  | succ n ih =>
    intro i w τ l7 hi hw h4 h3
    have q1 : ¬ N ≤ i := by omega
    have q2 : i < 12 := by omega
    have q3 : i * 12 + t < 144 := by omega
    have e3 := h3 i (by omega)
    have hnbi := hnb i (by omega)
    have hand := s_and hnbi hg
    have hal : nb i &&& g < 4096 := and_lt hnbi
    have hbit := s_bit (s := r) (k := i) hr (by omega)
    by_cases hz : nb i &&& g = 0
    · have hcl : clB nb g r i = false := by unfold clB; simp [hz]
      obtain ⟨τ', w', l7', z1, z2, z3, z4, z5, z6⟩ := ih (i + 1) w τ (.int (nI (nb i &&& g))) (by omega) hw h4 h3
      refine ⟨τ', w', l7', ?_, z2, z3, fun v => ?_, fun v g1 g2 g3 => ?_, fun j hj => z6 j (fun v g1 g2 g3 => hj v (by omega) g2 g3)⟩
      · rw [s30_26]
        simp (disch := omega) only [s30_28, s30_29, s30_32, s30_35, s30_36, s30_39, s30_41, s30_42, s30_43, s30_44, s30_46, s30_48, s30_86, s30_89, xA3, xL3, xa3, h4, n_lt_0, n_le_0, n_tl_0, n_el_0, n_eq_0, n_ad_0, n_lt_1, n_le_1, n_tl_1, n_el_1, n_eq_1, n_ad_1, n_lt_2, n_le_2, n_tl_2, n_el_2, n_eq_2, n_ad_2, n_lt_3, n_le_3, n_tl_3, n_el_3, n_eq_3, n_ad_3, n_lt_4, n_le_4, n_tl_4, n_el_4, n_eq_4, n_ad_4, n_lt_5, n_le_5, n_tl_5, n_el_5, n_eq_5, n_ad_5, n_lt_6, n_le_6, n_tl_6, n_el_6, n_eq_6, n_ad_6, n_lt_10, n_le_10, n_tl_10, n_el_10, n_eq_10, n_ad_10, n_lt_11, n_le_11, n_tl_11, n_el_11, n_eq_11, n_ad_11, n_lt_12, n_le_12, n_tl_12, n_el_12, n_eq_12, n_ad_12, n_lt_13, n_le_13, n_tl_13, n_el_13, n_eq_13, n_ad_13, n_lt_15, n_le_15, n_tl_15, n_el_15, n_eq_15, n_ad_15, n_lt_20, n_le_20, n_tl_20, n_el_20, n_eq_20, n_ad_20, n_lt_30, n_le_30, n_tl_30, n_el_30, n_eq_30, n_ad_30, n_lt_31, n_le_31, n_tl_31, n_el_31, n_eq_31, n_ad_31, n_lt_32, n_le_32, n_tl_32, n_el_32, n_eq_32, n_ad_32, n_lt_60, n_le_60, n_tl_60, n_el_60, n_eq_60, n_ad_60, n_lt_99, n_le_99, n_tl_99, n_el_99, n_eq_99, n_ad_99, n_lt_100, n_le_100, n_tl_100, n_el_100, n_eq_100, n_ad_100, n_lt_144, n_le_144, n_tl_144, n_el_144, n_eq_144, n_ad_144, n_lt_4096, n_le_4096, n_tl_4096, n_el_4096, n_eq_4096, n_ad_4096, n_mulK, nI_add, pk_mul, n_lt, n_le, n_eq, n_eqM, n_ix, n_cl, if_neg q1, q2, e3, hand, decide_true, if_true, if_pos hz]
        exact z1
      · rw [z4 v]
        by_cases e : v = i
        · subst e
          have : ¬ v + 1 ≤ v := by omega
          simp [hcl]
        · have : decide (i + 1 ≤ v) = decide (i ≤ v) := by rw [decide_eq_decide]; omega
          rw [this]
      · by_cases e : v = i
        · subst e; rw [hcl] at g3; cases g3
        · exact z5 v (by omega) g2 g3
    · have hlow := low_low _ hal hz
      cases hb : r.testBit i with
      | true =>
        rw [hb] at hbit
        have hcl : clB nb g r i = false := by unfold clB; simp [hb]
        obtain ⟨τ', w', l7', z1, z2, z3, z4, z5, z6⟩ := ih (i + 1) w τ (.int (nI (nb i &&& g))) (by omega) hw h4 h3
        refine ⟨τ', w', l7', ?_, z2, z3, fun v => ?_, fun v g1 g2 g3 => ?_, fun j hj => z6 j (fun v g1 g2 g3 => hj v (by omega) g2 g3)⟩
        · rw [s30_26]
          simp (disch := omega) only [s30_28, s30_29, s30_32, s30_35, s30_36, s30_39, s30_41, s30_42, s30_43, s30_44, s30_46, s30_48, s30_51, s30_52, s30_54, s30_57, s30_86, s30_89, xA3, xL3, xa3, h4, n_lt_0, n_le_0, n_tl_0, n_el_0, n_eq_0, n_ad_0, n_lt_1, n_le_1, n_tl_1, n_el_1, n_eq_1, n_ad_1, n_lt_2, n_le_2, n_tl_2, n_el_2, n_eq_2, n_ad_2, n_lt_3, n_le_3, n_tl_3, n_el_3, n_eq_3, n_ad_3, n_lt_4, n_le_4, n_tl_4, n_el_4, n_eq_4, n_ad_4, n_lt_5, n_le_5, n_tl_5, n_el_5, n_eq_5, n_ad_5, n_lt_6, n_le_6, n_tl_6, n_el_6, n_eq_6, n_ad_6, n_lt_10, n_le_10, n_tl_10, n_el_10, n_eq_10, n_ad_10, n_lt_11, n_le_11, n_tl_11, n_el_11, n_eq_11, n_ad_11, n_lt_12, n_le_12, n_tl_12, n_el_12, n_eq_12, n_ad_12, n_lt_13, n_le_13, n_tl_13, n_el_13, n_eq_13, n_ad_13, n_lt_15, n_le_15, n_tl_15, n_el_15, n_eq_15, n_ad_15, n_lt_20, n_le_20, n_tl_20, n_el_20, n_eq_20, n_ad_20, n_lt_30, n_le_30, n_tl_30, n_el_30, n_eq_30, n_ad_30, n_lt_31, n_le_31, n_tl_31, n_el_31, n_eq_31, n_ad_31, n_lt_32, n_le_32, n_tl_32, n_el_32, n_eq_32, n_ad_32, n_lt_60, n_le_60, n_tl_60, n_el_60, n_eq_60, n_ad_60, n_lt_99, n_le_99, n_tl_99, n_el_99, n_eq_99, n_ad_99, n_lt_100, n_le_100, n_tl_100, n_el_100, n_eq_100, n_ad_100, n_lt_144, n_le_144, n_tl_144, n_el_144, n_eq_144, n_ad_144, n_lt_4096, n_le_4096, n_tl_4096, n_el_4096, n_eq_4096, n_ad_4096, n_mulK, nI_add, pk_mul, n_lt, n_le, n_eq, n_eqM, n_ix, n_cl, if_neg q1, q2, e3, hand, decide_true, if_true, if_neg hz, c116, hbit, ir_b_t, ir_k_i, ir_tl_i, i_10, if_false]
          exact z1
        · rw [z4 v]
          by_cases e : v = i
          · subst e
            have : ¬ v + 1 ≤ v := by omega
            simp [hcl]
          · have : decide (i + 1 ≤ v) = decide (i ≤ v) := by rw [decide_eq_decide]; omega
            rw [this]
        · by_cases e : v = i
          · subst e; rw [hcl] at g3; cases g3
          · exact z5 v (by omega) g2 g3
      | false =>
        rw [hb] at hbit
        have hcl : clB nb g r i = true := by unfold clB; simp [hb, hz]
        have hsh := s_shl (k := i) (by omega)
        have hor := s_or hw (p2_lt (k := i) (by omega))
        obtain ⟨τ', w', l7', z1, z2, z3, z4, z5, z6⟩ := ih (i + 1) (w ||| 2 ^ i) (ir_up τ 5 (i * 12 + t) (nI (lowN (nb i &&& g)))) (.int (nI (nb i &&& g))) (by omega) (or_lt hw (p2_lt (by omega))) (by rw [u_n _ _ _ (by decide)]; exact h4) (fun a ha => by rw [u_n _ _ _ (by decide)]; exact h3 a ha)
        refine ⟨τ', w', l7', ?_, fun c hc => by rw [z2 c hc, u_n _ _ _ hc], z3, fun v => ?_, fun v g1 g2 g3 => ?_, fun j hj => ?_⟩
        · rw [s30_26]
          simp (disch := omega) only [s30_28, s30_29, s30_32, s30_35, s30_36, s30_39, s30_41, s30_42, s30_43, s30_44, s30_46, s30_48, s30_51, s30_52, s30_54, s30_57, s30_60, s30_61, s30_64, s30_66, s30_68, s30_69, s30_70, s30_71, s30_73, s30_76, s30_77, s30_79, s30_80, s30_82, s30_83, s30_84, s30_86, s30_89, xA3, xL3, xa3, xA5, xL5, xa5, h4, n_lt_0, n_le_0, n_tl_0, n_el_0, n_eq_0, n_ad_0, n_lt_1, n_le_1, n_tl_1, n_el_1, n_eq_1, n_ad_1, n_lt_2, n_le_2, n_tl_2, n_el_2, n_eq_2, n_ad_2, n_lt_3, n_le_3, n_tl_3, n_el_3, n_eq_3, n_ad_3, n_lt_4, n_le_4, n_tl_4, n_el_4, n_eq_4, n_ad_4, n_lt_5, n_le_5, n_tl_5, n_el_5, n_eq_5, n_ad_5, n_lt_6, n_le_6, n_tl_6, n_el_6, n_eq_6, n_ad_6, n_lt_10, n_le_10, n_tl_10, n_el_10, n_eq_10, n_ad_10, n_lt_11, n_le_11, n_tl_11, n_el_11, n_eq_11, n_ad_11, n_lt_12, n_le_12, n_tl_12, n_el_12, n_eq_12, n_ad_12, n_lt_13, n_le_13, n_tl_13, n_el_13, n_eq_13, n_ad_13, n_lt_15, n_le_15, n_tl_15, n_el_15, n_eq_15, n_ad_15, n_lt_20, n_le_20, n_tl_20, n_el_20, n_eq_20, n_ad_20, n_lt_30, n_le_30, n_tl_30, n_el_30, n_eq_30, n_ad_30, n_lt_31, n_le_31, n_tl_31, n_el_31, n_eq_31, n_ad_31, n_lt_32, n_le_32, n_tl_32, n_el_32, n_eq_32, n_ad_32, n_lt_60, n_le_60, n_tl_60, n_el_60, n_eq_60, n_ad_60, n_lt_99, n_le_99, n_tl_99, n_el_99, n_eq_99, n_ad_99, n_lt_100, n_le_100, n_tl_100, n_el_100, n_eq_100, n_ad_100, n_lt_144, n_le_144, n_tl_144, n_el_144, n_eq_144, n_ad_144, n_lt_4096, n_le_4096, n_tl_4096, n_el_4096, n_eq_4096, n_ad_4096, n_mulK, nI_add, pk_mul, n_lt, n_le, n_eq, n_eqM, n_ix, n_cl, if_neg q1, q2, q3, e3, hand, decide_true, if_true, if_neg hz, c116, hbit, c117, hlow, hsh, hor, ir_b_f, ir_k_i, ir_tl_i]
          exact z1
        · rw [z4 v, Nat.testBit_or, Nat.testBit_two_pow]
          by_cases e : v = i
          · subst e
            have h1 : v < N := by omega
            simp [hcl, h1]
          · have h1 : ¬ i = v := fun q => e q.symm
            have : decide (i + 1 ≤ v) = decide (i ≤ v) := by rw [decide_eq_decide]; omega
            simp [this, h1]
        · by_cases e : v = i
          · subst e
            rw [z6 _ (fun v' k1 k2 _ => by omega), u_s, upd_s]
          · exact z5 v (by omega) g2 g3
        · rw [z6 j (fun v g1 g2 g3 => hj v (by omega) g2 g3), u_s, upd_n _ _ (hj i (Nat.le_refl _) (by omega) hcl)]
variable {rel : Nat → Bool}
def inv5 (σ0 : ir_S) (N : Nat) (adj : Nat → Nat → Bool) (rel : Nat → Bool) (t L : Nat) (τ : ir_S) : Prop := (∀ a, a < N → a ≠ t → nrL N adj rel t L a = true → isNR N adj rel t a (τ 5 (a * 12 + t))) ∧ (∀ a, a < N → a ≠ t → nrL N adj rel t L a = false → τ 5 (a * 12 + t) = σ0 5 (a * 12 + t)) ∧ ∀ j, (∀ a, a < N → a ≠ t → j ≠ a * 12 + t) → τ 5 j = σ0 5 j
theorem c30_loop {d hs : Nat} {σ0 : ir_S} (hN : N ≤ 12) (ht : t < N) (hnb : ∀ a, a < N → nb a < 4096) (hnbt : ∀ a b, a < N → (nb a).testBit b = (decide (b < 12) && adj a b)) (hadj : ∀ a b, a < N → b < 12 → adj a b = true → b < N) (hhs : hs < 4096) (hht : ∀ v, v < N → hs.testBit v = !rel v)
    (h14 : σ0 1 4 = nI N) (h3 : ∀ a, a < N → σ0 3 a = nI (nb a)) (h16 : σ0 1 6 = nI hs) : ∀ n L r g τ l5 l6 l7, L + n = 12 → (∀ c, c ≠ 5 → τ c = σ0 c) → r < 4096 → g < 4096 → (∀ v, v < N → r.testBit v = (decide (v = t) || nrL N adj rel t L v)) → (∀ v, g.testBit v = (decide (v < N) && (lev N adj rel t L v && !le1 N adj rel t L v))) → inv5 σ0 N adj rel t L τ →
    ∃ τ' L', ir_run (ir_ev (d + 2)) 30 (9, [.ref 1, .int (nI t), .int (nI r), .int (nI g), .int (nI L), l5, l6, l7], [], τ) = some (none, τ') ∧ (∀ c, c ≠ 5 → τ' c = σ0 c) ∧ inv5 σ0 N adj rel t L' τ' ∧ ∀ k u, u < N → lev N adj rel t k u = true → le1 N adj rel t L' u = true := by
  intro n
  induction n with
  | zero =>
    intro L r g τ l5 l6 l7 hL hf hr hg hrt hgt hinv
    have hL : L = 12 := by omega
    subst hL
    refine ⟨τ, 12, ?_, hf, hinv, lev_le ht (Or.inr hN)⟩
    rw [s30_9]
    simp (disch := omega) only [s30_11, s30_13, s30_113, n_lt_0, n_le_0, n_tl_0, n_el_0, n_eq_0, n_ad_0, n_lt_1, n_le_1, n_tl_1, n_el_1, n_eq_1, n_ad_1, n_lt_2, n_le_2, n_tl_2, n_el_2, n_eq_2, n_ad_2, n_lt_3, n_le_3, n_tl_3, n_el_3, n_eq_3, n_ad_3, n_lt_4, n_le_4, n_tl_4, n_el_4, n_eq_4, n_ad_4, n_lt_5, n_le_5, n_tl_5, n_el_5, n_eq_5, n_ad_5, n_lt_6, n_le_6, n_tl_6, n_el_6, n_eq_6, n_ad_6, n_lt_10, n_le_10, n_tl_10, n_el_10, n_eq_10, n_ad_10, n_lt_11, n_le_11, n_tl_11, n_el_11, n_eq_11, n_ad_11, n_lt_12, n_le_12, n_tl_12, n_el_12, n_eq_12, n_ad_12, n_lt_13, n_le_13, n_tl_13, n_el_13, n_eq_13, n_ad_13, n_lt_15, n_le_15, n_tl_15, n_el_15, n_eq_15, n_ad_15, n_lt_20, n_le_20, n_tl_20, n_el_20, n_eq_20, n_ad_20, n_lt_30, n_le_30, n_tl_30, n_el_30, n_eq_30, n_ad_30, n_lt_31, n_le_31, n_tl_31, n_el_31, n_eq_31, n_ad_31, n_lt_32, n_le_32, n_tl_32, n_el_32, n_eq_32, n_ad_32, n_lt_60, n_le_60, n_tl_60, n_el_60, n_eq_60, n_ad_60, n_lt_99, n_le_99, n_tl_99, n_el_99, n_eq_99, n_ad_99, n_lt_100, n_le_100, n_tl_100, n_el_100, n_eq_100, n_ad_100, n_lt_144, n_le_144, n_tl_144, n_el_144, n_eq_144, n_ad_144, n_lt_4096, n_le_4096, n_tl_4096, n_el_4096, n_eq_4096, n_ad_4096, n_mulK, nI_add, pk_mul, n_lt, n_le, n_eq, n_eqM, n_ix, n_cl, Nat.le_refl, if_true]
  | succ n ih =>
    intro L r g τ l5 l6 l7 hL hf hr hg hrt hgt hinv
    have q1 : ¬ 12 ≤ L := by omega
    by_cases hg0 : g = 0
    · refine ⟨τ, L, ?_, hf, hinv, lev_le ht (Or.inl (fun v hv h => ?_))⟩
      · rw [s30_9]
        simp (disch := omega) only [s30_11, s30_13, s30_16, s30_17, s30_113, n_lt_0, n_le_0, n_tl_0, n_el_0, n_eq_0, n_ad_0, n_lt_1, n_le_1, n_tl_1, n_el_1, n_eq_1, n_ad_1, n_lt_2, n_le_2, n_tl_2, n_el_2, n_eq_2, n_ad_2, n_lt_3, n_le_3, n_tl_3, n_el_3, n_eq_3, n_ad_3, n_lt_4, n_le_4, n_tl_4, n_el_4, n_eq_4, n_ad_4, n_lt_5, n_le_5, n_tl_5, n_el_5, n_eq_5, n_ad_5, n_lt_6, n_le_6, n_tl_6, n_el_6, n_eq_6, n_ad_6, n_lt_10, n_le_10, n_tl_10, n_el_10, n_eq_10, n_ad_10, n_lt_11, n_le_11, n_tl_11, n_el_11, n_eq_11, n_ad_11, n_lt_12, n_le_12, n_tl_12, n_el_12, n_eq_12, n_ad_12, n_lt_13, n_le_13, n_tl_13, n_el_13, n_eq_13, n_ad_13, n_lt_15, n_le_15, n_tl_15, n_el_15, n_eq_15, n_ad_15, n_lt_20, n_le_20, n_tl_20, n_el_20, n_eq_20, n_ad_20, n_lt_30, n_le_30, n_tl_30, n_el_30, n_eq_30, n_ad_30, n_lt_31, n_le_31, n_tl_31, n_el_31, n_eq_31, n_ad_31, n_lt_32, n_le_32, n_tl_32, n_el_32, n_eq_32, n_ad_32, n_lt_60, n_le_60, n_tl_60, n_el_60, n_eq_60, n_ad_60, n_lt_99, n_le_99, n_tl_99, n_el_99, n_eq_99, n_ad_99, n_lt_100, n_le_100, n_tl_100, n_el_100, n_eq_100, n_ad_100, n_lt_144, n_le_144, n_tl_144, n_el_144, n_eq_144, n_ad_144, n_lt_4096, n_le_4096, n_tl_4096, n_el_4096, n_eq_4096, n_ad_4096, n_mulK, nI_add, pk_mul, n_lt, n_le, n_eq, n_eqM, n_ix, n_cl, if_neg q1, if_pos hg0]
      · have := hgt v
        rw [hg0] at this
        cases hb : le1 N adj rel t L v with
        | true => rfl
        | false => simp [hv, h, hb] at this
    · obtain ⟨τ1, w, l7', a1, a2, a3, a4, a5, a6⟩ := c30_in (d := d) (L := .int (nI L)) hN (show t < 12 by omega) hnb hr hg N 0 0 τ l7 (by omega) (by decide) (by rw [hf 1 (by decide)]; exact h14) (fun a ha => by rw [hf 3 (by decide)]; exact h3 a ha)
      have hwt : ∀ v, w.testBit v = (decide (v < N) && clB nb g r v) := fun v => by rw [a4 v]; simp
      -- who has a neighbour in the ring
      have hring : ∀ v, v < N → (nb v &&& g ≠ 0 ↔ ∃ u, u < N ∧ adj v u = true ∧ lev N adj rel t L u = true ∧ le1 N adj rel t L u = false) := by
        intro v hv
        have hal : nb v &&& g < 4096 := and_lt (hnb v hv)
        constructor
        · intro hz
          have hl := (low_bit _ hal hz).1
          rw [Nat.testBit_and, hnbt v _ hv, hgt] at hl
          simp only [Bool.and_eq_true, decide_eq_true_iff, Bool.not_eq_true'] at hl
          exact ⟨_, hl.2.1, hl.1.2, hl.2.2.1, hl.2.2.2⟩
        · rintro ⟨u, hu, h1, h2, h3⟩ hz
          have : (nb v &&& g).testBit u = true := by
            rw [Nat.testBit_and, hnbt v _ hv, hgt]
            have : u < 12 := by omega
            simp [this, hu, h1, h2, h3]
          rw [hz] at this
          simp at this
      have hcl : ∀ v, v < N → (clB nb g r v = true ↔ (∃ u, u < N ∧ adj v u = true ∧ lev N adj rel t L u = true ∧ le1 N adj rel t L u = false) ∧ v ≠ t ∧ nrL N adj rel t L v = false) := by
        intro v hv
        unfold clB
        rw [Bool.and_eq_true, hrt v hv]
        have := hring v hv
        constructor
        · rintro ⟨h1, h2⟩
          have h1 : nb v &&& g ≠ 0 := by simpa using h1
          simp at h2
          exact ⟨this.mp h1, h2.1, h2.2⟩
        · rintro ⟨h1, h2, h3⟩
          have := this.mpr h1
          simp [this, h2, h3]
      have hnr1 : ∀ v, v < N → (nrL N adj rel t (L + 1) v = true ↔ nrL N adj rel t L v = true ∨ ∃ u, u < N ∧ adj v u = true ∧ lev N adj rel t L u = true ∧ le1 N adj rel t L u = false) := by
        intro v hv
        constructor
        · intro h
          obtain ⟨u, hu, h1, h2⟩ := nrL_iff.mp h
          cases hb : le1 N adj rel t L u with
          | true => exact Or.inl (nrL_iff.mpr ⟨u, hu, h1, hb⟩)
          | false => exact Or.inr ⟨u, hu, h1, h2, hb⟩
        · rintro (h | ⟨u, hu, h1, h2, _⟩)
          · exact nrL_s h
          · exact nrL_iff.mpr ⟨u, hu, h1, h2⟩
      have hnew : ∀ v, v < N → v ≠ t → nrL N adj rel t L v = false → (clB nb g r v = true ↔ nrL N adj rel t (L + 1) v = true) := by
        intro v hv h1 h2
        rw [hcl v hv, hnr1 v hv]
        constructor
        · rintro ⟨h, _⟩; exact Or.inr h
        · rintro (h | h)
          · rw [h2] at h; cases h
          · exact ⟨h, h1, h2⟩
      have hor := s_or hr a3
      have hclr := s_clr a3 hhs
      have e16 : τ1 1 6 = nI hs := by rw [a2 1 (by decide), hf 1 (by decide)]; exact h16
      obtain ⟨τ', L', z1, z2⟩ := ih (L + 1) (r ||| w) (sdf w hs) τ1 (.int (nI w)) (.int (nI N)) l7' (by omega) (fun c hc => by rw [a2 c hc, hf c hc]) (or_lt hr a3) (sdf_lt a3) (fun v hv => by
          rw [Nat.testBit_or, hrt v hv, hwt v]
          by_cases e : v = t
          · simp [e]
          · cases h2 : nrL N adj rel t L v with
            | true => rw [nrL_s h2]; simp
            | false =>
              have := hnew v hv e h2
              rw [Bool.eq_iff_iff]
              simp [e, hv, this]) (fun v => by
          rw [sdf_tb a3, hwt v]
          by_cases hv : v < N
          · rw [hht v hv]
            simp only [hv, decide_true, Bool.true_and, Bool.not_not]
            show (clB nb g r v && rel v) = (lev N adj rel t (L + 1) v && !lev N adj rel t L v)
            rw [lev_eq]
            cases hrl : rel v with
            | false => cases lev N adj rel t L v <;> simp
            | true =>
              rw [lev_nr hrl]
              by_cases e : v = t
              · have : clB nb g r v = false := by
                  cases hc : clB nb g r v with
                  | false => rfl
                  | true => exact absurd e ((hcl v hv).mp hc).2.1
                simp [e]
                rw [← e]
                exact this
              · cases h2 : nrL N adj rel t L v with
                | true =>
                  have : clB nb g r v = false := by
                    cases hc : clB nb g r v with
                    | false => rfl
                    | true => have := ((hcl v hv).mp hc).2.2; rw [h2] at this; cases this
                  simp [this]
                | false =>
                  have := hnew v hv e h2
                  rw [Bool.eq_iff_iff]
                  simp [e, this]
          · simp [hv]) (by
          refine ⟨fun a ha hat h => ?_, fun a ha hat h => ?_, fun j hj => ?_⟩
          · cases h2 : nrL N adj rel t L a with
            | true =>
              have hc : ¬ clB nb g r a = true := fun hc => by have := ((hcl a ha).mp hc).2.2; rw [h2] at this; cases this
              rw [a6 _ (fun v g1 g2 g3 q => by
                have : a = v := by omega
                subst this
                exact hc g3)]
              exact hinv.1 a ha hat h2
            | false =>
              have hc := (hnew a ha hat h2).mpr h
              rw [a5 a (by omega) ha hc]
              have hal : nb a &&& g < 4096 := and_lt (hnb a ha)
              have hz := (hring a ha).mpr ((hcl a ha).mp hc).1
              have hl := (low_bit _ hal hz).1
              rw [Nat.testBit_and, hnbt a _ ha, hgt] at hl
              simp only [Bool.and_eq_true, decide_eq_true_iff, Bool.not_eq_true'] at hl
              have hno : ∀ m, m < N → adj a m = true → le1 N adj rel t L m = false := fun m hm hadj => by
                cases hb : le1 N adj rel t L m with
                | false => rfl
                | true => rw [nrL_iff.mpr ⟨m, hm, hadj, hb⟩] at h2; cases h2
              refine Or.inr ⟨L, lowN (nb a &&& g), rfl, hl.2.1, hl.1.2, hl.2.2.1, fun j m hj hm hadj => ?_, fun m hm hadj => ?_⟩
              · cases hb : lev N adj rel t j m with
                | false => rfl
                | true =>
                  have hq := hno m hm hadj
                  cases L with
                  | zero => omega
                  | succ L =>
                    have : lev N adj rel t L m = true := lev_mono (by omega) hb
                    rw [show le1 N adj rel t (L + 1) m = lev N adj rel t L m from rfl, this] at hq
                    cases hq
              · have hmN : m < N := by omega
                cases hb : lev N adj rel t L m with
                | false => rfl
                | true =>
                  have hf2 := low_lt _ hal hz m hm
                  rw [Nat.testBit_and, hnbt a _ ha, hgt] at hf2
                  have : m < 12 := by omega
                  simp [this, hmN, hadj, hb, hno m hmN hadj] at hf2
          · have h2 : nrL N adj rel t L a = false := by
              cases h2 : nrL N adj rel t L a with
              | false => rfl
              | true => rw [nrL_s h2] at h; cases h
            have hc : ¬ clB nb g r a = true := fun hc => by rw [(hnew a ha hat h2).mp hc] at h; cases h
            rw [a6 _ (fun v g1 g2 g3 q => by
              have : a = v := by omega
              subst this
              exact hc g3)]
            exact hinv.2.1 a ha hat h2
          · rw [a6 j (fun v g1 g2 g3 => hj v g2 ((hcl v g2).mp g3).2.1)]
            exact hinv.2.2 j hj)
      refine ⟨τ', L', ?_, z2⟩
      rw [s30_9]
      simp (disch := omega) only [s30_11, s30_13, s30_16, s30_17, s30_20, s30_21, s30_23, s30_24, n_lt_0, n_le_0, n_tl_0, n_el_0, n_eq_0, n_ad_0, n_lt_1, n_le_1, n_tl_1, n_el_1, n_eq_1, n_ad_1, n_lt_2, n_le_2, n_tl_2, n_el_2, n_eq_2, n_ad_2, n_lt_3, n_le_3, n_tl_3, n_el_3, n_eq_3, n_ad_3, n_lt_4, n_le_4, n_tl_4, n_el_4, n_eq_4, n_ad_4, n_lt_5, n_le_5, n_tl_5, n_el_5, n_eq_5, n_ad_5, n_lt_6, n_le_6, n_tl_6, n_el_6, n_eq_6, n_ad_6, n_lt_10, n_le_10, n_tl_10, n_el_10, n_eq_10, n_ad_10, n_lt_11, n_le_11, n_tl_11, n_el_11, n_eq_11, n_ad_11, n_lt_12, n_le_12, n_tl_12, n_el_12, n_eq_12, n_ad_12, n_lt_13, n_le_13, n_tl_13, n_el_13, n_eq_13, n_ad_13, n_lt_15, n_le_15, n_tl_15, n_el_15, n_eq_15, n_ad_15, n_lt_20, n_le_20, n_tl_20, n_el_20, n_eq_20, n_ad_20, n_lt_30, n_le_30, n_tl_30, n_el_30, n_eq_30, n_ad_30, n_lt_31, n_le_31, n_tl_31, n_el_31, n_eq_31, n_ad_31, n_lt_32, n_le_32, n_tl_32, n_el_32, n_eq_32, n_ad_32, n_lt_60, n_le_60, n_tl_60, n_el_60, n_eq_60, n_ad_60, n_lt_99, n_le_99, n_tl_99, n_el_99, n_eq_99, n_ad_99, n_lt_100, n_le_100, n_tl_100, n_el_100, n_eq_100, n_ad_100, n_lt_144, n_le_144, n_tl_144, n_el_144, n_eq_144, n_ad_144, n_lt_4096, n_le_4096, n_tl_4096, n_el_4096, n_eq_4096, n_ad_4096, n_mulK, nI_add, pk_mul, n_lt, n_le, n_eq, n_eqM, n_ix, n_cl, if_neg q1, if_neg hg0]
      refine Eq.trans a1 ?_
      simp (disch := omega) only [s30_92, s30_93, s30_95, s30_96, s30_97, s30_99, s30_100, s30_103, s30_104, s30_105, s30_106, s30_107, s30_110, n_lt_0, n_le_0, n_tl_0, n_el_0, n_eq_0, n_ad_0, n_lt_1, n_le_1, n_tl_1, n_el_1, n_eq_1, n_ad_1, n_lt_2, n_le_2, n_tl_2, n_el_2, n_eq_2, n_ad_2, n_lt_3, n_le_3, n_tl_3, n_el_3, n_eq_3, n_ad_3, n_lt_4, n_le_4, n_tl_4, n_el_4, n_eq_4, n_ad_4, n_lt_5, n_le_5, n_tl_5, n_el_5, n_eq_5, n_ad_5, n_lt_6, n_le_6, n_tl_6, n_el_6, n_eq_6, n_ad_6, n_lt_10, n_le_10, n_tl_10, n_el_10, n_eq_10, n_ad_10, n_lt_11, n_le_11, n_tl_11, n_el_11, n_eq_11, n_ad_11, n_lt_12, n_le_12, n_tl_12, n_el_12, n_eq_12, n_ad_12, n_lt_13, n_le_13, n_tl_13, n_el_13, n_eq_13, n_ad_13, n_lt_15, n_le_15, n_tl_15, n_el_15, n_eq_15, n_ad_15, n_lt_20, n_le_20, n_tl_20, n_el_20, n_eq_20, n_ad_20, n_lt_30, n_le_30, n_tl_30, n_el_30, n_eq_30, n_ad_30, n_lt_31, n_le_31, n_tl_31, n_el_31, n_eq_31, n_ad_31, n_lt_32, n_le_32, n_tl_32, n_el_32, n_eq_32, n_ad_32, n_lt_60, n_le_60, n_tl_60, n_el_60, n_eq_60, n_ad_60, n_lt_99, n_le_99, n_tl_99, n_el_99, n_eq_99, n_ad_99, n_lt_100, n_le_100, n_tl_100, n_el_100, n_eq_100, n_ad_100, n_lt_144, n_le_144, n_tl_144, n_el_144, n_eq_144, n_ad_144, n_lt_4096, n_le_4096, n_tl_4096, n_el_4096, n_eq_4096, n_ad_4096, n_mulK, nI_add, pk_mul, n_lt, n_le, n_eq, n_eqM, n_ix, n_cl, hor, e16, hclr]
      exact z1
end BFS
