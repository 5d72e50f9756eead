/-! parts of a set, as the reference goes through them -/
def grt (W al : Nat → Nat) : Nat → Nat → Nat → Nat
  | 0, _, g => g
  | k + 1, r, g => if r = 0 then g else grt W al k (sdf r (r &&& al (lowN r))) (max g (W (r &&& al (lowN r))))
def clo (A : Nat → Int32) (s r : Nat) : Prop := ∀ i j, s.testBit i = true → r.testBit j = true → A i = A j → r.testBit i = true
theorem pop_C : ∀ n, n < 4096 → ∀ C, C < 13 → n < 2 ^ C → popN n ≤ C := all4096 (by decide +kernel)
section GRT
variable {A : Nat → Int32} {C s : Nat}
theorem part_eq {r : Nat} (hC : C ≤ 12) (hs : s < 2 ^ C) (hsub : ∀ j, r.testBit j = true → s.testBit j = true) (hcl : clo A s r) {x : Nat} (hx : r.testBit x = true) : s &&& alN A C x = r &&& alN A C x := by
  apply Nat.eq_of_testBit_eq
  intro i
  rw [Nat.testBit_and, Nat.testBit_and, alN_tb hC]
  cases hb : s.testBit i with
  | false =>
    cases hr : r.testBit i with
    | false => rfl
    | true => rw [hsub i hr] at hb; cases hb
  | true =>
    by_cases e : A i = A x
    · rw [hcl i x hb hx e]
    · simp [e]
theorem part_ne (hC : C ≤ 12) (hs : s < 2 ^ C) (h0 : s ≠ 0) (hne : s &&& alN A C (lowN s) ≠ s) {x : Nat} : s &&& alN A C x ≠ s := by
  intro h
  have h4 := pC hC
  apply hne
  rw [and_eq_iff] at h ⊢
  have hl := h _ (low_bit s (by omega) h0).1
  rw [alN_tb hC] at hl
  intro i hi
  have := h i hi
  rw [alN_tb hC] at this ⊢
  simp at this hl ⊢
  exact ⟨this.1, by rw [this.2, hl.2]⟩
theorem clo_s : clo A s s := fun i _ h _ _ => h
theorem clo_sdf {r : Nat} (hC : C ≤ 12) (hs : s < 2 ^ C) (hsub : ∀ j, r.testBit j = true → s.testBit j = true) (hcl : clo A s r) {x : Nat} (hr : r < 4096) : clo A s (sdf r (r &&& alN A C x)) := by
  intro i j hi hj hij
  rw [sdf_tb hr, Nat.testBit_and, alN_tb hC] at hj ⊢
  rw [Bool.and_eq_true] at hj
  have hri := hcl i j hi hj.1 hij
  have hj2 := hj.2
  rw [hj.1] at hj2
  have hjC := tb_lt hs (hsub j hj.1)
  rw [hri]
  simp [hjC] at hj2 ⊢
  exact Or.inr (fun h => hj2 (by rw [← hij, h]))
theorem sub_sdf {r y : Nat} (hr : r < 4096) (hsub : ∀ j, r.testBit j = true → s.testBit j = true) : ∀ j, (sdf r y).testBit j = true → s.testBit j = true := by
  intro j hj
  rw [sdf_tb hr, Bool.and_eq_true] at hj
  exact hsub j hj.1
theorem gmo_grt {W : Nat → Nat} (hC : C ≤ 12) (hs : s < 2 ^ C) (h0 : s ≠ 0) (hne : s &&& alN A C (lowN s) ≠ s) : ∀ k r g, r < 2 ^ C → (∀ j, r.testBit j = true → s.testBit j = true) → clo A s r → gmo W (alN A C) s k r g = some (grt W (alN A C) k r g) := by
  have h4 := pC hC
  intro k
  induction k with
  | zero => intro r g _ _ _; rfl
  | succ k ih =>
    intro r g hr hsub hcl
    simp only [gmo, grt]
    by_cases hr0 : r = 0
    · rw [if_pos hr0, if_pos hr0]
    · have hx := (low_bit r (by omega) hr0).1
      have hsl : sdf r (r &&& alN A C (lowN r)) ≤ r := Nat.and_le_left
      rw [if_neg hr0, if_neg hr0, if_neg (part_ne hC hs h0 hne), part_eq hC hs hsub hcl hx]
      exact ih _ _ (by omega) (sub_sdf (by omega) hsub) (clo_sdf hC hs hsub hcl (by omega))
theorem cst_grt {W : Nat → Nat} {AA : Nat → Nat → Int32} {pr : Nat → Nat} {l : Nat} (hC : C ≤ 12) (hC0 : 0 < C) (hs : s < 2 ^ C) (h0 : s ≠ 0) : cst W (fun l => alN (AA l) C) pr C s l = if s &&& alN (AA l) C (lowN s) = s then none else some (pr l + grt W (alN (AA l) C) C s 0) := by
  unfold cst
  by_cases e : s &&& alN (AA l) C (lowN s) = s
  · rw [if_pos e]
    obtain ⟨k, rfl⟩ : ∃ k, C = k + 1 := ⟨C - 1, by omega⟩
    simp only [gmo, if_neg h0, if_pos e]
    rfl
  · rw [if_neg e, gmo_grt hC hs h0 e C s 0 hs (fun _ h => h) clo_s]
    rfl
theorem pop_sdf {r : Nat} (hC : C ≤ 12) (hr : r < 2 ^ C) (h0 : r ≠ 0) : popN (sdf r (r &&& alN A C (lowN r))) < popN r := by
  have h4 := pC hC
  have hx := (low_bit r (by omega) h0).1
  have hxC := tb_lt hr hx
  refine pop_lt (by omega) (sdf_lt (by omega)) (fun i hi => ?_) (fun e => ?_)
  · rw [sdf_tb (by omega), Bool.and_eq_true] at hi
    exact hi.1
  · have h9 : (sdf r (r &&& alN A C (lowN r))).testBit (lowN r) = true := by rw [e]; exact hx
    rw [sdf_tb (by omega), Nat.testBit_and, alN_tb hC, hx] at h9
    simp [hxC] at h9
theorem pop_0 {r : Nat} (hr : r < 4096) (h : popN r = 0) : r = 0 := by
  apply Classical.byContradiction
  intro h0
  have := pop_pos hr h0
  omega
theorem alN_cl {x y : Nat} (h : A x = A y) : alN A C x = alN A C y := by unfold alN; rw [h]
theorem grt_char {W : Nat → Nat} (hC : C ≤ 12) (hs : s < 2 ^ C) : ∀ k r g, popN r ≤ k → r < 2 ^ C → (∀ j, r.testBit j = true → s.testBit j = true) → clo A s r → g ≤ grt W (alN A C) k r g ∧ (∀ c, r.testBit c = true → W (s &&& alN A C c) ≤ grt W (alN A C) k r g) ∧ (grt W (alN A C) k r g = g ∨ ∃ c, s.testBit c = true ∧ grt W (alN A C) k r g = W (s &&& alN A C c)) := by
  have h4 := pC hC
  intro k
  induction k with
  | zero =>
    intro r g hk hr _ _
    have := pop_0 (r := r) (by omega) (by omega)
    subst this
    exact ⟨Nat.le_refl _, fun c hc => by simp at hc, Or.inl rfl⟩
  | succ k ih =>
    intro r g hk hr hsub hcl
    simp only [grt]
    by_cases hr0 : r = 0
    · subst hr0
      rw [if_pos rfl]
      exact ⟨Nat.le_refl _, fun c hc => by simp at hc, Or.inl rfl⟩
    · have hx := (low_bit r (by omega) hr0).1
      have hsl : sdf r (r &&& alN A C (lowN r)) ≤ r := Nat.and_le_left
      have hpop := pop_sdf (A := A) hC hr hr0
      rw [if_neg hr0]
      obtain ⟨i1, i2, i3⟩ := ih (sdf r (r &&& alN A C (lowN r))) (max g (W (r &&& alN A C (lowN r)))) (by omega) (by omega) (sub_sdf (by omega) hsub) (clo_sdf hC hs hsub hcl (by omega))
      have hpe := part_eq hC hs hsub hcl hx
      refine ⟨by omega, fun c hc => ?_, ?_⟩
      · by_cases e : A c = A (lowN r)
        · rw [alN_cl e, hpe]
          omega
        · apply i2
          rw [sdf_tb (by omega), Nat.testBit_and, alN_tb hC, hc]
          simp [e]
      · rcases i3 with i3 | i3
        · rcases Nat.le_total g (W (r &&& alN A C (lowN r))) with q | q
          · rw [Nat.max_eq_right q] at i3 ⊢
            exact Or.inr ⟨lowN r, hsub _ hx, by rw [i3, hpe]⟩
          · rw [Nat.max_eq_left q] at i3 ⊢
            exact Or.inl i3
        · exact Or.inr i3
def gpF (al : Nat → Nat) (s : Nat) : Nat → Nat → Nat → Nat
  | 0, _, g => g
  | n + 1, c, g => gpF al s n (c + 1) (if s.testBit c = true then max g (popN (s &&& al c)) else g)
theorem gpF_char {al : Nat → Nat} : ∀ n c g, g ≤ gpF al s n c g ∧ (∀ i, c ≤ i → i < c + n → s.testBit i = true → popN (s &&& al i) ≤ gpF al s n c g) ∧ (gpF al s n c g = g ∨ ∃ i, s.testBit i = true ∧ gpF al s n c g = popN (s &&& al i)) := by
  intro n
  induction n with
  | zero => intro c g; exact ⟨Nat.le_refl _, fun i h1 h2 => by omega, Or.inl rfl⟩
  | succ n ih =>
    intro c g
    simp only [gpF]
    cases hb : s.testBit c with
    | false =>
      obtain ⟨i1, i2, i3⟩ := ih (c + 1) g
      simp only [Bool.false_eq_true, if_false]
      refine ⟨i1, fun i h1 h2 h3 => ?_, i3⟩
      by_cases e : i = c
      · subst e; rw [hb] at h3; cases h3
      · exact i2 i (by omega) (by omega) h3
    | true =>
      obtain ⟨i1, i2, i3⟩ := ih (c + 1) (max g (popN (s &&& al c)))
      simp only [if_true]
      refine ⟨by omega, fun i h1 h2 h3 => ?_, ?_⟩
      · by_cases e : i = c
        · subst e; omega
        · exact i2 i (by omega) (by omega) h3
      · rcases i3 with i3 | i3
        · rcases Nat.le_total g (popN (s &&& al c)) with q | q
          · rw [Nat.max_eq_right q] at i3 ⊢
            exact Or.inr ⟨c, hb, i3⟩
          · rw [Nat.max_eq_left q] at i3 ⊢
            exact Or.inl i3
        · exact Or.inr i3
theorem gp_grt (hC : C ≤ 12) (hs : s < 2 ^ C) : gpF (alN A C) s C 0 0 = grt popN (alN A C) C s 0 := by
  have h4 := pC hC
  obtain ⟨a1, a2, a3⟩ := gpF_char (s := s) (al := alN A C) C 0 0
  obtain ⟨b1, b2, b3⟩ := grt_char (A := A) (W := popN) hC hs C s 0 (pop_C s (by omega) C (by omega) hs) hs (fun _ h => h) clo_s
  apply Nat.le_antisymm
  · rcases a3 with e | ⟨i, hi, e⟩
    · rw [e]; exact b1
    · rw [e]; exact b2 i hi
  · rcases b3 with e | ⟨i, hi, e⟩
    · rw [e]; exact a1
    · rw [e]
      have := tb_lt hs hi
      exact a2 i (by omega) (by omega) hi
theorem gp_part (hC : C ≤ 12) (hs : s < 2 ^ C) (h0 : s ≠ 0) : decide (gpF (alN A C) s C 0 0 < popN s) = !decide (s &&& alN A C (lowN s) = s) := by
  have h4 := pC hC
  obtain ⟨a1, a2, a3⟩ := gpF_char (s := s) (al := alN A C) C 0 0
  by_cases e : s &&& alN A C (lowN s) = s
  · have hb := (low_bit s (by omega) h0).1
    have hlt := tb_lt hs hb
    have := a2 (lowN s) (by omega) (by omega) hb
    rw [e] at this
    have q : ¬ gpF (alN A C) s C 0 0 < popN s := by omega
    simp [e, q]
  · have q : gpF (alN A C) s C 0 0 < popN s := by
      rcases a3 with z | ⟨i, hi, z⟩
      · rw [z]; exact pop_pos (by omega) h0
      · rw [z]
        exact pop_lt (by omega) (and_lt (by omega)) (fun i => and_sub) (part_ne hC hs h0 e)
    simp [e, q]
end GRT
/-! the reference's worstOf -/
def MEMM (σ : ir_S) (C : Nat) (W : Nat → Nat) : Prop := ∀ s, 0 < s → s < 2 ^ C → σ 57 s = -1 ∨ σ 57 s = nI (W s)
section MW
variable {K C s : Nat} {A : Nat → Nat → Int32} {pr W : Nat → Nat} {σ0 : ir_S}
theorem m166_loop {d l : Nat} (ht : TM σ0 K C A pr) (hl : l < K) (hs : s < 2 ^ C) (h0 : s ≠ 0) (hne : s &&& alN (A l) C (lowN s) ≠ s) (hWb : ∀ x, W x ≤ 1200)
    (hW : ∀ x σ, s &&& x ≠ s → s &&& x ≠ 0 → (∀ c, c ≠ 57 → σ c = σ0 c) → MEMM σ C W → ∃ σ', ir_ev (d + 1) 167 [.ref 33, .int (nI (s &&& x))] σ = some (some (.int (nI (W (s &&& x)))), σ') ∧ (∀ c, c ≠ 57 → σ' c = σ0 c) ∧ MEMM σ' C W) :
    ∀ k r g σ l5, popN r ≤ k → r < 2 ^ C → (∀ j, r.testBit j = true → s.testBit j = true) → clo (A l) s r → g ≤ 1200 → (∀ c, c ≠ 57 → σ c = σ0 c) → MEMM σ C W →
      ∃ σ', ir_run (ir_ev (d + 1)) 166 (5, [.ref 33, .int (nI l), .int (nI s), .int (nI g), .int (nI r), l5], [], σ) = some (some (.int (nI (grt W (alN (A l) C) k r g))), σ') ∧ (∀ c, c ≠ 57 → σ' c = σ0 c) ∧ MEMM σ' C W := by
  obtain ⟨hK, hC, t1, t2, t3, t4⟩ := id ht
  have h4 := pC hC
  have fin : ∀ g σ l5, ir_run (ir_ev (d + 1)) 166 (5, [.ref 33, .int (nI l), .int (nI s), .int (nI g), .int (nI 0), l5], [], σ) = some (some (.int (nI g)), σ) := by
    intro g σ l5
    rw [s166_5]
    simp (disch := omega) only [s166_7, s166_47, s166_48, n_lt_0, n_le_0, n_tl_0, n_el_0, n_eq_0, n_ad_0, n_lt_1, n_le_1, n_tl_1, n_el_1, n_eq_1, n_ad_1, n_lt_2, n_le_2, n_tl_2, n_el_2, n_eq_2, n_ad_2, n_lt_3, n_le_3, n_tl_3, n_el_3, n_eq_3, n_ad_3, n_lt_4, n_le_4, n_tl_4, n_el_4, n_eq_4, n_ad_4, n_lt_5, n_le_5, n_tl_5, n_el_5, n_eq_5, n_ad_5, n_lt_6, n_le_6, n_tl_6, n_el_6, n_eq_6, n_ad_6, n_lt_10, n_le_10, n_tl_10, n_el_10, n_eq_10, n_ad_10, n_lt_11, n_le_11, n_tl_11, n_el_11, n_eq_11, n_ad_11, n_lt_12, n_le_12, n_tl_12, n_el_12, n_eq_12, n_ad_12, n_lt_13, n_le_13, n_tl_13, n_el_13, n_eq_13, n_ad_13, n_lt_15, n_le_15, n_tl_15, n_el_15, n_eq_15, n_ad_15, n_lt_20, n_le_20, n_tl_20, n_el_20, n_eq_20, n_ad_20, n_lt_30, n_le_30, n_tl_30, n_el_30, n_eq_30, n_ad_30, n_lt_31, n_le_31, n_tl_31, n_el_31, n_eq_31, n_ad_31, n_lt_32, n_le_32, n_tl_32, n_el_32, n_eq_32, n_ad_32, n_lt_60, n_le_60, n_tl_60, n_el_60, n_eq_60, n_ad_60, n_lt_99, n_le_99, n_tl_99, n_el_99, n_eq_99, n_ad_99, n_lt_100, n_le_100, n_tl_100, n_el_100, n_eq_100, n_ad_100, n_lt_144, n_le_144, n_tl_144, n_el_144, n_eq_144, n_ad_144, n_lt_4096, n_le_4096, n_tl_4096, n_el_4096, n_eq_4096, n_ad_4096, n_mulK, nI_add, pk_mul, n_lt, n_le, n_eq, n_eqM, n_ix, n_cl, if_true]
  intro k
  induction k with
  | zero =>
    intro r g σ l5 hk hr hsub hcl hg hag hM
    have := pop_0 (r := r) (by omega) (by omega)
    subst this
    exact ⟨σ, fin g σ l5, hag, hM⟩
  | succ k ih =>
    intro r g σ l5 hk hr hsub hcl hg hag hM
    simp only [grt]
    by_cases hr0 : r = 0
    · subst hr0
      rw [if_pos rfl]
      exact ⟨σ, fin g σ l5, hag, hM⟩
    · rw [if_neg hr0]
      have hx := (low_bit r (by omega) hr0).1
      have hpe := part_eq hC hs hsub hcl hx
      have hlow := low_C hC hr hr0
      have hpr : r &&& alN (A l) C (lowN r) < 4096 := and_lt (by omega)
      have hp0 : s &&& alN (A l) C (lowN r) ≠ 0 := fun q => by
        have hb : (s &&& alN (A l) C (lowN r)).testBit (lowN r) = true := by
          rw [Nat.testBit_and, alN_tb hC, hsub _ hx]
          simp [hlow]
        rw [q] at hb
        simp at hb
      obtain ⟨σ1, b1, b2, b3⟩ := hW (alN (A l) C (lowN r)) σ (part_ne hC hs h0 hne) hp0 hag hM
      rw [hpe] at b1
      have hWp := hWb (r &&& alN (A l) C (lowN r))
      have hmx := ir_max_n (a := g) (b := W (r &&& alN (A l) C (lowN r))) (by omega) (by omega)
      have hclr := s_clr (r := r) (p := r &&& alN (A l) C (lowN r)) (by omega) (by omega)
      have hsl : sdf r (r &&& alN (A l) C (lowN r)) ≤ r := Nat.and_le_left
      have hpop := pop_sdf (A := A l) hC hr hr0
      obtain ⟨σ', z1, z2⟩ := ih (sdf r (r &&& alN (A l) C (lowN r))) (max g (W (r &&& alN (A l) C (lowN r)))) σ1 (.int (nI (r &&& alN (A l) C (lowN r)))) (by omega) (by omega) (sub_sdf (by omega) hsub) (clo_sdf hC hs hsub hcl (by omega)) (by omega) b2 b3
      refine ⟨σ', ?_, z2⟩
      rw [s166_5]
      simp (disch := omega) only [s166_7, s166_10, s166_11, s166_12, s166_14, s166_16, s166_19, s166_22, s166_24, s166_25, s166_26, s166_28, s166_31, s166_34, s166_35, s166_37, s166_39, s166_40, s166_41, s166_42, s166_44, n_lt_0, n_le_0, n_tl_0, n_el_0, n_eq_0, n_ad_0, n_lt_1, n_le_1, n_tl_1, n_el_1, n_eq_1, n_ad_1, n_lt_2, n_le_2, n_tl_2, n_el_2, n_eq_2, n_ad_2, n_lt_3, n_le_3, n_tl_3, n_el_3, n_eq_3, n_ad_3, n_lt_4, n_le_4, n_tl_4, n_el_4, n_eq_4, n_ad_4, n_lt_5, n_le_5, n_tl_5, n_el_5, n_eq_5, n_ad_5, n_lt_6, n_le_6, n_tl_6, n_el_6, n_eq_6, n_ad_6, n_lt_10, n_le_10, n_tl_10, n_el_10, n_eq_10, n_ad_10, n_lt_11, n_le_11, n_tl_11, n_el_11, n_eq_11, n_ad_11, n_lt_12, n_le_12, n_tl_12, n_el_12, n_eq_12, n_ad_12, n_lt_13, n_le_13, n_tl_13, n_el_13, n_eq_13, n_ad_13, n_lt_15, n_le_15, n_tl_15, n_el_15, n_eq_15, n_ad_15, n_lt_20, n_le_20, n_tl_20, n_el_20, n_eq_20, n_ad_20, n_lt_30, n_le_30, n_tl_30, n_el_30, n_eq_30, n_ad_30, n_lt_31, n_le_31, n_tl_31, n_el_31, n_eq_31, n_ad_31, n_lt_32, n_le_32, n_tl_32, n_el_32, n_eq_32, n_ad_32, n_lt_60, n_le_60, n_tl_60, n_el_60, n_eq_60, n_ad_60, n_lt_99, n_le_99, n_tl_99, n_el_99, n_eq_99, n_ad_99, n_lt_100, n_le_100, n_tl_100, n_el_100, n_eq_100, n_ad_100, n_lt_144, n_le_144, n_tl_144, n_el_144, n_eq_144, n_ad_144, n_lt_4096, n_le_4096, n_tl_4096, n_el_4096, n_eq_4096, n_ad_4096, n_mulK, nI_add, pk_mul, n_lt, n_le, n_eq, n_eqM, n_ix, n_cl, if_neg hr0, c182, nt_low r (by omega) hr0, m161 (TM_57 hag ht) hl (show r < 4096 by omega) hlow, b1, hmx, hclr, ir_k_i, ir_tl_i]
      exact z1
theorem m166 {d l : Nat} {σ : ir_S} (ht : TM σ0 K C A pr) (hl : l < K) (hs : s < 2 ^ C) (h0 : s ≠ 0) (hne : s &&& alN (A l) C (lowN s) ≠ s) (hWb : ∀ x, W x ≤ 1200)
    (hW : ∀ x σ, s &&& x ≠ s → s &&& x ≠ 0 → (∀ c, c ≠ 57 → σ c = σ0 c) → MEMM σ C W → ∃ σ', ir_ev (d + 1) 167 [.ref 33, .int (nI (s &&& x))] σ = some (some (.int (nI (W (s &&& x)))), σ') ∧ (∀ c, c ≠ 57 → σ' c = σ0 c) ∧ MEMM σ' C W)
    (hag : ∀ c, c ≠ 57 → σ c = σ0 c) (hM : MEMM σ C W) :
    ∃ σ', ir_ev (d + 2) 166 [.ref 33, .int (nI l), .int (nI s)] σ = some (some (.int (nI (grt W (alN (A l) C) C s 0))), σ') ∧ (∀ c, c ≠ 57 → σ' c = σ0 c) ∧ MEMM σ' C W := by
  have hC := ht.2.1
  have h4 := pC hC
  obtain ⟨σ', z1, z2⟩ := m166_loop ht hl hs h0 hne hWb hW C s 0 σ .null (pop_C s (by omega) C (by omega) hs) hs (fun _ h => h) clo_s (Nat.zero_le _) hag hM
  refine ⟨σ', ?_, z2⟩
  simp only [e166, s166_0, s166_1, s166_2, s166_3]
  exact z1
def fI (b : Option Nat) : Int32 := match b with
  | none => 268435456
  | some v => nI v
theorem grt_le {al : Nat → Nat} {B : Nat} (h : ∀ x, W x ≤ B) : ∀ k r g, g ≤ B → grt W al k r g ≤ B := by
  intro k
  induction k with
  | zero => intro r g hg; exact hg
  | succ k ih =>
    intro r g hg
    simp only [grt]
    by_cases q : r = 0
    · rw [if_pos q]; exact hg
    · rw [if_neg q]; exact ih _ _ (Nat.max_le.mpr ⟨hg, h _⟩)
theorem fI_min {b : Option Nat} {c : Nat} (hb : ∀ v, b = some v → v ≤ 1300) (hc : c ≤ 1300) : ir_min (fI b) (nI c) = fI (bmin b (some c)) := by
  cases b with
  | none =>
    show ir_min (nI 268435456) (nI c) = nI c
    rw [ir_min_n (by omega) (by omega), Nat.min_eq_right (by omega)]
  | some b =>
    have := hb b rfl
    show ir_min (nI b) (nI c) = _
    rw [ir_min_n (by omega) (by omega)]
    by_cases q : c < b
    · simp only [bmin, if_pos q, fI]
      rw [Nat.min_eq_right (by omega)]
    · simp only [bmin, if_neg q, fI]
      rw [Nat.min_eq_left (by omega)]
theorem m167_loop {d : Nat} (ht : TM σ0 K C A pr) (hC0 : 0 < C) (hs : s < 2 ^ C) (h0 : s ≠ 0) (hWb : ∀ x, W x ≤ 1200)
    (hW : ∀ x σ, s &&& x ≠ s → s &&& x ≠ 0 → (∀ c, c ≠ 57 → σ c = σ0 c) → MEMM σ C W → ∃ σ', ir_ev (d + 1) 167 [.ref 33, .int (nI (s &&& x))] σ = some (some (.int (nI (W (s &&& x)))), σ') ∧ (∀ c, c ≠ 57 → σ' c = σ0 c) ∧ MEMM σ' C W) :
    ∀ n l b σ, l + n = K → (∀ v, b = some v → v ≤ 1300) → (∀ c, c ≠ 57 → σ c = σ0 c) → MEMM σ C W →
      ∃ σ', ir_run (ir_ev (d + 2)) 167 (21, [.ref 33, .int (nI s), .int (fI b), .int (nI l)], [], σ) = ir_run (ir_ev (d + 2)) 167 (62, [.ref 33, .int (nI s), .int (fI (wmin (cst W (fun l => alN (A l) C) pr C s) n l b)), .int (nI K)], [], σ') ∧ (∀ c, c ≠ 57 → σ' c = σ0 c) ∧ MEMM σ' C W ∧ ∀ v, wmin (cst W (fun l => alN (A l) C) pr C s) n l b = some v → v ≤ 1300 := by
  obtain ⟨hK, hC, t1, t2, t3, t4⟩ := id ht
  have h4 := pC hC
  intro n
  induction n with
  | zero =>
    intro l b σ hl hb hag hM
    have hl : l = K := by omega
    subst hl
    refine ⟨σ, ?_, hag, hM, hb⟩
    have e26 : σ 33 26 = nI l := by rw [hag 33 (by decide)]; exact t2
    rw [s167_21]
    simp (disch := omega) only [s167_22, s167_23, s167_26, e26, n_lt_0, n_le_0, n_tl_0, n_el_0, n_eq_0, n_ad_0, n_lt_1, n_le_1, n_tl_1, n_el_1, n_eq_1, n_ad_1, n_lt_2, n_le_2, n_tl_2, n_el_2, n_eq_2, n_ad_2, n_lt_3, n_le_3, n_tl_3, n_el_3, n_eq_3, n_ad_3, n_lt_4, n_le_4, n_tl_4, n_el_4, n_eq_4, n_ad_4, n_lt_5, n_le_5, n_tl_5, n_el_5, n_eq_5, n_ad_5, n_lt_6, n_le_6, n_tl_6, n_el_6, n_eq_6, n_ad_6, n_lt_10, n_le_10, n_tl_10, n_el_10, n_eq_10, n_ad_10, n_lt_11, n_le_11, n_tl_11, n_el_11, n_eq_11, n_ad_11, n_lt_12, n_le_12, n_tl_12, n_el_12, n_eq_12, n_ad_12, n_lt_13, n_le_13, n_tl_13, n_el_13, n_eq_13, n_ad_13, n_lt_15, n_le_15, n_tl_15, n_el_15, n_eq_15, n_ad_15, n_lt_20, n_le_20, n_tl_20, n_el_20, n_eq_20, n_ad_20, n_lt_30, n_le_30, n_tl_30, n_el_30, n_eq_30, n_ad_30, n_lt_31, n_le_31, n_tl_31, n_el_31, n_eq_31, n_ad_31, n_lt_32, n_le_32, n_tl_32, n_el_32, n_eq_32, n_ad_32, n_lt_60, n_le_60, n_tl_60, n_el_60, n_eq_60, n_ad_60, n_lt_99, n_le_99, n_tl_99, n_el_99, n_eq_99, n_ad_99, n_lt_100, n_le_100, n_tl_100, n_el_100, n_eq_100, n_ad_100, n_lt_144, n_le_144, n_tl_144, n_el_144, n_eq_144, n_ad_144, n_lt_4096, n_le_4096, n_tl_4096, n_el_4096, n_eq_4096, n_ad_4096, n_mulK, nI_add, pk_mul, n_lt, n_le, n_eq, n_eqM, n_ix, n_cl, Nat.le_refl, if_true, wmin]
  | succ n ih =>
    intro l b σ hl hb hag hM
    have hlK : l < K := by omega
    have hl12 : l < 12 := by omega
    have q1 : ¬ K ≤ l := by omega
    have e26 : σ 33 26 = nI K := by rw [hag 33 (by decide)]; exact t2
    have hp := m162 (d := d) (TM_57 hag ht) hlK hs h0
    have hcg := cst_grt (W := W) (AA := A) (pr := pr) (l := l) hC hC0 hs h0
    simp only [wmin]
    by_cases e : s &&& alN (A l) C (lowN s) = s
    · rw [if_pos e] at hcg
      rw [hcg]
      have hbm : bmin b none = b := rfl
      rw [hbm]
      obtain ⟨σ', z1, z2⟩ := ih (l + 1) b σ (by omega) hb hag hM
      refine ⟨σ', ?_, z2⟩
      rw [s167_21]
      simp (disch := omega) only [s167_22, s167_23, s167_26, s167_29, s167_30, s167_31, s167_32, s167_35, s167_56, s167_59, e26, n_lt_0, n_le_0, n_tl_0, n_el_0, n_eq_0, n_ad_0, n_lt_1, n_le_1, n_tl_1, n_el_1, n_eq_1, n_ad_1, n_lt_2, n_le_2, n_tl_2, n_el_2, n_eq_2, n_ad_2, n_lt_3, n_le_3, n_tl_3, n_el_3, n_eq_3, n_ad_3, n_lt_4, n_le_4, n_tl_4, n_el_4, n_eq_4, n_ad_4, n_lt_5, n_le_5, n_tl_5, n_el_5, n_eq_5, n_ad_5, n_lt_6, n_le_6, n_tl_6, n_el_6, n_eq_6, n_ad_6, n_lt_10, n_le_10, n_tl_10, n_el_10, n_eq_10, n_ad_10, n_lt_11, n_le_11, n_tl_11, n_el_11, n_eq_11, n_ad_11, n_lt_12, n_le_12, n_tl_12, n_el_12, n_eq_12, n_ad_12, n_lt_13, n_le_13, n_tl_13, n_el_13, n_eq_13, n_ad_13, n_lt_15, n_le_15, n_tl_15, n_el_15, n_eq_15, n_ad_15, n_lt_20, n_le_20, n_tl_20, n_el_20, n_eq_20, n_ad_20, n_lt_30, n_le_30, n_tl_30, n_el_30, n_eq_30, n_ad_30, n_lt_31, n_le_31, n_tl_31, n_el_31, n_eq_31, n_ad_31, n_lt_32, n_le_32, n_tl_32, n_el_32, n_eq_32, n_ad_32, n_lt_60, n_le_60, n_tl_60, n_el_60, n_eq_60, n_ad_60, n_lt_99, n_le_99, n_tl_99, n_el_99, n_eq_99, n_ad_99, n_lt_100, n_le_100, n_tl_100, n_el_100, n_eq_100, n_ad_100, n_lt_144, n_le_144, n_tl_144, n_el_144, n_eq_144, n_ad_144, n_lt_4096, n_le_4096, n_tl_4096, n_el_4096, n_eq_4096, n_ad_4096, n_mulK, nI_add, pk_mul, n_lt, n_le, n_eq, n_eqM, n_ix, n_cl, if_neg q1, hp, e, decide_true, Bool.not_true, ir_b_f, ir_k_i, ir_tl_i, if_true]
      exact z1
    · rw [if_neg e] at hcg
      rw [hcg]
      obtain ⟨σ1, a1, a2, a3⟩ := m166 (d := d) ht hlK hs h0 e hWb hW hag hM
      have e55 : σ 55 l = nI (pr l) := by rw [hag 55 (by decide)]; exact (t4 l hlK).1
      have hg := grt_le (al := alN (A l) C) hWb C s 0 (Nat.zero_le _)
      have hpl := (t4 l hlK).2
      have hc : pr l + grt W (alN (A l) C) C s 0 ≤ 1300 := by omega
      have hmin := fI_min hb hc
      have hnb : ∀ v, bmin b (some (pr l + grt W (alN (A l) C) C s 0)) = some v → v ≤ 1300 := by
        intro v hv
        cases b with
        | none => cases hv; exact hc
        | some b =>
          by_cases q : pr l + grt W (alN (A l) C) C s 0 < b
          · simp only [bmin, if_pos q] at hv; cases hv; exact hc
          · simp only [bmin, if_neg q] at hv; cases hv; exact hb v rfl
      obtain ⟨σ', z1, z2⟩ := ih (l + 1) (bmin b (some (pr l + grt W (alN (A l) C) C s 0))) σ1 (by omega) hnb a2 a3
      refine ⟨σ', ?_, z2⟩
      have e1 : ¬ ((1 : Int32) = 0) := by decide
      rw [s167_21]
      simp (disch := omega) only [s167_22, s167_23, s167_26, s167_29, s167_30, s167_31, s167_32, s167_35, s167_38, s167_39, s167_40, s167_43, s167_44, s167_45, s167_46, s167_47, s167_48, s167_51, s167_52, s167_55, s167_56, s167_59, xA55, xL55, xa55, e26, e55, n_lt_0, n_le_0, n_tl_0, n_el_0, n_eq_0, n_ad_0, n_lt_1, n_le_1, n_tl_1, n_el_1, n_eq_1, n_ad_1, n_lt_2, n_le_2, n_tl_2, n_el_2, n_eq_2, n_ad_2, n_lt_3, n_le_3, n_tl_3, n_el_3, n_eq_3, n_ad_3, n_lt_4, n_le_4, n_tl_4, n_el_4, n_eq_4, n_ad_4, n_lt_5, n_le_5, n_tl_5, n_el_5, n_eq_5, n_ad_5, n_lt_6, n_le_6, n_tl_6, n_el_6, n_eq_6, n_ad_6, n_lt_10, n_le_10, n_tl_10, n_el_10, n_eq_10, n_ad_10, n_lt_11, n_le_11, n_tl_11, n_el_11, n_eq_11, n_ad_11, n_lt_12, n_le_12, n_tl_12, n_el_12, n_eq_12, n_ad_12, n_lt_13, n_le_13, n_tl_13, n_el_13, n_eq_13, n_ad_13, n_lt_15, n_le_15, n_tl_15, n_el_15, n_eq_15, n_ad_15, n_lt_20, n_le_20, n_tl_20, n_el_20, n_eq_20, n_ad_20, n_lt_30, n_le_30, n_tl_30, n_el_30, n_eq_30, n_ad_30, n_lt_31, n_le_31, n_tl_31, n_el_31, n_eq_31, n_ad_31, n_lt_32, n_le_32, n_tl_32, n_el_32, n_eq_32, n_ad_32, n_lt_60, n_le_60, n_tl_60, n_el_60, n_eq_60, n_ad_60, n_lt_99, n_le_99, n_tl_99, n_el_99, n_eq_99, n_ad_99, n_lt_100, n_le_100, n_tl_100, n_el_100, n_eq_100, n_ad_100, n_lt_144, n_le_144, n_tl_144, n_el_144, n_eq_144, n_ad_144, n_lt_4096, n_le_4096, n_tl_4096, n_el_4096, n_eq_4096, n_ad_4096, n_mulK, nI_add, pk_mul, n_lt, n_le, n_eq, n_eqM, n_ix, n_cl, if_neg q1, hl12, hp, e, decide_true, decide_false, Bool.not_false, ir_b_t, ir_k_i, ir_tl_i, if_true, if_neg e1, a1, hmin]
      exact z1
end MW
theorem m167 {K C : Nat} {A : Nat → Nat → Int32} {pr : Nat → Nat} {σ0 : ir_S} (ht : TM σ0 K C A pr) : ∀ n s d σ, popN s ≤ n → 0 < s → s < 2 ^ C → (∀ c, c ≠ 57 → σ c = σ0 c) → MEMM σ C (WV (fun l => alN (A l) C) pr K C 12) →
    ∃ σ', ir_ev (d + 2 * n + 1) 167 [.ref 33, .int (nI s)] σ = some (some (.int (nI (WV (fun l => alN (A l) C) pr K C 12 s))), σ') ∧ (∀ c, c ≠ 57 → σ' c = σ0 c) ∧ MEMM σ' C (WV (fun l => alN (A l) C) pr K C 12) := by
  obtain ⟨hK, hC, t1, t2, t3, t4⟩ := id ht
  have h4 := pC hC
  have hWb : ∀ x, WV (fun l => alN (A l) C) pr K C 12 x ≤ 1200 := fun x => WV_le (fun l hl => (t4 l hl).2) 12 x
  intro n
  induction n with
  | zero => intro s d σ h1 h0 hs _ _; have := pop_pos (s := s) (by omega) (by omega); omega
  | succ n ih =>
    intro s d σ hn h0 hs hag hM
    have hC0 : 0 < C := by
      rcases Nat.eq_zero_or_pos C with q | q
      · subst q; simp at hs; omega
      · exact q
    have q4 : s < 4096 := by omega
    rw [show d + 2 * (n + 1) + 1 = (d + 2 * n) + 2 + 1 by omega]
    have hb := hWb s
    rcases hM s h0 hs with hm | hm
    · have hW : ∀ x σ, s &&& x ≠ s → s &&& x ≠ 0 → (∀ c, c ≠ 57 → σ c = σ0 c) → MEMM σ C (WV (fun l => alN (A l) C) pr K C 12) → ∃ σ', ir_ev ((d + 2 * n) + 1) 167 [.ref 33, .int (nI (s &&& x))] σ = some (some (.int (nI (WV (fun l => alN (A l) C) pr K C 12 (s &&& x)))), σ') ∧ (∀ c, c ≠ 57 → σ' c = σ0 c) ∧ MEMM σ' C (WV (fun l => alN (A l) C) pr K C 12) := by
        intro x σ hx hx0 hag hM
        have hlt := pop_lt q4 (and_lt (b := x) q4) (fun i => and_sub) hx
        have hle : s &&& x ≤ s := Nat.and_le_left
        exact ih (s &&& x) d σ (by omega) (by omega) (by omega) hag hM
      obtain ⟨σ1, a1, a2, a3, a4⟩ := m167_loop (d := d + 2 * n) ht hC0 hs (by omega) hWb hW K 0 none σ (by omega) (fun v hv => by cases hv) hag hM
      have hfix := WV_fix (AL := fun l => alN (A l) C) (pr := pr) (K := K) (C := C) q4 (by omega)
      have e0 : ((-1 : Int32) < 0) := by decide
      refine ⟨ir_up σ1 57 s (nI (WV (fun l => alN (A l) C) pr K C 12 s)), ?_, fun c hc => by rw [u_n _ _ _ hc]; exact a2 c hc, fun s' h0' hs' => ?_⟩
      · simp (disch := omega) only [e167, s167_0, s167_1, s167_4, s167_5, s167_6, s167_16, s167_18, s167_19, s167_20, xA57, xL57, xa57, n_lt_0, n_le_0, n_tl_0, n_el_0, n_eq_0, n_ad_0, n_lt_1, n_le_1, n_tl_1, n_el_1, n_eq_1, n_ad_1, n_lt_2, n_le_2, n_tl_2, n_el_2, n_eq_2, n_ad_2, n_lt_3, n_le_3, n_tl_3, n_el_3, n_eq_3, n_ad_3, n_lt_4, n_le_4, n_tl_4, n_el_4, n_eq_4, n_ad_4, n_lt_5, n_le_5, n_tl_5, n_el_5, n_eq_5, n_ad_5, n_lt_6, n_le_6, n_tl_6, n_el_6, n_eq_6, n_ad_6, n_lt_10, n_le_10, n_tl_10, n_el_10, n_eq_10, n_ad_10, n_lt_11, n_le_11, n_tl_11, n_el_11, n_eq_11, n_ad_11, n_lt_12, n_le_12, n_tl_12, n_el_12, n_eq_12, n_ad_12, n_lt_13, n_le_13, n_tl_13, n_el_13, n_eq_13, n_ad_13, n_lt_15, n_le_15, n_tl_15, n_el_15, n_eq_15, n_ad_15, n_lt_20, n_le_20, n_tl_20, n_el_20, n_eq_20, n_ad_20, n_lt_30, n_le_30, n_tl_30, n_el_30, n_eq_30, n_ad_30, n_lt_31, n_le_31, n_tl_31, n_el_31, n_eq_31, n_ad_31, n_lt_32, n_le_32, n_tl_32, n_el_32, n_eq_32, n_ad_32, n_lt_60, n_le_60, n_tl_60, n_el_60, n_eq_60, n_ad_60, n_lt_99, n_le_99, n_tl_99, n_el_99, n_eq_99, n_ad_99, n_lt_100, n_le_100, n_tl_100, n_el_100, n_eq_100, n_ad_100, n_lt_144, n_le_144, n_tl_144, n_el_144, n_eq_144, n_ad_144, n_lt_4096, n_le_4096, n_tl_4096, n_el_4096, n_eq_4096, n_ad_4096, n_mulK, nI_add, pk_mul, n_lt, n_le, n_eq, n_eqM, n_ix, n_cl, hm, q4, e0, decide_true, if_true]
        refine Eq.trans a1 ?_
        cases hw : wmin (cst (WV (fun l => alN (A l) C) pr K C 12) (fun l => alN (A l) C) pr C s) K 0 none with
        | none =>
          rw [hw] at hfix
          rw [hfix]
          simp (disch := omega) only [s167_62, s167_63, s167_66, s167_67, s167_68, s167_70, s167_73, s167_74, s167_78, s167_79, s167_80, s167_83, s167_84, s167_85, xA57, xL57, xa57, n_lt_0, n_le_0, n_tl_0, n_el_0, n_eq_0, n_ad_0, n_lt_1, n_le_1, n_tl_1, n_el_1, n_eq_1, n_ad_1, n_lt_2, n_le_2, n_tl_2, n_el_2, n_eq_2, n_ad_2, n_lt_3, n_le_3, n_tl_3, n_el_3, n_eq_3, n_ad_3, n_lt_4, n_le_4, n_tl_4, n_el_4, n_eq_4, n_ad_4, n_lt_5, n_le_5, n_tl_5, n_el_5, n_eq_5, n_ad_5, n_lt_6, n_le_6, n_tl_6, n_el_6, n_eq_6, n_ad_6, n_lt_10, n_le_10, n_tl_10, n_el_10, n_eq_10, n_ad_10, n_lt_11, n_le_11, n_tl_11, n_el_11, n_eq_11, n_ad_11, n_lt_12, n_le_12, n_tl_12, n_el_12, n_eq_12, n_ad_12, n_lt_13, n_le_13, n_tl_13, n_el_13, n_eq_13, n_ad_13, n_lt_15, n_le_15, n_tl_15, n_el_15, n_eq_15, n_ad_15, n_lt_20, n_le_20, n_tl_20, n_el_20, n_eq_20, n_ad_20, n_lt_30, n_le_30, n_tl_30, n_el_30, n_eq_30, n_ad_30, n_lt_31, n_le_31, n_tl_31, n_el_31, n_eq_31, n_ad_31, n_lt_32, n_le_32, n_tl_32, n_el_32, n_eq_32, n_ad_32, n_lt_60, n_le_60, n_tl_60, n_el_60, n_eq_60, n_ad_60, n_lt_99, n_le_99, n_tl_99, n_el_99, n_eq_99, n_ad_99, n_lt_100, n_le_100, n_tl_100, n_el_100, n_eq_100, n_ad_100, n_lt_144, n_le_144, n_tl_144, n_el_144, n_eq_144, n_ad_144, n_lt_4096, n_le_4096, n_tl_4096, n_el_4096, n_eq_4096, n_ad_4096, n_mulK, nI_add, pk_mul, n_lt, n_le, n_eq, n_eqM, n_ix, n_cl, fI, q4, decide_true, if_true, u_s, upd_s, Option.getD_none]
          rfl
        | some v =>
          rw [hw] at hfix
          rw [hfix]
          have hv := a4 v hw
          have hne : ¬ (nI v = (268435456 : Int32)) := by
            intro q
            have q2 : nI v = nI 268435456 := q
            have := (nI_eq (by omega) (by omega)).mp q2
            omega
          simp (disch := omega) only [s167_62, s167_63, s167_66, s167_67, s167_68, s167_70, s167_77, s167_78, s167_79, s167_80, s167_83, s167_84, s167_85, xA57, xL57, xa57, n_lt_0, n_le_0, n_tl_0, n_el_0, n_eq_0, n_ad_0, n_lt_1, n_le_1, n_tl_1, n_el_1, n_eq_1, n_ad_1, n_lt_2, n_le_2, n_tl_2, n_el_2, n_eq_2, n_ad_2, n_lt_3, n_le_3, n_tl_3, n_el_3, n_eq_3, n_ad_3, n_lt_4, n_le_4, n_tl_4, n_el_4, n_eq_4, n_ad_4, n_lt_5, n_le_5, n_tl_5, n_el_5, n_eq_5, n_ad_5, n_lt_6, n_le_6, n_tl_6, n_el_6, n_eq_6, n_ad_6, n_lt_10, n_le_10, n_tl_10, n_el_10, n_eq_10, n_ad_10, n_lt_11, n_le_11, n_tl_11, n_el_11, n_eq_11, n_ad_11, n_lt_12, n_le_12, n_tl_12, n_el_12, n_eq_12, n_ad_12, n_lt_13, n_le_13, n_tl_13, n_el_13, n_eq_13, n_ad_13, n_lt_15, n_le_15, n_tl_15, n_el_15, n_eq_15, n_ad_15, n_lt_20, n_le_20, n_tl_20, n_el_20, n_eq_20, n_ad_20, n_lt_30, n_le_30, n_tl_30, n_el_30, n_eq_30, n_ad_30, n_lt_31, n_le_31, n_tl_31, n_el_31, n_eq_31, n_ad_31, n_lt_32, n_le_32, n_tl_32, n_el_32, n_eq_32, n_ad_32, n_lt_60, n_le_60, n_tl_60, n_el_60, n_eq_60, n_ad_60, n_lt_99, n_le_99, n_tl_99, n_el_99, n_eq_99, n_ad_99, n_lt_100, n_le_100, n_tl_100, n_el_100, n_eq_100, n_ad_100, n_lt_144, n_le_144, n_tl_144, n_el_144, n_eq_144, n_ad_144, n_lt_4096, n_le_4096, n_tl_4096, n_el_4096, n_eq_4096, n_ad_4096, n_mulK, nI_add, pk_mul, n_lt, n_le, n_eq, n_eqM, n_ix, n_cl, fI, q4, hne, decide_true, if_true, if_false, u_s, upd_s, Option.getD_some]
      · rw [u_s]
        by_cases e : s' = s
        · subst e; rw [upd_s]; exact Or.inr rfl
        · rw [upd_n _ _ e]; exact a3 s' h0' hs'
    · refine ⟨σ, ?_, hag, hM⟩
      have e0 : ¬ (WV (fun l => alN (A l) C) pr K C 12 s < 0) := by omega
      simp (disch := omega) only [e167, s167_0, s167_1, s167_4, s167_5, s167_6, s167_9, s167_10, s167_13, s167_14, s167_15, xA57, xL57, xa57, n_lt_0, n_le_0, n_tl_0, n_el_0, n_eq_0, n_ad_0, n_lt_1, n_le_1, n_tl_1, n_el_1, n_eq_1, n_ad_1, n_lt_2, n_le_2, n_tl_2, n_el_2, n_eq_2, n_ad_2, n_lt_3, n_le_3, n_tl_3, n_el_3, n_eq_3, n_ad_3, n_lt_4, n_le_4, n_tl_4, n_el_4, n_eq_4, n_ad_4, n_lt_5, n_le_5, n_tl_5, n_el_5, n_eq_5, n_ad_5, n_lt_6, n_le_6, n_tl_6, n_el_6, n_eq_6, n_ad_6, n_lt_10, n_le_10, n_tl_10, n_el_10, n_eq_10, n_ad_10, n_lt_11, n_le_11, n_tl_11, n_el_11, n_eq_11, n_ad_11, n_lt_12, n_le_12, n_tl_12, n_el_12, n_eq_12, n_ad_12, n_lt_13, n_le_13, n_tl_13, n_el_13, n_eq_13, n_ad_13, n_lt_15, n_le_15, n_tl_15, n_el_15, n_eq_15, n_ad_15, n_lt_20, n_le_20, n_tl_20, n_el_20, n_eq_20, n_ad_20, n_lt_30, n_le_30, n_tl_30, n_el_30, n_eq_30, n_ad_30, n_lt_31, n_le_31, n_tl_31, n_el_31, n_eq_31, n_ad_31, n_lt_32, n_le_32, n_tl_32, n_el_32, n_eq_32, n_ad_32, n_lt_60, n_le_60, n_tl_60, n_el_60, n_eq_60, n_ad_60, n_lt_99, n_le_99, n_tl_99, n_el_99, n_eq_99, n_ad_99, n_lt_100, n_le_100, n_tl_100, n_el_100, n_eq_100, n_ad_100, n_lt_144, n_le_144, n_tl_144, n_el_144, n_eq_144, n_ad_144, n_lt_4096, n_le_4096, n_tl_4096, n_el_4096, n_eq_4096, n_ad_4096, n_mulK, nI_add, pk_mul, n_lt, n_le, n_eq, n_eqM, n_ix, n_cl, hm, q4, e0, decide_true, if_true, if_false]
