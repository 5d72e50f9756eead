/-! the reference's nearest: measures by easing lines -/
/-- the reference's net: N nodes, m lines -/
def MN (σ : ir_S) (N m : Nat) : Prop := σ 33 1 = nI N ∧ N ≤ 12 ∧ σ 33 3 = nI m ∧ m ≤ 20 ∧ ∀ l, l < m → ∃ a b, a < N ∧ b < N ∧ a ≠ b ∧ σ 35 l = nI a ∧ σ 36 l = nI b
def adjM (σ : ir_S) (m a b : Nat) : Bool := decide (lnF (σ 35) (σ 36) (nI a) (nI b) m 0 ≠ -1)
def relM (σ : ir_S) (v : Nat) : Bool := decide (σ 34 v ≠ 0)
theorem lnF_none {A B : Nat → Int32} {a b : Int32} : ∀ {n i : Nat}, i + n ≤ 20 → (lnF A B a b n i = -1 ↔ ∀ l, i ≤ l → l < i + n → ¬ ((A l = a ∧ B l = b) ∨ (A l = b ∧ B l = a))) := by
  intro n
  induction n with
  | zero => intro i _; exact ⟨fun _ l h1 h2 => by omega, fun _ => rfl⟩
  | succ n ih =>
    intro i hi
    unfold lnF
    by_cases h : (A i = a ∧ B i = b) ∨ (A i = b ∧ B i = a)
    · rw [if_pos h, n_eqM (by omega)]
      exact ⟨fun h => h.elim, fun hh => hh i (by omega) (by omega) h⟩
    · rw [if_neg h, ih (by omega)]
      constructor
      · intro hh l h1 h2
        rcases Nat.lt_or_ge i l with q | q
        · exact hh l (by omega) (by omega)
        · rw [show l = i by omega]; exact h
      · intro hh l h1 h2
        exact hh l (by omega) (by omega)
theorem adjM_iff {σ : ir_S} {m a b : Nat} (hm : m ≤ 20) : adjM σ m a b = true ↔ ∃ l, l < m ∧ ((σ 35 l = nI a ∧ σ 36 l = nI b) ∨ (σ 35 l = nI b ∧ σ 36 l = nI a)) := by
  unfold adjM
  rw [decide_eq_true_iff]
  have h := lnF_none (A := σ 35) (B := σ 36) (a := nI a) (b := nI b) (n := m) (i := 0) (by omega)
  constructor
  · intro hn
    apply Classical.byContradiction
    intro hc
    exact hn (h.mpr (fun l _ h2 h3 => hc ⟨l, by omega, h3⟩))
  · rintro ⟨l, hl, hh⟩ he
    exact h.mp he l (by omega) (by omega) hh
theorem m140 {d a b : Nat} {σ : ir_S} (ha : a < 12) (hb : b < 12) : ir_ev (d + 1) 140 [.ref 33, .int (nI a), .int (nI b)] σ = some (none, if σ 34 a = 0 then σ else if σ 41 a ≤ σ 41 b + 1 then σ else ir_up σ 41 a (σ 41 b + 1)) := by
  simp (disch := omega) only [e140, s140_0, s140_1, s140_4, s140_5, s140_6, s140_40, s140_9, s140_10, s140_13, s140_14, s140_15, s140_16, s140_17, s140_18, s140_21, s140_22, s140_23, s140_26, s140_27, s140_30, s140_31, s140_32, s140_35, s140_36, s140_37, s140_38, s140_39, xA34, xL34, xa34, xA41, xL41, xa41, n_lt_0, n_le_0, n_tl_0, n_el_0, n_eq_0, n_ad_0, n_lt_1, n_le_1, n_tl_1, n_el_1, n_eq_1, n_ad_1, n_lt_2, n_le_2, n_tl_2, n_el_2, n_eq_2, n_ad_2, n_lt_3, n_le_3, n_tl_3, n_el_3, n_eq_3, n_ad_3, n_lt_4, n_le_4, n_tl_4, n_el_4, n_eq_4, n_ad_4, n_lt_5, n_le_5, n_tl_5, n_el_5, n_eq_5, n_ad_5, n_lt_6, n_le_6, n_tl_6, n_el_6, n_eq_6, n_ad_6, n_lt_10, n_le_10, n_tl_10, n_el_10, n_eq_10, n_ad_10, n_lt_11, n_le_11, n_tl_11, n_el_11, n_eq_11, n_ad_11, n_lt_12, n_le_12, n_tl_12, n_el_12, n_eq_12, n_ad_12, n_lt_13, n_le_13, n_tl_13, n_el_13, n_eq_13, n_ad_13, n_lt_15, n_le_15, n_tl_15, n_el_15, n_eq_15, n_ad_15, n_lt_20, n_le_20, n_tl_20, n_el_20, n_eq_20, n_ad_20, n_lt_30, n_le_30, n_tl_30, n_el_30, n_eq_30, n_ad_30, n_lt_31, n_le_31, n_tl_31, n_el_31, n_eq_31, n_ad_31, n_lt_32, n_le_32, n_tl_32, n_el_32, n_eq_32, n_ad_32, n_lt_60, n_le_60, n_tl_60, n_el_60, n_eq_60, n_ad_60, n_lt_99, n_le_99, n_tl_99, n_el_99, n_eq_99, n_ad_99, n_lt_100, n_le_100, n_tl_100, n_el_100, n_eq_100, n_ad_100, n_lt_144, n_le_144, n_tl_144, n_el_144, n_eq_144, n_ad_144, n_lt_4096, n_le_4096, n_tl_4096, n_el_4096, n_eq_4096, n_ad_4096, n_mulK, nI_add, pk_mul, n_lt, n_le, n_eq, n_eqM, n_ix, n_cl, ha, hb, decide_true, if_true]
  by_cases h1 : σ 34 a = 0
  · simp [h1]
  · by_cases h2 : σ 41 a ≤ σ 41 b + 1 <;> simp [h1, h2]
def FAR : Nat := 268435456
def FR (σ : ir_S) (N : Nat) (x : Nat → Nat) : Prop := ∀ v, v < N → σ 41 v = nI (x v) ∧ x v ≤ FAR
def ea (rel : Nat → Bool) (a b : Nat) (x : Nat → Nat) : Nat → Nat := if rel a = true ∧ x b + 1 < x a then va_up x a (x b + 1) else x
theorem m140e {d a b N : Nat} {σ : ir_S} {x : Nat → Nat} (hN : N ≤ 12) (ha : a < N) (hb : b < N) (hx : FR σ N x) : ∃ σ', ir_ev (d + 1) 140 [.ref 33, .int (nI a), .int (nI b)] σ = some (none, σ') ∧ (∀ c, c ≠ 41 → σ' c = σ c) ∧ FR σ' N (ea (relM σ) a b x) := by
  refine ⟨_, m140 (by omega) (by omega), ?_, ?_⟩
  · intro c hc
    by_cases h1 : σ 34 a = 0
    · rw [if_pos h1]
    · rw [if_neg h1]
      by_cases h2 : σ 41 a ≤ σ 41 b + 1
      · rw [if_pos h2]
      · rw [if_neg h2, u_n _ _ _ hc]
  · obtain ⟨a1, a2⟩ := hx a ha
    obtain ⟨b1, b2⟩ := hx b hb
    have hF : FAR = 268435456 := rfl
    have hle : (σ 41 a ≤ σ 41 b + 1) = (x a ≤ x b + 1) := by
      rw [a1, b1, nI_1]
      exact n_le (by omega) (by omega)
    unfold ea relM
    by_cases h1 : σ 34 a = 0
    · rw [if_pos h1, if_neg (by simp [h1])]
      exact hx
    · rw [if_neg h1]
      by_cases h2 : x a ≤ x b + 1
      · rw [if_pos (by rw [hle]; exact h2), if_neg (by intro q; omega)]
        exact hx
      · rw [if_neg (by rw [hle]; exact h2), if_pos ⟨by simp [h1], by omega⟩]
        intro v hv
        rw [u_s]
        by_cases e : v = a
        · subst e
          rw [upd_s, va_up_self, b1, nI_1]
          exact ⟨rfl, by omega⟩
        · rw [upd_n _ _ e, va_up_ne _ _ e]
          exact hx v hv
section PASS
variable {N m t : Nat} {adj : Nat → Nat → Bool} {rel : Nat → Bool} {LA LB : Nat → Nat}
def Snd (N : Nat) (adj : Nat → Nat → Bool) (rel : Nat → Bool) (t : Nat) (x : Nat → Nat) : Prop := ∀ v, v < N → x v ≤ FAR ∧ (x v < FAR → lev N adj rel t (x v) v = true)
def Cmp (N : Nat) (adj : Nat → Nat → Bool) (rel : Nat → Bool) (t r : Nat) (x : Nat → Nat) : Prop := ∀ v k, v < N → k ≤ r → lev N adj rel t k v = true → x v ≤ k
/-- the line of a and b was eased in this round -/
def Eas (N : Nat) (adj : Nat → Nat → Bool) (rel : Nat → Bool) (t r a b : Nat) (x : Nat → Nat) : Prop := rel a = true → lev N adj rel t r b = true → x a ≤ r + 1
theorem ea_le (rel : Nat → Bool) (a b : Nat) (x : Nat → Nat) (v : Nat) : ea rel a b x v ≤ x v := by
  unfold ea
  by_cases h : rel a = true ∧ x b + 1 < x a
  · rw [if_pos h]
    by_cases e : v = a
    · subst e; rw [va_up_self]; omega
    · rw [va_up_ne _ _ e]; exact Nat.le_refl _
  · rw [if_neg h]; exact Nat.le_refl _
theorem ea_Snd {a b : Nat} {x : Nat → Nat} (ha : adj a b = true) (hb : b < N) (h : Snd N adj rel t x) : Snd N adj rel t (ea rel a b x) := by
  intro v hv
  refine ⟨Nat.le_trans (ea_le rel a b x v) (h v hv).1, ?_⟩
  unfold ea
  by_cases hc : rel a = true ∧ x b + 1 < x a
  · rw [if_pos hc]
    by_cases e : v = a
    · subst e
      rw [va_up_self]
      intro _
      exact lev_step hc.1 ha hb ((h b hb).2 (by have := (h v hv).1; omega))
    · rw [va_up_ne _ _ e]
      exact (h v hv).2
  · rw [if_neg hc]
    exact (h v hv).2
theorem ea_Cmp {a b r : Nat} {x : Nat → Nat} (h : Cmp N adj rel t r x) : Cmp N adj rel t r (ea rel a b x) := fun v k hv hk hl => Nat.le_trans (ea_le rel a b x v) (h v k hv hk hl)
theorem ea_Eas {a b a' b' r : Nat} {x : Nat → Nat} (h : Eas N adj rel t r a' b' x) : Eas N adj rel t r a' b' (ea rel a b x) := fun h1 h2 => Nat.le_trans (ea_le rel a b x a') (h h1 h2)
theorem ea_self {a b r : Nat} {x : Nat → Nat} (hb : b < N) (h : Cmp N adj rel t r x) : Eas N adj rel t r a b (ea rel a b x) := by
  intro h1 h2
  have h3 := h b r hb (Nat.le_refl _) h2
  unfold ea
  by_cases hc : rel a = true ∧ x b + 1 < x a
  · rw [if_pos hc, va_up_self]; omega
  · rw [if_neg hc]
    have : ¬ x b + 1 < x a := fun q => hc ⟨h1, q⟩
    omega
end PASS
/-! measures -/
def LN (σ : ir_S) (m N : Nat) (LA LB : Nat → Nat) : Prop := ∀ l, l < m → LA l < N ∧ LB l < N ∧ LA l ≠ LB l ∧ σ 35 l = nI (LA l) ∧ σ 36 l = nI (LB l)
theorem m139_in {d N m t r : Nat} {T L2 : Value} {σ0 : ir_S} {LA LB : Nat → Nat} (hN : N ≤ 12) (hm : m ≤ 20) (hlm : σ0 33 3 = nI m) (hL : LN σ0 m N LA LB) : ∀ n i σ x, i + n = m → (∀ c, c ≠ 41 → σ c = σ0 c) → FR σ N x → Snd N (adjM σ0 m) (relM σ0) t x → Cmp N (adjM σ0 m) (relM σ0) t r x → (∀ l, l < i → Eas N (adjM σ0 m) (relM σ0) t r (LA l) (LB l) x ∧ Eas N (adjM σ0 m) (relM σ0) t r (LB l) (LA l) x) →
    ∃ σ' x', ir_run (ir_ev (d + 1)) 139 (45, [.ref 33, T, L2, .int (nI i)], [], σ) = ir_run (ir_ev (d + 1)) 139 (91, [.ref 33, T, L2, .int (nI m)], [], σ') ∧ (∀ c, c ≠ 41 → σ' c = σ0 c) ∧ FR σ' N x' ∧ Snd N (adjM σ0 m) (relM σ0) t x' ∧ Cmp N (adjM σ0 m) (relM σ0) t r x' ∧ (∀ l, l < m → Eas N (adjM σ0 m) (relM σ0) t r (LA l) (LB l) x' ∧ Eas N (adjM σ0 m) (relM σ0) t r (LB l) (LA l) x') := by
  intro n
  induction n with
  | zero =>
    intro i σ x hi hag hx hS hC hE
    have hi : i = m := by omega
    subst hi
    refine ⟨σ, x, ?_, hag, hx, hS, hC, hE⟩
    have e : σ 33 3 = nI i := by rw [hag 33 (by decide)]; exact hlm
    rw [s139_45]
    simp (disch := omega) only [s139_46, s139_47, s139_50, e, n_lt_0, n_le_0, n_tl_0, n_el_0, n_eq_0, n_ad_0, n_lt_1, n_le_1, n_tl_1, n_el_1, n_eq_1, n_ad_1, n_lt_2, n_le_2, n_tl_2, n_el_2, n_eq_2, n_ad_2, n_lt_3, n_le_3, n_tl_3, n_el_3, n_eq_3, n_ad_3, n_lt_4, n_le_4, n_tl_4, n_el_4, n_eq_4, n_ad_4, n_lt_5, n_le_5, n_tl_5, n_el_5, n_eq_5, n_ad_5, n_lt_6, n_le_6, n_tl_6, n_el_6, n_eq_6, n_ad_6, n_lt_10, n_le_10, n_tl_10, n_el_10, n_eq_10, n_ad_10, n_lt_11, n_le_11, n_tl_11, n_el_11, n_eq_11, n_ad_11, n_lt_12, n_le_12, n_tl_12, n_el_12, n_eq_12, n_ad_12, n_lt_13, n_le_13, n_tl_13, n_el_13, n_eq_13, n_ad_13, n_lt_15, n_le_15, n_tl_15, n_el_15, n_eq_15, n_ad_15, n_lt_20, n_le_20, n_tl_20, n_el_20, n_eq_20, n_ad_20, n_lt_30, n_le_30, n_tl_30, n_el_30, n_eq_30, n_ad_30, n_lt_31, n_le_31, n_tl_31, n_el_31, n_eq_31, n_ad_31, n_lt_32, n_le_32, n_tl_32, n_el_32, n_eq_32, n_ad_32, n_lt_60, n_le_60, n_tl_60, n_el_60, n_eq_60, n_ad_60, n_lt_99, n_le_99, n_tl_99, n_el_99, n_eq_99, n_ad_99, n_lt_100, n_le_100, n_tl_100, n_el_100, n_eq_100, n_ad_100, n_lt_144, n_le_144, n_tl_144, n_el_144, n_eq_144, n_ad_144, n_lt_4096, n_le_4096, n_tl_4096, n_el_4096, n_eq_4096, n_ad_4096, n_mulK, nI_add, pk_mul, n_lt, n_le, n_eq, n_eqM, n_ix, n_cl, Nat.le_refl, if_true]
  | succ n ih =>
    intro i σ x hi hag hx hS hC hE
    have hlt : i < m := by omega
    obtain ⟨g1, g2, g3, g4, g5⟩ := hL i hlt
    have e : σ 33 3 = nI m := by rw [hag 33 (by decide)]; exact hlm
    have e35 : σ 35 i = nI (LA i) := by rw [hag 35 (by decide)]; exact g4
    have e36 : σ 36 i = nI (LB i) := by rw [hag 36 (by decide)]; exact g5
    have hr : relM σ = relM σ0 := by unfold relM; rw [hag 34 (by decide)]
    have hadj1 : adjM σ0 m (LA i) (LB i) = true := (adjM_iff hm).mpr ⟨i, hlt, Or.inl ⟨g4, g5⟩⟩
    have hadj2 : adjM σ0 m (LB i) (LA i) = true := (adjM_iff hm).mpr ⟨i, hlt, Or.inr ⟨g4, g5⟩⟩
    obtain ⟨σ1, a1, a2, a3⟩ := m140e (d := d) hN g1 g2 hx
    rw [hr] at a3
    have hr1 : relM σ1 = relM σ0 := by unfold relM; rw [a2 34 (by decide), hag 34 (by decide)]
    obtain ⟨σ2, b1, b2, b3⟩ := m140e (d := d) hN g2 g1 a3
    rw [hr1] at b3
    have f35 : σ1 35 i = nI (LA i) := by rw [a2 35 (by decide)]; exact e35
    have f36 : σ1 36 i = nI (LB i) := by rw [a2 36 (by decide)]; exact e36
    have q1 : ¬ m ≤ i := by omega
    have q2 : i < 20 := by omega
    have hC1 := ea_Cmp (a := LA i) (b := LB i) hC
    obtain ⟨σ', x', z1, z2⟩ := ih (i + 1) σ2 _ (by omega) (fun c hc => by rw [b2 c hc, a2 c hc, hag c hc]) b3 (ea_Snd hadj2 g1 (ea_Snd hadj1 g2 hS)) (ea_Cmp hC1) (fun l hl => by
      rcases Nat.lt_or_ge l i with q | q
      · exact ⟨ea_Eas (ea_Eas (hE l q).1), ea_Eas (ea_Eas (hE l q).2)⟩
      · rw [show l = i by omega]
        exact ⟨ea_Eas (ea_self g2 hC), ea_self g1 hC1⟩)
    refine ⟨σ', x', ?_, z2⟩
    rw [s139_45]
    simp (disch := omega) only [e139, s139_0, s139_1, s139_3, s139_4, s139_7, s139_33, s139_10, s139_34, s139_11, s139_14, s139_36, s139_15, s139_37, s139_16, s139_40, s139_17, s139_97, s139_43, s139_24, s139_20, s139_44, s139_26, s139_21, s139_27, s139_46, s139_30, s139_47, s139_50, s139_53, s139_94, s139_54, s139_55, s139_58, s139_59, s139_60, s139_61, s139_64, s139_65, s139_66, s139_69, s139_70, s139_71, s139_74, s139_75, s139_76, s139_77, s139_80, s139_81, s139_82, s139_85, s139_88, xA35, xL35, xa35, xA36, xL36, xa36, e, e35, e36, f35, f36, a1, b1, n_lt_0, n_le_0, n_tl_0, n_el_0, n_eq_0, n_ad_0, n_lt_1, n_le_1, n_tl_1, n_el_1, n_eq_1, n_ad_1, n_lt_2, n_le_2, n_tl_2, n_el_2, n_eq_2, n_ad_2, n_lt_3, n_le_3, n_tl_3, n_el_3, n_eq_3, n_ad_3, n_lt_4, n_le_4, n_tl_4, n_el_4, n_eq_4, n_ad_4, n_lt_5, n_le_5, n_tl_5, n_el_5, n_eq_5, n_ad_5, n_lt_6, n_le_6, n_tl_6, n_el_6, n_eq_6, n_ad_6, n_lt_10, n_le_10, n_tl_10, n_el_10, n_eq_10, n_ad_10, n_lt_11, n_le_11, n_tl_11, n_el_11, n_eq_11, n_ad_11, n_lt_12, n_le_12, n_tl_12, n_el_12, n_eq_12, n_ad_12, n_lt_13, n_le_13, n_tl_13, n_el_13, n_eq_13, n_ad_13, n_lt_15, n_le_15, n_tl_15, n_el_15, n_eq_15, n_ad_15, n_lt_20, n_le_20, n_tl_20, n_el_20, n_eq_20, n_ad_20, n_lt_30, n_le_30, n_tl_30, n_el_30, n_eq_30, n_ad_30, n_lt_31, n_le_31, n_tl_31, n_el_31, n_eq_31, n_ad_31, n_lt_32, n_le_32, n_tl_32, n_el_32, n_eq_32, n_ad_32, n_lt_60, n_le_60, n_tl_60, n_el_60, n_eq_60, n_ad_60, n_lt_99, n_le_99, n_tl_99, n_el_99, n_eq_99, n_ad_99, n_lt_100, n_le_100, n_tl_100, n_el_100, n_eq_100, n_ad_100, n_lt_144, n_le_144, n_tl_144, n_el_144, n_eq_144, n_ad_144, n_lt_4096, n_le_4096, n_tl_4096, n_el_4096, n_eq_4096, n_ad_4096, n_mulK, nI_add, pk_mul, n_lt, n_le, n_eq, n_eqM, n_ix, n_cl, if_neg q1, q2, decide_true, if_true, ir_k_v, ir_tl_v]
    exact z1
theorem m139_out {d N m t : Nat} {T : Value} {σ0 : ir_S} {LA LB : Nat → Nat} (hN : N ≤ 12) (hm : m ≤ 20) (hnn : σ0 33 1 = nI N) (hlm : σ0 33 3 = nI m) (hL : LN σ0 m N LA LB) : ∀ n r σ x l3, r + n = N → (∀ c, c ≠ 41 → σ c = σ0 c) → FR σ N x → Snd N (adjM σ0 m) (relM σ0) t x → Cmp N (adjM σ0 m) (relM σ0) t r x →
    ∃ σ' x', ir_run (ir_ev (d + 1)) 139 (35, [.ref 33, T, .int (nI r), l3], [], σ) = some (none, σ') ∧ (∀ c, c ≠ 41 → σ' c = σ0 c) ∧ FR σ' N x' ∧ Snd N (adjM σ0 m) (relM σ0) t x' ∧ Cmp N (adjM σ0 m) (relM σ0) t N x' := by
  intro n
  induction n with
  | zero =>
    intro r σ x l3 hr hag hx hS hC
    have hr : r = N := by omega
    subst hr
    refine ⟨σ, x, ?_, hag, hx, hS, hC⟩
    have e : σ 33 1 = nI r := by rw [hag 33 (by decide)]; exact hnn
    rw [s139_35]
    simp (disch := omega) only [s139_36, s139_37, s139_40, s139_97, e, n_lt_0, n_le_0, n_tl_0, n_el_0, n_eq_0, n_ad_0, n_lt_1, n_le_1, n_tl_1, n_el_1, n_eq_1, n_ad_1, n_lt_2, n_le_2, n_tl_2, n_el_2, n_eq_2, n_ad_2, n_lt_3, n_le_3, n_tl_3, n_el_3, n_eq_3, n_ad_3, n_lt_4, n_le_4, n_tl_4, n_el_4, n_eq_4, n_ad_4, n_lt_5, n_le_5, n_tl_5, n_el_5, n_eq_5, n_ad_5, n_lt_6, n_le_6, n_tl_6, n_el_6, n_eq_6, n_ad_6, n_lt_10, n_le_10, n_tl_10, n_el_10, n_eq_10, n_ad_10, n_lt_11, n_le_11, n_tl_11, n_el_11, n_eq_11, n_ad_11, n_lt_12, n_le_12, n_tl_12, n_el_12, n_eq_12, n_ad_12, n_lt_13, n_le_13, n_tl_13, n_el_13, n_eq_13, n_ad_13, n_lt_15, n_le_15, n_tl_15, n_el_15, n_eq_15, n_ad_15, n_lt_20, n_le_20, n_tl_20, n_el_20, n_eq_20, n_ad_20, n_lt_30, n_le_30, n_tl_30, n_el_30, n_eq_30, n_ad_30, n_lt_31, n_le_31, n_tl_31, n_el_31, n_eq_31, n_ad_31, n_lt_32, n_le_32, n_tl_32, n_el_32, n_eq_32, n_ad_32, n_lt_60, n_le_60, n_tl_60, n_el_60, n_eq_60, n_ad_60, n_lt_99, n_le_99, n_tl_99, n_el_99, n_eq_99, n_ad_99, n_lt_100, n_le_100, n_tl_100, n_el_100, n_eq_100, n_ad_100, n_lt_144, n_le_144, n_tl_144, n_el_144, n_eq_144, n_ad_144, n_lt_4096, n_le_4096, n_tl_4096, n_el_4096, n_eq_4096, n_ad_4096, n_mulK, nI_add, pk_mul, n_lt, n_le, n_eq, n_eqM, n_ix, n_cl, Nat.le_refl, if_true]
  | succ n ih =>
    intro r σ x l3 hr hag hx hS hC
    have e : σ 33 1 = nI N := by rw [hag 33 (by decide)]; exact hnn
    have q1 : ¬ N ≤ r := by omega
    obtain ⟨σ1, x1, a1, a2, a3, a4, a5, a6⟩ := m139_in (d := d) (t := t) (r := r) (T := T) (L2 := .int (nI r)) hN hm hlm hL m 0 σ x (by omega) hag hx hS hC (fun l hl => by omega)
    have hC1 : Cmp N (adjM σ0 m) (relM σ0) t (r + 1) x1 := by
      intro v k hv hk hl
      rcases Nat.lt_or_ge k (r + 1) with q | q
      · exact a5 v k hv (by omega) hl
      · have hk1 : k = r + 1 := by omega
        subst hk1
        rcases lev_inv hl with h | ⟨h1, b, hb, h2, h3⟩
        · have := a5 v r hv (Nat.le_refl _) h
          omega
        · obtain ⟨l, hl1, hl2⟩ := (adjM_iff hm).mp h2
          obtain ⟨g1, g2, g3, g4, g5⟩ := hL l hl1
          rw [g4, g5] at hl2
          rcases hl2 with ⟨y1, y2⟩ | ⟨y1, y2⟩
          · have y1 : LA l = v := (nI_eq (by omega) (by omega)).mp y1
            have y2 : LB l = b := (nI_eq (by omega) (by omega)).mp y2
            have := (a6 l hl1).1
            rw [y1, y2] at this
            exact this h1 h3
          · have y1 : LA l = b := (nI_eq (by omega) (by omega)).mp y1
            have y2 : LB l = v := (nI_eq (by omega) (by omega)).mp y2
            have := (a6 l hl1).2
            rw [y1, y2] at this
            exact this h1 h3
    obtain ⟨σ', x', z1, z2⟩ := ih (r + 1) σ1 x1 (.int (nI m)) (by omega) a2 a3 a4 hC1
    refine ⟨σ', x', ?_, z2⟩
    rw [s139_35]
    simp (disch := omega) only [s139_36, s139_37, s139_40, s139_43, s139_44, e, n_lt_0, n_le_0, n_tl_0, n_el_0, n_eq_0, n_ad_0, n_lt_1, n_le_1, n_tl_1, n_el_1, n_eq_1, n_ad_1, n_lt_2, n_le_2, n_tl_2, n_el_2, n_eq_2, n_ad_2, n_lt_3, n_le_3, n_tl_3, n_el_3, n_eq_3, n_ad_3, n_lt_4, n_le_4, n_tl_4, n_el_4, n_eq_4, n_ad_4, n_lt_5, n_le_5, n_tl_5, n_el_5, n_eq_5, n_ad_5, n_lt_6, n_le_6, n_tl_6, n_el_6, n_eq_6, n_ad_6, n_lt_10, n_le_10, n_tl_10, n_el_10, n_eq_10, n_ad_10, n_lt_11, n_le_11, n_tl_11, n_el_11, n_eq_11, n_ad_11, n_lt_12, n_le_12, n_tl_12, n_el_12, n_eq_12, n_ad_12, n_lt_13, n_le_13, n_tl_13, n_el_13, n_eq_13, n_ad_13, n_lt_15, n_le_15, n_tl_15, n_el_15, n_eq_15, n_ad_15, n_lt_20, n_le_20, n_tl_20, n_el_20, n_eq_20, n_ad_20, n_lt_30, n_le_30, n_tl_30, n_el_30, n_eq_30, n_ad_30, n_lt_31, n_le_31, n_tl_31, n_el_31, n_eq_31, n_ad_31, n_lt_32, n_le_32, n_tl_32, n_el_32, n_eq_32, n_ad_32, n_lt_60, n_le_60, n_tl_60, n_el_60, n_eq_60, n_ad_60, n_lt_99, n_le_99, n_tl_99, n_el_99, n_eq_99, n_ad_99, n_lt_100, n_le_100, n_tl_100, n_el_100, n_eq_100, n_ad_100, n_lt_144, n_le_144, n_tl_144, n_el_144, n_eq_144, n_ad_144, n_lt_4096, n_le_4096, n_tl_4096, n_el_4096, n_eq_4096, n_ad_4096, n_mulK, nI_add, pk_mul, n_lt, n_le, n_eq, n_eqM, n_ix, n_cl, if_neg q1]
    rw [show (0 : Int32) = nI 0 from rfl, a1]
    simp (disch := omega) only [s139_91, s139_94, n_lt_0, n_le_0, n_tl_0, n_el_0, n_eq_0, n_ad_0, n_lt_1, n_le_1, n_tl_1, n_el_1, n_eq_1, n_ad_1, n_lt_2, n_le_2, n_tl_2, n_el_2, n_eq_2, n_ad_2, n_lt_3, n_le_3, n_tl_3, n_el_3, n_eq_3, n_ad_3, n_lt_4, n_le_4, n_tl_4, n_el_4, n_eq_4, n_ad_4, n_lt_5, n_le_5, n_tl_5, n_el_5, n_eq_5, n_ad_5, n_lt_6, n_le_6, n_tl_6, n_el_6, n_eq_6, n_ad_6, n_lt_10, n_le_10, n_tl_10, n_el_10, n_eq_10, n_ad_10, n_lt_11, n_le_11, n_tl_11, n_el_11, n_eq_11, n_ad_11, n_lt_12, n_le_12, n_tl_12, n_el_12, n_eq_12, n_ad_12, n_lt_13, n_le_13, n_tl_13, n_el_13, n_eq_13, n_ad_13, n_lt_15, n_le_15, n_tl_15, n_el_15, n_eq_15, n_ad_15, n_lt_20, n_le_20, n_tl_20, n_el_20, n_eq_20, n_ad_20, n_lt_30, n_le_30, n_tl_30, n_el_30, n_eq_30, n_ad_30, n_lt_31, n_le_31, n_tl_31, n_el_31, n_eq_31, n_ad_31, n_lt_32, n_le_32, n_tl_32, n_el_32, n_eq_32, n_ad_32, n_lt_60, n_le_60, n_tl_60, n_el_60, n_eq_60, n_ad_60, n_lt_99, n_le_99, n_tl_99, n_el_99, n_eq_99, n_ad_99, n_lt_100, n_le_100, n_tl_100, n_el_100, n_eq_100, n_ad_100, n_lt_144, n_le_144, n_tl_144, n_el_144, n_eq_144, n_ad_144, n_lt_4096, n_le_4096, n_tl_4096, n_el_4096, n_eq_4096, n_ad_4096, n_mulK, nI_add, pk_mul, n_lt, n_le, n_eq, n_eqM, n_ix, n_cl]
    exact z1
theorem m139_ini {d N t : Nat} {l3 : Value} {σ0 : ir_S} (hN : N ≤ 12) (ht : t < N) (hnn : σ0 33 1 = nI N) : ∀ n i σ, i + n = N → (∀ c, c ≠ 41 → σ c = σ0 c) → (∀ v, v < i → σ 41 v = nI (if v = t then 0 else FAR)) →
    ∃ σ', ir_run (ir_ev (d + 1)) 139 (2, [.ref 33, .int (nI t), .int (nI i), l3], [], σ) = ir_run (ir_ev (d + 1)) 139 (33, [.ref 33, .int (nI t), .int (nI N), l3], [], σ') ∧ (∀ c, c ≠ 41 → σ' c = σ0 c) ∧ ∀ v, v < N → σ' 41 v = nI (if v = t then 0 else FAR) := by
  intro n
  induction n with
  | zero =>
    intro i σ hi hag hx
    have hi : i = N := by omega
    subst hi
    refine ⟨σ, ?_, hag, hx⟩
    have e : σ 33 1 = nI i := by rw [hag 33 (by decide)]; exact hnn
    rw [s139_2]
    simp (disch := omega) only [s139_3, s139_4, s139_7, e, n_lt_0, n_le_0, n_tl_0, n_el_0, n_eq_0, n_ad_0, n_lt_1, n_le_1, n_tl_1, n_el_1, n_eq_1, n_ad_1, n_lt_2, n_le_2, n_tl_2, n_el_2, n_eq_2, n_ad_2, n_lt_3, n_le_3, n_tl_3, n_el_3, n_eq_3, n_ad_3, n_lt_4, n_le_4, n_tl_4, n_el_4, n_eq_4, n_ad_4, n_lt_5, n_le_5, n_tl_5, n_el_5, n_eq_5, n_ad_5, n_lt_6, n_le_6, n_tl_6, n_el_6, n_eq_6, n_ad_6, n_lt_10, n_le_10, n_tl_10, n_el_10, n_eq_10, n_ad_10, n_lt_11, n_le_11, n_tl_11, n_el_11, n_eq_11, n_ad_11, n_lt_12, n_le_12, n_tl_12, n_el_12, n_eq_12, n_ad_12, n_lt_13, n_le_13, n_tl_13, n_el_13, n_eq_13, n_ad_13, n_lt_15, n_le_15, n_tl_15, n_el_15, n_eq_15, n_ad_15, n_lt_20, n_le_20, n_tl_20, n_el_20, n_eq_20, n_ad_20, n_lt_30, n_le_30, n_tl_30, n_el_30, n_eq_30, n_ad_30, n_lt_31, n_le_31, n_tl_31, n_el_31, n_eq_31, n_ad_31, n_lt_32, n_le_32, n_tl_32, n_el_32, n_eq_32, n_ad_32, n_lt_60, n_le_60, n_tl_60, n_el_60, n_eq_60, n_ad_60, n_lt_99, n_le_99, n_tl_99, n_el_99, n_eq_99, n_ad_99, n_lt_100, n_le_100, n_tl_100, n_el_100, n_eq_100, n_ad_100, n_lt_144, n_le_144, n_tl_144, n_el_144, n_eq_144, n_ad_144, n_lt_4096, n_le_4096, n_tl_4096, n_el_4096, n_eq_4096, n_ad_4096, n_mulK, nI_add, pk_mul, n_lt, n_le, n_eq, n_eqM, n_ix, n_cl, Nat.le_refl, if_true]
  | succ n ih =>
    intro i σ hi hag hx
    have e : σ 33 1 = nI N := by rw [hag 33 (by decide)]; exact hnn
    have q1 : ¬ N ≤ i := by omega
    have q2 : i < 12 := by omega
    have hF : (268435456 : Int32) = nI FAR := rfl
    obtain ⟨σ', z1, z2⟩ := ih (i + 1) (ir_up σ 41 i (nI (if i = t then 0 else FAR))) (by omega) (fun c hc => by rw [u_n _ _ _ hc, hag c hc]) (fun v hv => by
      rw [u_s]
      by_cases ev : v = i
      · rw [ev, upd_s]
      · rw [upd_n _ _ ev]
        exact hx v (by omega))
    refine ⟨σ', ?_, z2⟩
    rw [s139_2]
    by_cases hit : i = t
    · subst hit
      rw [if_pos rfl] at z1
      simp (disch := omega) only [e139, s139_0, s139_1, s139_3, s139_4, s139_7, s139_10, s139_34, s139_11, s139_35, s139_14, s139_36, s139_15, s139_37, s139_16, s139_40, s139_17, s139_97, s139_43, s139_24, s139_20, s139_44, s139_26, s139_21, s139_45, s139_27, s139_46, s139_30, s139_47, s139_50, s139_91, s139_53, s139_94, s139_54, s139_55, s139_58, s139_59, s139_60, s139_61, s139_64, s139_65, s139_66, s139_69, s139_70, s139_71, s139_74, s139_75, s139_76, s139_77, s139_80, s139_81, s139_82, s139_85, s139_88, xA41, xL41, xa41, e, n_lt_0, n_le_0, n_tl_0, n_el_0, n_eq_0, n_ad_0, n_lt_1, n_le_1, n_tl_1, n_el_1, n_eq_1, n_ad_1, n_lt_2, n_le_2, n_tl_2, n_el_2, n_eq_2, n_ad_2, n_lt_3, n_le_3, n_tl_3, n_el_3, n_eq_3, n_ad_3, n_lt_4, n_le_4, n_tl_4, n_el_4, n_eq_4, n_ad_4, n_lt_5, n_le_5, n_tl_5, n_el_5, n_eq_5, n_ad_5, n_lt_6, n_le_6, n_tl_6, n_el_6, n_eq_6, n_ad_6, n_lt_10, n_le_10, n_tl_10, n_el_10, n_eq_10, n_ad_10, n_lt_11, n_le_11, n_tl_11, n_el_11, n_eq_11, n_ad_11, n_lt_12, n_le_12, n_tl_12, n_el_12, n_eq_12, n_ad_12, n_lt_13, n_le_13, n_tl_13, n_el_13, n_eq_13, n_ad_13, n_lt_15, n_le_15, n_tl_15, n_el_15, n_eq_15, n_ad_15, n_lt_20, n_le_20, n_tl_20, n_el_20, n_eq_20, n_ad_20, n_lt_30, n_le_30, n_tl_30, n_el_30, n_eq_30, n_ad_30, n_lt_31, n_le_31, n_tl_31, n_el_31, n_eq_31, n_ad_31, n_lt_32, n_le_32, n_tl_32, n_el_32, n_eq_32, n_ad_32, n_lt_60, n_le_60, n_tl_60, n_el_60, n_eq_60, n_ad_60, n_lt_99, n_le_99, n_tl_99, n_el_99, n_eq_99, n_ad_99, n_lt_100, n_le_100, n_tl_100, n_el_100, n_eq_100, n_ad_100, n_lt_144, n_le_144, n_tl_144, n_el_144, n_eq_144, n_ad_144, n_lt_4096, n_le_4096, n_tl_4096, n_el_4096, n_eq_4096, n_ad_4096, n_mulK, nI_add, pk_mul, n_lt, n_le, n_eq, n_eqM, n_ix, n_cl, if_neg q1, q2, decide_true, if_true]
      exact z1
    · rw [if_neg hit] at z1
      simp (disch := omega) only [e139, s139_0, s139_1, s139_3, s139_4, s139_7, s139_10, s139_34, s139_11, s139_35, s139_14, s139_36, s139_15, s139_37, s139_16, s139_40, s139_17, s139_97, s139_43, s139_24, s139_20, s139_44, s139_26, s139_21, s139_45, s139_27, s139_46, s139_30, s139_47, s139_50, s139_91, s139_53, s139_94, s139_54, s139_55, s139_58, s139_59, s139_60, s139_61, s139_64, s139_65, s139_66, s139_69, s139_70, s139_71, s139_74, s139_75, s139_76, s139_77, s139_80, s139_81, s139_82, s139_85, s139_88, xA41, xL41, xa41, e, n_lt_0, n_le_0, n_tl_0, n_el_0, n_eq_0, n_ad_0, n_lt_1, n_le_1, n_tl_1, n_el_1, n_eq_1, n_ad_1, n_lt_2, n_le_2, n_tl_2, n_el_2, n_eq_2, n_ad_2, n_lt_3, n_le_3, n_tl_3, n_el_3, n_eq_3, n_ad_3, n_lt_4, n_le_4, n_tl_4, n_el_4, n_eq_4, n_ad_4, n_lt_5, n_le_5, n_tl_5, n_el_5, n_eq_5, n_ad_5, n_lt_6, n_le_6, n_tl_6, n_el_6, n_eq_6, n_ad_6, n_lt_10, n_le_10, n_tl_10, n_el_10, n_eq_10, n_ad_10, n_lt_11, n_le_11, n_tl_11, n_el_11, n_eq_11, n_ad_11, n_lt_12, n_le_12, n_tl_12, n_el_12, n_eq_12, n_ad_12, n_lt_13, n_le_13, n_tl_13, n_el_13, n_eq_13, n_ad_13, n_lt_15, n_le_15, n_tl_15, n_el_15, n_eq_15, n_ad_15, n_lt_20, n_le_20, n_tl_20, n_el_20, n_eq_20, n_ad_20, n_lt_30, n_le_30, n_tl_30, n_el_30, n_eq_30, n_ad_30, n_lt_31, n_le_31, n_tl_31, n_el_31, n_eq_31, n_ad_31, n_lt_32, n_le_32, n_tl_32, n_el_32, n_eq_32, n_ad_32, n_lt_60, n_le_60, n_tl_60, n_el_60, n_eq_60, n_ad_60, n_lt_99, n_le_99, n_tl_99, n_el_99, n_eq_99, n_ad_99, n_lt_100, n_le_100, n_tl_100, n_el_100, n_eq_100, n_ad_100, n_lt_144, n_le_144, n_tl_144, n_el_144, n_eq_144, n_ad_144, n_lt_4096, n_le_4096, n_tl_4096, n_el_4096, n_eq_4096, n_ad_4096, n_mulK, nI_add, pk_mul, n_lt, n_le, n_eq, n_eqM, n_ix, n_cl, if_neg q1, q2, hit, decide_true, if_true, if_false]
      exact z1
/-- measures: the fewest lines to t by which a node's letters come, or FAR -/
theorem m139 {d N m t : Nat} {σ : ir_S} {LA LB : Nat → Nat} (hN : N ≤ 12) (hm : m ≤ 20) (ht : t < N) (hnn : σ 33 1 = nI N) (hlm : σ 33 3 = nI m) (hL : LN σ m N LA LB) :
    ∃ σ' x', ir_ev (d + 2) 139 [.ref 33, .int (nI t)] σ = some (none, σ') ∧ (∀ c, c ≠ 41 → σ' c = σ c) ∧ FR σ' N x' ∧ Snd N (adjM σ m) (relM σ) t x' ∧ Cmp N (adjM σ m) (relM σ) t N x' := by
  obtain ⟨σ1, a1, a2, a3⟩ := m139_ini (d := d) (l3 := .null) hN ht hnn N 0 σ (by omega) (fun _ _ => rfl) (fun v hv => by omega)
  obtain ⟨σ2, x2, b1, b2⟩ := m139_out (d := d) (t := t) (T := .int (nI t)) hN hm hnn hlm hL N 0 σ1 (fun v => if v = t then 0 else FAR) .null (by omega) a2 (fun v hv => ⟨a3 v hv, by by_cases h : v = t <;> simp [h]⟩)
    (fun v hv => by
      by_cases h : v = t
      · simp only [h, if_true]
        exact ⟨Nat.zero_le _, fun _ => by simp [lev]⟩
      · simp only [h, if_false]
        exact ⟨Nat.le_refl _, fun q => absurd q (Nat.lt_irrefl _)⟩)
    (fun v k hv hk hl => by
      have hk : k = 0 := by omega
      subst hk
      have : v = t := by simpa [lev] using hl
      simp [this])
  refine ⟨σ2, x2, ?_, b2⟩
  simp only [e139, s139_0, s139_1]
  rw [show (0 : Int32) = nI 0 from rfl, a1]
  simp only [s139_33, s139_34]
  exact b1
