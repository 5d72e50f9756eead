/-! addLine, line -/
theorem lnF_sym {A B : Nat → Int32} {a b : Int32} : ∀ n i, lnF A B a b n i = lnF A B b a n i := by
  intro n
  induction n with
  | zero => intro i; rfl
  | succ n ih =>
    intro i
    simp only [lnF, ih]
    have e : ((A i = a ∧ B i = b) ∨ (A i = b ∧ B i = a)) ↔ ((A i = b ∧ B i = a) ∨ (A i = a ∧ B i = b)) := Or.comm
    by_cases h : (A i = a ∧ B i = b) ∨ (A i = b ∧ B i = a)
    · rw [if_pos h, if_pos (e.mp h)]
    · rw [if_neg h, if_neg (fun q => h (e.mpr q))]
theorem adjM_sym {σ : ir_S} {m a b : Nat} : adjM σ m a b = adjM σ m b a := by unfold adjM; rw [lnF_sym]
theorem lnF_app {A B A' B' : Nat → Int32} {x y : Int32} : ∀ n i, i + n < 100 → (∀ j, j < i + n → A' j = A j ∧ B' j = B j) → lnF A' B' x y (n + 1) i = if lnF A B x y n i = -1 then (if (A' (i + n) = x ∧ B' (i + n) = y) ∨ (A' (i + n) = y ∧ B' (i + n) = x) then nI (i + n) else -1) else lnF A B x y n i := by
  intro n
  induction n with
  | zero =>
    intro i hi h
    simp only [lnF, Nat.add_zero, if_true]
  | succ n ih =>
    intro i hi h
    have e := ih (i + 1) (by omega) (fun j hj => h j (by omega))
    rw [show i + 1 + n = i + (n + 1) by omega] at e
    have hu : lnF A' B' x y (n + 1 + 1) i = if (A' i = x ∧ B' i = y) ∨ (A' i = y ∧ B' i = x) then nI i else lnF A' B' x y (n + 1) (i + 1) := rfl
    have hv : lnF A B x y (n + 1) i = if (A i = x ∧ B i = y) ∨ (A i = y ∧ B i = x) then nI i else lnF A B x y n (i + 1) := rfl
    obtain ⟨h1, h2⟩ := h i (by omega)
    rw [hu, hv, h1, h2]
    by_cases q : (A i = x ∧ B i = y) ∨ (A i = y ∧ B i = x)
    · rw [if_pos q, if_pos q, if_neg (by rw [n_eqM (by omega)]; exact fun h => h)]
    · rw [if_neg q, if_neg q]
      exact e
theorem lev_congr {N : Nat} {adj adj' : Nat → Nat → Bool} {rel : Nat → Bool} {t : Nat} (h : ∀ a b, a < N → b < N → adj a b = adj' a b) (k v : Nat) (hv : v < N) : lev N adj rel t k v = lev N adj' rel t k v := by
  rw [Bool.eq_iff_iff]
  exact ⟨lev_adj (fun a b ha hb q => by rw [← h a b ha hb]; exact q) k v hv, lev_adj (fun a b ha hb q => by rw [h a b ha hb]; exact q) k v hv⟩
theorem isNR_congr {N : Nat} {adj adj' : Nat → Nat → Bool} {rel : Nat → Bool} {t a : Nat} {v : Int32} (h : ∀ a b, a < N → b < N → adj a b = adj' a b) (ha : a < N) (hv : isNR N adj rel t a v) : isNR N adj' rel t a v := by
  rcases hv with ⟨rfl, h1⟩ | ⟨k, n, rfl, h2, h3, h4, h5, h6⟩
  · exact Or.inl ⟨rfl, fun k n hn q => by rw [← lev_congr h k n hn]; exact h1 k n hn (by rw [h a n ha hn]; exact q)⟩
  · exact Or.inr ⟨k, n, rfl, h2, by rw [← h a n ha h2]; exact h3, by rw [← lev_congr h k n h2]; exact h4, fun j m hj hm q => by rw [← lev_congr h j m hm]; exact h5 j m hj hm (by rw [h a m ha hm]; exact q), fun m hm q => by rw [← lev_congr h k m (by omega)]; exact h6 m hm (by rw [h a m ha (by omega)]; exact q)⟩
section LI
variable {σ σ' : ir_S} {N m F C K a b : Nat} {LA LB : Nat → Nat}
def adjP (σ : ir_S) (m a b x y : Nat) : Bool := adjM σ m x y || ((decide (x = a) && decide (y = b)) || (decide (x = b) && decide (y = a)))
theorem c30 {d t hs : Nat} {nb : Nat → Nat} {adj adj0 : Nat → Nat → Bool} {rel : Nat → Bool} (hN : N ≤ 12) (ht : t < N) (hnb : ∀ a, a < N → nb a < 4096) (hnbt : ∀ a b, a < N → (nb a).testBit b = (decide (b < 12) && adj a b)) (hadj : ∀ a b, a < N → b < 12 → adj a b = true → b < N) (hhs : hs < 4096) (hht : ∀ v, v < N → hs.testBit v = !rel v)
    (h14 : σ 1 4 = nI N) (h3 : ∀ a, a < N → σ 3 a = nI (nb a)) (h16 : σ 1 6 = nI hs) (h0 : ∀ a b, a < N → b < N → adj0 a b = true → adj a b = true) (hold : ∀ a, a < N → a ≠ t → isNR N adj0 rel t a (σ 5 (a * 12 + t))) :
    ∃ σ', ir_ev (d + 3) 30 [.ref 1, .int (nI t)] σ = some (none, σ') ∧ (∀ c, c ≠ 5 → σ' c = σ c) ∧ (∀ a, a < N → a ≠ t → isNR N adj rel t a (σ' 5 (a * 12 + t))) ∧ ∀ j, (∀ a, a < N → a ≠ t → j ≠ a * 12 + t) → σ' 5 j = σ 5 j := by
  have hsh := s_shl (k := t) (by omega)
  have hn0 : ∀ v, nrL N adj rel t 0 v = false := fun v => by
    cases h : nrL N adj rel t 0 v with
    | false => rfl
    | true => obtain ⟨u, _, _, h2⟩ := nrL_iff.mp h; cases h2
  obtain ⟨σ', L', z1, z2, z3, z4⟩ := c30_loop (d := d) (σ0 := σ) hN ht hnb hnbt hadj hhs hht h14 h3 h16 12 0 (2 ^ t) (2 ^ t) σ .null .null .null (by omega) (fun _ _ => rfl) (p2_lt (by omega)) (p2_lt (by omega)) (fun v hv => by
      rw [hn0 v, Nat.testBit_two_pow, Bool.or_false, decide_eq_decide]; exact eq_comm) (fun v => by
      rw [Nat.testBit_two_pow]
      show decide (t = v) = (decide (v < N) && (decide (v = t) && !false))
      by_cases e : t = v
      · subst e; simp [ht]
      · have : ¬ v = t := fun q => e q.symm
        simp [e, this]) ⟨fun a _ _ h => (by rw [hn0 a] at h; cases h), fun _ _ _ _ => rfl, fun _ _ => rfl⟩
  refine ⟨σ', ?_, z2, fun a ha hat => ?_, z3.2.2⟩
  · simp only [e30, s30_0, s30_1, s30_2, s30_3, s30_4, s30_5, s30_6, s30_7, hsh]
    exact z1
  · cases h : nrL N adj rel t L' a with
    | true => exact z3.1 a ha hat h
    | false =>
      rw [z3.2.1 a ha hat h]
      exact nr_keep h0 ha z4 h (hold a ha hat)
theorem c29_loop {d hs : Nat} {nb : Nat → Nat} {adj adj0 : Nat → Nat → Bool} {rel : Nat → Bool} {v1 v2 v3 : Value} {σ0 : ir_S} (hN : N ≤ 12) (hnb : ∀ a, a < N → nb a < 4096) (hnbt : ∀ a b, a < N → (nb a).testBit b = (decide (b < 12) && adj a b)) (hadj : ∀ a b, a < N → b < 12 → adj a b = true → b < N) (hhs : hs < 4096) (hht : ∀ v, v < N → hs.testBit v = !rel v)
    (h14 : σ0 1 4 = nI N) (h15 : σ0 1 5 = nI (m + 1)) (h3 : ∀ a, a < N → σ0 3 a = nI (nb a)) (h16 : σ0 1 6 = nI hs) (h0 : ∀ a b, a < N → b < N → adj0 a b = true → adj a b = true) : ∀ n t τ, t + n = N → (∀ c, c ≠ 5 → τ c = σ0 c) → (∀ x y, x < N → y < N → x ≠ y → (y < t → isNR N adj rel y x (τ 5 (x * 12 + y))) ∧ (t ≤ y → isNR N adj0 rel y x (τ 5 (x * 12 + y)))) → (∀ j, (∀ x y, x < N → y < N → x ≠ y → j ≠ x * 12 + y) → τ 5 j = σ0 5 j) →
    ∃ τ', ir_run (ir_ev (d + 3)) 29 (122, [.ref 1, v1, v2, v3, .int (nI t)], [], τ) = some (some (.int (nI m)), τ') ∧ (∀ c, c ≠ 5 → τ' c = σ0 c) ∧ (∀ x y, x < N → y < N → x ≠ y → isNR N adj rel y x (τ' 5 (x * 12 + y))) ∧ ∀ j, (∀ x y, x < N → y < N → x ≠ y → j ≠ x * 12 + y) → τ' 5 j = σ0 5 j := by
  have hpred : nI (m + 1) - 1 = nI m := nI_pred m
  intro n
  induction n with
  | zero =>
    intro t τ htn hf hI hj
    have htn : t = N := by omega
    subst htn
    have e4 : τ 1 4 = nI t := by rw [hf 1 (by decide)]; exact h14
    have e5 : τ 1 5 = nI (m + 1) := by rw [hf 1 (by decide)]; exact h15
    refine ⟨τ, ?_, hf, fun x y hx hy hxy => (hI x y hx hy hxy).1 hy, hj⟩
    rw [s29_122]
    simp (disch := omega) only [s29_124, s29_125, s29_128, s29_143, s29_144, s29_147, s29_148, s29_149, e4, e5, hpred, n_lt_0, n_le_0, n_tl_0, n_el_0, n_eq_0, n_ad_0, n_lt_1, n_le_1, n_tl_1, n_el_1, n_eq_1, n_ad_1, n_lt_2, n_le_2, n_tl_2, n_el_2, n_eq_2, n_ad_2, n_lt_3, n_le_3, n_tl_3, n_el_3, n_eq_3, n_ad_3, n_lt_4, n_le_4, n_tl_4, n_el_4, n_eq_4, n_ad_4, n_lt_5, n_le_5, n_tl_5, n_el_5, n_eq_5, n_ad_5, n_lt_6, n_le_6, n_tl_6, n_el_6, n_eq_6, n_ad_6, n_lt_10, n_le_10, n_tl_10, n_el_10, n_eq_10, n_ad_10, n_lt_11, n_le_11, n_tl_11, n_el_11, n_eq_11, n_ad_11, n_lt_12, n_le_12, n_tl_12, n_el_12, n_eq_12, n_ad_12, n_lt_13, n_le_13, n_tl_13, n_el_13, n_eq_13, n_ad_13, n_lt_15, n_le_15, n_tl_15, n_el_15, n_eq_15, n_ad_15, n_lt_20, n_le_20, n_tl_20, n_el_20, n_eq_20, n_ad_20, n_lt_30, n_le_30, n_tl_30, n_el_30, n_eq_30, n_ad_30, n_lt_31, n_le_31, n_tl_31, n_el_31, n_eq_31, n_ad_31, n_lt_32, n_le_32, n_tl_32, n_el_32, n_eq_32, n_ad_32, n_lt_60, n_le_60, n_tl_60, n_el_60, n_eq_60, n_ad_60, n_lt_99, n_le_99, n_tl_99, n_el_99, n_eq_99, n_ad_99, n_lt_100, n_le_100, n_tl_100, n_el_100, n_eq_100, n_ad_100, n_lt_144, n_le_144, n_tl_144, n_el_144, n_eq_144, n_ad_144, n_lt_4096, n_le_4096, n_tl_4096, n_el_4096, n_eq_4096, n_ad_4096, n_mulK, nI_add, pk_mul, n_lt, n_le, n_eq, n_eqM, n_ix, n_cl, Nat.le_refl, if_true]
  | succ n ih =>
    intro t τ htn hf hI hj
    have q1 : ¬ N ≤ t := by omega
    have e4 : τ 1 4 = nI N := by rw [hf 1 (by decide)]; exact h14
    obtain ⟨τ1, a1, a2, a3, a4⟩ := c30 (d := d) (σ := τ) (t := t) hN (by omega) hnb hnbt hadj hhs hht e4 (fun a ha => by rw [hf 3 (by decide)]; exact h3 a ha) (by rw [hf 1 (by decide)]; exact h16) h0 (fun x hx hxt => (hI x t hx (by omega) hxt).2 (Nat.le_refl _))
    obtain ⟨τ', z1, z2⟩ := ih (t + 1) τ1 (by omega) (fun c hc => by rw [a2 c hc, hf c hc]) (fun x y hx hy hxy => by
        by_cases e : y = t
        · subst e
          exact ⟨fun _ => a3 x hx hxy, fun q => by omega⟩
        · rw [a4 _ (fun x' _ _ q => by omega)]
          exact ⟨fun q => (hI x y hx hy hxy).1 (by omega), fun q => (hI x y hx hy hxy).2 (by omega)⟩) (fun j hq => by
        rw [a4 j (fun x hx hxt => hq x t hx (by omega) hxt)]
        exact hj j hq)
    refine ⟨τ', ?_, z2⟩
    rw [s29_122]
    simp (disch := omega) only [s29_124, s29_125, s29_128, s29_131, s29_132, s29_134, s29_137, s29_140, e4, n_lt_0, n_le_0, n_tl_0, n_el_0, n_eq_0, n_ad_0, n_lt_1, n_le_1, n_tl_1, n_el_1, n_eq_1, n_ad_1, n_lt_2, n_le_2, n_tl_2, n_el_2, n_eq_2, n_ad_2, n_lt_3, n_le_3, n_tl_3, n_el_3, n_eq_3, n_ad_3, n_lt_4, n_le_4, n_tl_4, n_el_4, n_eq_4, n_ad_4, n_lt_5, n_le_5, n_tl_5, n_el_5, n_eq_5, n_ad_5, n_lt_6, n_le_6, n_tl_6, n_el_6, n_eq_6, n_ad_6, n_lt_10, n_le_10, n_tl_10, n_el_10, n_eq_10, n_ad_10, n_lt_11, n_le_11, n_tl_11, n_el_11, n_eq_11, n_ad_11, n_lt_12, n_le_12, n_tl_12, n_el_12, n_eq_12, n_ad_12, n_lt_13, n_le_13, n_tl_13, n_el_13, n_eq_13, n_ad_13, n_lt_15, n_le_15, n_tl_15, n_el_15, n_eq_15, n_ad_15, n_lt_20, n_le_20, n_tl_20, n_el_20, n_eq_20, n_ad_20, n_lt_30, n_le_30, n_tl_30, n_el_30, n_eq_30, n_ad_30, n_lt_31, n_le_31, n_tl_31, n_el_31, n_eq_31, n_ad_31, n_lt_32, n_le_32, n_tl_32, n_el_32, n_eq_32, n_ad_32, n_lt_60, n_le_60, n_tl_60, n_el_60, n_eq_60, n_ad_60, n_lt_99, n_le_99, n_tl_99, n_el_99, n_eq_99, n_ad_99, n_lt_100, n_le_100, n_tl_100, n_el_100, n_eq_100, n_ad_100, n_lt_144, n_le_144, n_tl_144, n_el_144, n_eq_144, n_ad_144, n_lt_4096, n_le_4096, n_tl_4096, n_el_4096, n_eq_4096, n_ad_4096, n_mulK, nI_add, pk_mul, n_lt, n_le, n_eq, n_eqM, n_ix, n_cl, if_neg q1, a1, ir_k_v, ir_tl_v]
    exact z1
/-- the cells of the plan with a line more, before the nearest are found anew -/
def lin (σ : ir_S) (m a b : Nat) : ir_S := ir_up (ir_up (ir_up (ir_up (ir_up σ 4 (a * 12 + b) (nI m)) 4 (b * 12 + a) (nI m)) 3 a (σ 3 a ||| ((1 : Int32) <<< (nI b &&& 31)))) 3 b (σ 3 b ||| ((1 : Int32) <<< (nI a &&& 31)))) 1 5 (nI (m + 1))
theorem c29 {d : Nat} (r : R1 σ N m LA LB) (ha : a < N) (hb : b < N) (hab : a ≠ b) (hm : m < 20) (hnew : adjM σ m a b = false) : ∃ σ', ir_ev (d + 4) 29 [.ref 1, .int (nI a), .int (nI b)] σ = some (some (.int (nI m)), σ') ∧ (∀ c, c ≠ 1 → c ≠ 3 → c ≠ 4 → c ≠ 5 → σ' c = σ c) ∧ σ' 1 4 = σ 1 4 ∧ σ' 1 5 = nI (m + 1) ∧ σ' 1 6 = σ 1 6 ∧ σ' 4 = upd (upd (σ 4) (a * 12 + b) (nI m)) (b * 12 + a) (nI m) ∧ (∀ x y, x < 12 → y < 32 → ir_bit (σ' 3 x) y = (decide (y < 12) && adjP σ m a b x y)) ∧ (∀ x y, x < N → y < N → x ≠ y → isNR N (adjP σ m a b) (relM σ) y x (σ' 5 (x * 12 + y))) ∧ ∀ j, (∀ x y, x < N → y < N → x ≠ y → j ≠ x * 12 + y) → σ' 5 j = σ 5 j := by
  obtain ⟨r1, r2, r3, r4, r5, r6, r7, r8, r9, r10, r11, r12, r13, r14⟩ := r
  have e3 : ∀ x y, x < 12 → y < 32 → ir_bit (lin σ m a b 3 x) y = (decide (y < 12) && adjP σ m a b x y) := by
    intro x y hx hy
    have hl : lin σ m a b 3 = upd (upd (σ 3) a (σ 3 a ||| ((1 : Int32) <<< (nI b &&& 31)))) b (σ 3 b ||| ((1 : Int32) <<< (nI a &&& 31))) := by
      unfold lin
      simp (disch := omega) only [u_s, u_n]
    rw [hl]
    unfold adjP
    by_cases exb : x = b
    · subst exb
      have hxa : ¬ x = a := fun q => hab q.symm
      rw [upd_s, ir_bit_or (by omega) hy, r11 x y hx hy]
      by_cases eya : y = a
      · subst eya
        have : y < 12 := by omega
        simp [this]
      · simp [hxa, eya]
    · rw [upd_n _ _ exb]
      by_cases exa : x = a
      · subst exa
        rw [upd_s, ir_bit_or (by omega) hy, r11 x y hx hy]
        by_cases eyb : y = b
        · subst eyb
          have : y < 12 := by omega
          simp [this]
        · simp [exb, eyb]
      · rw [upd_n _ _ exa, r11 x y hx hy]
        simp [exa, exb]
  have h16 : σ 1 6 = nI (bset (fun j => decide (j < N ∧ σ 2 j = 0))) := i_bset (fun j hj => by
    rw [r9 j hj]
    by_cases q : j < N
    · have : j < 12 := by omega
      simp [this]
    · simp [q])
  have l1 : ∀ k, lin σ m a b 1 k = upd (σ 1) 5 (nI (m + 1)) k := fun k => by unfold lin; simp (disch := omega) only [u_s, u_n]
  have l5 : lin σ m a b 5 = σ 5 := by unfold lin; simp (disch := omega) only [u_n]
  have hPlt : ∀ x y, x < N → y < 12 → adjP σ m a b x y = true → y < N := by
    intro x y hx hy h
    unfold adjP at h
    rw [Bool.or_eq_true, Bool.or_eq_true, Bool.and_eq_true, Bool.and_eq_true] at h
    rcases h with h | h | h
    · exact (adj_lt r1 r2 r7 (by omega) (by omega) h).2
    · have : y = b := by simpa using h.2
      omega
    · have : y = a := by simpa using h.2
      omega
  have hP0 : ∀ x y, x < N → y < N → adjM σ m x y = true → adjP σ m a b x y = true := fun x y _ _ h => by unfold adjP; rw [h]; rfl
  obtain ⟨τ', z1, z2, z3, z4⟩ := c29_loop (d := d) (σ0 := lin σ m a b) (nb := fun x => bset (adjP σ m a b x)) (adj := adjP σ m a b) (adj0 := adjM σ m) (rel := relM σ) (hs := bset (fun j => decide (j < N ∧ σ 2 j = 0))) (m := m) (v1 := .int (nI a)) (v2 := .int (nI b)) (v3 := .int 1) r1 (fun x _ => bset_lt _) (fun x y _ => bset_tb _ y) hPlt (bset_lt _) (fun v hv => by
      rw [bset_tb]
      unfold relM
      rw [(r8 v hv).1]
      have : v < 12 := by omega
      by_cases q : σ 2 v = 0 <;> simp [this, hv, q]) (by rw [l1, upd_n _ _ (by decide)]; exact r3) (by rw [l1, upd_s]) (fun x hx => i_bset (fun j hj => e3 x j (by omega) hj)) (by rw [l1, upd_n _ _ (by decide)]; exact h16) hP0 N 0 (lin σ m a b) (by omega) (fun _ _ => rfl) (fun x y hx hy hxy => ⟨fun q => by omega, fun _ => by rw [l5]; exact r13 x y hx hy hxy⟩) (fun _ _ => rfl)
  have q1 : a * 12 + b < 144 := by omega
  have q2 : b * 12 + a < 144 := by omega
  have q3 : a < 12 := by omega
  have q4 : b < 12 := by omega
  have q5 : ¬ 20 ≤ m := by omega
  have hna : inr (nI a) (nI N) = true := inr_in r1 ha
  have hnb : inr (nI b) (nI N) = true := inr_in r1 hb
  have hbit : ir_bit (σ 3 a) b = false := by rw [r11 a b q3 (by omega), hnew]; simp
  have rr : R1 σ N m LA LB := ⟨r1, r2, r3, r4, r5, r6, r7, r8, r9, r10, r11, r12, r13, r14⟩
  refine ⟨τ', ?_, fun c g1 g3 g4 g5 => ?_, ?_, ?_, ?_, ?_, fun x y hx hy => by rw [z2 3 (by decide)]; exact e3 x y hx hy, z3, fun j hj => by rw [z4 j hj, l5]⟩
  · simp (disch := omega) only [e29, s29_0, s29_1, s29_2, s29_5, s29_8, s29_9, s29_10, s29_13, s29_16, s29_17, s29_18, s29_21, s29_22, s29_25, s29_27, s29_30, s29_31, s29_35, s29_36, s29_37, s29_40, s29_41, s29_44, s29_45, s29_46, s29_47, s29_50, s29_55, s29_56, s29_59, s29_60, s29_62, s29_63, s29_64, s29_65, s29_66, s29_69, s29_70, s29_71, s29_74, s29_75, s29_77, s29_78, s29_79, s29_80, s29_81, s29_84, s29_85, s29_86, s29_89, s29_90, s29_91, s29_92, s29_93, s29_94, s29_95, s29_96, s29_97, s29_98, s29_101, s29_102, s29_103, s29_104, s29_105, s29_106, s29_107, s29_108, s29_109, s29_110i, s29_110r, s29_111, s29_114, s29_115, s29_116, s29_119, s29_120, xA3, xL3, xa3, xA4, xL4, xa4, cNode rr, hna, hnb, hab, r5, q1, q2, q3, q4, q5, c116, hbit, n_lt_0, n_le_0, n_tl_0, n_el_0, n_eq_0, n_ad_0, n_lt_1, n_le_1, n_tl_1, n_el_1, n_eq_1, n_ad_1, n_lt_2, n_le_2, n_tl_2, n_el_2, n_eq_2, n_ad_2, n_lt_3, n_le_3, n_tl_3, n_el_3, n_eq_3, n_ad_3, n_lt_4, n_le_4, n_tl_4, n_el_4, n_eq_4, n_ad_4, n_lt_5, n_le_5, n_tl_5, n_el_5, n_eq_5, n_ad_5, n_lt_6, n_le_6, n_tl_6, n_el_6, n_eq_6, n_ad_6, n_lt_10, n_le_10, n_tl_10, n_el_10, n_eq_10, n_ad_10, n_lt_11, n_le_11, n_tl_11, n_el_11, n_eq_11, n_ad_11, n_lt_12, n_le_12, n_tl_12, n_el_12, n_eq_12, n_ad_12, n_lt_13, n_le_13, n_tl_13, n_el_13, n_eq_13, n_ad_13, n_lt_15, n_le_15, n_tl_15, n_el_15, n_eq_15, n_ad_15, n_lt_20, n_le_20, n_tl_20, n_el_20, n_eq_20, n_ad_20, n_lt_30, n_le_30, n_tl_30, n_el_30, n_eq_30, n_ad_30, n_lt_31, n_le_31, n_tl_31, n_el_31, n_eq_31, n_ad_31, n_lt_32, n_le_32, n_tl_32, n_el_32, n_eq_32, n_ad_32, n_lt_60, n_le_60, n_tl_60, n_el_60, n_eq_60, n_ad_60, n_lt_99, n_le_99, n_tl_99, n_el_99, n_eq_99, n_ad_99, n_lt_100, n_le_100, n_tl_100, n_el_100, n_eq_100, n_ad_100, n_lt_144, n_le_144, n_tl_144, n_el_144, n_eq_144, n_ad_144, n_lt_4096, n_le_4096, n_tl_4096, n_el_4096, n_eq_4096, n_ad_4096, n_mulK, nI_add, pk_mul, n_lt, n_le, n_eq, n_eqM, n_ix, n_cl, u_n, u_s, upd_n, decide_true, ir_b_t, ir_b_f, ir_k_i, ir_tl_i, i_10, if_true, if_false]
    exact z1
  · rw [z2 c g5]
    unfold lin
    rw [u_n _ _ _ g1, u_n _ _ _ g3, u_n _ _ _ g3, u_n _ _ _ g4, u_n _ _ _ g4]
  · rw [z2 1 (by decide), l1, upd_n _ _ (by decide)]
  · rw [z2 1 (by decide), l1, upd_s]
  · rw [z2 1 (by decide), l1, upd_n _ _ (by decide)]
  · rw [z2 4 (by decide)]
    unfold lin
    simp (disch := omega) only [u_s, u_n]
theorem R1_line (r : R1 σ N m LA LB) (ha : a < N) (hb : b < N) (hab : a ≠ b) (hm : m < 20) (hnew : adjM σ m a b = false) (a1 : σ' 1 4 = σ 1 4) (a2 : σ' 1 5 = nI (m + 1)) (a3 : σ' 1 6 = σ 1 6) (a4 : σ' 2 = σ 2) (a5 : σ' 34 = σ 34) (a6 : σ' 33 1 = σ 33 1) (a7 : σ' 33 3 = nI (m + 1)) (a8 : σ' 35 = upd (σ 35) m (nI a)) (a9 : σ' 36 = upd (σ 36) m (nI b)) (b1 : σ' 4 = upd (upd (σ 4) (a * 12 + b) (nI m)) (b * 12 + a) (nI m)) (b2 : ∀ x y, x < 12 → y < 32 → ir_bit (σ' 3 x) y = (decide (y < 12) && adjP σ m a b x y))
    (b3 : ∀ x y, x < N → y < N → x ≠ y → isNR N (adjP σ m a b) (relM σ) y x (σ' 5 (x * 12 + y))) (b4 : ∀ j, (∀ x y, x < N → y < N → x ≠ y → j ≠ x * 12 + y) → σ' 5 j = σ 5 j) : R1 σ' N (m + 1) (fun l => if l = m then a else LA l) (fun l => if l = m then b else LB l) := by
  have rr := r
  obtain ⟨r1, r2, r3, r4, r5, r6, r7, r8, r9, r10, r11, r12, r13, r14⟩ := r
  have hln : ∀ x y, x < 12 → y < 12 → lnF (σ' 35) (σ' 36) (nI x) (nI y) (m + 1) 0 = if (x = a ∧ y = b) ∨ (x = b ∧ y = a) then nI m else lnF (σ 35) (σ 36) (nI x) (nI y) m 0 := by
    intro x y hx hy
    rw [lnF_app (A := σ 35) (B := σ 36) m 0 (by omega) (fun j hj => by rw [a8, a9, upd_n _ _ (by omega), upd_n _ _ (by omega)]; exact ⟨rfl, rfl⟩), a8, a9, Nat.zero_add, upd_s, upd_s]
    have key : ((nI a = nI x ∧ nI b = nI y) ∨ (nI a = nI y ∧ nI b = nI x)) ↔ ((x = a ∧ y = b) ∨ (x = b ∧ y = a)) := by
      rw [nI_eq (by omega) (by omega), nI_eq (by omega) (by omega), nI_eq (by omega) (by omega), nI_eq (by omega) (by omega)]
      omega
    by_cases q : (x = a ∧ y = b) ∨ (x = b ∧ y = a)
    · have q' := key.mpr q
      have hno : lnF (σ 35) (σ 36) (nI x) (nI y) m 0 = -1 := by
        have : adjM σ m x y = false := by
          rcases q with ⟨rfl, rfl⟩ | ⟨rfl, rfl⟩
          · exact hnew
          · rw [adjM_sym]; exact hnew
        unfold adjM at this
        simpa using this
      rw [if_pos hno, if_pos q', if_pos q]
    · have q' := fun z => q (key.mp z)
      rw [if_neg q', if_neg q]
      by_cases z : lnF (σ 35) (σ 36) (nI x) (nI y) m 0 = -1
      · rw [if_pos z, z]
      · rw [if_neg z]
  have hadj : ∀ x y, x < 12 → y < 12 → adjM σ' (m + 1) x y = adjP σ m a b x y := by
    intro x y hx hy
    unfold adjP
    have e1 : adjM σ' (m + 1) x y = decide (lnF (σ' 35) (σ' 36) (nI x) (nI y) (m + 1) 0 ≠ -1) := rfl
    rw [e1, hln x y hx hy]
    by_cases q : (x = a ∧ y = b) ∨ (x = b ∧ y = a)
    · have hne := oI_m1 (b := m) (by omega)
      rw [if_pos q]
      have e2 : ((decide (x = a) && decide (y = b)) || (decide (x = b) && decide (y = a))) = true := by
        rcases q with ⟨h1, h2⟩ | ⟨h1, h2⟩ <;> simp [h1, h2]
      rw [e2]
      simp [hne]
    · rw [if_neg q]
      have e2 : ((decide (x = a) && decide (y = b)) || (decide (x = b) && decide (y = a))) = false := by
        cases e : ((decide (x = a) && decide (y = b)) || (decide (x = b) && decide (y = a))) with
        | false => rfl
        | true =>
          rw [Bool.or_eq_true, Bool.and_eq_true, Bool.and_eq_true] at e
          simp at e
          exact absurd e q
      rw [e2, Bool.or_false]
      rfl
  have erel : relM σ' = relM σ := by unfold relM; rw [a5]
  refine ⟨r1, by omega, by rw [a1]; exact r3, by rw [a6]; exact r4, a2, a7, fun l hl => ?_, fun j hj => by rw [a4, a5]; exact r8 j hj, fun j hj => by rw [a3, a4]; exact r9 j hj, fun x y hx hy => ?_, fun x y hx hy => ?_, fun i hi => ?_, fun x y hx hy hxy => ?_, fun x y hx hy h => ?_⟩
  · rw [a8, a9]
    by_cases e : l = m
    · subst e
      simp only [if_true, upd_s]
      exact ⟨ha, hb, hab, trivial, trivial⟩
    · simp only [if_neg e]
      rw [upd_n _ _ e, upd_n _ _ e]
      exact r7 l (by omega)
  · rw [hln x y hx hy, b1]
    by_cases q1 : x * 12 + y = b * 12 + a
    · obtain ⟨rfl, rfl⟩ := (ix12 hy (by omega)).mp q1
      rw [upd_s, if_pos (Or.inr ⟨rfl, rfl⟩)]
    · rw [upd_n _ _ q1]
      by_cases q2 : x * 12 + y = a * 12 + b
      · obtain ⟨rfl, rfl⟩ := (ix12 hy (by omega)).mp q2
        rw [upd_s, if_pos (Or.inl ⟨rfl, rfl⟩)]
      · rw [upd_n _ _ q2, if_neg (fun q => by
          rcases q with ⟨h1, h2⟩ | ⟨h1, h2⟩
          · exact q2 (by rw [h1, h2])
          · exact q1 (by rw [h1, h2]))]
        exact r10 x y hx hy
  · rw [b2 x y hx hy]
    by_cases q : y < 12
    · rw [hadj x y hx q]
    · simp [q]
  · by_cases q : ∀ x y, x < N → y < N → x ≠ y → i ≠ x * 12 + y
    · rw [b4 i q]; exact r12 i hi
    · have hex : ∃ x y, x < N ∧ y < N ∧ x ≠ y ∧ i = x * 12 + y := by
        apply Classical.byContradiction
        intro hc
        exact q (fun x y hx hy hxy e => hc ⟨x, y, hx, hy, hxy, e⟩)
      obtain ⟨x, y, hx, hy, hxy, rfl⟩ := hex
      rcases b3 x y hx hy hxy with ⟨e, _⟩ | ⟨k, n, e, hn, _⟩
      · exact Or.inl e
      · exact Or.inr ⟨n, by omega, e⟩
  · rw [erel]
    exact isNR_congr (fun p q hp hq => (hadj p q (by omega) (by omega)).symm) hx (b3 x y hx hy hxy)
  · rw [b4 _ (fun p q hp hq _ e => by
      obtain ⟨rfl, rfl⟩ := (ix12 hy (by omega)).mp e
      omega)]
    exact r14 x y hx hy h
theorem p_line {d : Nat} {v w : Int32} (h : RR σ) : PAIR d 75 131 [.int v, .int w] σ := by
  obtain ⟨N, m, F, C, K, LA, LB, r⟩ := h
  have hN := r.1.1.1
  have hm := r.1.1.2.1
  have r0 := RA_frR (frR_33 (v := 0)) r
  have x3 : σ 33 3 = nI m := r.1.1.2.2.2.2.2.1
  have x5 := r.1.1.2.2.2.2.1
  have r11 := r.1.1.2.2.2.2.2.2.2.2.2.2.1
  cases hv : inr v (nI N) with
  | false =>
    refine ⟨-1, σ, _, ?_, ?_, RR_of r0⟩
    · have k29 : ir_ev (d + 49) 29 [.ref 1, .int v, .int w] σ = some (some (.int (-1)), σ) := by
        simp only [e29, s29_0, s29_1, s29_2, s29_5, s29_34, s29_35, s29_36, s29_37, s29_53, s29_54, cNode r.1.1, hv, ir_b_f, ir_k_i, ir_tl_i, if_true]
      simp only [e75, s75_0, s75_1, s75_2, s75_5, s75_6, s75_7, s75_10, s75_13, k29, c110m, ir_k_i, ir_tl_i]
    · simp only [e131, s131_0, s131_1, s131_2, s131_5, s131_6, s131_7, s131_10, s131_44, s131_45, mNode r0.1.1, hv, ir_b_f, ir_k_i, ir_tl_i, if_true]
  | true =>
    cases hw : inr w (nI N) with
    | false =>
      refine ⟨-1, σ, _, ?_, ?_, RR_of r0⟩
      · have k29 : ir_ev (d + 49) 29 [.ref 1, .int v, .int w] σ = some (some (.int (-1)), σ) := by
          simp only [e29, s29_0, s29_1, s29_2, s29_5, s29_8, s29_9, s29_10, s29_13, s29_34, s29_35, s29_36, s29_37, s29_53, s29_54, cNode r.1.1, hv, hw, ir_b_t, ir_b_f, ir_k_i, ir_tl_i, i_10, if_true, if_false]
        simp only [e75, s75_0, s75_1, s75_2, s75_5, s75_6, s75_7, s75_10, s75_13, k29, c110m, ir_k_i, ir_tl_i]
      · simp only [e131, s131_0, s131_1, s131_2, s131_5, s131_6, s131_7, s131_10, s131_13, s131_14, s131_15, s131_18, s131_44, s131_45, mNode r0.1.1, hv, hw, ir_b_t, ir_b_f, ir_k_i, ir_tl_i, i_10, if_true, if_false]
    | true =>
      by_cases hvw : v = w
      · refine ⟨-1, σ, _, ?_, ?_, RR_of r0⟩
        · have k29 : ir_ev (d + 49) 29 [.ref 1, .int v, .int w] σ = some (some (.int (-1)), σ) := by
            simp only [e29, s29_0, s29_1, s29_2, s29_5, s29_8, s29_9, s29_10, s29_13, s29_16, s29_17, s29_18, s29_34, s29_35, s29_36, s29_37, s29_53, s29_54, cNode r.1.1, hv, hw, if_pos hvw, ir_b_t, ir_k_i, ir_tl_i, i_10, if_true, if_false]
          simp only [e75, s75_0, s75_1, s75_2, s75_5, s75_6, s75_7, s75_10, s75_13, k29, c110m, ir_k_i, ir_tl_i]
        · simp only [e131, s131_0, s131_1, s131_2, s131_5, s131_6, s131_7, s131_10, s131_13, s131_14, s131_15, s131_18, s131_21, s131_22, s131_23, s131_44, s131_45, mNode r0.1.1, hv, hw, if_pos hvw, ir_b_t, ir_k_i, ir_tl_i, i_10, if_true, if_false]
      · obtain ⟨a, ha, rfl⟩ := inr_nI (by omega) hv
        obtain ⟨b, hb, rfl⟩ := inr_nI (by omega) hw
        have hab : a ≠ b := fun q => hvw (by rw [q])
        have hbit : ir_bit (σ 3 a) b = adjM σ m a b := by
          rw [r11 a b (by omega) (by omega)]
          have : b < 12 := by omega
          simp [this]
        have e0 : adjM (ir_up σ 33 0 0) m a b = adjM σ m a b := by unfold adjM; rw [u_n _ _ _ (by decide), u_n _ _ _ (by decide)]
        have k128 : ∀ (τ : ir_S) dd, τ 33 3 = nI m → ir_ev (dd + 1) 128 [.ref 33, .int (nI a), .int (nI b)] τ = some (some (.int (lnF (τ 35) (τ 36) (nI a) (nI b) m 0)), τ) := fun τ dd h => m128 hm h
        have hge : ∀ τ : ir_S, (0 ≤ lnF (τ 35) (τ 36) (nI a) (nI b) m 0) = (adjM τ m a b = true) := fun τ => by
          have h1 := lnM_neg (σ := τ) (m := m) (a := a) (b := b) hm
          have h2 : (0 ≤ lnF (τ 35) (τ 36) (nI a) (nI b) m 0) = ¬ (lnF (τ 35) (τ 36) (nI a) (nI b) m 0 < 0) := propext Int32.not_lt.symm
          rw [h2, h1]
          simp
        have y3 : (ir_up σ 33 0 0) 33 3 = nI m := by rw [u_s, upd_n _ _ (by decide)]; exact x3
        have q3 : a < 12 := by omega
        cases hadj : adjM σ m a b with
        | true =>
          rw [hadj] at hbit e0
          refine ⟨-1, σ, _, ?_, ?_, RR_of r0⟩
          · have k29 : ir_ev (d + 49) 29 [.ref 1, .int (nI a), .int (nI b)] σ = some (some (.int (-1)), σ) := by
              by_cases hfl : 20 ≤ m
              · simp (disch := omega) only [e29, s29_0, s29_1, s29_2, s29_5, s29_8, s29_9, s29_10, s29_13, s29_16, s29_17, s29_18, s29_21, s29_22, s29_25, s29_27, s29_34, s29_35, s29_36, s29_37, s29_53, s29_54, cNode r.1.1, hv, hw, if_neg hvw, x5, n_lt_0, n_le_0, n_tl_0, n_el_0, n_eq_0, n_ad_0, n_lt_1, n_le_1, n_tl_1, n_el_1, n_eq_1, n_ad_1, n_lt_2, n_le_2, n_tl_2, n_el_2, n_eq_2, n_ad_2, n_lt_3, n_le_3, n_tl_3, n_el_3, n_eq_3, n_ad_3, n_lt_4, n_le_4, n_tl_4, n_el_4, n_eq_4, n_ad_4, n_lt_5, n_le_5, n_tl_5, n_el_5, n_eq_5, n_ad_5, n_lt_6, n_le_6, n_tl_6, n_el_6, n_eq_6, n_ad_6, n_lt_10, n_le_10, n_tl_10, n_el_10, n_eq_10, n_ad_10, n_lt_11, n_le_11, n_tl_11, n_el_11, n_eq_11, n_ad_11, n_lt_12, n_le_12, n_tl_12, n_el_12, n_eq_12, n_ad_12, n_lt_13, n_le_13, n_tl_13, n_el_13, n_eq_13, n_ad_13, n_lt_15, n_le_15, n_tl_15, n_el_15, n_eq_15, n_ad_15, n_lt_20, n_le_20, n_tl_20, n_el_20, n_eq_20, n_ad_20, n_lt_30, n_le_30, n_tl_30, n_el_30, n_eq_30, n_ad_30, n_lt_31, n_le_31, n_tl_31, n_el_31, n_eq_31, n_ad_31, n_lt_32, n_le_32, n_tl_32, n_el_32, n_eq_32, n_ad_32, n_lt_60, n_le_60, n_tl_60, n_el_60, n_eq_60, n_ad_60, n_lt_99, n_le_99, n_tl_99, n_el_99, n_eq_99, n_ad_99, n_lt_100, n_le_100, n_tl_100, n_el_100, n_eq_100, n_ad_100, n_lt_144, n_le_144, n_tl_144, n_el_144, n_eq_144, n_ad_144, n_lt_4096, n_le_4096, n_tl_4096, n_el_4096, n_eq_4096, n_ad_4096, n_mulK, nI_add, pk_mul, n_lt, n_le, n_eq, n_eqM, n_ix, n_cl, if_pos hfl, ir_b_t, ir_k_i, ir_tl_i, i_10, if_true, if_false, hab]
              · simp (disch := omega) only [e29, s29_0, s29_1, s29_2, s29_5, s29_8, s29_9, s29_10, s29_13, s29_16, s29_17, s29_18, s29_21, s29_22, s29_25, s29_27, s29_30, s29_31, s29_35, s29_36, s29_37, s29_40, s29_41, s29_44, s29_45, s29_46, s29_47, s29_50, s29_53, s29_54, xA3, xL3, xa3, cNode r.1.1, hv, hw, if_neg hvw, x5, n_lt_0, n_le_0, n_tl_0, n_el_0, n_eq_0, n_ad_0, n_lt_1, n_le_1, n_tl_1, n_el_1, n_eq_1, n_ad_1, n_lt_2, n_le_2, n_tl_2, n_el_2, n_eq_2, n_ad_2, n_lt_3, n_le_3, n_tl_3, n_el_3, n_eq_3, n_ad_3, n_lt_4, n_le_4, n_tl_4, n_el_4, n_eq_4, n_ad_4, n_lt_5, n_le_5, n_tl_5, n_el_5, n_eq_5, n_ad_5, n_lt_6, n_le_6, n_tl_6, n_el_6, n_eq_6, n_ad_6, n_lt_10, n_le_10, n_tl_10, n_el_10, n_eq_10, n_ad_10, n_lt_11, n_le_11, n_tl_11, n_el_11, n_eq_11, n_ad_11, n_lt_12, n_le_12, n_tl_12, n_el_12, n_eq_12, n_ad_12, n_lt_13, n_le_13, n_tl_13, n_el_13, n_eq_13, n_ad_13, n_lt_15, n_le_15, n_tl_15, n_el_15, n_eq_15, n_ad_15, n_lt_20, n_le_20, n_tl_20, n_el_20, n_eq_20, n_ad_20, n_lt_30, n_le_30, n_tl_30, n_el_30, n_eq_30, n_ad_30, n_lt_31, n_le_31, n_tl_31, n_el_31, n_eq_31, n_ad_31, n_lt_32, n_le_32, n_tl_32, n_el_32, n_eq_32, n_ad_32, n_lt_60, n_le_60, n_tl_60, n_el_60, n_eq_60, n_ad_60, n_lt_99, n_le_99, n_tl_99, n_el_99, n_eq_99, n_ad_99, n_lt_100, n_le_100, n_tl_100, n_el_100, n_eq_100, n_ad_100, n_lt_144, n_le_144, n_tl_144, n_el_144, n_eq_144, n_ad_144, n_lt_4096, n_le_4096, n_tl_4096, n_el_4096, n_eq_4096, n_ad_4096, n_mulK, nI_add, pk_mul, n_lt, n_le, n_eq, n_eqM, n_ix, n_cl, if_neg hfl, q3, decide_true, c116, hbit, ir_b_t, ir_k_i, ir_tl_i, i_10, if_true, if_false, hab]
            simp only [e75, s75_0, s75_1, s75_2, s75_5, s75_6, s75_7, s75_10, s75_13, k29, c110m, ir_k_i, ir_tl_i]
          · simp only [e131, s131_0, s131_1, s131_2, s131_5, s131_6, s131_7, s131_10, s131_13, s131_14, s131_15, s131_18, s131_21, s131_22, s131_23, s131_26, s131_27, s131_28, s131_29, s131_32, s131_44, s131_45, mNode r0.1.1, hv, hw, if_neg hvw, k128 _ _ y3, hge, e0, ir_b_t, ir_k_i, ir_tl_i, i_10, if_true, if_false]
        | false =>
          rw [hadj] at hbit e0
          have en0 : ¬ (adjM (ir_up σ 33 0 0) m a b = true) := by rw [e0]; exact fun q => by cases q
          by_cases hfl : m = 20
          · have hfl' : 20 ≤ m := by omega
            refine ⟨-1, σ, _, ?_, ?_, RR_of r0⟩
            · have k29 : ir_ev (d + 49) 29 [.ref 1, .int (nI a), .int (nI b)] σ = some (some (.int (-1)), σ) := by
                simp (disch := omega) only [e29, s29_0, s29_1, s29_2, s29_5, s29_8, s29_9, s29_10, s29_13, s29_16, s29_17, s29_18, s29_21, s29_22, s29_25, s29_27, s29_34, s29_35, s29_36, s29_37, s29_53, s29_54, cNode r.1.1, hv, hw, if_neg hvw, x5, n_lt_0, n_le_0, n_tl_0, n_el_0, n_eq_0, n_ad_0, n_lt_1, n_le_1, n_tl_1, n_el_1, n_eq_1, n_ad_1, n_lt_2, n_le_2, n_tl_2, n_el_2, n_eq_2, n_ad_2, n_lt_3, n_le_3, n_tl_3, n_el_3, n_eq_3, n_ad_3, n_lt_4, n_le_4, n_tl_4, n_el_4, n_eq_4, n_ad_4, n_lt_5, n_le_5, n_tl_5, n_el_5, n_eq_5, n_ad_5, n_lt_6, n_le_6, n_tl_6, n_el_6, n_eq_6, n_ad_6, n_lt_10, n_le_10, n_tl_10, n_el_10, n_eq_10, n_ad_10, n_lt_11, n_le_11, n_tl_11, n_el_11, n_eq_11, n_ad_11, n_lt_12, n_le_12, n_tl_12, n_el_12, n_eq_12, n_ad_12, n_lt_13, n_le_13, n_tl_13, n_el_13, n_eq_13, n_ad_13, n_lt_15, n_le_15, n_tl_15, n_el_15, n_eq_15, n_ad_15, n_lt_20, n_le_20, n_tl_20, n_el_20, n_eq_20, n_ad_20, n_lt_30, n_le_30, n_tl_30, n_el_30, n_eq_30, n_ad_30, n_lt_31, n_le_31, n_tl_31, n_el_31, n_eq_31, n_ad_31, n_lt_32, n_le_32, n_tl_32, n_el_32, n_eq_32, n_ad_32, n_lt_60, n_le_60, n_tl_60, n_el_60, n_eq_60, n_ad_60, n_lt_99, n_le_99, n_tl_99, n_el_99, n_eq_99, n_ad_99, n_lt_100, n_le_100, n_tl_100, n_el_100, n_eq_100, n_ad_100, n_lt_144, n_le_144, n_tl_144, n_el_144, n_eq_144, n_ad_144, n_lt_4096, n_le_4096, n_tl_4096, n_el_4096, n_eq_4096, n_ad_4096, n_mulK, nI_add, pk_mul, n_lt, n_le, n_eq, n_eqM, n_ix, n_cl, if_pos hfl', ir_b_t, ir_k_i, ir_tl_i, i_10, if_true, if_false, hab]
              simp only [e75, s75_0, s75_1, s75_2, s75_5, s75_6, s75_7, s75_10, s75_13, k29, c110m, ir_k_i, ir_tl_i]
            · simp (disch := omega) only [e131, s131_0, s131_1, s131_2, s131_5, s131_6, s131_7, s131_10, s131_13, s131_14, s131_15, s131_18, s131_21, s131_22, s131_23, s131_26, s131_27, s131_28, s131_29, s131_32, s131_35, s131_36, s131_39, s131_41, s131_44, s131_45, mNode r0.1.1, hv, hw, if_neg hvw, k128 _ _ y3, hge, en0, e0, Bool.false_eq_true, y3, n_eq_20, if_pos hfl, ir_b_t, ir_k_i, ir_tl_i, i_10, if_true, if_false]
          · have hm20 : m < 20 := by omega
            obtain ⟨σ1, a1, a2, a3, a4, a5, a6, a7, a8, a9⟩ := c29 (d := d + 45) r.1.1 ha hb hab hm20 hadj
            have hne := oI_m1 (b := m) (by omega)
            have en : ∀ q, q ≠ 1 → q ≠ 3 → q ≠ 4 → q ≠ 5 → q ≠ 25 → q ≠ 30 → (ir_up (ir_up σ1 25 6 0) 30 0 0) q = σ q := fun q z1 z3 z4 z5 c e => by rw [u_n _ _ _ e, u_n _ _ _ c, a2 q z1 z3 z4 z5]
            have e1 : ∀ q, q < 25 → (ir_up (ir_up σ1 25 6 0) 30 0 0) q = σ1 q := fun q hq => by rw [u_n _ _ _ (by omega), u_n _ _ _ (by omega)]
            have e25 : (ir_up (ir_up σ1 25 6 0) 30 0 0) 25 6 = 0 := by rw [u_n _ _ _ (by decide), u_s, upd_s]
            have e30 : (ir_up (ir_up σ1 25 6 0) 30 0 0) 30 0 = 0 := by rw [u_s, upd_s]
            have hc1 : ir_ev (d + 50) 75 [.ref 0, .int (nI a), .int (nI b)] σ = some (some (.int (nI m)), ir_up (ir_up σ1 25 6 0) 30 0 0) := by
              simp only [e75, s75_0, s75_1, s75_2, s75_5, s75_6, s75_7, s75_10, s75_13, a1, c110 hne, ir_k_i, ir_tl_i]
            generalize (ir_up (ir_up σ1 25 6 0) 30 0 0) = τ at *
            have e33 : τ 33 = σ 33 := en 33 (by decide) (by decide) (by decide) (by decide) (by decide) (by decide)
            have t34 : τ 34 = σ 34 := en 34 (by decide) (by decide) (by decide) (by decide) (by decide) (by decide)
            have t35 : τ 35 = σ 35 := en 35 (by decide) (by decide) (by decide) (by decide) (by decide) (by decide)
            have t36 : τ 36 = σ 36 := en 36 (by decide) (by decide) (by decide) (by decide) (by decide) (by decide)
            have hnd : ∀ v dd, ir_ev (dd + 2) 122 [.ref 33, .int v] (ir_up τ 33 0 0) = some (some (.int (ir_b (inr v (nI N)))), ir_up τ 33 0 0) := fun v dd => by
              have h1 : (ir_up τ 33 0 0) 33 1 = nI N := by rw [u_s, upd_n _ _ (by decide), e33]; exact r.1.1.2.2.2.1
              have h2 : isNm (ir_up τ 33 0 0) v = inr v (nI N) := by
                have e : isNm (ir_up τ 33 0 0) v = inr v ((ir_up τ 33 0 0) 33 1) := rfl
                rw [e, h1]
              rw [← h2]
              exact m122 (by rw [h1]; exact n_nn (by omega))
            have z3 : (ir_up τ 33 0 0) 33 3 = nI m := by rw [u_s, upd_n _ _ (by decide), e33]; exact x3
            have tadj : ¬ (adjM τ m a b = true) := by
              have : adjM τ m a b = adjM σ m a b := by unfold adjM; rw [t35, t36]
              rw [this, hadj]
              exact fun q => by cases q
            have zadj : ¬ (adjM (ir_up τ 33 0 0) m a b = true) := by
              have : adjM (ir_up τ 33 0 0) m a b = adjM σ m a b := by unfold adjM; rw [u_n _ _ _ (by decide), u_n _ _ _ (by decide), t35, t36]
              rw [this, hadj]
              exact fun q => by cases q
            have hn : ∀ q, q ≠ 33 → q ≠ 35 → q ≠ 36 → (ir_up (ir_up (ir_up (ir_up (ir_up τ 33 0 0) 33 34 (-1)) 35 m (nI a)) 36 m (nI b)) 33 3 (nI (m + 1))) q = τ q := fun q z1 z2 z3 => by rw [u_n _ _ _ z1, u_n _ _ _ z3, u_n _ _ _ z2, u_n _ _ _ z1, u_n _ _ _ z1]
            have h33 : ∀ j, j ≠ 0 → j ≠ 34 → j ≠ 3 → (ir_up (ir_up (ir_up (ir_up (ir_up τ 33 0 0) 33 34 (-1)) 35 m (nI a)) 36 m (nI b)) 33 3 (nI (m + 1))) 33 j = σ 33 j := fun j z1 z2 z3 => by
              rw [← e33]
              simp (disch := omega) only [u_s, upd_n, u_n]
            have f35 : (ir_up (ir_up (ir_up (ir_up (ir_up τ 33 0 0) 33 34 (-1)) 35 m (nI a)) 36 m (nI b)) 33 3 (nI (m + 1))) 35 = upd (σ 35) m (nI a) := by
              rw [← t35]
              simp (disch := omega) only [u_s, u_n]
            have f36 : (ir_up (ir_up (ir_up (ir_up (ir_up τ 33 0 0) 33 34 (-1)) 35 m (nI a)) 36 m (nI b)) 33 3 (nI (m + 1))) 36 = upd (σ 36) m (nI b) := by
              rw [← t36]
              simp (disch := omega) only [u_s, u_n]
            have f3 : (ir_up (ir_up (ir_up (ir_up (ir_up τ 33 0 0) 33 34 (-1)) 35 m (nI a)) 36 m (nI b)) 33 3 (nI (m + 1))) 33 3 = nI (m + 1) := by rw [u_s, upd_s]
            have fl : (ir_up (ir_up (ir_up (ir_up (ir_up τ 33 0 0) 33 34 (-1)) 35 m (nI a)) 36 m (nI b)) 33 3 (nI (m + 1))) 33 34 = -1 := by simp (disch := omega) only [u_s, u_n, upd_s, upd_n]
            have hpred : nI (m + 1) - 1 = nI m := nI_pred m
            refine ⟨nI m, τ, ir_up (ir_up (ir_up (ir_up (ir_up τ 33 0 0) 33 34 (-1)) 35 m (nI a)) 36 m (nI b)) 33 3 (nI (m + 1)), hc1, ?_, ?_⟩
            · simp (disch := omega) only [e131, s131_0, s131_1, s131_2, s131_5, s131_6, s131_7, s131_10, s131_13, s131_14, s131_15, s131_18, s131_21, s131_22, s131_23, s131_26, s131_27, s131_28, s131_29, s131_32, s131_35, s131_36, s131_39, s131_41, s131_46, s131_47, s131_50, s131_51, s131_54, s131_55, s131_58, s131_59, s131_60, s131_61, s131_64, s131_65, s131_68, s131_69, s131_70, s131_71i, s131_71r, s131_72, s131_75, s131_76, s131_77, s131_80, s131_81, s131_84, s131_85, s131_86, xA35, xL35, xa35, xA36, xL36, xa36, hnd, hv, hw, if_neg hvw, k128 _ _ z3, hge, zadj, tadj, Bool.false_eq_true, u_s, u_n, upd_s, upd_n, e33, x3, m129, n_eq_20, n_ix, n_cl, n_ad_1, hfl, hm20, hpred, decide_true, ir_b_t, ir_k_i, ir_tl_i, ir_k_v, ir_tl_v, i_10, if_true, if_false]
            · generalize (ir_up (ir_up (ir_up (ir_up (ir_up τ 33 0 0) 33 34 (-1)) 35 m (nI a)) 36 m (nI b)) 33 3 (nI (m + 1))) = ρ at *
              have hnn : ∀ q, q ≠ 33 → q ≠ 35 → q ≠ 36 → q ≠ 1 → q ≠ 3 → q ≠ 4 → q ≠ 5 → q ≠ 25 → q ≠ 30 → ρ q = σ q := fun q y1 y2 y3 y4 y5 y6 y7 y8 y9 => by rw [hn q y1 y2 y3, en q y4 y5 y6 y7 y8 y9]
              have g1 : ρ 1 = σ1 1 := by rw [hn 1 (by decide) (by decide) (by decide), e1 1 (by decide)]
              have g3 : ρ 3 = σ1 3 := by rw [hn 3 (by decide) (by decide) (by decide), e1 3 (by decide)]
              have g4 : ρ 4 = σ1 4 := by rw [hn 4 (by decide) (by decide) (by decide), e1 4 (by decide)]
              have g5 : ρ 5 = σ1 5 := by rw [hn 5 (by decide) (by decide) (by decide), e1 5 (by decide)]
              refine RR_of (RA_ch (N' := N) (m' := m + 1) (F' := F) (C' := C) (K' := K) (LA' := fun l => if l = m then a else LA l) (LB' := fun l => if l = m then b else LB l) r ⟨R1_line r.1.1 ha hb hab hm20 hadj (by rw [g1]; exact a3) (by rw [g1]; exact a4) (by rw [g1]; exact a5) (hnn 2 (by decide) (by decide) (by decide) (by decide) (by decide) (by decide) (by decide) (by decide) (by decide)) (hnn 34 (by decide) (by decide) (by decide) (by decide) (by decide) (by decide) (by decide) (by decide) (by decide)) (h33 1 (by decide) (by decide) (by decide)) f3 f35 f36 (by rw [g4]; exact a6) (by rw [g3]; exact a7) (by rw [g5]; exact a8) (by rw [g5]; exact a9), R2_c (fun c hc => ?_) (h33 10 (by decide) (by decide) (by decide)) r.1.2.1, ?_, R4_c (fun c hc => ?_) (h33 17 (by decide) (by decide) (by decide)) r.1.2.2.2.1, ?_⟩ (hnn 31 (by decide) (by decide) (by decide) (by decide) (by decide) (by decide) (by decide) (by decide) (by decide)) (hnn 32 (by decide) (by decide) (by decide) (by decide) (by decide) (by decide) (by decide) (by decide) (by decide)) (hnn 49 (by decide) (by decide) (by decide) (by decide) (by decide) (by decide) (by decide) (by decide) (by decide)) (h33 22 (by decide) (by decide) (by decide)) (by rw [hn 25 (by decide) (by decide) (by decide)]; exact e25) (by rw [hn 30 (by decide) (by decide) (by decide)]; exact e30) fl)
              · have : c = 2 ∨ c = 6 ∨ c = 7 ∨ c = 8 ∨ c = 9 ∨ c = 10 ∨ c = 37 ∨ c = 38 ∨ c = 39 ∨ c = 40 := by simpa using hc
                exact hnn c (by omega) (by omega) (by omega) (by omega) (by omega) (by omega) (by omega) (by omega) (by omega)
              · have r3' : R3 ρ N m F := R3_c (fun c hc => by
                  have : c = 2 ∨ c = 18 ∨ c = 19 ∨ c = 42 ∨ c = 43 ∨ c = 44 ∨ c = 45 := by simpa using hc
                  exact hnn c (by omega) (by omega) (by omega) (by omega) (by omega) (by omega) (by omega) (by omega) (by omega)) (h33 12 (by decide) (by decide) (by decide)) r.1.2.2.1
                refine ⟨r3'.1, r3'.2.1, r3'.2.2.1, fun f hf => ?_⟩
                obtain ⟨y1, y2, y3, y4, y5⟩ := r3'.2.2.2 f hf
                refine ⟨y1, y2, y3, y4, ?_⟩
                rcases y5 with ⟨hk, x, hx, hxa⟩ | y5
                · exact Or.inl ⟨hk, x, by omega, hxa⟩
                · exact Or.inr y5
              · have : c = 20 ∨ c = 21 ∨ c = 46 ∨ c = 47 := by simpa using hc
                exact hnn c (by omega) (by omega) (by omega) (by omega) (by omega) (by omega) (by omega) (by omega) (by omega)
              · have r5' : R5 ρ N m K := R5_c (fun c hc => by
                  have : c = 22 ∨ c = 23 ∨ c = 51 ∨ c = 52 ∨ c = 53 ∨ c = 54 ∨ c = 55 := by simpa using hc
                  exact hnn c (by omega) (by omega) (by omega) (by omega) (by omega) (by omega) (by omega) (by omega) (by omega)) (h33 26 (by decide) (by decide) (by decide)) r.1.2.2.2.2
                exact r5'
end LI
