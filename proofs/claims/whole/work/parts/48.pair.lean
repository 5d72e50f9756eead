/-! the relation of the class and the reference, and what a pair of calls keeps -/
def RW (σ : ir_S) : Prop := ∃ n, n ≤ 31 ∧ σ 31 1 = nI n ∧ σ 33 22 = nI n ∧ ∀ i, i < n → σ 49 i = σ 32 i
def LES (σ : ir_S) (F C : Nat) : Prop := (σ 30 0 = 0 ∧ σ 33 34 = -1) ∨ (σ 30 0 = 1 ∧ ∃ c s mm, c < C ∧ s < 2 ^ C ∧ mm < 4096 ∧ σ 30 1 = nI c ∧ σ 33 34 = nI c ∧ σ 30 2 = nI mm ∧ σ 33 35 = nI mm ∧ σ 33 36 = σ 30 3 ∧ σ 30 4 = nI s ∧ σ 33 40 = nI s ∧ σ 33 37 = σ 30 5 ∧ σ 33 38 = σ 30 6 ∧ σ 33 39 = σ 30 7)
def TBR (σ : ir_S) (N m C K : Nat) : Prop := σ 25 6 = 0 ∨ (σ 25 6 = 1 ∧ TB σ N m C K)
def RA (σ : ir_S) (N m F C K : Nat) (LA LB : Nat → Nat) : Prop := R0 σ N m F C K LA LB ∧ RW σ ∧ LES σ F C ∧ TBR σ N m C K
def RR (σ : ir_S) : Prop := ∃ N m F C K LA LB, RA σ N m F C K LA LB
def PAIR (d a b : Nat) (va : List Value) (σ : ir_S) : Prop := ∃ v σ1 σ2, ir_ev (d + 50) a (.ref 0 :: va) σ = some (some (.int v), σ1) ∧ ir_ev (d + 50) b (.ref 33 :: va) σ1 = some (some (.int v), σ2) ∧ RR σ2
section PR
variable {σ σ' : ir_S} {N m F C K : Nat} {LA LB : Nat → Nat}
theorem TB_ag (h : agS σ σ') (h25 : σ' 25 = σ 25) (h27 : σ' 27 = σ 27) (h28 : σ' 28 = σ 28) (h29 : σ' 29 = σ 29) (t : TB σ N m C K) : TB σ' N m C K := by
  unfold TB TBL MEM at *
  rw [AL0_ag h, PR0_ag h, h25, h27, h28, h29]
  exact t
theorem TB_29 (h : ∀ c, c ≠ 29 → σ' c = σ c) (t : TB σ N m C K) (hM : MEM σ' C (WV (AL0 σ N m C) (PR0 σ) K C 12)) : TB σ' N m C K := by
  unfold TB
  rw [AL0_ag (agS_29 h), PR0_ag (agS_29 h)]
  exact ⟨TBL_ag h t.1, hM⟩
theorem RA_frR (h : frR σ σ') (r : RA σ N m F C K LA LB) : RA σ' N m F C K LA LB := by
  obtain ⟨r0, rw_, rl, rt⟩ := r
  have ag := agS_frR h
  have e25 : σ' 25 = σ 25 := h.1 25 (by decide) (by decide) (by decide) (by decide) (by decide) (by decide)
  have e27 : σ' 27 = σ 27 := h.1 27 (by decide) (by decide) (by decide) (by decide) (by decide) (by decide)
  have e28 : σ' 28 = σ 28 := h.1 28 (by decide) (by decide) (by decide) (by decide) (by decide) (by decide)
  have e29 : σ' 29 = σ 29 := h.1 29 (by decide) (by decide) (by decide) (by decide) (by decide) (by decide)
  have e30 : σ' 30 = σ 30 := h.1 30 (by decide) (by decide) (by decide) (by decide) (by decide) (by decide)
  have e31 : σ' 31 = σ 31 := h.1 31 (by decide) (by decide) (by decide) (by decide) (by decide) (by decide)
  have e32 : σ' 32 = σ 32 := h.1 32 (by decide) (by decide) (by decide) (by decide) (by decide) (by decide)
  have e49 : σ' 49 = σ 49 := h.1 49 (by decide) (by decide) (by decide) (by decide) (by decide) (by decide)
  refine ⟨R0_ag ag r0, ?_, ?_, ?_⟩
  · unfold RW at *
    rw [e31, e32, e49, h.2 22 (by decide) (by decide) (by decide)]
    exact rw_
  · unfold LES at *
    rw [e30, h.2 34 (by decide) (by decide) (by decide), h.2 35 (by decide) (by decide) (by decide), h.2 36 (by decide) (by decide) (by decide), h.2 37 (by decide) (by decide) (by decide), h.2 38 (by decide) (by decide) (by decide), h.2 39 (by decide) (by decide) (by decide), h.2 40 (by decide) (by decide) (by decide)]
    exact rl
  · unfold TBR at *
    rw [e25]
    rcases rt with rt | ⟨rt, t⟩
    · exact Or.inl rt
    · exact Or.inr ⟨rt, TB_ag ag e25 e27 e28 e29 t⟩
theorem RA_frT (h : frT σ σ') (h1 : σ' 25 6 = 1) (t : TB σ' N m C K) (r : RA σ N m F C K LA LB) : RA σ' N m F C K LA LB := by
  obtain ⟨r0, rw_, rl, rt⟩ := r
  refine ⟨R0_ag (agS_frT h) r0, ?_, ?_, Or.inr ⟨h1, t⟩⟩
  · unfold RW at *
    rw [h 31 (by omega), h 32 (by omega), h 33 (by omega), h 49 (by omega)]
    exact rw_
  · unfold LES at *
    rw [h 30 (by omega), h 33 (by omega)]
    exact rl
theorem RA_29 (h : ∀ c, c ≠ 29 → σ' c = σ c) (h1 : σ 25 6 = 1) (t : TB σ N m C K) (hM : MEM σ' C (WV (AL0 σ N m C) (PR0 σ) K C 12)) (r : RA σ N m F C K LA LB) : RA σ' N m F C K LA LB := by
  have h2 : σ' 25 6 = 1 := by rw [h 25 (by decide)]; exact h1
  exact RA_frT (fun q hq => h q (by omega)) h2 (TB_29 h t hM) r
/-- only cells of the broken net and the post -/
theorem RA_17 (h : ∀ c, c < 11 ∨ 17 < c → σ' c = σ c) (r : RA σ N m F C K LA LB) : RA σ' N m F C K LA LB := by
  obtain ⟨r0, rw_, rl, rt⟩ := r
  have ag : agS σ σ' := agS_frT (fun q hq => h q (by omega))
  refine ⟨R0_ag ag r0, ?_, ?_, ?_⟩
  · unfold RW at *
    rw [h 31 (by omega), h 32 (by omega), h 33 (by omega), h 49 (by omega)]
    exact rw_
  · unfold LES at *
    rw [h 30 (by omega), h 33 (by omega)]
    exact rl
  · unfold TBR at *
    rw [h 25 (by omega)]
    rcases rt with rt | ⟨rt, t⟩
    · exact Or.inl rt
    · exact Or.inr ⟨rt, TB_ag ag (h 25 (by omega)) (h 27 (by omega)) (h 28 (by omega)) (h 29 (by omega)) t⟩
theorem RR_of (r : RA σ N m F C K LA LB) : RR σ := ⟨N, m, F, C, K, LA, LB, r⟩
theorem inr_nI {v : Int32} {n : Nat} (hn : n ≤ 4096) (h : inr v (nI n) = true) : ∃ k, k < n ∧ v = nI k := by
  unfold inr at h
  rw [Bool.and_eq_true, decide_eq_true_iff, decide_eq_true_iff] at h
  obtain ⟨k, hk, rfl⟩ := nI_of h.1
  have h2 := h.2
  rw [n_le (by omega) (by omega)] at h2
  exact ⟨k, by omega, rfl⟩
theorem isE_inr {e : Nat} {v : Int32} : isE σ e v = inr v (σ e 1) := rfl
theorem n_nn {n : Nat} (hn : n ≤ 4096) : 0 ≤ (nI n).toInt := by rw [nI_toInt (by omega)]; omega
/-- sets of causes -/
def isSt (C : Nat) (v : Int32) : Bool := decide (¬ v ≤ 0) && decide (¬ nI (2 ^ C - 1) < v)
theorem s_all {C : Nat} (hC : C ≤ 12) : (1 : Int32) <<< (nI C &&& 31) - 1 = nI (2 ^ C - 1) := by
  have : ∀ C, C < 13 → (1 : Int32) <<< (nI C &&& 31) - 1 = nI (2 ^ C - 1) := by decide +kernel
  exact this C (by omega)
theorem isSt_nI {v : Int32} (hC : C ≤ 12) (h : isSt C v = true) : ∃ s, 0 < s ∧ s < 2 ^ C ∧ v = nI s := by
  have h4 := pC hC
  unfold isSt at h
  rw [Bool.and_eq_true, decide_eq_true_iff, decide_eq_true_iff] at h
  have h0 : ¬ v < 0 := fun q => h.1 (Int32.le_of_lt q)
  obtain ⟨k, hk, rfl⟩ := nI_of h0
  have h2 := h.2
  have h1 := h.1
  rw [n_lt (by omega) (by omega)] at h2
  rw [n_le_0 (by omega)] at h1
  exact ⟨k, by omega, by omega, rfl⟩
theorem isSt_in {s : Nat} (hC : C ≤ 12) (h0 : 0 < s) (hs : s < 2 ^ C) : isSt C (nI s) = true := by
  have h4 := pC hC
  unfold isSt
  have q1 : ¬ nI s ≤ 0 := by rw [n_le_0 (by omega)]; omega
  have q2 : ¬ nI (2 ^ C - 1) < nI s := by rw [n_lt (by omega) (by omega)]; omega
  simp [q1, q2]
theorem c107 {d : Nat} {v : Int32} (h : σ 20 1 = nI C) (hC : C ≤ 12) : ir_ev (d + 2) 107 [.ref 0, .int v] σ = some (some (.int (ir_b (isSt C v))), σ) := by
  simp only [e107, s107_0, s107_1, s107_19, s107_4, s107_20z, s107_20o, s107_20b, s107_5, s107_6, s107_9_18, s107_9_20, s107_9_22, s107_12, s107_15, s107_16, c3_20, h, s_all hC, ir_k_i, ir_tl_i]
  unfold isSt
  by_cases h1 : v ≤ 0 <;> by_cases h2 : nI (2 ^ C - 1) < v <;> simp [h1, h2, ir_b]
theorem in_1k {x k : Int32} : (decide ((1 : Int64) ≤ x.toInt64) && decide (x.toInt64 ≤ k.toInt64)) = (decide (¬ x ≤ 0) && decide (¬ k < x)) := by
  have e1 : ((1 : Int64) ≤ x.toInt64) ↔ ¬ x ≤ 0 := by
    rw [Int64.le_iff_toInt_le, Int32.toInt_toInt64, Int32.not_le, Int32.lt_iff_toInt_lt]
    have a : (1 : Int64).toInt = 1 := by decide
    have b : (0 : Int32).toInt = 0 := by decide
    omega
  have e2 : (x.toInt64 ≤ k.toInt64) ↔ ¬ k < x := by
    rw [Int64.le_iff_toInt_le, Int32.toInt_toInt64, Int32.toInt_toInt64, Int32.not_lt, Int32.le_iff_toInt_le]
  rw [decide_eq_decide.mpr e1, decide_eq_decide.mpr e2]
theorem m168 {d : Nat} {v : Int32} (h : σ 33 17 = nI C) (hC : C ≤ 12) : ir_ev (d + 2) 168 [.ref 33, .int v] σ = some (some (.int (ir_b (isSt C v))), σ) := by
  simp only [e168, s168_0, s168_1, s168_2, s168_3, s168_4, s168_5, s168_8, s168_9, s168_10, s168_11, s168_12, s168_15z, s168_15o, s168_15b, c119, h, s_all hC, in_1k, ir_k_i, ir_tl_i]
  rfl
theorem AL0_e : (fun l => alN (an0 σ N m l) C) = AL0 σ N m C := rfl
/-! worst -/
theorem freshM {d : Nat} (r : R0 σ N m F C K LA LB) : ∃ σ', ir_ev (d + 10) 169 [.ref 33] σ = some (none, σ') ∧ frR σ σ' ∧ TM σ' K C (an0 σ N m) (PR0 σ) ∧ ∀ s, s < 4096 → σ' 57 s = -1 := by
  obtain ⟨σ1, a1, a2, a3⟩ := asks (d := d) r
  obtain ⟨σ2, b1, b2, b3⟩ := m169_loop (E := ir_ev (d + 9)) 4096 0 σ1 (by omega) (fun s hs => by omega)
  refine ⟨σ2, ?_, frR_tr a2 (frR_57 b2), TM_57 b2 (TM_of r a2 a3), b3⟩
  simp only [e169, s169_0, s169_1, s169_4, s169_5, a1, ir_k_v, ir_tl_v]
  exact b1
theorem worstM {d s : Nat} (r : R0 σ N m F C K LA LB) (h0 : 0 < s) (hs : s < 2 ^ C) : ∃ σ', ir_ev (d + 26) 170 [.ref 33, .int (nI s)] σ = some (some (.int (nI (WV (AL0 σ N m C) (PR0 σ) K C 12 s))), σ') ∧ frR σ σ' := by
  have hC := r.2.2.2.1.1
  have h4 := pC hC
  have ag := agS_frR (frR_33 (σ := σ) (v := 0))
  have r0 := R0_ag ag r
  obtain ⟨σ1, a1, a2, a3, a4⟩ := freshM (d := d + 15) r0
  obtain ⟨σ2, b1, b2, b3⟩ := m167 a3 12 s d σ1 (pop_12 s) h0 hs (fun _ _ => rfl) (fun s' h0' hs' => Or.inl (a4 s' (by omega)))
  rw [AL0_e, AL0_ag ag, PR0_ag ag] at b1
  have b1 : ir_ev (d + 25) 167 [.ref 33, .int (nI s)] σ1 = some (some (.int (nI (WV (AL0 σ N m C) (PR0 σ) K C 12 s))), σ2) := b1
  have e1 : ¬ ((1 : Int32) = 0) := by decide
  have hst := m168 (d := d + 23) (v := nI s) (r0.2.2.2.1.2.2.1) hC
  rw [isSt_in hC h0 hs] at hst
  refine ⟨σ2, ?_, frR_tr frR_33 (frR_tr a2 (frR_57 b2))⟩
  simp only [e170, s170_0, s170_1, s170_2, s170_5, s170_6, s170_7, s170_10, s170_15, s170_13, s170_16, s170_14, s170_19, s170_20, s170_21, s170_24, hst, a1, b1, ir_b_t, ir_k_i, ir_tl_i, ir_k_v, ir_tl_v, if_neg e1]
theorem p_worst {d : Nat} {v : Int32} (h : RR σ) : PAIR d 92 170 [.int v] σ := by
  obtain ⟨N, m, F, C, K, LA, LB, r⟩ := h
  have hC := r.1.2.2.2.1.1
  have e1 : ¬ ((1 : Int32) = 0) := by decide
  cases hv : isSt C v with
  | false =>
    refine ⟨-1, σ, ir_up σ 33 0 0, ?_, ?_, RR_of (RA_frR frR_33 r)⟩
    · simp only [e92, s92_0, s92_1, s92_2, s92_5, s92_10, s92_8, s92_9, s92_14, s92_18, c107 r.1.2.2.2.1.2.1 hC, hv, ir_b_f, ir_k_i, ir_tl_i, if_true]
    · have r0 := RA_frR (frR_33 (v := 0)) r
      simp only [e170, s170_0, s170_1, s170_2, s170_5, s170_6, s170_7, s170_10, s170_15, s170_13, s170_14, m168 r0.1.2.2.2.1.2.2.1 hC, hv, ir_b_f, ir_k_i, ir_tl_i, if_true]
  | true =>
    obtain ⟨s, h0, hs, rfl⟩ := isSt_nI hC hv
    obtain ⟨σ1, a1, a2, a3, a4⟩ := prep (d := d + 43) r.1 r.2.2.2
    have r1 := RA_frT a2 a3 a4 r
    obtain ⟨σ2, b1, b2, b3⟩ := c65 (d := d + 20) a4.1 h0 hs a4.2
    have r2 := RA_29 b2 a3 a4 b3 r1
    obtain ⟨σ3, z1, z2⟩ := worstM (d := d + 24) r2.1 h0 hs
    rw [AL0_ag (agS_29 b2), PR0_ag (agS_29 b2)] at z1
    refine ⟨_, σ2, σ3, ?_, z1, RR_of (RA_frR z2 r2)⟩
    simp only [e92, s92_0, s92_1, s92_2, s92_5, s92_10, s92_8, s92_11, s92_9, s92_14, s92_15, s92_18, s92_19, s92_22, c107 r.1.2.2.2.1.2.1 hC, hv, a1, b1, ir_b_t, ir_k_i, ir_tl_i, ir_k_v, ir_tl_v, if_neg e1]
/-! first -/
theorem p_first {d : Nat} {v : Int32} (h : RR σ) : PAIR d 94 173 [.int v] σ := by
  obtain ⟨N, m, F, C, K, LA, LB, r⟩ := h
  have hC := r.1.2.2.2.1.1
  have h4 := pC hC
  have e1 : ¬ ((1 : Int32) = 0) := by decide
  cases hv : isSt C v with
  | false =>
    refine ⟨-1, σ, ir_up σ 33 0 0, ?_, ?_, RR_of (RA_frR frR_33 r)⟩
    · simp only [e94, s94_0, s94_1, s94_2, s94_5, s94_10, s94_8, s94_9, s94_14, s94_18, c107 r.1.2.2.2.1.2.1 hC, hv, ir_b_f, ir_k_i, ir_tl_i, if_true]
    · have r0 := RA_frR (frR_33 (v := 0)) r
      simp only [s173_0, e173, s173_1, s173_2, s173_5, s173_6, s173_7, s173_10, s173_13, s173_14, m168 r0.1.2.2.2.1.2.2.1 hC, hv, ir_b_f, ir_k_i, ir_tl_i, if_true]
  | true =>
    obtain ⟨s, h0, hs, rfl⟩ := isSt_nI hC hv
    have hC0 : 0 < C := by
      rcases Nat.eq_zero_or_pos C with q | q
      · subst q; simp at hs; omega
      · exact q
    obtain ⟨σ1, a1, a2, a3, a4⟩ := prep (d := d + 43) r.1 r.2.2.2
    have r1 := RA_frT a2 a3 a4 r
    obtain ⟨σ2, b1, b2, b3⟩ := c68 (d := d + 19) a4.1 h0 hs a4.2
    have r2 := RA_29 b2 a3 a4 b3 r1
    have ag := agS_frR (frR_33 (σ := σ2) (v := 0))
    have r20 := R0_ag ag r2.1
    obtain ⟨σ3, g1, g2, g3, g4⟩ := freshM (d := d + 39) r20
    have hM3 : MEMM σ3 C (WV (AL0 σ1 N m C) (PR0 σ1) K C 12) := fun s' h0' hs' => Or.inl (g4 s' (by omega))
    have eA : AL0 (ir_up σ2 33 0 0) N m C = AL0 σ1 N m C := by rw [AL0_ag ag, AL0_ag (agS_29 b2)]
    have eP : PR0 (ir_up σ2 33 0 0) = PR0 σ1 := by rw [PR0_ag ag, PR0_ag (agS_29 b2)]
    have hWb : ∀ x, WV (AL0 σ1 N m C) (PR0 σ1) K C 12 x ≤ 1200 := fun x => WV_le (fun l hl => (a4.1.2.2.2.2.2 l hl).2) 12 x
    have key : ∀ x τ dd, popN x ≤ 12 → 0 < x → x < 2 ^ C → (∀ c, c ≠ 57 → τ c = σ3 c) → MEMM τ C (WV (AL0 σ1 N m C) (PR0 σ1) K C 12) → ∃ τ', ir_ev (dd + 25) 167 [.ref 33, .int (nI x)] τ = some (some (.int (nI (WV (AL0 σ1 N m C) (PR0 σ1) K C 12 x))), τ') ∧ (∀ c, c ≠ 57 → τ' c = σ3 c) ∧ MEMM τ' C (WV (AL0 σ1 N m C) (PR0 σ1) K C 12) := by
      intro x τ dd q1 q2 q3 q4 q5
      have := m167 g3 12 x dd τ q1 q2 q3 q4
      rw [AL0_e, eA, eP] at this
      exact this q5
    obtain ⟨σ4, k1, k2, k3⟩ := key s σ3 (d + 24) (pop_12 s) h0 hs (fun _ _ => rfl) hM3
    have hlp := m173_loop (d := d + 47) (w := WV (AL0 σ1 N m C) (PR0 σ1) K C 12 s) (W := WV (AL0 σ1 N m C) (PR0 σ1) K C 12) g3 hC0 hs (by omega) (hWb s) hWb (fun x τ hx hx0 hag hm => by
      have hle : s &&& x ≤ s := Nat.and_le_left
      exact key (s &&& x) τ (d + 23) (pop_12 _) (by omega) (by omega) hag hm) K 0 σ4 (by omega) k2 k3
    obtain ⟨σ5, z1, z2⟩ := hlp
    rw [AL0_e, eA, eP] at z1
    have hst := m168 (d := d + 47) (v := nI s) (r20.2.2.2.1.2.2.1) hC
    rw [hv] at hst
    refine ⟨oI (fsF (cst (WV (AL0 σ1 N m C) (PR0 σ1) K C 12) (AL0 σ1 N m C) (PR0 σ1) C s) (WV (AL0 σ1 N m C) (PR0 σ1) K C 12 s) K 0), σ2, σ5, ?_, ?_, RR_of (RA_frR (frR_tr frR_33 (frR_tr g2 (frR_57 z2))) r2)⟩
    · simp only [e94, s94_0, s94_1, s94_2, s94_5, s94_10, s94_8, s94_11, s94_9, s94_14, s94_15, s94_18, s94_19, s94_22, c107 r.1.2.2.2.1.2.1 hC, hv, a1, b1, ir_b_t, ir_k_i, ir_tl_i, ir_k_v, ir_tl_v, if_neg e1]
    · simp only [s173_0, e173, s173_1, s173_2, s173_5, s173_6, s173_7, s173_10, s173_15, s173_16, s173_19, s173_20, s173_21, s173_24, s173_25, s173_26, hst, g1, k1, ir_b_t, ir_k_i, ir_tl_i, ir_k_v, ir_tl_v, if_neg e1]
      exact z1
/-! tells -/
theorem tlF_c {pt pt' : Nat → Bool} {gp gp' pr pr' : Nat → Nat} (h1 : ∀ l, pt l = pt' l) (h2 : ∀ l, gp l = gp' l) (h3 : ∀ l, pr l = pr' l) {n l : Nat} {b : Option Nat} : tlF pt gp pr n l b = tlF pt' gp' pr' n l b := by
  rw [funext h1, funext h2, funext h3]
theorem p_tells {d : Nat} {v : Int32} (h : RR σ) : PAIR d 93 172 [.int v] σ := by
  obtain ⟨N, m, F, C, K, LA, LB, r⟩ := h
  have hC := r.1.2.2.2.1.1
  have h4 := pC hC
  have e1 : ¬ ((1 : Int32) = 0) := by decide
  cases hv : isSt C v with
  | false =>
    refine ⟨-1, σ, ir_up σ 33 0 0, ?_, ?_, RR_of (RA_frR frR_33 r)⟩
    · simp only [e93, s93_0, s93_1, s93_2, s93_5, s93_10, s93_8, s93_9, s93_14, s93_18, c107 r.1.2.2.2.1.2.1 hC, hv, ir_b_f, ir_k_i, ir_tl_i, if_true]
    · have r0 := RA_frR (frR_33 (v := 0)) r
      simp only [s172_0, e172, s172_1, s172_2, s172_5, s172_6, s172_7, s172_10, s172_13, s172_14, m168 r0.1.2.2.2.1.2.2.1 hC, hv, ir_b_f, ir_k_i, ir_tl_i, if_true]
  | true =>
    obtain ⟨s, h0, hs, rfl⟩ := isSt_nI hC hv
    obtain ⟨σ1, a1, a2, a3, a4⟩ := prep (d := d + 43) r.1 r.2.2.2
    have r1 := RA_frT a2 a3 a4 r
    have b1 := c69 (d := d + 46) (s := s) a4.1 hs
    have ag := agS_frR (frR_33 (σ := σ1) (v := 0))
    have r10 := R0_ag ag r1.1
    obtain ⟨σ2, g1, g2, g3⟩ := asks (d := d + 40) r10
    have ht := TM_of r10 g2 g3
    have z := m172_loop (d := d + 47) ht hs (by omega) K 0 none .null (by omega) (fun x hx => by cases hx)
    have eT : tlF (fun l => !decide (s &&& alN (an0 (ir_up σ1 33 0 0) N m l) C (lowN s) = s)) (fun l => grt popN (alN (an0 (ir_up σ1 33 0 0) N m l) C) C s 0) (PR0 (ir_up σ1 33 0 0)) K 0 none = tlF (fun l => decide (gpF (AL0 σ1 N m C l) s C 0 0 < popN s)) (fun l => gpF (AL0 σ1 N m C l) s C 0 0) (PR0 σ1) K 0 none := by
      refine tlF_c (fun l => ?_) (fun l => ?_) (fun l => by rw [PR0_ag ag])
      · rw [← AL0_ag ag]
        exact (gp_part hC hs (by omega)).symm
      · rw [← AL0_ag ag]
        exact (gp_grt hC hs).symm
    rw [eT] at z
    have hst := m168 (d := d + 47) (v := nI s) (r10.2.2.2.1.2.2.1) hC
    rw [hv] at hst
    refine ⟨oI (tlF (fun l => decide (gpF (AL0 σ1 N m C l) s C 0 0 < popN s)) (fun l => gpF (AL0 σ1 N m C l) s C 0 0) (PR0 σ1) K 0 none), σ1, σ2, ?_, ?_, RR_of (RA_frR (frR_tr frR_33 g2) r1)⟩
    · simp only [e93, s93_0, s93_1, s93_2, s93_5, s93_10, s93_8, s93_11, s93_9, s93_14, s93_15, s93_18, s93_19, s93_22, c107 r.1.2.2.2.1.2.1 hC, hv, a1, b1, ir_b_t, ir_k_i, ir_tl_i, ir_k_v, ir_tl_v, if_neg e1]
    · simp only [s172_0, e172, s172_1, s172_2, s172_5, s172_6, s172_7, s172_10, s172_15, s172_16, s172_19, s172_20, s172_21, s172_22, hst, g1, ir_b_t, ir_k_i, ir_tl_i, ir_k_v, ir_tl_v, if_neg e1]
      exact z
/-! groups -/
theorem p_groups {d : Nat} {v : Int32} (h : RR σ) : PAIR d 91 165 [.int v] σ := by
  obtain ⟨N, m, F, C, K, LA, LB, r⟩ := h
  have hC := r.1.2.2.2.1.1
  have hK := r.1.2.2.2.2.1
  have h4 := pC hC
  have e1 : ¬ ((1 : Int32) = 0) := by decide
  have r0 := RA_frR (frR_33 (v := 0)) r
  have hE : isE σ 22 v = inr v (nI K) := by rw [isE_inr, r.1.2.2.2.2.2.1]
  have h26 : ∀ (τ : ir_S), τ 33 26 = nI K → ∀ d, ir_ev (d + 2) 156 [.ref 33, .int v] τ = some (some (.int (ir_b (inr v (nI K)))), τ) := fun τ hτ d => by
    have := m156 (σ := τ) (d := d) (n := v) (by rw [hτ]; exact n_nn (by omega))
    rw [hτ] at this
    exact this
  cases hv : inr v (nI K) with
  | false =>
    refine ⟨-1, σ, ir_up σ 33 0 0, ?_, ?_, RR_of r0⟩
    · simp only [e91, s91_0, s91_1, s91_4, s91_5_18, s91_5_20, s91_5_22, s91_8, s91_13, s91_11, s91_12, s91_17, s91_21, s91_22, s91_32, c2_22, hE, hv, ir_b_f, ir_k_i, ir_tl_i, if_true]
    · simp only [s165_0, e165, s165_1, s165_2, s165_5, s165_6, s165_7, s165_10, s165_13, s165_14, h26 _ r0.1.2.2.2.2.2.2.1, hv, ir_b_f, ir_k_i, ir_tl_i, if_true]
  | true =>
    obtain ⟨l, hl, rfl⟩ := inr_nI (by omega) hv
    obtain ⟨σ1, a1, a2, a3, a4⟩ := prep (d := d + 43) r.1 r.2.2.2
    have r1 := RA_frT a2 a3 a4 r
    have hp : 0 < 2 ^ C := Nat.pow_pos (by decide)
    have b1 := c64 (d := d + 46) (s := 2 ^ C - 1) a4.1 hl (by omega)
    have ag := agS_frR (frR_33 (σ := σ1) (v := 0))
    have r10 := R0_ag ag r1.1
    obtain ⟨σ2, g1, g2, g3⟩ := asks (d := d + 40) r10
    have ht := TM_of r10 g2 g3
    have z := m165_loop (d := d + 48) (σ := σ2) ht hl C (2 ^ C - 1) 0 (pop_C _ (by omega) C (by omega) (by omega)) (by omega) (by omega)
    have eA : alN (an0 (ir_up σ1 33 0 0) N m l) C = AL0 σ1 N m C l := by rw [← AL0_ag ag]; rfl
    rw [eA] at z
    have e17 : σ2 33 17 = nI C := ht.2.2.1
    refine ⟨nI (grF (AL0 σ1 N m C l) C (2 ^ C - 1) 0), σ1, σ2, ?_, ?_, RR_of (RA_frR (frR_tr frR_33 g2) r1)⟩
    · simp only [e91, s91_0, s91_1, s91_4, s91_5_18, s91_5_20, s91_5_22, s91_8, s91_13, s91_11, s91_14, s91_12, s91_17, s91_18, s91_21, s91_22, s91_23, s91_26_18, s91_26_20, s91_26_22, s91_29, s91_32, c2_22, hE, hv, a1, c3_20, r1.1.2.2.2.1.2.1, s_all hC, b1, ir_b_t, ir_k_i, ir_tl_i, ir_k_v, ir_tl_v, if_neg e1]
    · simp only [s165_0, e165, s165_1, s165_2, s165_5, s165_6, s165_7, s165_10, s165_15, s165_16, s165_19, s165_20, s165_21, s165_22, s165_23, s165_26, s165_27, s165_28, s165_29, h26 _ r10.2.2.2.2.2.2.1, hv, g1, e17, s_all hC, ir_b_t, ir_k_i, ir_tl_i, ir_k_v, ir_tl_v, if_neg e1]
      exact z
/-! unlike -/
theorem h17 {v : Int32} {d : Nat} (h : σ 33 17 = nI C) (hC : C ≤ 12) : ir_ev (d + 2) 145 [.ref 33, .int v] σ = some (some (.int (ir_b (inr v (nI C)))), σ) := by
  have := m145 (σ := σ) (d := d) (n := v) (by rw [h]; exact n_nn (by omega))
  rw [h] at this
  exact this
theorem p_unlike {d : Nat} {v w : Int32} (h : RR σ) : PAIR d 89 163 [.int v, .int w] σ := by
  obtain ⟨N, m, F, C, K, LA, LB, r⟩ := h
  have hC := r.1.2.2.2.1.1
  have e1 : ¬ ((1 : Int32) = 0) := by decide
  have r0 := RA_frR (frR_33 (v := 0)) r
  have hE : ∀ v, isE σ 20 v = inr v (nI C) := fun v => by rw [isE_inr, r.1.2.2.2.1.2.1]
  cases hv : inr v (nI C) with
  | false =>
    refine ⟨-1, σ, ir_up σ 33 0 0, ?_, ?_, RR_of r0⟩
    · simp only [e89, s89_0, s89_1, s89_4, s89_5_18, s89_5_20, s89_5_22, s89_8, s89_22, s89_11, s89_23, s89_12, s89_15, s89_16_18, s89_16_20, s89_16_22, s89_19, c2_20, hE, hv, ir_b_f, ir_k_i, ir_tl_i, if_true]
    · simp only [s163_0, e163, s163_1, s163_2, s163_5, s163_6, s163_7, s163_10, s163_21, s163_22, h17 r0.1.2.2.2.1.2.2.1 hC, hv, ir_b_f, ir_k_i, ir_tl_i, if_true]
  | true =>
    cases hw : inr w (nI C) with
    | false =>
      refine ⟨-1, σ, ir_up σ 33 0 0, ?_, ?_, RR_of r0⟩
      · simp only [e89, s89_0, s89_1, s89_4, s89_5_18, s89_5_20, s89_5_22, s89_8, s89_22, s89_11, s89_23, s89_12, s89_15, s89_16_18, s89_16_20, s89_16_22, s89_19, c2_20, hE, hv, hw, ir_b_f, ir_b_t, ir_k_i, ir_tl_i, if_true, if_neg e1]
      · simp only [s163_0, e163, s163_1, s163_2, s163_5, s163_6, s163_7, s163_10, s163_13, s163_14, s163_15, s163_18, s163_21, s163_22, h17 r0.1.2.2.2.1.2.2.1 hC, hv, hw, ir_b_f, ir_b_t, ir_k_i, ir_tl_i, if_true, if_neg e1]
    | true =>
      obtain ⟨a, ha, rfl⟩ := inr_nI (by omega) hv
      obtain ⟨b, hb, rfl⟩ := inr_nI (by omega) hw
      obtain ⟨σ1, a1, a2, a3, a4⟩ := prep (d := d + 43) r.1 r.2.2.2
      have r1 := RA_frT a2 a3 a4 r
      have b1 := c63 (d := d + 47) a4.1 ha hb
      obtain ⟨σ2, z1, z2⟩ := unlikeM (d := d + 40) r1.1 ha hb
      refine ⟨_, σ1, σ2, ?_, z1, RR_of (RA_frR z2 r1)⟩
      simp only [e89, s89_0, s89_1, s89_4, s89_5_18, s89_5_20, s89_5_22, s89_8, s89_22, s89_11, s89_23, s89_12, s89_15, s89_16_18, s89_16_20, s89_16_22, s89_19, s89_24, s89_25, s89_28, s89_29, s89_32, s89_33, s89_34, s89_37, c2_20, hE, hv, hw, a1, b1, ir_b_t, ir_k_i, ir_tl_i, ir_k_v, ir_tl_v, if_neg e1]
end PR
