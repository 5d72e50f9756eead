/-! the reference's letters -/
noncomputable def mW (σ : ir_S) (N m : Nat) (fs : List Nat) (s f t : Nat) : Nat → Nat → Nat → (Nat → Int32) → Bool × Nat × (Nat → Int32) :=
  wk (fun a => decide (σ 34 a = 0)) (fun a t => nrV N (adjM σ m) (relM σ) a t) (fun a b => lnF (σ 35) (σ 36) (nI a) (nI b) m 0) (rtX σ fs) (fun a b => decide (σ 34 a = 3) && dnM σ fs a b s) (fun v => if v = -1 then true else hvM σ fs 0 v 0 0) f t
def ag3 (σ σ' : ir_S) : Prop := (∀ c, c ≠ 33 → c ≠ 41 → c ≠ 50 → σ' c = σ c) ∧ ∀ k, k ≠ 25 → σ' 33 k = σ 33 k
theorem ag3_rf (σ : ir_S) : ag3 σ σ := ⟨fun _ _ _ _ => rfl, fun _ _ => rfl⟩
theorem ag3_tr {σ σ1 σ2 : ir_S} (h1 : ag3 σ σ1) (h2 : ag3 σ1 σ2) : ag3 σ σ2 := ⟨fun c q1 q2 q3 => by rw [h2.1 c q1 q2 q3, h1.1 c q1 q2 q3], fun k q => by rw [h2.2 k q, h1.2 k q]⟩
theorem ag3_41 {σ σ1 : ir_S} (h : ∀ c, c ≠ 41 → σ1 c = σ c) : ag3 σ σ1 := ⟨fun c _ q2 _ => h c q2, fun k _ => by rw [h 33 (by decide)]⟩
theorem ag3_MOK {σ σ' : ir_S} {N m : Nat} {LA LB : Nat → Nat} {fs : List Nat} (h : ag3 σ σ') (ho : MOK σ N m LA LB fs) : MOK σ' N m LA LB fs := by
  obtain ⟨h1, h2, h3, h4, h5, h6, h7, h8⟩ := ho
  refine ⟨h1, h2, by rw [h.2 1 (by decide)]; exact h3, by rw [h.2 3 (by decide)]; exact h4, fun l hl => ?_, h6, by rw [h.2 20 (by decide)]; exact h7, fun k f hk => ?_⟩
  · rw [h.1 35 (by decide) (by decide) (by decide), h.1 36 (by decide) (by decide) (by decide)]
    exact h5 l hl
  · rw [h.1 48 (by decide) (by decide) (by decide)]
    exact h8 k f hk
theorem ag3_rtM {σ σ' : ir_S} {fs : List Nat} (h : ag3 σ σ') : rtM σ' fs = rtM σ fs := by
  funext a b
  unfold rtM
  rw [h.1 42 (by decide) (by decide) (by decide), h.1 43 (by decide) (by decide) (by decide), h.1 44 (by decide) (by decide) (by decide), h.1 45 (by decide) (by decide) (by decide), h.1 37 (by decide) (by decide) (by decide)]
theorem ag3_rtX {σ σ' : ir_S} {fs : List Nat} (h : ag3 σ σ') : rtX σ' fs = rtX σ fs := by
  funext a b
  unfold rtX
  rw [ag3_rtM h, h.1 34 (by decide) (by decide) (by decide)]
theorem ag3_nr {σ σ' : ir_S} {N m : Nat} (h : ag3 σ σ') : (fun a t => nrV N (adjM σ' m) (relM σ') a t) = (fun a t => nrV N (adjM σ m) (relM σ) a t) := by
  have e1 : adjM σ' m = adjM σ m := by unfold adjM; rw [h.1 35 (by decide) (by decide) (by decide), h.1 36 (by decide) (by decide) (by decide)]
  have e2 : relM σ' = relM σ := by unfold relM; rw [h.1 34 (by decide) (by decide) (by decide)]
  rw [e1, e2]
theorem ag3_dnM {σ σ' : ir_S} {fs : List Nat} (h : ag3 σ σ') : dnM σ' fs = dnM σ fs := by
  funext a b s
  unfold dnM
  rw [h.1 42 (by decide) (by decide) (by decide), h.1 43 (by decide) (by decide) (by decide), h.1 44 (by decide) (by decide) (by decide), h.1 45 (by decide) (by decide) (by decide), h.1 38 (by decide) (by decide) (by decide)]
theorem ag3_hvM {σ σ' : ir_S} {fs : List Nat} (h : ag3 σ σ') : hvM σ' fs = hvM σ fs := by
  funext K a b both
  unfold hvM
  rw [h.1 42 (by decide) (by decide) (by decide), h.1 43 (by decide) (by decide) (by decide), h.1 44 (by decide) (by decide) (by decide)]
theorem ag3_mW {σ σ' : ir_S} {N m : Nat} {fs : List Nat} {s f t : Nat} (h : ag3 σ σ') : mW σ' N m fs s f t = mW σ N m fs s f t := by
  unfold mW
  rw [ag3_rtX h, ag3_nr h, ag3_dnM h, ag3_hvM h, h.1 34 (by decide) (by decide) (by decide), h.1 35 (by decide) (by decide) (by decide), h.1 36 (by decide) (by decide) (by decide)]
theorem nrV_nod {N : Nat} {adj : Nat → Nat → Bool} {rel : Nat → Bool} {a t : Nat} (hN : N ≤ 12) : nod 12 (nrV N adj rel a t) := by
  by_cases hh : ∃ v, isNR N adj rel t a v
  · obtain ⟨v, hv⟩ := hh
    rw [nrV_eq hv]
    rcases hv with ⟨h, _⟩ | ⟨k, n, h, hn, _⟩
    · exact Or.inl h
    · exact Or.inr ⟨n, by omega, h⟩
  · unfold nrV
    rw [dif_neg hh]
    exact Or.inl rfl
set_option maxHeartbeats 4000000 in
theorem m152_loop {d N m s f t : Nat} {σ0 : ir_S} {LA LB : Nat → Nat} {fs : List Nat} (ho : MOK σ0 N m LA LB fs) (hrt : ∀ a h, a < 12 → h < 12 → nod 12 (rtM σ0 fs a h)) (hf12 : f < 12) (ht : t < N) : ∀ (k a g : Nat) (p : Nat → Int32) (σ : ir_S) (l5 l6 l7 : Value), g + 1 + k = 31 → a < 12 → ag3 σ0 σ → σ 33 25 = nI g → (∀ i, i < g + 1 → σ 50 i = p i) →
    ∃ σ', ir_run (ir_ev (d + 4)) 152 (16, [.ref 33, .int (nI s), .int (nI f), .int (nI t), .int (nI a), l5, l6, l7], [], σ) = some (some (.int (ir_b ((mW σ0 N m fs s f t k a (g + 1) p).1 && !hvM σ0 fs 1 (nI t) 0 0))), σ') ∧ ag3 σ0 σ' ∧ σ' 33 25 = nI ((mW σ0 N m fs s f t k a (g + 1) p).2.1 - 1) ∧ (mW σ0 N m fs s f t k a (g + 1) p).2.1 ≤ 31 ∧ 1 ≤ (mW σ0 N m fs s f t k a (g + 1) p).2.1 ∧ ∀ i, i < (mW σ0 N m fs s f t k a (g + 1) p).2.1 → σ' 50 i = (mW σ0 N m fs s f t k a (g + 1) p).2.2 i := by
  have hN := ho.1
  have ht12 : t < 12 := by omega
  intro k
  induction k with
  | zero =>
    intro a g p σ l5 l6 l7 hgk ha hag hg hp
    have hg30 : g = 30 := by omega
    subst hg30
    have hoσ := ag3_MOK hag ho
    have hHL := hoσ.2.2.2.2.2
    by_cases hat : a = t
    · subst hat
      refine ⟨σ, ?_, hag, hg, Nat.le_refl _, (by show 1 ≤ 30 + 1; decide), hp⟩
      have hge : (0 ≤ heL σ fs 1 (nI a) 0 0) = ¬ (hvM σ0 fs 1 (nI a) 0 0 = false) := by rw [← ag3_hvM hag, ← heL_neg hHL]; exact propext Int32.not_lt.symm
      rw [s152_16]
      simp (disch := omega) only [e152, s152_0, s152_1, s152_3, s152_4, s152_5, s152_8, s152_9, s152_12, s152_13, s152_15, s152_18, s152_19, s152_145, s152_146, s152_23, s152_147, s152_25, s152_148, s152_26, s152_149, s152_29, s152_150, s152_31, s152_153, s152_33, s152_160, s152_156, s152_72, s152_36, s152_161z, s152_161o, s152_161b, s152_157, s152_73, s152_37, s152_77, s152_40, s152_79, s152_42, s152_81, s152_43, s152_88, s152_84, s152_52, s152_46, s152_89, s152_85, s152_53, s152_48, s152_91, s152_96, s152_55, s152_49, s152_93, s152_98, s152_56, s152_100, s152_57, s152_115, s152_103, s152_60, s152_116z, s152_116o, s152_116b, s152_104, s152_63, s152_105, s152_64, s152_107, s152_67, s152_108, s152_69, s152_109, s152_76, s152_112, s152_117, s152_119, s152_121, s152_122i, s152_122r, s152_123, s152_126, s152_127, s152_128, s152_131, s152_132, s152_135, s152_136, s152_139, s152_141, s152_142, m148 hHL, ir_k_i, ir_tl_i, n_lt_0, n_le_0, n_tl_0, n_el_0, n_eq_0, n_ad_0, n_lt_1, n_le_1, n_tl_1, n_el_1, n_eq_1, n_ad_1, n_lt_2, n_le_2, n_tl_2, n_el_2, n_eq_2, n_ad_2, n_lt_3, n_le_3, n_tl_3, n_el_3, n_eq_3, n_ad_3, n_lt_4, n_le_4, n_tl_4, n_el_4, n_eq_4, n_ad_4, n_lt_5, n_le_5, n_tl_5, n_el_5, n_eq_5, n_ad_5, n_lt_6, n_le_6, n_tl_6, n_el_6, n_eq_6, n_ad_6, n_lt_10, n_le_10, n_tl_10, n_el_10, n_eq_10, n_ad_10, n_lt_11, n_le_11, n_tl_11, n_el_11, n_eq_11, n_ad_11, n_lt_12, n_le_12, n_tl_12, n_el_12, n_eq_12, n_ad_12, n_lt_13, n_le_13, n_tl_13, n_el_13, n_eq_13, n_ad_13, n_lt_15, n_le_15, n_tl_15, n_el_15, n_eq_15, n_ad_15, n_lt_20, n_le_20, n_tl_20, n_el_20, n_eq_20, n_ad_20, n_lt_30, n_le_30, n_tl_30, n_el_30, n_eq_30, n_ad_30, n_lt_31, n_le_31, n_tl_31, n_el_31, n_eq_31, n_ad_31, n_lt_32, n_le_32, n_tl_32, n_el_32, n_eq_32, n_ad_32, n_lt_60, n_le_60, n_tl_60, n_el_60, n_eq_60, n_ad_60, n_lt_99, n_le_99, n_tl_99, n_el_99, n_eq_99, n_ad_99, n_lt_100, n_le_100, n_tl_100, n_el_100, n_eq_100, n_ad_100, n_lt_144, n_le_144, n_tl_144, n_el_144, n_eq_144, n_ad_144, n_lt_4096, n_le_4096, n_tl_4096, n_el_4096, n_eq_4096, n_ad_4096, n_mulK, nI_add, pk_mul, n_lt, n_le, n_eq, n_eqM, n_ix, n_cl, hge, if_true]
      cases hb : hvM σ0 fs 1 (nI a) 0 0 <;> simp [hb, mW, wk, ir_b]
    · obtain ⟨σ1, a1, a2⟩ := m149 (d := d) hoσ ha ht
      have hag1 : ag3 σ0 σ1 := ag3_tr hag (ag3_41 a2)
      have hHL1 := (ag3_MOK hag1 ho).2.2.2.2.2
      refine ⟨σ1, ?_, hag1, ?_, Nat.le_refl _, (by show 1 ≤ 30 + 1; decide), fun i hi => ?_⟩
      · have hg1 : σ1 33 25 = 30 := by rw [a2 33 (by decide)]; exact hg
        have hres : (mW σ0 N m fs s f t 0 a (30 + 1) p).1 = false := by simp [mW, wk, hat]
        rw [hres, Bool.false_and, ir_b_f]
        rw [s152_16]
        simp (disch := omega) only [s152_18, s152_19, s152_22, s152_23, s152_25, s152_26, s152_29, a1, ir_k_i, ir_tl_i, n_lt_0, n_le_0, n_tl_0, n_el_0, n_eq_0, n_ad_0, n_lt_1, n_le_1, n_tl_1, n_el_1, n_eq_1, n_ad_1, n_lt_2, n_le_2, n_tl_2, n_el_2, n_eq_2, n_ad_2, n_lt_3, n_le_3, n_tl_3, n_el_3, n_eq_3, n_ad_3, n_lt_4, n_le_4, n_tl_4, n_el_4, n_eq_4, n_ad_4, n_lt_5, n_le_5, n_tl_5, n_el_5, n_eq_5, n_ad_5, n_lt_6, n_le_6, n_tl_6, n_el_6, n_eq_6, n_ad_6, n_lt_10, n_le_10, n_tl_10, n_el_10, n_eq_10, n_ad_10, n_lt_11, n_le_11, n_tl_11, n_el_11, n_eq_11, n_ad_11, n_lt_12, n_le_12, n_tl_12, n_el_12, n_eq_12, n_ad_12, n_lt_13, n_le_13, n_tl_13, n_el_13, n_eq_13, n_ad_13, n_lt_15, n_le_15, n_tl_15, n_el_15, n_eq_15, n_ad_15, n_lt_20, n_le_20, n_tl_20, n_el_20, n_eq_20, n_ad_20, n_lt_30, n_le_30, n_tl_30, n_el_30, n_eq_30, n_ad_30, n_lt_31, n_le_31, n_tl_31, n_el_31, n_eq_31, n_ad_31, n_lt_32, n_le_32, n_tl_32, n_el_32, n_eq_32, n_ad_32, n_lt_60, n_le_60, n_tl_60, n_el_60, n_eq_60, n_ad_60, n_lt_99, n_le_99, n_tl_99, n_el_99, n_eq_99, n_ad_99, n_lt_100, n_le_100, n_tl_100, n_el_100, n_eq_100, n_ad_100, n_lt_144, n_le_144, n_tl_144, n_el_144, n_eq_144, n_ad_144, n_lt_4096, n_le_4096, n_tl_4096, n_el_4096, n_eq_4096, n_ad_4096, n_mulK, nI_add, pk_mul, n_lt, n_le, n_eq, n_eqM, n_ix, n_cl, hat, if_false]
        generalize wkH (rtX σ fs) (fun a t => nrV N (adjM σ m) (relM σ) a t) a t = v
        have h72 : ∀ l6 l7 : Value, ir_run (ir_ev (d + 4)) 152 (72, [.ref 33, .int (nI s), .int (nI f), .int (nI t), .int (nI a), .int v, l6, l7], [], σ1) = some (some (.int 0), σ1) := by
          intro l6 l7
          simp only [s152_72, s152_73, s152_77, s152_79, s152_81, s152_84, s152_85, s152_96, s152_98, s152_100, s152_115, s152_116z, n_m1lt, if_true]
          simp
        simp (disch := omega) only [s152_31, s152_33, s152_36, s152_37, s152_40, s152_42, s152_43, s152_46, s152_48, s152_49, s152_52, s152_53, s152_55, s152_56, s152_57, s152_60, s152_63, s152_64, s152_67, s152_69, h72, xA34, xL34, xa34, m150 ha ht12 hHL1, ir_k_i, ir_tl_i, n_lt_0, n_le_0, n_tl_0, n_el_0, n_eq_0, n_ad_0, n_lt_1, n_le_1, n_tl_1, n_el_1, n_eq_1, n_ad_1, n_lt_2, n_le_2, n_tl_2, n_el_2, n_eq_2, n_ad_2, n_lt_3, n_le_3, n_tl_3, n_el_3, n_eq_3, n_ad_3, n_lt_4, n_le_4, n_tl_4, n_el_4, n_eq_4, n_ad_4, n_lt_5, n_le_5, n_tl_5, n_el_5, n_eq_5, n_ad_5, n_lt_6, n_le_6, n_tl_6, n_el_6, n_eq_6, n_ad_6, n_lt_10, n_le_10, n_tl_10, n_el_10, n_eq_10, n_ad_10, n_lt_11, n_le_11, n_tl_11, n_el_11, n_eq_11, n_ad_11, n_lt_12, n_le_12, n_tl_12, n_el_12, n_eq_12, n_ad_12, n_lt_13, n_le_13, n_tl_13, n_el_13, n_eq_13, n_ad_13, n_lt_15, n_le_15, n_tl_15, n_el_15, n_eq_15, n_ad_15, n_lt_20, n_le_20, n_tl_20, n_el_20, n_eq_20, n_ad_20, n_lt_30, n_le_30, n_tl_30, n_el_30, n_eq_30, n_ad_30, n_lt_31, n_le_31, n_tl_31, n_el_31, n_eq_31, n_ad_31, n_lt_32, n_le_32, n_tl_32, n_el_32, n_eq_32, n_ad_32, n_lt_60, n_le_60, n_tl_60, n_el_60, n_eq_60, n_ad_60, n_lt_99, n_le_99, n_tl_99, n_el_99, n_eq_99, n_ad_99, n_lt_100, n_le_100, n_tl_100, n_el_100, n_eq_100, n_ad_100, n_lt_144, n_le_144, n_tl_144, n_el_144, n_eq_144, n_ad_144, n_lt_4096, n_le_4096, n_tl_4096, n_el_4096, n_eq_4096, n_ad_4096, n_mulK, nI_add, pk_mul, n_lt, n_le, n_eq, n_eqM, n_ix, n_cl, ha, hg1, decide_true, if_true]
        repeat' split
        all_goals rfl
      · rw [a2 33 (by decide)]; exact hg
      · rw [a2 50 (by decide)]; exact hp i hi
  | succ k ih =>
    intro a g p σ l5 l6 l7 hgk ha hag hg hp
    have hoσ := ag3_MOK hag ho
    have hHL := hoσ.2.2.2.2.2
    by_cases hat : a = t
    · subst hat
      refine ⟨σ, ?_, hag, ?_⟩
      · have hge : (0 ≤ heL σ fs 1 (nI a) 0 0) = ¬ (hvM σ0 fs 1 (nI a) 0 0 = false) := by rw [← ag3_hvM hag, ← heL_neg hHL]; exact propext Int32.not_lt.symm
        rw [s152_16]
        simp (disch := omega) only [e152, s152_0, s152_1, s152_3, s152_4, s152_5, s152_8, s152_9, s152_12, s152_13, s152_15, s152_18, s152_19, s152_145, s152_146, s152_23, s152_147, s152_25, s152_148, s152_26, s152_149, s152_29, s152_150, s152_31, s152_153, s152_33, s152_160, s152_156, s152_72, s152_36, s152_161z, s152_161o, s152_161b, s152_157, s152_73, s152_37, s152_77, s152_40, s152_79, s152_42, s152_81, s152_43, s152_88, s152_84, s152_52, s152_46, s152_89, s152_85, s152_53, s152_48, s152_91, s152_96, s152_55, s152_49, s152_93, s152_98, s152_56, s152_100, s152_57, s152_115, s152_103, s152_60, s152_116z, s152_116o, s152_116b, s152_104, s152_63, s152_105, s152_64, s152_107, s152_67, s152_108, s152_69, s152_109, s152_76, s152_112, s152_117, s152_119, s152_121, s152_122i, s152_122r, s152_123, s152_126, s152_127, s152_128, s152_131, s152_132, s152_135, s152_136, s152_139, s152_141, s152_142, m148 hHL, ir_k_i, ir_tl_i, n_lt_0, n_le_0, n_tl_0, n_el_0, n_eq_0, n_ad_0, n_lt_1, n_le_1, n_tl_1, n_el_1, n_eq_1, n_ad_1, n_lt_2, n_le_2, n_tl_2, n_el_2, n_eq_2, n_ad_2, n_lt_3, n_le_3, n_tl_3, n_el_3, n_eq_3, n_ad_3, n_lt_4, n_le_4, n_tl_4, n_el_4, n_eq_4, n_ad_4, n_lt_5, n_le_5, n_tl_5, n_el_5, n_eq_5, n_ad_5, n_lt_6, n_le_6, n_tl_6, n_el_6, n_eq_6, n_ad_6, n_lt_10, n_le_10, n_tl_10, n_el_10, n_eq_10, n_ad_10, n_lt_11, n_le_11, n_tl_11, n_el_11, n_eq_11, n_ad_11, n_lt_12, n_le_12, n_tl_12, n_el_12, n_eq_12, n_ad_12, n_lt_13, n_le_13, n_tl_13, n_el_13, n_eq_13, n_ad_13, n_lt_15, n_le_15, n_tl_15, n_el_15, n_eq_15, n_ad_15, n_lt_20, n_le_20, n_tl_20, n_el_20, n_eq_20, n_ad_20, n_lt_30, n_le_30, n_tl_30, n_el_30, n_eq_30, n_ad_30, n_lt_31, n_le_31, n_tl_31, n_el_31, n_eq_31, n_ad_31, n_lt_32, n_le_32, n_tl_32, n_el_32, n_eq_32, n_ad_32, n_lt_60, n_le_60, n_tl_60, n_el_60, n_eq_60, n_ad_60, n_lt_99, n_le_99, n_tl_99, n_el_99, n_eq_99, n_ad_99, n_lt_100, n_le_100, n_tl_100, n_el_100, n_eq_100, n_ad_100, n_lt_144, n_le_144, n_tl_144, n_el_144, n_eq_144, n_ad_144, n_lt_4096, n_le_4096, n_tl_4096, n_el_4096, n_eq_4096, n_ad_4096, n_mulK, nI_add, pk_mul, n_lt, n_le, n_eq, n_eqM, n_ix, n_cl, hge, if_true]
        cases hb : hvM σ0 fs 1 (nI a) 0 0 <;> simp [hb, mW, wk, ir_b]
      · simp only [mW, wk, if_true]
        exact ⟨hg, by omega, by omega, hp⟩
    · obtain ⟨σ1, a1, a2⟩ := m149 (d := d) hoσ ha ht
      have hag1 : ag3 σ0 σ1 := ag3_tr hag (ag3_41 a2)
      have hoσ1 := ag3_MOK hag1 ho
      have hHL1 := hoσ1.2.2.2.2.2
      have hg1 : σ1 33 25 = nI g := by rw [a2 33 (by decide)]; exact hg
      have hp1 : ∀ i, i < g + 1 → σ1 50 i = p i := fun i hi => by rw [a2 50 (by decide)]; exact hp i hi
      rw [ag3_rtX hag, ag3_nr hag] at a1
      have e34 : σ1 34 = σ0 34 := hag1.1 34 (by decide) (by decide) (by decide)
      have hnod : nod 12 (wkH (rtX σ0 fs) (fun a t => nrV N (adjM σ0 m) (relM σ0) a t) a t) := by
        unfold wkH
        by_cases h0 : rtX σ0 fs a t = -1
        · rw [if_pos h0]; exact nrV_nod hN
        · rw [if_neg h0]
          unfold rtX at h0 ⊢
          by_cases hc : 1 < σ0 34 a ∧ σ0 34 t = 0 ∧ 0 ≤ rtM σ0 fs a t
          · rw [if_pos hc]; exact hrt a t ha ht12
          · rw [if_neg hc] at h0; exact absurd rfl h0
      have h22 : ∀ z : Option ir_R, (ir_run (ir_ev (d + 4)) 152 (31, [.ref 33, .int (nI s), .int (nI f), .int (nI t), .int (nI a), .int (wkH (rtX σ0 fs) (fun a t => nrV N (adjM σ0 m) (relM σ0) a t) a t), l6, l7], [], σ1) = z) → ir_run (ir_ev (d + 4)) 152 (16, [.ref 33, .int (nI s), .int (nI f), .int (nI t), .int (nI a), l5, l6, l7], [], σ) = z := by
        intro z hz
        rw [s152_16]
        simp (disch := omega) only [s152_18, s152_19, s152_22, s152_23, s152_25, s152_26, s152_29, a1, ir_k_i, ir_tl_i, n_lt_0, n_le_0, n_tl_0, n_el_0, n_eq_0, n_ad_0, n_lt_1, n_le_1, n_tl_1, n_el_1, n_eq_1, n_ad_1, n_lt_2, n_le_2, n_tl_2, n_el_2, n_eq_2, n_ad_2, n_lt_3, n_le_3, n_tl_3, n_el_3, n_eq_3, n_ad_3, n_lt_4, n_le_4, n_tl_4, n_el_4, n_eq_4, n_ad_4, n_lt_5, n_le_5, n_tl_5, n_el_5, n_eq_5, n_ad_5, n_lt_6, n_le_6, n_tl_6, n_el_6, n_eq_6, n_ad_6, n_lt_10, n_le_10, n_tl_10, n_el_10, n_eq_10, n_ad_10, n_lt_11, n_le_11, n_tl_11, n_el_11, n_eq_11, n_ad_11, n_lt_12, n_le_12, n_tl_12, n_el_12, n_eq_12, n_ad_12, n_lt_13, n_le_13, n_tl_13, n_el_13, n_eq_13, n_ad_13, n_lt_15, n_le_15, n_tl_15, n_el_15, n_eq_15, n_ad_15, n_lt_20, n_le_20, n_tl_20, n_el_20, n_eq_20, n_ad_20, n_lt_30, n_le_30, n_tl_30, n_el_30, n_eq_30, n_ad_30, n_lt_31, n_le_31, n_tl_31, n_el_31, n_eq_31, n_ad_31, n_lt_32, n_le_32, n_tl_32, n_el_32, n_eq_32, n_ad_32, n_lt_60, n_le_60, n_tl_60, n_el_60, n_eq_60, n_ad_60, n_lt_99, n_le_99, n_tl_99, n_el_99, n_eq_99, n_ad_99, n_lt_100, n_le_100, n_tl_100, n_el_100, n_eq_100, n_ad_100, n_lt_144, n_le_144, n_tl_144, n_el_144, n_eq_144, n_ad_144, n_lt_4096, n_le_4096, n_tl_4096, n_el_4096, n_eq_4096, n_ad_4096, n_mulK, nI_add, pk_mul, n_lt, n_le, n_eq, n_eqM, n_ix, n_cl, hat, if_false]
        exact hz
      have hfalse : ∀ n', mW σ0 N m fs s f t (k + 1) a (g + 1) p = (false, n', p) → n' = g + 1 → ir_run (ir_ev (d + 4)) 152 (31, [.ref 33, .int (nI s), .int (nI f), .int (nI t), .int (nI a), .int (wkH (rtX σ0 fs) (fun a t => nrV N (adjM σ0 m) (relM σ0) a t) a t), l6, l7], [], σ1) = some (some (.int 0), σ1) → ∃ σ', ir_run (ir_ev (d + 4)) 152 (16, [.ref 33, .int (nI s), .int (nI f), .int (nI t), .int (nI a), l5, l6, l7], [], σ) = some (some (.int (ir_b ((mW σ0 N m fs s f t (k + 1) a (g + 1) p).1 && !hvM σ0 fs 1 (nI t) 0 0))), σ') ∧ ag3 σ0 σ' ∧ σ' 33 25 = nI ((mW σ0 N m fs s f t (k + 1) a (g + 1) p).2.1 - 1) ∧ (mW σ0 N m fs s f t (k + 1) a (g + 1) p).2.1 ≤ 31 ∧ 1 ≤ (mW σ0 N m fs s f t (k + 1) a (g + 1) p).2.1 ∧ ∀ i, i < (mW σ0 N m fs s f t (k + 1) a (g + 1) p).2.1 → σ' 50 i = (mW σ0 N m fs s f t (k + 1) a (g + 1) p).2.2 i := by
        intro n' hw hn' hrun
        subst hn'
        rw [hw]
        exact ⟨σ1, h22 _ hrun, hag1, hg1, by show g + 1 ≤ 31; omega, by show 1 ≤ g + 1; omega, hp1⟩
      have hdn : dnM σ1 fs = dnM σ0 fs := ag3_dnM hag1
      by_cases hst : ((decide (a ≠ f) && decide (σ0 34 a = 0)) || (decide (σ0 34 a = 3) && dnM σ0 fs a t s)) = true
      · refine hfalse (g + 1) (by simp only [mW, wk, if_neg hat, if_pos hst]) rfl ?_
        generalize wkH (rtX σ0 fs) (fun a t => nrV N (adjM σ0 m) (relM σ0) a t) a t = v
        have h72 : ∀ l6 l7 : Value, ir_run (ir_ev (d + 4)) 152 (72, [.ref 33, .int (nI s), .int (nI f), .int (nI t), .int (nI a), .int v, l6, l7], [], σ1) = some (some (.int 0), σ1) := by
          intro l6 l7
          simp only [s152_72, s152_73, s152_77, s152_79, s152_81, s152_84, s152_85, s152_96, s152_98, s152_100, s152_115, s152_116z, n_m1lt, if_true]
          simp
        simp (disch := omega) only [s152_31, s152_33, s152_36, s152_37, s152_40, s152_42, s152_43, s152_46, s152_48, s152_49, s152_52, s152_53, s152_55, s152_56, s152_57, s152_60, h72, xA34, xL34, xa34, m150 ha ht12 hHL1, ir_k_i, ir_tl_i, n_lt_0, n_le_0, n_tl_0, n_el_0, n_eq_0, n_ad_0, n_lt_1, n_le_1, n_tl_1, n_el_1, n_eq_1, n_ad_1, n_lt_2, n_le_2, n_tl_2, n_el_2, n_eq_2, n_ad_2, n_lt_3, n_le_3, n_tl_3, n_el_3, n_eq_3, n_ad_3, n_lt_4, n_le_4, n_tl_4, n_el_4, n_eq_4, n_ad_4, n_lt_5, n_le_5, n_tl_5, n_el_5, n_eq_5, n_ad_5, n_lt_6, n_le_6, n_tl_6, n_el_6, n_eq_6, n_ad_6, n_lt_10, n_le_10, n_tl_10, n_el_10, n_eq_10, n_ad_10, n_lt_11, n_le_11, n_tl_11, n_el_11, n_eq_11, n_ad_11, n_lt_12, n_le_12, n_tl_12, n_el_12, n_eq_12, n_ad_12, n_lt_13, n_le_13, n_tl_13, n_el_13, n_eq_13, n_ad_13, n_lt_15, n_le_15, n_tl_15, n_el_15, n_eq_15, n_ad_15, n_lt_20, n_le_20, n_tl_20, n_el_20, n_eq_20, n_ad_20, n_lt_30, n_le_30, n_tl_30, n_el_30, n_eq_30, n_ad_30, n_lt_31, n_le_31, n_tl_31, n_el_31, n_eq_31, n_ad_31, n_lt_32, n_le_32, n_tl_32, n_el_32, n_eq_32, n_ad_32, n_lt_60, n_le_60, n_tl_60, n_el_60, n_eq_60, n_ad_60, n_lt_99, n_le_99, n_tl_99, n_el_99, n_eq_99, n_ad_99, n_lt_100, n_le_100, n_tl_100, n_el_100, n_eq_100, n_ad_100, n_lt_144, n_le_144, n_tl_144, n_el_144, n_eq_144, n_ad_144, n_lt_4096, n_le_4096, n_tl_4096, n_el_4096, n_eq_4096, n_ad_4096, n_mulK, nI_add, pk_mul, n_lt, n_le, n_eq, n_eqM, n_ix, n_cl, ha, e34, hdn, decide_true, if_true]
        by_cases z1 : v < 0
        · simp [z1]
        · by_cases z2 : σ0 34 a = 0
          · by_cases z3 : a = f
            · have z4 : ¬ (σ0 34 a = 3) := by rw [z2]; decide
              rw [show (decide (σ0 34 a = 3) && dnM σ0 fs a t s) = false by simp [z4]] at hst
              simp [z3] at hst
            · simp [z1, z2, z3]
          · have hb : (decide (σ0 34 a = 3) && dnM σ0 fs a t s) = true := by simpa [z2] using hst
            rw [hb]
            simp [z1, z2, ir_b]
      · have hb : (decide (σ0 34 a = 3) && dnM σ0 fs a t s) = false := by
          cases hb : (decide (σ0 34 a = 3) && dnM σ0 fs a t s) with
          | false => rfl
          | true => rw [hb] at hst; simp at hst
        have hz : σ0 34 a = 0 → a = f := by
          intro z2
          apply Classical.byContradiction
          intro z3
          exact hst (by simp [z2, z3])
        have hg30 : ¬ g = 30 := by omega
        rcases hnod with hm | ⟨h', hh', hH⟩
        · refine hfalse (g + 1) (by simp only [mW, wk, if_neg hat, if_neg hst, if_pos hm]) rfl ?_
          rw [hm]
          simp (disch := omega) only [e152, s152_0, s152_1, s152_3, s152_4, s152_5, s152_8, s152_9, s152_12, s152_13, s152_15, s152_18, s152_19, s152_145, s152_22, s152_146, s152_23, s152_147, s152_25, s152_148, s152_26, s152_149, s152_29, s152_150, s152_31, s152_153, s152_33, s152_160, s152_156, s152_72, s152_36, s152_161z, s152_161o, s152_161b, s152_157, s152_73, s152_37, s152_77, s152_40, s152_79, s152_42, s152_81, s152_43, s152_88, s152_84, s152_52, s152_46, s152_89, s152_85, s152_53, s152_48, s152_91, s152_96, s152_55, s152_49, s152_93, s152_98, s152_56, s152_100, s152_57, s152_115, s152_103, s152_60, s152_116z, s152_116o, s152_116b, s152_104, s152_63, s152_105, s152_64, s152_107, s152_67, s152_108, s152_69, s152_109, s152_76, s152_112, s152_117, s152_119, s152_121, s152_122i, s152_122r, s152_123, s152_126, s152_127, s152_128, s152_131, s152_132, s152_135, s152_136, s152_139, s152_141, s152_142, n_m1lt, if_true]
          simp
        · have hne : ¬ nI h' = (-1 : Int32) := by rw [n_eqM (by omega)]; exact fun h => h
          have hcl : (nI h').toNatClampNeg = h' := n_cl (by omega)
          have hln : lnF (σ1 35) (σ1 36) (nI a) (nI h') m 0 = lnF (σ0 35) (σ0 36) (nI a) (nI h') m 0 := by rw [hag1.1 35 (by decide) (by decide) (by decide), hag1.1 36 (by decide) (by decide) (by decide)]
          have h88 : ∀ z : Option ir_R, (ir_run (ir_ev (d + 4)) 152 (96, [.ref 33, .int (nI s), .int (nI f), .int (nI t), .int (nI a), .int (nI h'), .int 0, l7], [.int (lnF (σ0 35) (σ0 36) (nI a) (nI h') m 0)], σ1) = z) → ir_run (ir_ev (d + 4)) 152 (31, [.ref 33, .int (nI s), .int (nI f), .int (nI t), .int (nI a), .int (nI h'), l6, l7], [], σ1) = z := by
            intro z hz2
            have q0 : ¬ h' < 0 := by omega
            simp (disch := omega) only [e152, s152_0, s152_1, s152_3, s152_4, s152_5, s152_8, s152_9, s152_12, s152_13, s152_15, s152_18, s152_19, s152_145, s152_22, s152_146, s152_23, s152_147, s152_25, s152_148, s152_26, s152_149, s152_29, s152_150, s152_31, s152_153, s152_33, s152_160, s152_156, s152_72, s152_36, s152_161z, s152_161o, s152_161b, s152_157, s152_73, s152_37, s152_77, s152_40, s152_79, s152_42, s152_81, s152_43, s152_88, s152_84, s152_52, s152_46, s152_89, s152_85, s152_53, s152_48, s152_91, s152_55, s152_49, s152_93, s152_98, s152_56, s152_100, s152_57, s152_115, s152_103, s152_60, s152_116z, s152_116o, s152_116b, s152_104, s152_63, s152_105, s152_64, s152_107, s152_67, s152_108, s152_69, s152_109, s152_76, s152_112, s152_117, s152_119, s152_121, s152_122i, s152_122r, s152_123, s152_126, s152_127, s152_128, s152_131, s152_132, s152_135, s152_136, s152_139, s152_141, s152_142, xA34, xL34, xa34, m150 ha ht12 hHL1, ir_k_i, ir_tl_i, n_lt_0, n_le_0, n_tl_0, n_el_0, n_eq_0, n_ad_0, n_lt_1, n_le_1, n_tl_1, n_el_1, n_eq_1, n_ad_1, n_lt_2, n_le_2, n_tl_2, n_el_2, n_eq_2, n_ad_2, n_lt_3, n_le_3, n_tl_3, n_el_3, n_eq_3, n_ad_3, n_lt_4, n_le_4, n_tl_4, n_el_4, n_eq_4, n_ad_4, n_lt_5, n_le_5, n_tl_5, n_el_5, n_eq_5, n_ad_5, n_lt_6, n_le_6, n_tl_6, n_el_6, n_eq_6, n_ad_6, n_lt_10, n_le_10, n_tl_10, n_el_10, n_eq_10, n_ad_10, n_lt_11, n_le_11, n_tl_11, n_el_11, n_eq_11, n_ad_11, n_lt_12, n_le_12, n_tl_12, n_el_12, n_eq_12, n_ad_12, n_lt_13, n_le_13, n_tl_13, n_el_13, n_eq_13, n_ad_13, n_lt_15, n_le_15, n_tl_15, n_el_15, n_eq_15, n_ad_15, n_lt_20, n_le_20, n_tl_20, n_el_20, n_eq_20, n_ad_20, n_lt_30, n_le_30, n_tl_30, n_el_30, n_eq_30, n_ad_30, n_lt_31, n_le_31, n_tl_31, n_el_31, n_eq_31, n_ad_31, n_lt_32, n_le_32, n_tl_32, n_el_32, n_eq_32, n_ad_32, n_lt_60, n_le_60, n_tl_60, n_el_60, n_eq_60, n_ad_60, n_lt_99, n_le_99, n_tl_99, n_el_99, n_eq_99, n_ad_99, n_lt_100, n_le_100, n_tl_100, n_el_100, n_eq_100, n_ad_100, n_lt_144, n_le_144, n_tl_144, n_el_144, n_eq_144, n_ad_144, n_lt_4096, n_le_4096, n_tl_4096, n_el_4096, n_eq_4096, n_ad_4096, n_mulK, nI_add, pk_mul, n_lt, n_le, n_eq, n_eqM, n_ix, n_cl, ha, e34, hdn, hb, hg1, q0, hg30, decide_true, if_true, if_false, m128 hoσ1.2.1 hoσ1.2.2.2.1, hln, ir_b_f]
            by_cases z2 : σ0 34 a = 0
            · rw [if_pos z2, if_pos (hz z2)]
              exact hz2
            · rw [if_neg z2]
              exact hz2
          rw [hH] at hfalse h22
          by_cases hcut : (if lnF (σ0 35) (σ0 36) (nI a) (nI h') m 0 = -1 then true else hvM σ0 fs 0 (lnF (σ0 35) (σ0 36) (nI a) (nI h') m 0) 0 0) = true
          · refine hfalse (g + 1) (by simp only [mW, wk, if_neg hat, if_neg hst, hH, if_neg hne, hcl, if_pos hcut]) rfl ?_
            apply h88
            rcases lnF_val (A := σ0 35) (B := σ0 36) (a := nI a) (b := nI h') (n := m) (i := 0) with hl | ⟨l, hl1, hl2, hl⟩
            · rw [hl]
              simp (disch := omega) only [s152_96, s152_98, s152_100, s152_115, s152_116z, n_m1lt, if_true]
            · have hm20 := ho.2.1
              rw [hl, if_neg (by rw [n_eqM (by omega)]; exact fun h => h)] at hcut
              rw [hl]
              have q0 : ¬ l < 0 := by omega
              have hlt : (heL σ1 fs 0 (nI l) 0 0 < 0) = False := by rw [heL_neg hHL1, ag3_hvM hag1, hcut]; simp
              simp (disch := omega) only [e152, s152_0, s152_1, s152_3, s152_4, s152_5, s152_8, s152_9, s152_12, s152_13, s152_15, s152_18, s152_19, s152_145, s152_22, s152_146, s152_23, s152_147, s152_25, s152_148, s152_26, s152_149, s152_29, s152_150, s152_31, s152_153, s152_33, s152_160, s152_156, s152_72, s152_36, s152_161z, s152_161o, s152_161b, s152_157, s152_73, s152_37, s152_77, s152_40, s152_79, s152_42, s152_81, s152_43, s152_88, s152_84, s152_52, s152_46, s152_89, s152_85, s152_53, s152_48, s152_91, s152_96, s152_55, s152_49, s152_93, s152_98, s152_56, s152_100, s152_57, s152_115, s152_103, s152_60, s152_116z, s152_116o, s152_116b, s152_104, s152_63, s152_105, s152_64, s152_107, s152_67, s152_108, s152_69, s152_109, s152_76, s152_112, s152_117, s152_119, s152_121, s152_122i, s152_122r, s152_123, s152_126, s152_127, s152_128, s152_131, s152_132, s152_135, s152_136, s152_139, s152_141, s152_142, n_lt_0, n_le_0, n_tl_0, n_el_0, n_eq_0, n_ad_0, n_lt_1, n_le_1, n_tl_1, n_el_1, n_eq_1, n_ad_1, n_lt_2, n_le_2, n_tl_2, n_el_2, n_eq_2, n_ad_2, n_lt_3, n_le_3, n_tl_3, n_el_3, n_eq_3, n_ad_3, n_lt_4, n_le_4, n_tl_4, n_el_4, n_eq_4, n_ad_4, n_lt_5, n_le_5, n_tl_5, n_el_5, n_eq_5, n_ad_5, n_lt_6, n_le_6, n_tl_6, n_el_6, n_eq_6, n_ad_6, n_lt_10, n_le_10, n_tl_10, n_el_10, n_eq_10, n_ad_10, n_lt_11, n_le_11, n_tl_11, n_el_11, n_eq_11, n_ad_11, n_lt_12, n_le_12, n_tl_12, n_el_12, n_eq_12, n_ad_12, n_lt_13, n_le_13, n_tl_13, n_el_13, n_eq_13, n_ad_13, n_lt_15, n_le_15, n_tl_15, n_el_15, n_eq_15, n_ad_15, n_lt_20, n_le_20, n_tl_20, n_el_20, n_eq_20, n_ad_20, n_lt_30, n_le_30, n_tl_30, n_el_30, n_eq_30, n_ad_30, n_lt_31, n_le_31, n_tl_31, n_el_31, n_eq_31, n_ad_31, n_lt_32, n_le_32, n_tl_32, n_el_32, n_eq_32, n_ad_32, n_lt_60, n_le_60, n_tl_60, n_el_60, n_eq_60, n_ad_60, n_lt_99, n_le_99, n_tl_99, n_el_99, n_eq_99, n_ad_99, n_lt_100, n_le_100, n_tl_100, n_el_100, n_eq_100, n_ad_100, n_lt_144, n_le_144, n_tl_144, n_el_144, n_eq_144, n_ad_144, n_lt_4096, n_le_4096, n_tl_4096, n_el_4096, n_eq_4096, n_ad_4096, n_mulK, nI_add, pk_mul, n_lt, n_le, n_eq, n_eqM, n_ix, n_cl, q0, m148 hHL1, ir_k_i, ir_tl_i, hlt, if_false]
          · rcases lnF_val (A := σ0 35) (B := σ0 36) (a := nI a) (b := nI h') (n := m) (i := 0) with hl | ⟨l, hl1, hl2, hl⟩
            · rw [if_pos hl] at hcut; exact absurd rfl hcut
            have hm20 := ho.2.1
            have hcut2 : hvM σ0 fs 0 (nI l) 0 0 = false := by
              rw [hl, if_neg (by rw [n_eqM (by omega)]; exact fun h => h)] at hcut
              simpa using hcut
            have hg31 : g + 1 < 32 := by omega
            obtain ⟨σ', y1, y2, y3, y4, y5, y6⟩ := ih h' (g + 1) (upd p (g + 1) (nI h')) (ir_up (ir_up σ1 33 25 (nI (g + 1))) 50 (g + 1) (nI h')) (.int (nI h')) (.int 0) (.int (nI l)) (by omega) hh'
              ⟨fun c q1 q2 q3 => by rw [u_n _ _ _ q3, u_n _ _ _ q1]; exact hag1.1 c q1 q2 q3, fun j q => by rw [u_n _ _ _ (by decide), u_s, upd_n _ _ q]; exact hag1.2 j q⟩ (by rw [u_n _ _ _ (by decide), u_s, upd_s]) (fun i hi => by
                rw [u_s]
                by_cases hin : i = g + 1
                · rw [hin, upd_s, upd_s]
                · rw [upd_n _ _ hin, upd_n _ _ hin, u_n _ _ _ (by decide)]
                  exact hp1 i (by omega))
            have hWk : mW σ0 N m fs s f t (k + 1) a (g + 1) p = mW σ0 N m fs s f t k h' (g + 1 + 1) (upd p (g + 1) (nI h')) := by
              simp only [mW, wk, if_neg hat, if_neg hst, hH, if_neg hne, hcl, if_neg hcut]
            rw [hWk]
            refine ⟨σ', ?_, y2, y3, y4, y5, y6⟩
            apply h22
            apply h88
            rw [hl]
            have q0 : ¬ l < 0 := by omega
            have hlt : (heL σ1 fs 0 (nI l) 0 0 < 0) = True := by rw [heL_neg hHL1, ag3_hvM hag1, hcut2]; simp
            simp (disch := omega) only [e152, s152_0, s152_1, s152_3, s152_4, s152_5, s152_8, s152_9, s152_12, s152_13, s152_15, s152_18, s152_19, s152_145, s152_22, s152_146, s152_23, s152_147, s152_25, s152_148, s152_26, s152_149, s152_29, s152_150, s152_31, s152_153, s152_33, s152_160, s152_156, s152_72, s152_36, s152_161z, s152_161o, s152_161b, s152_157, s152_73, s152_37, s152_77, s152_40, s152_79, s152_42, s152_81, s152_43, s152_88, s152_84, s152_52, s152_46, s152_89, s152_85, s152_53, s152_48, s152_91, s152_96, s152_55, s152_49, s152_93, s152_98, s152_56, s152_100, s152_57, s152_115, s152_103, s152_60, s152_116z, s152_116o, s152_116b, s152_104, s152_63, s152_105, s152_64, s152_107, s152_67, s152_108, s152_69, s152_109, s152_76, s152_112, s152_117, s152_119, s152_121, s152_122i, s152_122r, s152_123, s152_126, s152_127, s152_128, s152_131, s152_132, s152_135, s152_136, s152_139, s152_141, s152_142, xA50, xL50, xa50, n_lt_0, n_le_0, n_tl_0, n_el_0, n_eq_0, n_ad_0, n_lt_1, n_le_1, n_tl_1, n_el_1, n_eq_1, n_ad_1, n_lt_2, n_le_2, n_tl_2, n_el_2, n_eq_2, n_ad_2, n_lt_3, n_le_3, n_tl_3, n_el_3, n_eq_3, n_ad_3, n_lt_4, n_le_4, n_tl_4, n_el_4, n_eq_4, n_ad_4, n_lt_5, n_le_5, n_tl_5, n_el_5, n_eq_5, n_ad_5, n_lt_6, n_le_6, n_tl_6, n_el_6, n_eq_6, n_ad_6, n_lt_10, n_le_10, n_tl_10, n_el_10, n_eq_10, n_ad_10, n_lt_11, n_le_11, n_tl_11, n_el_11, n_eq_11, n_ad_11, n_lt_12, n_le_12, n_tl_12, n_el_12, n_eq_12, n_ad_12, n_lt_13, n_le_13, n_tl_13, n_el_13, n_eq_13, n_ad_13, n_lt_15, n_le_15, n_tl_15, n_el_15, n_eq_15, n_ad_15, n_lt_20, n_le_20, n_tl_20, n_el_20, n_eq_20, n_ad_20, n_lt_30, n_le_30, n_tl_30, n_el_30, n_eq_30, n_ad_30, n_lt_31, n_le_31, n_tl_31, n_el_31, n_eq_31, n_ad_31, n_lt_32, n_le_32, n_tl_32, n_el_32, n_eq_32, n_ad_32, n_lt_60, n_le_60, n_tl_60, n_el_60, n_eq_60, n_ad_60, n_lt_99, n_le_99, n_tl_99, n_el_99, n_eq_99, n_ad_99, n_lt_100, n_le_100, n_tl_100, n_el_100, n_eq_100, n_ad_100, n_lt_144, n_le_144, n_tl_144, n_el_144, n_eq_144, n_ad_144, n_lt_4096, n_le_4096, n_tl_4096, n_el_4096, n_eq_4096, n_ad_4096, n_mulK, nI_add, pk_mul, n_lt, n_le, n_eq, n_eqM, n_ix, n_cl, q0, m148 hHL1, ir_k_i, ir_tl_i, hlt, hg1, hg31, u_s, u_n, upd_s, decide_true, if_true, if_false]
            exact y1
