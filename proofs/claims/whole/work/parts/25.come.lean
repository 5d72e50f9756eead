/-! the reference's active faults fs at work, over its cells (42..45 faults, 37..40 what is told) -/
theorem he_G {α : Type} {σ : ir_S} {K a b both : Int32} (G : Nat → α) : ∀ (fs : List Nat) (v : Int32) (base : α), (∀ f ∈ fs, f < 12) → (v = -1 ∨ ∃ k, k < 12 ∧ v = nI k) →
    (fs.foldl (heF σ K a b both) v = -1 ∨ ∃ k, k < 12 ∧ fs.foldl (heF σ K a b both) v = nI k) ∧ (if fs.foldl (heF σ K a b both) v < 0 then base else G (fs.foldl (heF σ K a b both) v).toNatClampNeg) = fs.foldl (fun w f => if σ 42 f = K ∧ σ 43 f = a ∧ (both = 0 ∨ σ 44 f = b) then G f else w) (if v < 0 then base else G v.toNatClampNeg) := by
  intro fs
  induction fs with
  | nil => intro v base _ hv; exact ⟨hv, rfl⟩
  | cons f fs ih =>
    intro v base hf hv
    have hf12 := hf f List.mem_cons_self
    rw [List.foldl_cons, List.foldl_cons]
    by_cases hP : σ 42 f = K ∧ σ 43 f = a ∧ (both = 0 ∨ σ 44 f = b)
    · have e : heF σ K a b both v f = nI f := by unfold heF; rw [if_pos hP]
      rw [e, if_pos hP]
      have := ih (nI f) base (fun g hg => hf g (List.mem_cons_of_mem _ hg)) (Or.inr ⟨f, hf12, rfl⟩)
      rw [n_cl (by omega), if_neg (show ¬ nI f < 0 by rw [n_lt_0 (by omega)]; omega)] at this
      exact this
    · have e : heF σ K a b both v f = v := by unfold heF; rw [if_neg hP]
      rw [e, if_neg hP]
      exact ih v base (fun g hg => hf g (List.mem_cons_of_mem _ hg)) hv
theorem HL_lt {σ : ir_S} {fs : List Nat} (h : HL σ fs) : ∀ f ∈ fs, f < 12 := fun f hf => by
  obtain ⟨k, hk⟩ := List.getElem?_of_mem hf
  exact (h.2.2 k f hk).2
theorem heL_G {α : Type} {σ : ir_S} {K a b both : Int32} {fs : List Nat} (h : HL σ fs) (G : Nat → α) (base : α) : (if heL σ fs K a b both < 0 then base else G (heL σ fs K a b both).toNatClampNeg) = fs.foldl (fun w f => if σ 42 f = K ∧ σ 43 f = a ∧ (both = 0 ∨ σ 44 f = b) then G f else w) base := (he_G G fs (-1) base (HL_lt h) (Or.inl rfl)).2
theorem heL_val {σ : ir_S} {K a b both : Int32} {fs : List Nat} (h : HL σ fs) : heL σ fs K a b both = -1 ∨ ∃ k, k < 12 ∧ heL σ fs K a b both = nI k := (he_G (fun k => k) fs (-1) 0 (HL_lt h) (Or.inl rfl)).1
def rtM (σ : ir_S) (fs : List Nat) (a h : Nat) : Int32 := fs.foldl (fun v f => if σ 42 f = 4 ∧ σ 43 f = nI a ∧ (((1 : Int32) = 0) ∨ σ 44 f = nI h) then σ 45 f else v) (σ 37 (a * 12 + h))
def dnM (σ : ir_S) (fs : List Nat) (a h s : Nat) : Bool := fs.foldl (fun v f => v || decide (σ 42 f = 3 ∧ σ 43 f = nI a ∧ σ 44 f = nI h ∧ σ 45 f = nI s)) (ir_bit (σ 38 (a * 12 + h)) s)
def hvM (σ : ir_S) (fs : List Nat) (K a b both : Int32) : Bool := fs.foldl (fun w f => if σ 42 f = K ∧ σ 43 f = a ∧ (both = 0 ∨ σ 44 f = b) then true else w) false
theorem heL_neg {σ : ir_S} {K a b both : Int32} {fs : List Nat} (h : HL σ fs) : (heL σ fs K a b both < 0) = (hvM σ fs K a b both = false) := by
  have e := heL_G (K := K) (a := a) (b := b) (both := both) h (fun _ => true) false
  unfold hvM
  rw [← e]
  by_cases q : heL σ fs K a b both < 0 <;> simp [q]
theorem and1 (y : Int32) : (y &&& 1 = 1) = ¬ (y &&& 1 = 0) := by
  apply propext
  constructor
  · intro h h2; rw [h] at h2; exact absurd h2 (by decide)
  · intro h
    apply b_ext
    intro i hi
    rw [b_and, bt_1 i hi]
    by_cases e : i = 0
    · subst e
      have : bt y 0 = true := by
        cases hb : bt y 0 with
        | true => rfl
        | false => exact absurd ((bt_and1 y).mpr hb) h
      simp [this]
    · simp [e]
theorem bit1 (x : Int32) (k : Nat) : ((x >>> (nI k &&& 31)) &&& 1 = 1) = (ir_bit x k = true) := by
  rw [and1]
  unfold ir_bit
  simp
theorem m150_loop {E : Nat → List Value → ir_S → Option ir_R} {σ : ir_S} {w s h : Nat} {fs : List Nat} (hf : HL σ fs) : ∀ n i (v : Bool) l6, i + n = fs.length → ir_run E 150 (41, [.ref 33, .int (nI w), .int (nI s), .int (nI h), .int (ir_b v), .int (nI i), l6], [], σ) = some (some (.int (ir_b ((fs.drop i).foldl (fun v f => v || decide (σ 42 f = 3 ∧ σ 43 f = nI w ∧ σ 44 f = nI h ∧ σ 45 f = nI s)) v))), σ) := by
  obtain ⟨h0, h1, h2⟩ := hf
  intro n
  induction n with
  | zero =>
    intro i v l6 hi
    have hi : i = fs.length := by omega
    subst hi
    rw [s150_41]
    simp (disch := omega) only [s150_43, s150_44, s150_47, s150_121, s150_123b, h1, n_lt_0, n_le_0, n_tl_0, n_el_0, n_eq_0, n_ad_0, n_lt_1, n_le_1, n_tl_1, n_el_1, n_eq_1, n_ad_1, n_lt_2, n_le_2, n_tl_2, n_el_2, n_eq_2, n_ad_2, n_lt_3, n_le_3, n_tl_3, n_el_3, n_eq_3, n_ad_3, n_lt_4, n_le_4, n_tl_4, n_el_4, n_eq_4, n_ad_4, n_lt_5, n_le_5, n_tl_5, n_el_5, n_eq_5, n_ad_5, n_lt_6, n_le_6, n_tl_6, n_el_6, n_eq_6, n_ad_6, n_lt_10, n_le_10, n_tl_10, n_el_10, n_eq_10, n_ad_10, n_lt_11, n_le_11, n_tl_11, n_el_11, n_eq_11, n_ad_11, n_lt_12, n_le_12, n_tl_12, n_el_12, n_eq_12, n_ad_12, n_lt_13, n_le_13, n_tl_13, n_el_13, n_eq_13, n_ad_13, n_lt_15, n_le_15, n_tl_15, n_el_15, n_eq_15, n_ad_15, n_lt_20, n_le_20, n_tl_20, n_el_20, n_eq_20, n_ad_20, n_lt_30, n_le_30, n_tl_30, n_el_30, n_eq_30, n_ad_30, n_lt_31, n_le_31, n_tl_31, n_el_31, n_eq_31, n_ad_31, n_lt_32, n_le_32, n_tl_32, n_el_32, n_eq_32, n_ad_32, n_lt_60, n_le_60, n_tl_60, n_el_60, n_eq_60, n_ad_60, n_lt_99, n_le_99, n_tl_99, n_el_99, n_eq_99, n_ad_99, n_lt_100, n_le_100, n_tl_100, n_el_100, n_eq_100, n_ad_100, n_lt_144, n_le_144, n_tl_144, n_el_144, n_eq_144, n_ad_144, n_lt_4096, n_le_4096, n_tl_4096, n_el_4096, n_eq_4096, n_ad_4096, n_mulK, nI_add, pk_mul, n_lt, n_le, n_eq, n_eqM, n_ix, n_cl, Nat.le_refl, if_true]
    simp
  | succ n ih =>
    intro i v l6 hi
    have hlt : i < fs.length := by omega
    obtain ⟨hk, hk12⟩ := h2 i _ (List.getElem?_eq_getElem hlt)
    have q1 : ¬ fs.length ≤ i := by omega
    have q2 : i < 2 := by omega
    rw [s150_41, List.drop_eq_getElem_cons hlt, List.foldl_cons]
    have eT := ih (i + 1) true (.int (nI fs[i])) (by omega)
    have eF := ih (i + 1) false (.int (nI fs[i])) (by omega)
    simp only [ir_b_t, ir_b_f] at eT eF
    simp (disch := omega) only [e150, s150_0, s150_1, s150_4, s150_5, s150_6, s150_7, s150_12, s150_10, s150_13, s150_11z, s150_11o, s150_11b, s150_16, s150_18, s150_19, s150_20, s150_21, s150_22, s150_23, s150_24, s150_25, s150_26, s150_27, s150_28, s150_35, s150_31, s150_36, s150_32, s150_38, s150_39, s150_43, s150_44, s150_47, s150_121, s150_50, s150_123z, s150_123o, s150_123b, s150_51, s150_54, s150_56, s150_57, s150_59, s150_61, s150_108, s150_64, s150_109, s150_65, s150_113, s150_68, s150_115, s150_70, s150_118, s150_71, s150_72, s150_112, s150_75, s150_76, s150_79, s150_81, s150_82, s150_83, s150_86, s150_87, s150_90, s150_92, s150_93, s150_94, s150_97, s150_98, s150_101, s150_103, s150_104, s150_105, xA48, xL48, xa48, xA42, xL42, xa42, xA43, xL43, xa43, xA44, xL44, xa44, xA45, xL45, xa45, h1, n_lt_0, n_le_0, n_tl_0, n_el_0, n_eq_0, n_ad_0, n_lt_1, n_le_1, n_tl_1, n_el_1, n_eq_1, n_ad_1, n_lt_2, n_le_2, n_tl_2, n_el_2, n_eq_2, n_ad_2, n_lt_3, n_le_3, n_tl_3, n_el_3, n_eq_3, n_ad_3, n_lt_4, n_le_4, n_tl_4, n_el_4, n_eq_4, n_ad_4, n_lt_5, n_le_5, n_tl_5, n_el_5, n_eq_5, n_ad_5, n_lt_6, n_le_6, n_tl_6, n_el_6, n_eq_6, n_ad_6, n_lt_10, n_le_10, n_tl_10, n_el_10, n_eq_10, n_ad_10, n_lt_11, n_le_11, n_tl_11, n_el_11, n_eq_11, n_ad_11, n_lt_12, n_le_12, n_tl_12, n_el_12, n_eq_12, n_ad_12, n_lt_13, n_le_13, n_tl_13, n_el_13, n_eq_13, n_ad_13, n_lt_15, n_le_15, n_tl_15, n_el_15, n_eq_15, n_ad_15, n_lt_20, n_le_20, n_tl_20, n_el_20, n_eq_20, n_ad_20, n_lt_30, n_le_30, n_tl_30, n_el_30, n_eq_30, n_ad_30, n_lt_31, n_le_31, n_tl_31, n_el_31, n_eq_31, n_ad_31, n_lt_32, n_le_32, n_tl_32, n_el_32, n_eq_32, n_ad_32, n_lt_60, n_le_60, n_tl_60, n_el_60, n_eq_60, n_ad_60, n_lt_99, n_le_99, n_tl_99, n_el_99, n_eq_99, n_ad_99, n_lt_100, n_le_100, n_tl_100, n_el_100, n_eq_100, n_ad_100, n_lt_144, n_le_144, n_tl_144, n_el_144, n_eq_144, n_ad_144, n_lt_4096, n_le_4096, n_tl_4096, n_el_4096, n_eq_4096, n_ad_4096, n_mulK, nI_add, pk_mul, n_lt, n_le, n_eq, n_eqM, n_ix, n_cl, if_neg q1, q2, hk, hk12, decide_true, if_true]
    cases v with
    | true => simp [ir_b_t, eT]
    | false =>
      by_cases z1 : σ 42 fs[i] = 3 <;> by_cases z2 : σ 43 fs[i] = nI w <;> by_cases z3 : σ 44 fs[i] = nI h <;> by_cases z4 : σ 45 fs[i] = nI s <;> simp [ir_b_f, z1, z2, z3, z4, eT, eF]
theorem m150 {d w s h : Nat} {σ : ir_S} {fs : List Nat} (hw : w < 12) (hh : h < 12) (hf : HL σ fs) : ir_ev (d + 1) 150 [.ref 33, .int (nI w), .int (nI s), .int (nI h)] σ = some (some (.int (ir_b (decide (σ 34 w = 3) && dnM σ fs w h s))), σ) := by
  have e1 : (12 : Int32) * nI w = nI (12 * w) := pk_mul 12 w
  have q1 : 12 * w + h < 144 := by omega
  have e2 : 12 * w + h = w * 12 + h := by omega
  by_cases h3 : σ 34 w = 3
  · have eT := m150_loop (E := ir_ev d) (w := w) (s := s) (h := h) hf fs.length 0 true .null (by omega)
    have eF := m150_loop (E := ir_ev d) (w := w) (s := s) (h := h) hf fs.length 0 false .null (by omega)
    simp only [ir_b_t, ir_b_f] at eT eF
    simp (disch := omega) only [e150, s150_0, s150_1, s150_4, s150_5, s150_6, s150_7, s150_12, s150_10, s150_13, s150_11z, s150_11o, s150_11b, s150_16, s150_18, s150_19, s150_20, s150_21, s150_22, s150_23, s150_24, s150_25, s150_26, s150_27, s150_28, s150_35, s150_31, s150_36, s150_32, s150_38, s150_39, s150_43, s150_44, s150_47, s150_121, s150_50, s150_123z, s150_123o, s150_123b, s150_51, s150_54, s150_56, s150_57, s150_59, s150_61, s150_108, s150_64, s150_109, s150_65, s150_113, s150_68, s150_115, s150_70, s150_118, s150_71, s150_72, s150_112, s150_75, s150_76, s150_79, s150_81, s150_82, s150_83, s150_86, s150_87, s150_90, s150_92, s150_93, s150_94, s150_97, s150_98, s150_101, s150_103, s150_104, s150_105, xA34, xL34, xa34, xA38, xL38, xa38, n_lt_0, n_le_0, n_tl_0, n_el_0, n_eq_0, n_ad_0, n_lt_1, n_le_1, n_tl_1, n_el_1, n_eq_1, n_ad_1, n_lt_2, n_le_2, n_tl_2, n_el_2, n_eq_2, n_ad_2, n_lt_3, n_le_3, n_tl_3, n_el_3, n_eq_3, n_ad_3, n_lt_4, n_le_4, n_tl_4, n_el_4, n_eq_4, n_ad_4, n_lt_5, n_le_5, n_tl_5, n_el_5, n_eq_5, n_ad_5, n_lt_6, n_le_6, n_tl_6, n_el_6, n_eq_6, n_ad_6, n_lt_10, n_le_10, n_tl_10, n_el_10, n_eq_10, n_ad_10, n_lt_11, n_le_11, n_tl_11, n_el_11, n_eq_11, n_ad_11, n_lt_12, n_le_12, n_tl_12, n_el_12, n_eq_12, n_ad_12, n_lt_13, n_le_13, n_tl_13, n_el_13, n_eq_13, n_ad_13, n_lt_15, n_le_15, n_tl_15, n_el_15, n_eq_15, n_ad_15, n_lt_20, n_le_20, n_tl_20, n_el_20, n_eq_20, n_ad_20, n_lt_30, n_le_30, n_tl_30, n_el_30, n_eq_30, n_ad_30, n_lt_31, n_le_31, n_tl_31, n_el_31, n_eq_31, n_ad_31, n_lt_32, n_le_32, n_tl_32, n_el_32, n_eq_32, n_ad_32, n_lt_60, n_le_60, n_tl_60, n_el_60, n_eq_60, n_ad_60, n_lt_99, n_le_99, n_tl_99, n_el_99, n_eq_99, n_ad_99, n_lt_100, n_le_100, n_tl_100, n_el_100, n_eq_100, n_ad_100, n_lt_144, n_le_144, n_tl_144, n_el_144, n_eq_144, n_ad_144, n_lt_4096, n_le_4096, n_tl_4096, n_el_4096, n_eq_4096, n_ad_4096, n_mulK, nI_add, pk_mul, n_lt, n_le, n_eq, n_eqM, n_ix, n_cl, e1, q1, hw, h3, decide_true, if_true, bit1]
    unfold dnM
    rw [e2]
    cases hb : ir_bit (σ 38 (w * 12 + h)) s with
    | true =>
      simp only [if_true, Bool.true_and]
      exact eT
    | false =>
      simp only [Bool.false_eq_true, if_false, Bool.true_and]
      exact eF
  · simp (disch := omega) only [e150, s150_0, s150_1, s150_4, s150_5, s150_6, s150_7, s150_12, s150_10, s150_13, s150_11z, s150_11o, s150_11b, s150_16, s150_18, s150_19, s150_20, s150_21, s150_22, s150_23, s150_24, s150_25, s150_26, s150_27, s150_28, s150_35, s150_31, s150_36, s150_32, s150_38, s150_39, s150_43, s150_44, s150_47, s150_121, s150_50, s150_123z, s150_123o, s150_123b, s150_51, s150_54, s150_56, s150_57, s150_59, s150_61, s150_108, s150_64, s150_109, s150_65, s150_113, s150_68, s150_115, s150_70, s150_118, s150_71, s150_72, s150_112, s150_75, s150_76, s150_79, s150_81, s150_82, s150_83, s150_86, s150_87, s150_90, s150_92, s150_93, s150_94, s150_97, s150_98, s150_101, s150_103, s150_104, s150_105, xA34, xL34, xa34, xA38, xL38, xa38, n_lt_0, n_le_0, n_tl_0, n_el_0, n_eq_0, n_ad_0, n_lt_1, n_le_1, n_tl_1, n_el_1, n_eq_1, n_ad_1, n_lt_2, n_le_2, n_tl_2, n_el_2, n_eq_2, n_ad_2, n_lt_3, n_le_3, n_tl_3, n_el_3, n_eq_3, n_ad_3, n_lt_4, n_le_4, n_tl_4, n_el_4, n_eq_4, n_ad_4, n_lt_5, n_le_5, n_tl_5, n_el_5, n_eq_5, n_ad_5, n_lt_6, n_le_6, n_tl_6, n_el_6, n_eq_6, n_ad_6, n_lt_10, n_le_10, n_tl_10, n_el_10, n_eq_10, n_ad_10, n_lt_11, n_le_11, n_tl_11, n_el_11, n_eq_11, n_ad_11, n_lt_12, n_le_12, n_tl_12, n_el_12, n_eq_12, n_ad_12, n_lt_13, n_le_13, n_tl_13, n_el_13, n_eq_13, n_ad_13, n_lt_15, n_le_15, n_tl_15, n_el_15, n_eq_15, n_ad_15, n_lt_20, n_le_20, n_tl_20, n_el_20, n_eq_20, n_ad_20, n_lt_30, n_le_30, n_tl_30, n_el_30, n_eq_30, n_ad_30, n_lt_31, n_le_31, n_tl_31, n_el_31, n_eq_31, n_ad_31, n_lt_32, n_le_32, n_tl_32, n_el_32, n_eq_32, n_ad_32, n_lt_60, n_le_60, n_tl_60, n_el_60, n_eq_60, n_ad_60, n_lt_99, n_le_99, n_tl_99, n_el_99, n_eq_99, n_ad_99, n_lt_100, n_le_100, n_tl_100, n_el_100, n_eq_100, n_ad_100, n_lt_144, n_le_144, n_tl_144, n_el_144, n_eq_144, n_ad_144, n_lt_4096, n_le_4096, n_tl_4096, n_el_4096, n_eq_4096, n_ad_4096, n_mulK, nI_add, pk_mul, n_lt, n_le, n_eq, n_eqM, n_ix, n_cl, hw, h3, decide_true, if_true]
    simp [h3, ir_b]
theorem m151 {d h s : Nat} {σ : ir_S} {fs : List Nat} (hh : h < 12) (hf : HL σ fs) : ir_ev (d + 2) 151 [.ref 33, .int (nI h), .int (nI s)] σ = some (some (.int (ir_b (ir_bit (σ 39 h) s && !hvM σ fs 5 (nI h) (nI s) 1))), σ) := by
  have hge : (0 ≤ heL σ fs 5 (nI h) (nI s) 1) = ¬ (hvM σ fs 5 (nI h) (nI s) 1 = false) := by rw [← heL_neg hf]; exact propext Int32.not_lt.symm
  simp (disch := omega) only [e151, s151_0, s151_1, s151_4, s151_5, s151_6, s151_7, s151_8, s151_9, s151_10, s151_11, s151_29, s151_14, s151_30z, s151_30o, s151_30b, s151_15, s151_16, s151_17, s151_18, s151_19, s151_22, s151_25, s151_26, xA39, xL39, xa39, n_lt_0, n_le_0, n_tl_0, n_el_0, n_eq_0, n_ad_0, n_lt_1, n_le_1, n_tl_1, n_el_1, n_eq_1, n_ad_1, n_lt_2, n_le_2, n_tl_2, n_el_2, n_eq_2, n_ad_2, n_lt_3, n_le_3, n_tl_3, n_el_3, n_eq_3, n_ad_3, n_lt_4, n_le_4, n_tl_4, n_el_4, n_eq_4, n_ad_4, n_lt_5, n_le_5, n_tl_5, n_el_5, n_eq_5, n_ad_5, n_lt_6, n_le_6, n_tl_6, n_el_6, n_eq_6, n_ad_6, n_lt_10, n_le_10, n_tl_10, n_el_10, n_eq_10, n_ad_10, n_lt_11, n_le_11, n_tl_11, n_el_11, n_eq_11, n_ad_11, n_lt_12, n_le_12, n_tl_12, n_el_12, n_eq_12, n_ad_12, n_lt_13, n_le_13, n_tl_13, n_el_13, n_eq_13, n_ad_13, n_lt_15, n_le_15, n_tl_15, n_el_15, n_eq_15, n_ad_15, n_lt_20, n_le_20, n_tl_20, n_el_20, n_eq_20, n_ad_20, n_lt_30, n_le_30, n_tl_30, n_el_30, n_eq_30, n_ad_30, n_lt_31, n_le_31, n_tl_31, n_el_31, n_eq_31, n_ad_31, n_lt_32, n_le_32, n_tl_32, n_el_32, n_eq_32, n_ad_32, n_lt_60, n_le_60, n_tl_60, n_el_60, n_eq_60, n_ad_60, n_lt_99, n_le_99, n_tl_99, n_el_99, n_eq_99, n_ad_99, n_lt_100, n_le_100, n_tl_100, n_el_100, n_eq_100, n_ad_100, n_lt_144, n_le_144, n_tl_144, n_el_144, n_eq_144, n_ad_144, n_lt_4096, n_le_4096, n_tl_4096, n_el_4096, n_eq_4096, n_ad_4096, n_mulK, nI_add, pk_mul, n_lt, n_le, n_eq, n_eqM, n_ix, n_cl, hh, decide_true, if_true, bit1, m148 hf, ir_k_i, ir_tl_i, hge]
  cases h1 : ir_bit (σ 39 h) s <;> cases h2 : hvM σ fs 5 (nI h) (nI s) 1 <;> simp [ir_b]
/-- the route that counts: told to a router or a wall for a host -/
def rtX (σ : ir_S) (fs : List Nat) (a h : Nat) : Int32 := if 1 < σ 34 a ∧ σ 34 h = 0 ∧ 0 ≤ rtM σ fs a h then rtM σ fs a h else -1
def MOK (σ : ir_S) (N m : Nat) (LA LB : Nat → Nat) (fs : List Nat) : Prop := N ≤ 12 ∧ m ≤ 20 ∧ σ 33 1 = nI N ∧ σ 33 3 = nI m ∧ LN σ m N LA LB ∧ HL σ fs
theorem m149 {d N m a t : Nat} {σ : ir_S} {LA LB : Nat → Nat} {fs : List Nat} (ho : MOK σ N m LA LB fs) (ha : a < 12) (ht : t < N) : ∃ σ', ir_ev (d + 4) 149 [.ref 33, .int (nI a), .int (nI t)] σ = some (some (.int (wkH (rtX σ fs) (fun a t => nrV N (adjM σ m) (relM σ) a t) a t)), σ') ∧ (∀ c, c ≠ 41 → σ' c = σ c) := by
  obtain ⟨hN, hm, hnn, hlm, hL, hf⟩ := ho
  obtain ⟨σ1, v, a1, a2, a3⟩ := m141 (d := d) (a := a) hN hm ht hnn hlm hL
  have hnr := nrV_eq a3
  have e1 : (12 : Int32) * nI a = nI (12 * a) := pk_mul 12 a
  have ht12 : t < 12 := by omega
  have q1 : 12 * a + t < 144 := by omega
  have e2 : 12 * a + t = a * 12 + t := by omega
  have hrt : (if heL σ fs 4 (nI a) (nI t) 1 < 0 then σ 37 (a * 12 + t) else σ 45 (heL σ fs 4 (nI a) (nI t) 1).toNatClampNeg) = rtM σ fs a t := heL_G (K := 4) (a := nI a) (b := nI t) (both := 1) hf (fun f => σ 45 f) (σ 37 (a * 12 + t))
  have hk : ∀ z1 z2 : Value, (ir_run (ir_ev (d + 3)) 149 (62, [.ref 33, .int (nI a), .int (nI t), z1, z2], [], σ) = some (some (.int v), σ1)) := by
    intro z1 z2
    simp only [s149_62, s149_63, s149_64, s149_65, s149_68, a1, ir_k_i, ir_tl_i]
  by_cases c1 : σ 34 a ≤ 1
  · have c1' : ¬ 1 < σ 34 a := Int32.not_lt.mpr c1
    refine ⟨σ1, ?_, a2⟩
    simp (disch := omega) only [e149, s149_0, s149_1, s149_4, s149_5, s149_6, s149_7, s149_10, s149_63, s149_11, s149_64, s149_14, s149_65, s149_15, s149_68, s149_16, s149_19, s149_20, s149_21, s149_22, s149_23, s149_24, s149_27, s149_28, s149_29, s149_41, s149_32, s149_42, s149_33, s149_45, s149_36, s149_47, s149_37, s149_48, s149_38, s149_49, s149_52, s149_50, s149_54, s149_51, s149_56, s149_59, s149_61, xA34, xL34, xa34, n_lt_0, n_le_0, n_tl_0, n_el_0, n_eq_0, n_ad_0, n_lt_1, n_le_1, n_tl_1, n_el_1, n_eq_1, n_ad_1, n_lt_2, n_le_2, n_tl_2, n_el_2, n_eq_2, n_ad_2, n_lt_3, n_le_3, n_tl_3, n_el_3, n_eq_3, n_ad_3, n_lt_4, n_le_4, n_tl_4, n_el_4, n_eq_4, n_ad_4, n_lt_5, n_le_5, n_tl_5, n_el_5, n_eq_5, n_ad_5, n_lt_6, n_le_6, n_tl_6, n_el_6, n_eq_6, n_ad_6, n_lt_10, n_le_10, n_tl_10, n_el_10, n_eq_10, n_ad_10, n_lt_11, n_le_11, n_tl_11, n_el_11, n_eq_11, n_ad_11, n_lt_12, n_le_12, n_tl_12, n_el_12, n_eq_12, n_ad_12, n_lt_13, n_le_13, n_tl_13, n_el_13, n_eq_13, n_ad_13, n_lt_15, n_le_15, n_tl_15, n_el_15, n_eq_15, n_ad_15, n_lt_20, n_le_20, n_tl_20, n_el_20, n_eq_20, n_ad_20, n_lt_30, n_le_30, n_tl_30, n_el_30, n_eq_30, n_ad_30, n_lt_31, n_le_31, n_tl_31, n_el_31, n_eq_31, n_ad_31, n_lt_32, n_le_32, n_tl_32, n_el_32, n_eq_32, n_ad_32, n_lt_60, n_le_60, n_tl_60, n_el_60, n_eq_60, n_ad_60, n_lt_99, n_le_99, n_tl_99, n_el_99, n_eq_99, n_ad_99, n_lt_100, n_le_100, n_tl_100, n_el_100, n_eq_100, n_ad_100, n_lt_144, n_le_144, n_tl_144, n_el_144, n_eq_144, n_ad_144, n_lt_4096, n_le_4096, n_tl_4096, n_el_4096, n_eq_4096, n_ad_4096, n_mulK, nI_add, pk_mul, n_lt, n_le, n_eq, n_eqM, n_ix, n_cl, ha, decide_true, if_true, if_pos c1, hk]
    simp [wkH, rtX, c1', hnr]
  · have c1' : 1 < σ 34 a := Int32.not_le.mp c1
    by_cases c2 : σ 34 t = 0
    · have h52 : ∀ z3 z4 : Value, ∃ σ', ir_run (ir_ev (d + 3)) 149 (52, [.ref 33, .int (nI a), .int (nI t), z3, z4], [.int (rtM σ fs a t)], σ) = some (some (.int (wkH (rtX σ fs) (fun a t => nrV N (adjM σ m) (relM σ) a t) a t)), σ') ∧ (∀ c, c ≠ 41 → σ' c = σ c) := by
        intro z3 z4
        by_cases c3 : rtM σ fs a t < 0
        · have c3' : ¬ 0 ≤ rtM σ fs a t := Int32.not_le.mpr c3
          refine ⟨σ1, ?_, a2⟩
          simp only [s149_52, s149_54, s149_56, if_pos c3, hk]
          simp [wkH, rtX, c3', hnr]
        · have c3' : 0 ≤ rtM σ fs a t := Int32.not_lt.mp c3
          have c4 : ¬ rtM σ fs a t = -1 := fun q => by rw [q] at c3'; exact absurd c3' (by decide)
          refine ⟨σ, ?_, fun _ _ => rfl⟩
          simp only [s149_52, s149_54, s149_56, s149_59, s149_61, if_neg c3]
          simp [wkH, rtX, c1', c2, c3', c4]
      have q2 : a * 12 + t < 144 := by omega
      rcases heL_val (K := 4) (a := nI a) (b := nI t) (both := 1) hf with hh | ⟨f, hf12, hh⟩
      · rw [hh, if_pos (by decide)] at hrt
        obtain ⟨σ', z1, z2⟩ := h52 (.int (-1)) .null
        refine ⟨σ', ?_, z2⟩
        simp (disch := omega) only [e149, s149_0, s149_1, s149_4, s149_5, s149_6, s149_7, s149_10, s149_63, s149_11, s149_64, s149_14, s149_65, s149_15, s149_68, s149_16, s149_19, s149_20, s149_21, s149_22, s149_23, s149_24, s149_27, s149_28, s149_29, s149_41, s149_32, s149_42, s149_33, s149_45, s149_36, s149_47, s149_37, s149_48, s149_38, s149_49, s149_50, s149_54, s149_51, s149_56, s149_59, s149_61, xA34, xL34, xa34, xA37, xL37, xa37, n_lt_0, n_le_0, n_tl_0, n_el_0, n_eq_0, n_ad_0, n_lt_1, n_le_1, n_tl_1, n_el_1, n_eq_1, n_ad_1, n_lt_2, n_le_2, n_tl_2, n_el_2, n_eq_2, n_ad_2, n_lt_3, n_le_3, n_tl_3, n_el_3, n_eq_3, n_ad_3, n_lt_4, n_le_4, n_tl_4, n_el_4, n_eq_4, n_ad_4, n_lt_5, n_le_5, n_tl_5, n_el_5, n_eq_5, n_ad_5, n_lt_6, n_le_6, n_tl_6, n_el_6, n_eq_6, n_ad_6, n_lt_10, n_le_10, n_tl_10, n_el_10, n_eq_10, n_ad_10, n_lt_11, n_le_11, n_tl_11, n_el_11, n_eq_11, n_ad_11, n_lt_12, n_le_12, n_tl_12, n_el_12, n_eq_12, n_ad_12, n_lt_13, n_le_13, n_tl_13, n_el_13, n_eq_13, n_ad_13, n_lt_15, n_le_15, n_tl_15, n_el_15, n_eq_15, n_ad_15, n_lt_20, n_le_20, n_tl_20, n_el_20, n_eq_20, n_ad_20, n_lt_30, n_le_30, n_tl_30, n_el_30, n_eq_30, n_ad_30, n_lt_31, n_le_31, n_tl_31, n_el_31, n_eq_31, n_ad_31, n_lt_32, n_le_32, n_tl_32, n_el_32, n_eq_32, n_ad_32, n_lt_60, n_le_60, n_tl_60, n_el_60, n_eq_60, n_ad_60, n_lt_99, n_le_99, n_tl_99, n_el_99, n_eq_99, n_ad_99, n_lt_100, n_le_100, n_tl_100, n_el_100, n_eq_100, n_ad_100, n_lt_144, n_le_144, n_tl_144, n_el_144, n_eq_144, n_ad_144, n_lt_4096, n_le_4096, n_tl_4096, n_el_4096, n_eq_4096, n_ad_4096, n_mulK, nI_add, pk_mul, n_lt, n_le, n_eq, n_eqM, n_ix, n_cl, e1, e2, q2, ha, ht12, decide_true, if_true, if_neg c1, if_pos c2, m148 hf, ir_k_i, ir_tl_i, hh, n_m1lt, hrt]
        exact z1
      · rw [hh, if_neg (by rw [n_lt_0 (by omega)]; omega), n_cl (by omega)] at hrt
        obtain ⟨σ', z1, z2⟩ := h52 (.int (nI f)) .null
        refine ⟨σ', ?_, z2⟩
        have q3 : ¬ f < 0 := by omega
        simp (disch := omega) only [e149, s149_0, s149_1, s149_4, s149_5, s149_6, s149_7, s149_10, s149_63, s149_11, s149_64, s149_14, s149_65, s149_15, s149_68, s149_16, s149_19, s149_20, s149_21, s149_22, s149_23, s149_24, s149_27, s149_28, s149_29, s149_41, s149_32, s149_42, s149_33, s149_45, s149_36, s149_47, s149_37, s149_48, s149_38, s149_49, s149_50, s149_54, s149_51, s149_56, s149_59, s149_61, xA34, xL34, xa34, xA45, xL45, xa45, n_lt_0, n_le_0, n_tl_0, n_el_0, n_eq_0, n_ad_0, n_lt_1, n_le_1, n_tl_1, n_el_1, n_eq_1, n_ad_1, n_lt_2, n_le_2, n_tl_2, n_el_2, n_eq_2, n_ad_2, n_lt_3, n_le_3, n_tl_3, n_el_3, n_eq_3, n_ad_3, n_lt_4, n_le_4, n_tl_4, n_el_4, n_eq_4, n_ad_4, n_lt_5, n_le_5, n_tl_5, n_el_5, n_eq_5, n_ad_5, n_lt_6, n_le_6, n_tl_6, n_el_6, n_eq_6, n_ad_6, n_lt_10, n_le_10, n_tl_10, n_el_10, n_eq_10, n_ad_10, n_lt_11, n_le_11, n_tl_11, n_el_11, n_eq_11, n_ad_11, n_lt_12, n_le_12, n_tl_12, n_el_12, n_eq_12, n_ad_12, n_lt_13, n_le_13, n_tl_13, n_el_13, n_eq_13, n_ad_13, n_lt_15, n_le_15, n_tl_15, n_el_15, n_eq_15, n_ad_15, n_lt_20, n_le_20, n_tl_20, n_el_20, n_eq_20, n_ad_20, n_lt_30, n_le_30, n_tl_30, n_el_30, n_eq_30, n_ad_30, n_lt_31, n_le_31, n_tl_31, n_el_31, n_eq_31, n_ad_31, n_lt_32, n_le_32, n_tl_32, n_el_32, n_eq_32, n_ad_32, n_lt_60, n_le_60, n_tl_60, n_el_60, n_eq_60, n_ad_60, n_lt_99, n_le_99, n_tl_99, n_el_99, n_eq_99, n_ad_99, n_lt_100, n_le_100, n_tl_100, n_el_100, n_eq_100, n_ad_100, n_lt_144, n_le_144, n_tl_144, n_el_144, n_eq_144, n_ad_144, n_lt_4096, n_le_4096, n_tl_4096, n_el_4096, n_eq_4096, n_ad_4096, n_mulK, nI_add, pk_mul, n_lt, n_le, n_eq, n_eqM, n_ix, n_cl, q3, hf12, ha, ht12, decide_true, if_true, if_false, if_neg c1, if_pos c2, m148 hf, ir_k_i, ir_tl_i, hh, hrt]
        exact z1
    · refine ⟨σ1, ?_, a2⟩
      simp (disch := omega) only [e149, s149_0, s149_1, s149_4, s149_5, s149_6, s149_7, s149_10, s149_63, s149_11, s149_64, s149_14, s149_65, s149_15, s149_68, s149_16, s149_19, s149_20, s149_21, s149_22, s149_23, s149_24, s149_27, s149_28, s149_29, s149_41, s149_32, s149_42, s149_33, s149_45, s149_36, s149_47, s149_37, s149_48, s149_38, s149_49, s149_52, s149_50, s149_54, s149_51, s149_56, s149_59, s149_61, xA34, xL34, xa34, n_lt_0, n_le_0, n_tl_0, n_el_0, n_eq_0, n_ad_0, n_lt_1, n_le_1, n_tl_1, n_el_1, n_eq_1, n_ad_1, n_lt_2, n_le_2, n_tl_2, n_el_2, n_eq_2, n_ad_2, n_lt_3, n_le_3, n_tl_3, n_el_3, n_eq_3, n_ad_3, n_lt_4, n_le_4, n_tl_4, n_el_4, n_eq_4, n_ad_4, n_lt_5, n_le_5, n_tl_5, n_el_5, n_eq_5, n_ad_5, n_lt_6, n_le_6, n_tl_6, n_el_6, n_eq_6, n_ad_6, n_lt_10, n_le_10, n_tl_10, n_el_10, n_eq_10, n_ad_10, n_lt_11, n_le_11, n_tl_11, n_el_11, n_eq_11, n_ad_11, n_lt_12, n_le_12, n_tl_12, n_el_12, n_eq_12, n_ad_12, n_lt_13, n_le_13, n_tl_13, n_el_13, n_eq_13, n_ad_13, n_lt_15, n_le_15, n_tl_15, n_el_15, n_eq_15, n_ad_15, n_lt_20, n_le_20, n_tl_20, n_el_20, n_eq_20, n_ad_20, n_lt_30, n_le_30, n_tl_30, n_el_30, n_eq_30, n_ad_30, n_lt_31, n_le_31, n_tl_31, n_el_31, n_eq_31, n_ad_31, n_lt_32, n_le_32, n_tl_32, n_el_32, n_eq_32, n_ad_32, n_lt_60, n_le_60, n_tl_60, n_el_60, n_eq_60, n_ad_60, n_lt_99, n_le_99, n_tl_99, n_el_99, n_eq_99, n_ad_99, n_lt_100, n_le_100, n_tl_100, n_el_100, n_eq_100, n_ad_100, n_lt_144, n_le_144, n_tl_144, n_el_144, n_eq_144, n_ad_144, n_lt_4096, n_le_4096, n_tl_4096, n_el_4096, n_eq_4096, n_ad_4096, n_mulK, nI_add, pk_mul, n_lt, n_le, n_eq, n_eqM, n_ix, n_cl, ha, ht12, decide_true, if_true, if_neg c1, if_neg c2, hk]
      simp [wkH, rtX, c2, hnr]
