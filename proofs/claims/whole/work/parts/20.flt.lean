/-! faults at work: a list fs of fault numbers, over the class's cells (19: faults, 7..10: what is told) -/
def fK (σ : ir_S) (f : Nat) : Int32 := σ 19 (f * 5)
def fA (σ : ir_S) (f : Nat) : Int32 := σ 19 (f * 5 + 1)
def fB (σ : ir_S) (f : Nat) : Int32 := σ 19 (f * 5 + 2)
def fC (σ : ir_S) (f : Nat) : Int32 := σ 19 (f * 5 + 3)
def rtF (σ : ir_S) (fs : List Nat) (a h : Nat) : Int32 := fs.foldl (fun v f => if fK σ f = 4 ∧ fA σ f = nI a ∧ fB σ f = nI h then fC σ f else v) (σ 7 (a * 12 + h))
def dnF (σ : ir_S) (fs : List Nat) (a h s : Nat) : Bool := fs.foldl (fun v f => v || decide (fK σ f = 3 ∧ fA σ f = nI a ∧ fB σ f = nI h ∧ fC σ f = nI s)) (ir_bit (σ 8 (a * 12 + h)) s)
def onF (σ : ir_S) (fs : List Nat) (h s : Nat) : Bool := fs.foldl (fun v f => v && !decide (fK σ f = 5 ∧ fA σ f = nI h ∧ fB σ f = nI s)) (ir_bit (σ 9 h) s)
def nmF (σ : ir_S) (fs : List Nat) (n : Nat) : Int32 := fs.foldl (fun v f => if fK σ f = 2 ∧ fA σ f = nI n then fB σ f else v) (σ 10 n)
def ctF (σ : ir_S) (fs : List Nat) (l : Nat) : Bool := fs.foldl (fun v f => v || decide (fK σ f = 0 ∧ fA σ f = nI l)) false
def asF (σ : ir_S) (fs : List Nat) (h : Nat) : Bool := fs.foldl (fun v f => v || decide (fK σ f = 1 ∧ fA σ f = nI h)) false
def faultV (k a b c : Int32) : Prop := (k = 0 ∧ ∃ x, x < 20 ∧ a = nI x) ∨ (k = 1 ∧ ∃ x, x < 12 ∧ a = nI x) ∨ (k = 2 ∧ (∃ x, x < 6 ∧ a = nI x) ∧ ∃ y, y < 12 ∧ b = nI y) ∨ (k = 3 ∧ (∃ x, x < 12 ∧ a = nI x) ∧ (∃ y, y < 12 ∧ b = nI y) ∧ ∃ z, z < 4 ∧ c = nI z) ∨ (k = 4 ∧ (∃ x, x < 12 ∧ a = nI x) ∧ (∃ y, y < 12 ∧ b = nI y) ∧ ∃ z, z < 12 ∧ c = nI z) ∨ (k = 5 ∧ (∃ x, x < 12 ∧ a = nI x) ∧ ∃ y, y < 4 ∧ b = nI y)
/-- the broken Setting (cells 11..15) of the memory σ is what the faults fs make of the told one of σ0 -/
def BR (σ0 : ir_S) (fs : List Nat) (σ : ir_S) : Prop :=
  (∀ a h, a < 12 → h < 12 → σ 12 (a * 12 + h) = rtF σ0 fs a h) ∧ (∀ a h s, a < 12 → h < 12 → s < 4 → ir_bit (σ 13 (a * 12 + h)) s = dnF σ0 fs a h s) ∧ (∀ h s, h < 12 → s < 4 → ir_bit (σ 14 h) s = onF σ0 fs h s) ∧ (∀ n, n < 6 → σ 15 n = nmF σ0 fs n) ∧
  (∀ l, l < 20 → ir_bit (σ 11 5) l = ctF σ0 fs l) ∧ (∀ h, h < 12 → ir_bit (σ 11 6) h = asF σ0 fs h) ∧ σ 11 4 = σ0 6 4 ∧ ∀ c, c < 11 ∨ 15 < c → σ c = σ0 c
theorem ix12 {a b c e : Nat} (hb : b < 12) (he : e < 12) : a * 12 + b = c * 12 + e ↔ a = c ∧ b = e := by omega
set_option maxHeartbeats 4000000 in
theorem c44 {d f : Nat} {σ0 σ : ir_S} {fs : List Nat} (hv : faultV (fK σ0 f) (fA σ0 f) (fB σ0 f) (fC σ0 f)) (hb : BR σ0 fs σ) : ∃ σ', ir_ev (d + 2) 44 [.ref 11, .int (fK σ0 f), .int (fA σ0 f), .int (fB σ0 f), .int (fC σ0 f)] σ = some (none, σ') ∧ BR σ0 (fs ++ [f]) σ' := by
  obtain ⟨b1, b2, b3, b4, b5, b6, b7, b8⟩ := hb
  have ff : ∀ {β : Type} (g : β → Nat → β) (v : β), (fs ++ [f]).foldl g v = g (fs.foldl g v) f := fun g v => by rw [List.foldl_append]; rfl
  rcases hv with ⟨hk, x, hx, ha⟩ | ⟨hk, x, hx, ha⟩ | ⟨hk, ⟨x, hx, ha⟩, y, hy, hbb⟩ | ⟨hk, ⟨x, hx, ha⟩, ⟨y, hy, hbb⟩, z, hz, hc⟩ | ⟨hk, ⟨x, hx, ha⟩, ⟨y, hy, hbb⟩, z, hz, hc⟩ | ⟨hk, ⟨x, hx, ha⟩, y, hy, hbb⟩
  · refine ⟨ir_up σ 11 5 (σ 11 5 ||| ((1 : Int32) <<< (nI x &&& 31))), ?_, ?_, ?_, ?_, ?_, ?_, ?_, ?_, ?_⟩
    · rw [hk, ha]
      simp only [e44, s44_0, s44_1c0, s44_1c1, s44_1c2, s44_1c3, s44_1c4, s44_1c5, s44_1d, s44_40, s44_55, s44_70, s44_79, s44_91, s44_102, s44_112, s44_41i, s44_41r, s44_56i, s44_56r, s44_71, s44_80, s44_92, s44_103, s44_42_6, s44_42_11, s44_57_6, s44_57_11, s44_72, s44_81, s44_93, s44_104, s44_45, s44_60, s44_73_6, s44_73_11, s44_82, s44_94, s44_105, s44_46, s44_61, s44_76, s44_84, s44_96_6, s44_96_11, s44_106_6, s44_106_11, s44_47, s44_62, s44_85_6, s44_85_11, s44_99, s44_109, s44_48, s44_63, s44_88, s44_49_6, s44_49_11, s44_64_6, s44_64_11, s44_52, s44_67]
    · intro a h h1 h2
      rw [u_n _ _ _ (by decide), b1 a h h1 h2]
      unfold rtF
      rw [ff, if_neg (fun q => by rw [hk] at q; exact absurd q.1 (by decide))]
    · intro a h s h1 h2 h3
      rw [u_n _ _ _ (by decide), b2 a h s h1 h2 h3]
      unfold dnF
      rw [ff, hk]
      simp
    · intro h s h1 h2
      rw [u_n _ _ _ (by decide), b3 h s h1 h2]
      unfold onF
      rw [ff, hk]
      simp
    · intro n h1
      rw [u_n _ _ _ (by decide), b4 n h1]
      unfold nmF
      rw [ff, if_neg (fun q => by rw [hk] at q; exact absurd q.1 (by decide))]
    · intro l h1
      rw [u_s, upd_s, ir_bit_or (by omega) (by omega), b5 l h1]
      unfold ctF
      rw [ff, hk, ha]
      simp (disch := omega) [n_eq, eq_comm]
    · intro h h1
      rw [u_s, upd_n _ _ (by decide), b6 h h1]
      unfold asF
      rw [ff, hk]
      simp
    · rw [u_s, upd_n _ _ (by decide), b7]
    · intro c hc
      rw [u_n _ _ _ (by omega), b8 c hc]
  · refine ⟨ir_up σ 11 6 (σ 11 6 ||| ((1 : Int32) <<< (nI x &&& 31))), ?_, ?_, ?_, ?_, ?_, ?_, ?_, ?_, ?_⟩
    · rw [hk, ha]
      simp only [e44, s44_0, s44_1c0, s44_1c1, s44_1c2, s44_1c3, s44_1c4, s44_1c5, s44_1d, s44_40, s44_55, s44_70, s44_79, s44_91, s44_102, s44_112, s44_41i, s44_41r, s44_56i, s44_56r, s44_71, s44_80, s44_92, s44_103, s44_42_6, s44_42_11, s44_57_6, s44_57_11, s44_72, s44_81, s44_93, s44_104, s44_45, s44_60, s44_73_6, s44_73_11, s44_82, s44_94, s44_105, s44_46, s44_61, s44_76, s44_84, s44_96_6, s44_96_11, s44_106_6, s44_106_11, s44_47, s44_62, s44_85_6, s44_85_11, s44_99, s44_109, s44_48, s44_63, s44_88, s44_49_6, s44_49_11, s44_64_6, s44_64_11, s44_52, s44_67]
    · intro a h h1 h2
      rw [u_n _ _ _ (by decide), b1 a h h1 h2]
      unfold rtF
      rw [ff, if_neg (fun q => by rw [hk] at q; exact absurd q.1 (by decide))]
    · intro a h s h1 h2 h3
      rw [u_n _ _ _ (by decide), b2 a h s h1 h2 h3]
      unfold dnF
      rw [ff, hk]
      simp
    · intro h s h1 h2
      rw [u_n _ _ _ (by decide), b3 h s h1 h2]
      unfold onF
      rw [ff, hk]
      simp
    · intro n h1
      rw [u_n _ _ _ (by decide), b4 n h1]
      unfold nmF
      rw [ff, if_neg (fun q => by rw [hk] at q; exact absurd q.1 (by decide))]
    · intro l h1
      rw [u_s, upd_n _ _ (by decide), b5 l h1]
      unfold ctF
      rw [ff, hk]
      simp
    · intro h h1
      rw [u_s, upd_s, ir_bit_or (by omega) (by omega), b6 h h1]
      unfold asF
      rw [ff, hk, ha]
      simp (disch := omega) [n_eq, eq_comm]
    · rw [u_s, upd_n _ _ (by decide), b7]
    · intro c hc
      rw [u_n _ _ _ (by omega), b8 c hc]
  · refine ⟨ir_up σ 15 x (fB σ0 f), ?_, ?_, ?_, ?_, ?_, ?_, ?_, ?_, ?_⟩
    · rw [hk, ha]
      simp only [e44, s44_0, s44_1c0, s44_1c1, s44_1c2, s44_1c3, s44_1c4, s44_1c5, s44_1d, s44_40, s44_55, s44_70, s44_79, s44_91, s44_102, s44_112, s44_41i, s44_41r, s44_56i, s44_56r, s44_71, s44_80, s44_92, s44_103, s44_42_6, s44_42_11, s44_57_6, s44_57_11, s44_72, s44_81, s44_93, s44_104, s44_45, s44_60, s44_73_6, s44_73_11, s44_82, s44_94, s44_105, s44_46, s44_61, s44_76, s44_84, s44_96_6, s44_96_11, s44_106_6, s44_106_11, s44_47, s44_62, s44_85_6, s44_85_11, s44_99, s44_109, s44_48, s44_63, s44_88, s44_49_6, s44_49_11, s44_64_6, s44_64_11, s44_52, s44_67, c48_11 hx, ir_k_v, ir_tl_v]
    · intro a h h1 h2
      rw [u_n _ _ _ (by decide), b1 a h h1 h2]
      unfold rtF
      rw [ff, if_neg (fun q => by rw [hk] at q; exact absurd q.1 (by decide))]
    · intro a h s h1 h2 h3
      rw [u_n _ _ _ (by decide), b2 a h s h1 h2 h3]
      unfold dnF
      rw [ff, hk]
      simp
    · intro h s h1 h2
      rw [u_n _ _ _ (by decide), b3 h s h1 h2]
      unfold onF
      rw [ff, hk]
      simp
    · intro n h1
      rw [u_s]
      unfold nmF
      rw [ff, hk, ha]
      by_cases e : n = x
      · subst e
        rw [upd_s, if_pos ⟨rfl, rfl⟩]
      · rw [upd_n _ _ e, b4 n h1, if_neg (fun q => e ((nI_eq (by omega) (by omega)).mp q.2).symm)]
        rfl
    · intro l h1
      rw [u_n _ _ _ (by decide), b5 l h1]
      unfold ctF
      rw [ff, hk]
      simp
    · intro h h1
      rw [u_n _ _ _ (by decide), b6 h h1]
      unfold asF
      rw [ff, hk]
      simp
    · rw [u_n _ _ _ (by decide), b7]
    · intro c hc
      rw [u_n _ _ _ (by omega), b8 c hc]
  · refine ⟨ir_up σ 13 (x * 12 + y) ((σ 13 (x * 12 + y) &&& (((1 : Int32) <<< (nI z &&& 31)) ^^^ (-1))) ||| ((1 : Int32) <<< (nI z &&& 31))), ?_, ?_, ?_, ?_, ?_, ?_, ?_, ?_, ?_⟩
    · rw [hk, ha, hbb, hc]
      simp only [e44, s44_0, s44_1c0, s44_1c1, s44_1c2, s44_1c3, s44_1c4, s44_1c5, s44_1d, s44_40, s44_55, s44_70, s44_79, s44_91, s44_102, s44_112, s44_41i, s44_41r, s44_56i, s44_56r, s44_71, s44_80, s44_92, s44_103, s44_42_6, s44_42_11, s44_57_6, s44_57_11, s44_72, s44_81, s44_93, s44_104, s44_45, s44_60, s44_73_6, s44_73_11, s44_82, s44_94, s44_105, s44_46, s44_61, s44_76, s44_84, s44_96_6, s44_96_11, s44_106_6, s44_106_11, s44_47, s44_62, s44_85_6, s44_85_11, s44_99, s44_109, s44_48, s44_63, s44_88, s44_49_6, s44_49_11, s44_64_6, s44_64_11, s44_52, s44_67, c46_11 hx hy, ir_k_v, ir_tl_v]
      simp
    · intro a h h1 h2
      rw [u_n _ _ _ (by decide), b1 a h h1 h2]
      unfold rtF
      rw [ff, if_neg (fun q => by rw [hk] at q; exact absurd q.1 (by decide))]
    · intro a h s h1 h2 h3
      rw [u_s]
      unfold dnF
      rw [ff, hk, ha, hbb, hc]
      by_cases e : a * 12 + h = x * 12 + y
      · obtain ⟨rfl, rfl⟩ := (ix12 h2 hy).mp e
        rw [upd_s, ir_bit_or (by omega) (by omega), ir_bit_clr (by omega) (by omega), b2 a h s h1 h2 h3]
        unfold dnF
        by_cases e2 : s = z
        · subst e2; simp
        · simp (disch := omega) [e2, n_eq, Ne.symm e2]
      · rw [upd_n _ _ e, b2 a h s h1 h2 h3]
        have : ¬ (x = a ∧ y = h) := fun q => e (by rw [q.1, q.2])
        unfold dnF
        simp (disch := omega) [n_eq]
        intro q1 q2 _
        exact absurd ⟨q1, q2⟩ this
    · intro h s h1 h2
      rw [u_n _ _ _ (by decide), b3 h s h1 h2]
      unfold onF
      rw [ff, hk]
      simp
    · intro n h1
      rw [u_n _ _ _ (by decide), b4 n h1]
      unfold nmF
      rw [ff, if_neg (fun q => by rw [hk] at q; exact absurd q.1 (by decide))]
    · intro l h1
      rw [u_n _ _ _ (by decide), b5 l h1]
      unfold ctF
      rw [ff, hk]
      simp
    · intro h h1
      rw [u_n _ _ _ (by decide), b6 h h1]
      unfold asF
      rw [ff, hk]
      simp
    · rw [u_n _ _ _ (by decide), b7]
    · intro c hc
      rw [u_n _ _ _ (by omega), b8 c hc]
  · refine ⟨ir_up σ 12 (x * 12 + y) (fC σ0 f), ?_, ?_, ?_, ?_, ?_, ?_, ?_, ?_, ?_⟩
    · rw [hk, ha, hbb]
      simp only [e44, s44_0, s44_1c0, s44_1c1, s44_1c2, s44_1c3, s44_1c4, s44_1c5, s44_1d, s44_40, s44_55, s44_70, s44_79, s44_91, s44_102, s44_112, s44_41i, s44_41r, s44_56i, s44_56r, s44_71, s44_80, s44_92, s44_103, s44_42_6, s44_42_11, s44_57_6, s44_57_11, s44_72, s44_81, s44_93, s44_104, s44_45, s44_60, s44_73_6, s44_73_11, s44_82, s44_94, s44_105, s44_46, s44_61, s44_76, s44_84, s44_96_6, s44_96_11, s44_106_6, s44_106_11, s44_47, s44_62, s44_85_6, s44_85_11, s44_99, s44_109, s44_48, s44_63, s44_88, s44_49_6, s44_49_11, s44_64_6, s44_64_11, s44_52, s44_67, d45_11 hx hy, ir_k_v, ir_tl_v]
    · intro a h h1 h2
      rw [u_s]
      unfold rtF
      rw [ff, hk, ha, hbb]
      by_cases e : a * 12 + h = x * 12 + y
      · obtain ⟨rfl, rfl⟩ := (ix12 h2 hy).mp e
        rw [upd_s, if_pos ⟨rfl, rfl, rfl⟩]
      · rw [upd_n _ _ e, b1 a h h1 h2, if_neg (fun q => e (by rw [(nI_eq (by omega) (by omega)).mp q.2.1, (nI_eq (by omega) (by omega)).mp q.2.2]))]
        rfl
    · intro a h s h1 h2 h3
      rw [u_n _ _ _ (by decide), b2 a h s h1 h2 h3]
      unfold dnF
      rw [ff, hk]
      simp
    · intro h s h1 h2
      rw [u_n _ _ _ (by decide), b3 h s h1 h2]
      unfold onF
      rw [ff, hk]
      simp
    · intro n h1
      rw [u_n _ _ _ (by decide), b4 n h1]
      unfold nmF
      rw [ff, if_neg (fun q => by rw [hk] at q; exact absurd q.1 (by decide))]
    · intro l h1
      rw [u_n _ _ _ (by decide), b5 l h1]
      unfold ctF
      rw [ff, hk]
      simp
    · intro h h1
      rw [u_n _ _ _ (by decide), b6 h h1]
      unfold asF
      rw [ff, hk]
      simp
    · rw [u_n _ _ _ (by decide), b7]
    · intro c hc
      rw [u_n _ _ _ (by omega), b8 c hc]
  · refine ⟨ir_up σ 14 x (σ 14 x &&& (((1 : Int32) <<< (nI y &&& 31)) ^^^ (-1))), ?_, ?_, ?_, ?_, ?_, ?_, ?_, ?_, ?_⟩
    · rw [hk, ha, hbb]
      simp only [e44, s44_0, s44_1c0, s44_1c1, s44_1c2, s44_1c3, s44_1c4, s44_1c5, s44_1d, s44_40, s44_55, s44_70, s44_79, s44_91, s44_102, s44_112, s44_41i, s44_41r, s44_56i, s44_56r, s44_71, s44_80, s44_92, s44_103, s44_42_6, s44_42_11, s44_57_6, s44_57_11, s44_72, s44_81, s44_93, s44_104, s44_45, s44_60, s44_73_6, s44_73_11, s44_82, s44_94, s44_105, s44_46, s44_61, s44_76, s44_84, s44_96_6, s44_96_11, s44_106_6, s44_106_11, s44_47, s44_62, s44_85_6, s44_85_11, s44_99, s44_109, s44_48, s44_63, s44_88, s44_49_6, s44_49_11, s44_64_6, s44_64_11, s44_52, s44_67, c47_11 hx, ir_k_v, ir_tl_v]
      simp
    · intro a h h1 h2
      rw [u_n _ _ _ (by decide), b1 a h h1 h2]
      unfold rtF
      rw [ff, if_neg (fun q => by rw [hk] at q; exact absurd q.1 (by decide))]
    · intro a h s h1 h2 h3
      rw [u_n _ _ _ (by decide), b2 a h s h1 h2 h3]
      unfold dnF
      rw [ff, hk]
      simp
    · intro h s h1 h2
      rw [u_s]
      unfold onF
      rw [ff, hk, ha, hbb]
      by_cases e : h = x
      · subst e
        rw [upd_s, ir_bit_clr (by omega) (by omega), b3 h s h1 h2]
        unfold onF
        simp (disch := omega) [n_eq, eq_comm]
      · rw [upd_n _ _ e, b3 h s h1 h2]
        unfold onF
        simp (disch := omega) [n_eq, Ne.symm e]
    · intro n h1
      rw [u_n _ _ _ (by decide), b4 n h1]
      unfold nmF
      rw [ff, if_neg (fun q => by rw [hk] at q; exact absurd q.1 (by decide))]
    · intro l h1
      rw [u_n _ _ _ (by decide), b5 l h1]
      unfold ctF
      rw [ff, hk]
      simp
    · intro h h1
      rw [u_n _ _ _ (by decide), b6 h h1]
      unfold asF
      rw [ff, hk]
      simp
    · rw [u_n _ _ _ (by decide), b7]
    · intro c hc
      rw [u_n _ _ _ (by omega), b8 c hc]
/-! NetSchool.breakWith, breakBy -/
theorem isE_nI {σ : ir_S} {e : Nat} {v : Int32} (h : isE σ e v = true) (hm : (σ e 1).toInt ≤ 12) : ∃ k : Nat, k < 12 ∧ v = nI k ∧ (k : Int) < (σ e 1).toInt := by
  unfold isE at h
  rw [Bool.and_eq_true, decide_eq_true_iff, decide_eq_true_iff] at h
  obtain ⟨k, hk, rfl⟩ := nI_of h.1
  have h2 : (nI k).toInt < (σ e 1).toInt := Int32.lt_iff_toInt_lt.mp (Int32.not_le.mp h.2)
  rw [nI_toInt hk] at h2
  exact ⟨k, by omega, rfl, h2⟩
theorem isE_ag {σ σ' : ir_S} {e : Nat} (h : σ' e = σ e) (v : Int32) : isE σ' e v = isE σ e v := by unfold isE; rw [h]
/-- the faults told so far are such as may be told -/
def FV (σ : ir_S) : Prop := (σ 18 1).toInt ≤ 12 ∧ ∀ k : Nat, (k : Int) < (σ 18 1).toInt → faultV (fK σ k) (fA σ k) (fB σ k) (fC σ k)
def act1 (σ : ir_S) (v m : Int32) : List Nat := if (isE σ 18 v && !ir_bit m v.toNatClampNeg) = true then [v.toNatClampNeg] else []
def acts (σ : ir_S) (c m : Int32) : List Nat := if isE σ 20 c = true then act1 σ (σ 21 (c.toNatClampNeg * 5 + 1)) m ++ act1 σ (σ 21 (c.toNatClampNeg * 5 + 2)) m else []
theorem c113 {d : Nat} {σ0 σ : ir_S} {fs : List Nat} {v m : Int32} (hF : FV σ0) (hb : BR σ0 fs σ) : ∃ σ', ir_ev (d + 3) 113 [.ref 0, .int v, .int m] σ = some (none, σ') ∧ BR σ0 (fs ++ act1 σ0 v m) σ' := by
  have e18 : σ 18 = σ0 18 := hb.2.2.2.2.2.2.2 18 (by omega)
  have e19 : σ 19 = σ0 19 := hb.2.2.2.2.2.2.2 19 (by omega)
  have hE : isE σ 18 v = isE σ0 18 v := isE_ag e18 v
  cases h1 : isE σ0 18 v with
  | false =>
    refine ⟨σ, ?_, by rw [act1, h1]; simpa using hb⟩
    simp only [e113, s113_0, s113_1, s113_4, s113_5_18, s113_5_20, s113_5_22, s113_8, s113_62, s113_11, s113_12, s113_13, s113_16, s113_19, s113_20, s113_23, s113_24, s113_27, s113_28, s113_29_18, s113_29_20, s113_29_22, s113_32, s113_33, s113_36, s113_37, s113_38_18, s113_38_20, s113_38_22, s113_41, s113_42, s113_45, s113_46, s113_47_18, s113_47_20, s113_47_22, s113_50, s113_51, s113_54, s113_55, s113_56_18, s113_56_20, s113_56_22, s113_59_6, s113_59_11, c2_18, hE, h1, ir_k_i, ir_tl_i]
    simp [ir_b]
  | true =>
    obtain ⟨k, hk, rfl, hkn⟩ := isE_nI h1 hF.1
    have hcl : (nI k).toNatClampNeg = k := n_cl (by omega)
    cases h2 : ir_bit m k with
    | true =>
      refine ⟨σ, ?_, by rw [act1, h1, hcl, h2]; simpa using hb⟩
      simp only [e113, s113_0, s113_1, s113_4, s113_5_18, s113_5_20, s113_5_22, s113_8, s113_62, s113_11, s113_12, s113_13, s113_16, s113_19, s113_20, s113_23, s113_24, s113_27, s113_28, s113_29_18, s113_29_20, s113_29_22, s113_32, s113_33, s113_36, s113_37, s113_38_18, s113_38_20, s113_38_22, s113_41, s113_42, s113_45, s113_46, s113_47_18, s113_47_20, s113_47_22, s113_50, s113_51, s113_54, s113_55, s113_56_18, s113_56_20, s113_56_22, s113_59_6, s113_59_11, c2_18, c116, hE, h1, h2, ir_k_i, ir_tl_i]
      simp [ir_b]
    | false =>
      have g0 : ir_ev (d + 2) 5 [.ref 18, .int (nI k), .int 0] σ = some (some (.int (fK σ0 k)), σ) := by unfold fK; rw [← e19]; exact c5_18 (f := 0) hk (by decide)
      have g1 : ir_ev (d + 2) 5 [.ref 18, .int (nI k), .int 1] σ = some (some (.int (fA σ0 k)), σ) := by unfold fA; rw [← e19]; exact c5_18 (f := 1) hk (by decide)
      have g2 : ir_ev (d + 2) 5 [.ref 18, .int (nI k), .int 2] σ = some (some (.int (fB σ0 k)), σ) := by unfold fB; rw [← e19]; exact c5_18 (f := 2) hk (by decide)
      have g3 : ir_ev (d + 2) 5 [.ref 18, .int (nI k), .int 3] σ = some (some (.int (fC σ0 k)), σ) := by unfold fC; rw [← e19]; exact c5_18 (f := 3) hk (by decide)
      obtain ⟨σ', a1, a2⟩ := c44 (d := d) (hF.2 k hkn) hb
      refine ⟨σ', ?_, by rw [act1, h1, hcl, h2]; exact a2⟩
      simp only [e113, s113_0, s113_1, s113_4, s113_5_18, s113_5_20, s113_5_22, s113_8, s113_62, s113_11, s113_12, s113_13, s113_16, s113_19, s113_20, s113_23, s113_24, s113_27, s113_28, s113_29_18, s113_29_20, s113_29_22, s113_32, s113_33, s113_36, s113_37, s113_38_18, s113_38_20, s113_38_22, s113_41, s113_42, s113_45, s113_46, s113_47_18, s113_47_20, s113_47_22, s113_50, s113_51, s113_54, s113_55, s113_56_18, s113_56_20, s113_56_22, s113_59_6, s113_59_11, c2_18, c116, hE, h1, h2, g0, g1, g2, g3, a1, ir_k_i, ir_tl_i, ir_k_v, ir_tl_v, ir_b_f, ir_b_t]
      simp
theorem c112 {d : Nat} {σ : ir_S} {c m : Int32} (hF : FV σ) (hC : (σ 20 1).toInt ≤ 12) (h5 : σ 6 5 = 0) (h6 : σ 6 6 = 0) : ∃ σ', ir_ev (d + 4) 112 [.ref 0, .int c, .int m] σ = some (none, σ') ∧ BR σ (acts σ c m) σ' := by
  obtain ⟨σ1, a1, a2, a3, a4, a5, a6, a7, a8, a9⟩ := c43 (d := d + 2) (σ := σ)
  have hb : BR σ [] σ1 := by
    refine ⟨fun a h h1 h2 => a3 _ (by omega), fun a h s h1 h2 h3 => by rw [a4 _ (by omega)]; rfl, fun h s h1 h2 => by rw [a5 _ h1]; rfl, fun n h1 => a6 n h1, fun l h1 => ?_, fun h h1 => ?_, a7, a2⟩
    · rw [a8, h5, ir_bit_0 (by omega)]; rfl
    · rw [a9, h6, ir_bit_0 (by omega)]; rfl
  have hE : isE σ1 20 c = isE σ 20 c := isE_ag (a2 20 (by omega)) c
  cases h1 : isE σ 20 c with
  | false =>
    refine ⟨σ1, ?_, by rw [acts, h1]; simpa using hb⟩
    simp only [e112, s112_0, s112_1, s112_4, s112_5, s112_8_6, s112_8_11, s112_11, s112_12, s112_15, s112_16_18, s112_16_20, s112_16_22, s112_19, s112_50, s112_22, s112_23, s112_24, s112_27, s112_28, s112_29_18, s112_29_20, s112_29_22, s112_32, s112_33, s112_36, s112_37, s112_38, s112_41, s112_42, s112_43_18, s112_43_20, s112_43_22, s112_46, s112_47, a1, c2_20, hE, h1, ir_k_i, ir_tl_i, ir_k_v, ir_tl_v]
    simp [ir_b]
  | true =>
    obtain ⟨k, hk, rfl, hkn⟩ := isE_nI h1 hC
    have hcl : (nI k).toNatClampNeg = k := n_cl (by omega)
    have g1 : ir_ev (d + 3) 5 [.ref 20, .int (nI k), .int 1] σ1 = some (some (.int (σ 21 (k * 5 + 1))), σ1) := by rw [← a2 21 (by omega)]; exact c5_20 (f := 1) hk (by decide)
    obtain ⟨σ2, b1, b2⟩ := c113 (d := d) (v := σ 21 (k * 5 + 1)) (m := m) hF hb
    have g2 : ir_ev (d + 3) 5 [.ref 20, .int (nI k), .int 2] σ2 = some (some (.int (σ 21 (k * 5 + 2))), σ2) := by rw [← b2.2.2.2.2.2.2.2 21 (by omega)]; exact c5_20 (f := 2) hk (by decide)
    obtain ⟨σ3, e1, e2⟩ := c113 (d := d) (v := σ 21 (k * 5 + 2)) (m := m) hF b2
    refine ⟨σ3, ?_, by rw [acts, h1, hcl]; simpa using e2⟩
    simp only [e112, s112_0, s112_1, s112_4, s112_5, s112_8_6, s112_8_11, s112_11, s112_12, s112_15, s112_16_18, s112_16_20, s112_16_22, s112_19, s112_50, s112_22, s112_23, s112_24, s112_27, s112_28, s112_29_18, s112_29_20, s112_29_22, s112_32, s112_33, s112_36, s112_37, s112_38, s112_41, s112_42, s112_43_18, s112_43_20, s112_43_22, s112_46, s112_47, a1, c2_20, hE, h1, g1, b1, g2, e1, ir_k_i, ir_tl_i, ir_k_v, ir_tl_v]
    simp [ir_b]
