noncomputable def mC (σ : ir_S) (N m : Nat) (fs : List Nat) (s f t : Nat) : Bool := (mW σ N m fs s f t 30 f 1 (fun _ => nI f)).1 && !hvM σ fs 1 (nI t) 0 0
def gB (C : Nat → Nat → Nat → Bool) (s f t : Nat) : Bool := decide (f = t) || (C s f t && C s t f)
def gCall (C : Nat → Nat → Nat → Bool) (on : Nat → Nat → Bool) (nm : Nat → Int32) (nmr : Int32) (f n s : Nat) : Int32 :=
  if nmr = -1 then 1 else if on nmr.toNatClampNeg 1 = false then 1 else if gB C 1 f nmr.toNatClampNeg = false then 1
  else if nm n = -1 then 2 else if gB C s f (nm n).toNatClampNeg = false then 3
  else if on (nm n).toNatClampNeg s = false then 4 else 10 + nm n
def gAns (C : Nat → Nat → Nat → Bool) (G : Nat → Nat → Nat) (hp : Nat → Nat → Int32) (on : Nat → Nat → Bool) (nm : Nat → Int32) (nmr : Int32) (ct : Nat → Bool) (kd : Int32) (a b c : Nat) : Int32 :=
  if kd = 0 then ir_b (gB C 0 a b) else if kd = 1 then nI (G a b) + (if C 0 a b = true then 100 else 0)
  else if kd = 2 then gCall C on nm nmr a b c else if kd = 3 then (if hp a b = -1 then 99 else hp a b) else ir_b (!ct a)
def MR (σ : ir_S) (fs : List Nat) : Prop := ∀ a h, a < 12 → h < 12 → nod 12 (rtM σ fs a h)
theorem ag3_MR {σ σ' : ir_S} {fs : List Nat} (h : ag3 σ σ') (hr : MR σ fs) : MR σ' fs := by unfold MR; rw [ag3_rtM h]; exact hr
theorem m152 {d N m s f t : Nat} {σ : ir_S} {LA LB : Nat → Nat} {fs : List Nat} (ho : MOK σ N m LA LB fs) (hrt : MR σ fs) (hf : f < 12) (ht : t < N) :
    ∃ σ', ir_ev (d + 5) 152 [.ref 33, .int (nI s), .int (nI f), .int (nI t)] σ = some (some (.int (ir_b (mC σ N m fs s f t))), σ') ∧ ag3 σ σ' ∧ σ' 33 25 = nI ((mW σ N m fs s f t 30 f 1 (fun _ => nI f)).2.1 - 1) ∧ (mW σ N m fs s f t 30 f 1 (fun _ => nI f)).2.1 ≤ 31 ∧ 1 ≤ (mW σ N m fs s f t 30 f 1 (fun _ => nI f)).2.1 ∧ ∀ i, i < (mW σ N m fs s f t 30 f 1 (fun _ => nI f)).2.1 → σ' 50 i = (mW σ N m fs s f t 30 f 1 (fun _ => nI f)).2.2 i := by
  obtain ⟨σ', h1, h2⟩ := m152_loop (d := d) (s := s) ho hrt hf ht 30 f 0 (fun _ => nI f) (ir_up (ir_up σ 33 25 0) 50 0 (nI f)) .null .null .null rfl hf ⟨fun c q1 q2 q3 => by rw [u_n _ _ _ q3, u_n _ _ _ q1], fun k q => by rw [u_n _ _ _ (by decide), u_s, upd_n _ _ q]⟩ (by rw [u_n _ _ _ (by decide), u_s, upd_s]; rfl) (fun i hi => by rw [u_s, show i = 0 by omega, upd_s])
  refine ⟨σ', ?_, h2⟩
  have e0 : (0 : Int32).toNatClampNeg = 0 := sb_cl0
  have e1 : ir_ixb 0 32 = true := by decide
  simp only [e152, s152_0, s152_1, s152_3, s152_4, s152_5, s152_8, s152_9, s152_12, s152_13, s152_15, s152_18, s152_19, s152_145, s152_22, s152_146, s152_23, s152_147, s152_25, s152_148, s152_26, s152_149, s152_29, s152_150, s152_31, s152_153, s152_33, s152_160, s152_156, s152_72, s152_36, s152_161z, s152_161o, s152_161b, s152_157, s152_73, s152_37, s152_77, s152_40, s152_79, s152_42, s152_81, s152_43, s152_88, s152_84, s152_52, s152_46, s152_89, s152_85, s152_53, s152_48, s152_91, s152_96, s152_55, s152_49, s152_93, s152_98, s152_56, s152_100, s152_57, s152_115, s152_103, s152_60, s152_116z, s152_116o, s152_116b, s152_104, s152_63, s152_105, s152_64, s152_107, s152_67, s152_108, s152_69, s152_109, s152_76, s152_112, s152_117, s152_119, s152_121, s152_122i, s152_122r, s152_123, s152_126, s152_127, s152_128, s152_131, s152_132, s152_135, s152_136, s152_139, s152_141, s152_142, xA50, xL50, xa50, e0, e1, if_true]
  exact h1
theorem ag3_mC {σ σ' : ir_S} {N m : Nat} {fs : List Nat} {s f t : Nat} (h : ag3 σ σ') : mC σ' N m fs s f t = mC σ N m fs s f t := by
  unfold mC
  rw [ag3_mW h, ag3_hvM h]
theorem m153 {d N m s f t : Nat} {σ : ir_S} {LA LB : Nat → Nat} {fs : List Nat} (ho : MOK σ N m LA LB fs) (hrt : MR σ fs) (hf : f < N) (ht : t < N) :
    ∃ σ', ir_ev (d + 6) 153 [.ref 33, .int (nI s), .int (nI f), .int (nI t)] σ = some (some (.int (ir_b (gB (mC σ N m fs) s f t))), σ') ∧ ag3 σ σ' := by
  have hN := ho.1
  by_cases hft : f = t
  · subst hft
    refine ⟨σ, ?_, ag3_rf σ⟩
    simp (disch := omega) only [e153, s153_0, s153_1, s153_2, s153_25, s153_5, s153_26, s153_6, s153_30z, s153_30o, s153_30b, s153_7, s153_8, s153_9, s153_12, s153_29, s153_15, s153_16, s153_17, s153_18, s153_19, s153_22, n_lt_0, n_le_0, n_tl_0, n_el_0, n_eq_0, n_ad_0, n_lt_1, n_le_1, n_tl_1, n_el_1, n_eq_1, n_ad_1, n_lt_2, n_le_2, n_tl_2, n_el_2, n_eq_2, n_ad_2, n_lt_3, n_le_3, n_tl_3, n_el_3, n_eq_3, n_ad_3, n_lt_4, n_le_4, n_tl_4, n_el_4, n_eq_4, n_ad_4, n_lt_5, n_le_5, n_tl_5, n_el_5, n_eq_5, n_ad_5, n_lt_6, n_le_6, n_tl_6, n_el_6, n_eq_6, n_ad_6, n_lt_10, n_le_10, n_tl_10, n_el_10, n_eq_10, n_ad_10, n_lt_11, n_le_11, n_tl_11, n_el_11, n_eq_11, n_ad_11, n_lt_12, n_le_12, n_tl_12, n_el_12, n_eq_12, n_ad_12, n_lt_13, n_le_13, n_tl_13, n_el_13, n_eq_13, n_ad_13, n_lt_15, n_le_15, n_tl_15, n_el_15, n_eq_15, n_ad_15, n_lt_20, n_le_20, n_tl_20, n_el_20, n_eq_20, n_ad_20, n_lt_30, n_le_30, n_tl_30, n_el_30, n_eq_30, n_ad_30, n_lt_31, n_le_31, n_tl_31, n_el_31, n_eq_31, n_ad_31, n_lt_32, n_le_32, n_tl_32, n_el_32, n_eq_32, n_ad_32, n_lt_60, n_le_60, n_tl_60, n_el_60, n_eq_60, n_ad_60, n_lt_99, n_le_99, n_tl_99, n_el_99, n_eq_99, n_ad_99, n_lt_100, n_le_100, n_tl_100, n_el_100, n_eq_100, n_ad_100, n_lt_144, n_le_144, n_tl_144, n_el_144, n_eq_144, n_ad_144, n_lt_4096, n_le_4096, n_tl_4096, n_el_4096, n_eq_4096, n_ad_4096, n_mulK, nI_add, pk_mul, n_lt, n_le, n_eq, n_eqM, n_ix, n_cl]
    simp [gB, ir_b]
  · obtain ⟨σ1, h1, h2, -⟩ := m152 (d := d) (s := s) ho hrt (show f < 12 by omega) ht
    obtain ⟨σ2, g1, g2, -⟩ := m152 (d := d) (s := s) (ag3_MOK h2 ho) (ag3_MR h2 hrt) (show t < 12 by omega) hf
    rw [ag3_mC h2] at g1
    cases hc : mC σ N m fs s f t with
    | false =>
      rw [hc] at h1
      refine ⟨σ1, ?_, h2⟩
      simp (disch := omega) only [e153, s153_0, s153_1, s153_2, s153_25, s153_5, s153_26, s153_6, s153_30z, s153_30o, s153_30b, s153_7, s153_8, s153_9, s153_12, s153_29, s153_15, s153_16, s153_17, s153_18, s153_19, s153_22, n_lt_0, n_le_0, n_tl_0, n_el_0, n_eq_0, n_ad_0, n_lt_1, n_le_1, n_tl_1, n_el_1, n_eq_1, n_ad_1, n_lt_2, n_le_2, n_tl_2, n_el_2, n_eq_2, n_ad_2, n_lt_3, n_le_3, n_tl_3, n_el_3, n_eq_3, n_ad_3, n_lt_4, n_le_4, n_tl_4, n_el_4, n_eq_4, n_ad_4, n_lt_5, n_le_5, n_tl_5, n_el_5, n_eq_5, n_ad_5, n_lt_6, n_le_6, n_tl_6, n_el_6, n_eq_6, n_ad_6, n_lt_10, n_le_10, n_tl_10, n_el_10, n_eq_10, n_ad_10, n_lt_11, n_le_11, n_tl_11, n_el_11, n_eq_11, n_ad_11, n_lt_12, n_le_12, n_tl_12, n_el_12, n_eq_12, n_ad_12, n_lt_13, n_le_13, n_tl_13, n_el_13, n_eq_13, n_ad_13, n_lt_15, n_le_15, n_tl_15, n_el_15, n_eq_15, n_ad_15, n_lt_20, n_le_20, n_tl_20, n_el_20, n_eq_20, n_ad_20, n_lt_30, n_le_30, n_tl_30, n_el_30, n_eq_30, n_ad_30, n_lt_31, n_le_31, n_tl_31, n_el_31, n_eq_31, n_ad_31, n_lt_32, n_le_32, n_tl_32, n_el_32, n_eq_32, n_ad_32, n_lt_60, n_le_60, n_tl_60, n_el_60, n_eq_60, n_ad_60, n_lt_99, n_le_99, n_tl_99, n_el_99, n_eq_99, n_ad_99, n_lt_100, n_le_100, n_tl_100, n_el_100, n_eq_100, n_ad_100, n_lt_144, n_le_144, n_tl_144, n_el_144, n_eq_144, n_ad_144, n_lt_4096, n_le_4096, n_tl_4096, n_el_4096, n_eq_4096, n_ad_4096, n_mulK, nI_add, pk_mul, n_lt, n_le, n_eq, n_eqM, n_ix, n_cl, h1, ir_k_i, ir_tl_i]
      simp [gB, hft, hc, ir_b]
    | true =>
      rw [hc] at h1
      refine ⟨σ2, ?_, ag3_tr h2 g2⟩
      simp (disch := omega) only [e153, s153_0, s153_1, s153_2, s153_25, s153_5, s153_26, s153_6, s153_30z, s153_30o, s153_30b, s153_7, s153_8, s153_9, s153_12, s153_29, s153_15, s153_16, s153_17, s153_18, s153_19, s153_22, n_lt_0, n_le_0, n_tl_0, n_el_0, n_eq_0, n_ad_0, n_lt_1, n_le_1, n_tl_1, n_el_1, n_eq_1, n_ad_1, n_lt_2, n_le_2, n_tl_2, n_el_2, n_eq_2, n_ad_2, n_lt_3, n_le_3, n_tl_3, n_el_3, n_eq_3, n_ad_3, n_lt_4, n_le_4, n_tl_4, n_el_4, n_eq_4, n_ad_4, n_lt_5, n_le_5, n_tl_5, n_el_5, n_eq_5, n_ad_5, n_lt_6, n_le_6, n_tl_6, n_el_6, n_eq_6, n_ad_6, n_lt_10, n_le_10, n_tl_10, n_el_10, n_eq_10, n_ad_10, n_lt_11, n_le_11, n_tl_11, n_el_11, n_eq_11, n_ad_11, n_lt_12, n_le_12, n_tl_12, n_el_12, n_eq_12, n_ad_12, n_lt_13, n_le_13, n_tl_13, n_el_13, n_eq_13, n_ad_13, n_lt_15, n_le_15, n_tl_15, n_el_15, n_eq_15, n_ad_15, n_lt_20, n_le_20, n_tl_20, n_el_20, n_eq_20, n_ad_20, n_lt_30, n_le_30, n_tl_30, n_el_30, n_eq_30, n_ad_30, n_lt_31, n_le_31, n_tl_31, n_el_31, n_eq_31, n_ad_31, n_lt_32, n_le_32, n_tl_32, n_el_32, n_eq_32, n_ad_32, n_lt_60, n_le_60, n_tl_60, n_el_60, n_eq_60, n_ad_60, n_lt_99, n_le_99, n_tl_99, n_el_99, n_eq_99, n_ad_99, n_lt_100, n_le_100, n_tl_100, n_el_100, n_eq_100, n_ad_100, n_lt_144, n_le_144, n_tl_144, n_el_144, n_eq_144, n_ad_144, n_lt_4096, n_le_4096, n_tl_4096, n_el_4096, n_eq_4096, n_ad_4096, n_mulK, nI_add, pk_mul, n_lt, n_le, n_eq, n_eqM, n_ix, n_cl, h1, g1, ir_k_i, ir_tl_i]
      cases hc2 : mC σ N m fs s t f <;> simp [gB, hft, hc, hc2, ir_b]
def onM (σ : ir_S) (fs : List Nat) (h s : Nat) : Bool := ir_bit (σ 39 h) s && !hvM σ fs 5 (nI h) (nI s) 1
def nmM (σ : ir_S) (fs : List Nat) (n : Nat) : Int32 := fs.foldl (fun v f => if σ 42 f = 2 ∧ σ 43 f = nI n ∧ ((0 : Int32) = 0 ∨ σ 44 f = 0) then σ 44 f else v) (σ 40 n)
theorem ag3_onM {σ σ' : ir_S} {fs : List Nat} (h : ag3 σ σ') : onM σ' fs = onM σ fs := by
  funext a s
  unfold onM
  rw [ag3_hvM h, h.1 39 (by decide) (by decide) (by decide)]
theorem ag3_nmM {σ σ' : ir_S} {fs : List Nat} (h : ag3 σ σ') : nmM σ' fs = nmM σ fs := by
  funext n
  unfold nmM
  rw [h.1 42 (by decide) (by decide) (by decide), h.1 43 (by decide) (by decide) (by decide), h.1 44 (by decide) (by decide) (by decide), h.1 40 (by decide) (by decide) (by decide)]
theorem nod_neg {m : Nat} {v : Int32} (hm : m ≤ 12) (h : nod m v) : (v < 0) = (v = -1) := by
  rcases h with rfl | ⟨k, hk, rfl⟩
  · simp
  · rw [n_lt_0 (by omega), n_eqM (by omega)]
    simp
theorem nod_ge {m : Nat} {v : Int32} (hm : m ≤ 12) (h : nod m v) : (0 ≤ v) = ¬ (v = -1) := by
  rw [← nod_neg hm h]
  exact propext Int32.not_lt.symm
theorem m157 {d N m f n s : Nat} {σ : ir_S} {LA LB : Nat → Nat} {fs : List Nat} (ho : MOK σ N m LA LB fs) (hrt : MR σ fs) (hnr : nod N (σ 33 10)) (hnm : nod N (nmM σ fs n)) (hf : f < N) (hn : n < 6) :
    ∃ σ', ir_ev (d + 7) 157 [.ref 33, .int (nI f), .int (nI n), .int (nI s)] σ = some (some (.int (gCall (mC σ N m fs) (onM σ fs) (nmM σ fs) (σ 33 10) f n s)), σ') ∧ ag3 σ σ' := by
  have hN := ho.1
  have hHL := ho.2.2.2.2.2
  rcases hnr with hq | ⟨q, hq12, hq⟩
  · refine ⟨σ, ?_, ag3_rf σ⟩
    simp (disch := omega) only [e157, s157_0, s157_1, s157_4, s157_32, s157_7, s157_33, s157_8, s157_9, s157_12, s157_13, s157_16, s157_19, s157_20, s157_21, s157_22, s157_23, s157_26, s157_29, s157_34, s157_35, s157_36, s157_37, s157_38, s157_39, s157_42, s157_44, s157_46, s157_59, s157_49, s157_60, s157_50, s157_63, s157_53, s157_64, s157_55, s157_65, s157_56, s157_67, s157_69, s157_74, s157_72, s157_75, s157_73, s157_76, s157_77, s157_79, s157_82, s157_89, s157_85, s157_90, s157_86, s157_92, s157_108, s157_93, s157_96, s157_107, s157_99, s157_101, s157_103, s157_104, hq, n_m1lt, if_true]
    simp [gCall]
  have q0 : ¬ q < 0 := by omega
  have hqne : ¬ nI q = (-1 : Int32) := by rw [n_eqM (by omega)]; exact fun h => h
  have hqcl : (nI q).toNatClampNeg = q := n_cl (by omega)
  have k151 : ir_ev (d + 6) 151 [.ref 33, .int (nI q), .int 1] σ = some (some (.int (ir_b (onM σ fs q 1))), σ) := m151 (s := 1) (by omega) hHL
  cases h1 : onM σ fs q 1 with
  | false =>
    rw [h1] at k151
    refine ⟨σ, ?_, ag3_rf σ⟩
    simp (disch := omega) only [e157, s157_0, s157_1, s157_4, s157_32, s157_7, s157_33, s157_8, s157_9, s157_12, s157_13, s157_16, s157_19, s157_20, s157_21, s157_22, s157_23, s157_26, s157_29, s157_35, s157_36, s157_37, s157_38, s157_39, s157_42, s157_44, s157_46, s157_59, s157_49, s157_60, s157_50, s157_63, s157_53, s157_64, s157_55, s157_65, s157_56, s157_67, s157_69, s157_74, s157_72, s157_75, s157_73, s157_76, s157_77, s157_79, s157_82, s157_89, s157_85, s157_90, s157_86, s157_92, s157_108, s157_93, s157_96, s157_107, s157_99, s157_101, s157_103, s157_104, hq, n_lt_0, n_le_0, n_tl_0, n_el_0, n_eq_0, n_ad_0, n_lt_1, n_le_1, n_tl_1, n_el_1, n_eq_1, n_ad_1, n_lt_2, n_le_2, n_tl_2, n_el_2, n_eq_2, n_ad_2, n_lt_3, n_le_3, n_tl_3, n_el_3, n_eq_3, n_ad_3, n_lt_4, n_le_4, n_tl_4, n_el_4, n_eq_4, n_ad_4, n_lt_5, n_le_5, n_tl_5, n_el_5, n_eq_5, n_ad_5, n_lt_6, n_le_6, n_tl_6, n_el_6, n_eq_6, n_ad_6, n_lt_10, n_le_10, n_tl_10, n_el_10, n_eq_10, n_ad_10, n_lt_11, n_le_11, n_tl_11, n_el_11, n_eq_11, n_ad_11, n_lt_12, n_le_12, n_tl_12, n_el_12, n_eq_12, n_ad_12, n_lt_13, n_le_13, n_tl_13, n_el_13, n_eq_13, n_ad_13, n_lt_15, n_le_15, n_tl_15, n_el_15, n_eq_15, n_ad_15, n_lt_20, n_le_20, n_tl_20, n_el_20, n_eq_20, n_ad_20, n_lt_30, n_le_30, n_tl_30, n_el_30, n_eq_30, n_ad_30, n_lt_31, n_le_31, n_tl_31, n_el_31, n_eq_31, n_ad_31, n_lt_32, n_le_32, n_tl_32, n_el_32, n_eq_32, n_ad_32, n_lt_60, n_le_60, n_tl_60, n_el_60, n_eq_60, n_ad_60, n_lt_99, n_le_99, n_tl_99, n_el_99, n_eq_99, n_ad_99, n_lt_100, n_le_100, n_tl_100, n_el_100, n_eq_100, n_ad_100, n_lt_144, n_le_144, n_tl_144, n_el_144, n_eq_144, n_ad_144, n_lt_4096, n_le_4096, n_tl_4096, n_el_4096, n_eq_4096, n_ad_4096, n_mulK, nI_add, pk_mul, n_lt, n_le, n_eq, n_eqM, n_ix, n_cl, q0, if_false, k151, ir_k_i, ir_tl_i]
    simp [gCall, hqcl, hqne, h1, ir_b]
  | true =>
    rw [h1] at k151
    obtain ⟨σ1, a1, a2⟩ := m153 (d := d) (s := 1) ho hrt hf hq12
    have a1 : ir_ev (d + 6) 153 [.ref 33, .int 1, .int (nI f), .int (nI q)] σ = some (some (.int (ir_b (gB (mC σ N m fs) 1 f q))), σ1) := a1
    cases h2 : gB (mC σ N m fs) 1 f q with
    | false =>
      rw [h2] at a1
      refine ⟨σ1, ?_, a2⟩
      simp (disch := omega) only [e157, s157_0, s157_1, s157_4, s157_32, s157_7, s157_33, s157_8, s157_9, s157_12, s157_13, s157_16, s157_19, s157_20, s157_21, s157_22, s157_23, s157_26, s157_29, s157_35, s157_36, s157_37, s157_38, s157_39, s157_42, s157_44, s157_46, s157_59, s157_49, s157_60, s157_50, s157_63, s157_53, s157_64, s157_55, s157_65, s157_56, s157_67, s157_69, s157_74, s157_72, s157_75, s157_73, s157_76, s157_77, s157_79, s157_82, s157_89, s157_85, s157_90, s157_86, s157_92, s157_108, s157_93, s157_96, s157_107, s157_99, s157_101, s157_103, s157_104, hq, n_lt_0, n_le_0, n_tl_0, n_el_0, n_eq_0, n_ad_0, n_lt_1, n_le_1, n_tl_1, n_el_1, n_eq_1, n_ad_1, n_lt_2, n_le_2, n_tl_2, n_el_2, n_eq_2, n_ad_2, n_lt_3, n_le_3, n_tl_3, n_el_3, n_eq_3, n_ad_3, n_lt_4, n_le_4, n_tl_4, n_el_4, n_eq_4, n_ad_4, n_lt_5, n_le_5, n_tl_5, n_el_5, n_eq_5, n_ad_5, n_lt_6, n_le_6, n_tl_6, n_el_6, n_eq_6, n_ad_6, n_lt_10, n_le_10, n_tl_10, n_el_10, n_eq_10, n_ad_10, n_lt_11, n_le_11, n_tl_11, n_el_11, n_eq_11, n_ad_11, n_lt_12, n_le_12, n_tl_12, n_el_12, n_eq_12, n_ad_12, n_lt_13, n_le_13, n_tl_13, n_el_13, n_eq_13, n_ad_13, n_lt_15, n_le_15, n_tl_15, n_el_15, n_eq_15, n_ad_15, n_lt_20, n_le_20, n_tl_20, n_el_20, n_eq_20, n_ad_20, n_lt_30, n_le_30, n_tl_30, n_el_30, n_eq_30, n_ad_30, n_lt_31, n_le_31, n_tl_31, n_el_31, n_eq_31, n_ad_31, n_lt_32, n_le_32, n_tl_32, n_el_32, n_eq_32, n_ad_32, n_lt_60, n_le_60, n_tl_60, n_el_60, n_eq_60, n_ad_60, n_lt_99, n_le_99, n_tl_99, n_el_99, n_eq_99, n_ad_99, n_lt_100, n_le_100, n_tl_100, n_el_100, n_eq_100, n_ad_100, n_lt_144, n_le_144, n_tl_144, n_el_144, n_eq_144, n_ad_144, n_lt_4096, n_le_4096, n_tl_4096, n_el_4096, n_eq_4096, n_ad_4096, n_mulK, nI_add, pk_mul, n_lt, n_le, n_eq, n_eqM, n_ix, n_cl, q0, if_false, k151, a1, ir_k_i, ir_tl_i]
      simp [gCall, hqcl, hqne, h1, h2, ir_b]
    | true =>
      rw [h2] at a1
      have ho1 := ag3_MOK a2 ho
      have hHL1 := ho1.2.2.2.2.2
      have hrt1 := ag3_MR a2 hrt
      have hnmE : (if heL σ1 fs 2 (nI n) 0 0 < 0 then σ1 40 n else σ1 44 (heL σ1 fs 2 (nI n) 0 0).toNatClampNeg) = nmM σ fs n := by
        rw [← ag3_nmM a2]
        exact heL_G (K := 2) (a := nI n) (b := 0) (both := 0) hHL1 (fun f => σ1 44 f) (σ1 40 n)
      have h65 : ∀ z4 z5 : Value, ∃ σ', ir_run (ir_ev (d + 6)) 157 (65, [.ref 33, .int (nI f), .int (nI n), .int (nI s), z4, z5], [.int (nmM σ fs n)], σ1) = some (some (.int (gCall (mC σ N m fs) (onM σ fs) (nmM σ fs) (nI q) f n s)), σ') ∧ ag3 σ σ' := by
        intro z4 z5
        rcases hnm with hh | ⟨h, hh12, hh⟩
        · refine ⟨σ1, ?_, a2⟩
          rw [hh]
          have m0 : ((0 : Int32) ≤ -1) = False := by decide
          simp (disch := omega) only [s157_65, s157_67, s157_69, s157_72, s157_73, m0, if_false]
          simp [gCall, hqcl, hqne, h1, h2, hh]
        · obtain ⟨σ2, b1, b2⟩ := m153 (d := d) (s := s) ho1 hrt1 hf hh12
          have hcb : mC σ1 N m fs = mC σ N m fs := by funext s f t; exact ag3_mC a2
          rw [hcb] at b1
          have b3 := ag3_tr a2 b2
          have hHL2 := (ag3_MOK b3 ho).2.2.2.2.2
          have k2 : ir_ev (d + 6) 151 [.ref 33, .int (nI h), .int (nI s)] σ2 = some (some (.int (ir_b (onM σ fs h s))), σ2) := by rw [← ag3_onM b3]; exact m151 (by omega) hHL2
          have hhne : ¬ nI h = (-1 : Int32) := by rw [n_eqM (by omega)]; exact fun h => h
          have hhcl : (nI h).toNatClampNeg = h := n_cl (by omega)
          refine ⟨σ2, ?_, b3⟩
          rw [hh]
          cases h3 : gB (mC σ N m fs) s f h with
          | false =>
            rw [h3] at b1
            simp (disch := omega) only [s157_65, s157_67, s157_69, s157_74, s157_75, s157_76, s157_77, s157_79, s157_82, s157_85, s157_86, s157_108, n_lt_0, n_le_0, n_tl_0, n_el_0, n_eq_0, n_ad_0, n_lt_1, n_le_1, n_tl_1, n_el_1, n_eq_1, n_ad_1, n_lt_2, n_le_2, n_tl_2, n_el_2, n_eq_2, n_ad_2, n_lt_3, n_le_3, n_tl_3, n_el_3, n_eq_3, n_ad_3, n_lt_4, n_le_4, n_tl_4, n_el_4, n_eq_4, n_ad_4, n_lt_5, n_le_5, n_tl_5, n_el_5, n_eq_5, n_ad_5, n_lt_6, n_le_6, n_tl_6, n_el_6, n_eq_6, n_ad_6, n_lt_10, n_le_10, n_tl_10, n_el_10, n_eq_10, n_ad_10, n_lt_11, n_le_11, n_tl_11, n_el_11, n_eq_11, n_ad_11, n_lt_12, n_le_12, n_tl_12, n_el_12, n_eq_12, n_ad_12, n_lt_13, n_le_13, n_tl_13, n_el_13, n_eq_13, n_ad_13, n_lt_15, n_le_15, n_tl_15, n_el_15, n_eq_15, n_ad_15, n_lt_20, n_le_20, n_tl_20, n_el_20, n_eq_20, n_ad_20, n_lt_30, n_le_30, n_tl_30, n_el_30, n_eq_30, n_ad_30, n_lt_31, n_le_31, n_tl_31, n_el_31, n_eq_31, n_ad_31, n_lt_32, n_le_32, n_tl_32, n_el_32, n_eq_32, n_ad_32, n_lt_60, n_le_60, n_tl_60, n_el_60, n_eq_60, n_ad_60, n_lt_99, n_le_99, n_tl_99, n_el_99, n_eq_99, n_ad_99, n_lt_100, n_le_100, n_tl_100, n_el_100, n_eq_100, n_ad_100, n_lt_144, n_le_144, n_tl_144, n_el_144, n_eq_144, n_ad_144, n_lt_4096, n_le_4096, n_tl_4096, n_el_4096, n_eq_4096, n_ad_4096, n_mulK, nI_add, pk_mul, n_lt, n_le, n_eq, n_eqM, n_ix, n_cl, Nat.zero_le, if_true, b1, ir_k_i, ir_tl_i]
            simp [gCall, hqcl, hqne, h1, h2, hh, hhne, hhcl, h3, ir_b]
          | true =>
            rw [h3] at b1
            simp (disch := omega) only [s157_65, s157_67, s157_69, s157_74, s157_75, s157_76, s157_77, s157_79, s157_82, s157_89, s157_90, s157_92, s157_93, s157_96, s157_99, s157_101, s157_103, s157_104, s157_107, s157_108, n_lt_0, n_le_0, n_tl_0, n_el_0, n_eq_0, n_ad_0, n_lt_1, n_le_1, n_tl_1, n_el_1, n_eq_1, n_ad_1, n_lt_2, n_le_2, n_tl_2, n_el_2, n_eq_2, n_ad_2, n_lt_3, n_le_3, n_tl_3, n_el_3, n_eq_3, n_ad_3, n_lt_4, n_le_4, n_tl_4, n_el_4, n_eq_4, n_ad_4, n_lt_5, n_le_5, n_tl_5, n_el_5, n_eq_5, n_ad_5, n_lt_6, n_le_6, n_tl_6, n_el_6, n_eq_6, n_ad_6, n_lt_10, n_le_10, n_tl_10, n_el_10, n_eq_10, n_ad_10, n_lt_11, n_le_11, n_tl_11, n_el_11, n_eq_11, n_ad_11, n_lt_12, n_le_12, n_tl_12, n_el_12, n_eq_12, n_ad_12, n_lt_13, n_le_13, n_tl_13, n_el_13, n_eq_13, n_ad_13, n_lt_15, n_le_15, n_tl_15, n_el_15, n_eq_15, n_ad_15, n_lt_20, n_le_20, n_tl_20, n_el_20, n_eq_20, n_ad_20, n_lt_30, n_le_30, n_tl_30, n_el_30, n_eq_30, n_ad_30, n_lt_31, n_le_31, n_tl_31, n_el_31, n_eq_31, n_ad_31, n_lt_32, n_le_32, n_tl_32, n_el_32, n_eq_32, n_ad_32, n_lt_60, n_le_60, n_tl_60, n_el_60, n_eq_60, n_ad_60, n_lt_99, n_le_99, n_tl_99, n_el_99, n_eq_99, n_ad_99, n_lt_100, n_le_100, n_tl_100, n_el_100, n_eq_100, n_ad_100, n_lt_144, n_le_144, n_tl_144, n_el_144, n_eq_144, n_ad_144, n_lt_4096, n_le_4096, n_tl_4096, n_el_4096, n_eq_4096, n_ad_4096, n_mulK, nI_add, pk_mul, n_lt, n_le, n_eq, n_eqM, n_ix, n_cl, Nat.zero_le, if_true, b1, k2, ir_k_i, ir_tl_i]
            cases h4 : onM σ fs h s <;> simp [gCall, hqcl, hqne, h1, h2, hh, hhne, hhcl, h3, h4, ir_b]
      rw [hq]
      rcases heL_val (K := 2) (a := nI n) (b := 0) (both := 0) hHL1 with hh | ⟨g, hg12, hh⟩
      · rw [hh, if_pos (by decide)] at hnmE
        obtain ⟨σ', z1, z2⟩ := h65 (.int (-1)) .null
        refine ⟨σ', ?_, z2⟩
        simp (disch := omega) only [e157, s157_0, s157_1, s157_4, s157_32, s157_7, s157_33, s157_8, s157_9, s157_12, s157_13, s157_16, s157_19, s157_20, s157_21, s157_22, s157_23, s157_26, s157_29, s157_34, s157_35, s157_36, s157_37, s157_38, s157_39, s157_42, s157_44, s157_46, s157_59, s157_49, s157_60, s157_50, s157_63, s157_53, s157_64, s157_55, s157_56, s157_67, s157_69, s157_74, s157_72, s157_75, s157_73, s157_76, s157_77, s157_79, s157_82, s157_89, s157_85, s157_90, s157_86, s157_92, s157_108, s157_93, s157_96, s157_107, s157_99, s157_101, s157_103, s157_104, xA40, xL40, xa40, hq, n_lt_0, n_le_0, n_tl_0, n_el_0, n_eq_0, n_ad_0, n_lt_1, n_le_1, n_tl_1, n_el_1, n_eq_1, n_ad_1, n_lt_2, n_le_2, n_tl_2, n_el_2, n_eq_2, n_ad_2, n_lt_3, n_le_3, n_tl_3, n_el_3, n_eq_3, n_ad_3, n_lt_4, n_le_4, n_tl_4, n_el_4, n_eq_4, n_ad_4, n_lt_5, n_le_5, n_tl_5, n_el_5, n_eq_5, n_ad_5, n_lt_6, n_le_6, n_tl_6, n_el_6, n_eq_6, n_ad_6, n_lt_10, n_le_10, n_tl_10, n_el_10, n_eq_10, n_ad_10, n_lt_11, n_le_11, n_tl_11, n_el_11, n_eq_11, n_ad_11, n_lt_12, n_le_12, n_tl_12, n_el_12, n_eq_12, n_ad_12, n_lt_13, n_le_13, n_tl_13, n_el_13, n_eq_13, n_ad_13, n_lt_15, n_le_15, n_tl_15, n_el_15, n_eq_15, n_ad_15, n_lt_20, n_le_20, n_tl_20, n_el_20, n_eq_20, n_ad_20, n_lt_30, n_le_30, n_tl_30, n_el_30, n_eq_30, n_ad_30, n_lt_31, n_le_31, n_tl_31, n_el_31, n_eq_31, n_ad_31, n_lt_32, n_le_32, n_tl_32, n_el_32, n_eq_32, n_ad_32, n_lt_60, n_le_60, n_tl_60, n_el_60, n_eq_60, n_ad_60, n_lt_99, n_le_99, n_tl_99, n_el_99, n_eq_99, n_ad_99, n_lt_100, n_le_100, n_tl_100, n_el_100, n_eq_100, n_ad_100, n_lt_144, n_le_144, n_tl_144, n_el_144, n_eq_144, n_ad_144, n_lt_4096, n_le_4096, n_tl_4096, n_el_4096, n_eq_4096, n_ad_4096, n_mulK, nI_add, pk_mul, n_lt, n_le, n_eq, n_eqM, n_ix, n_cl, q0, hn, if_false, decide_true, if_true, k151, a1, ir_b_t, m148 hHL1, hh, n_m1lt, hnmE, ir_k_i, ir_tl_i]
        simp
        exact z1
      · rw [hh, if_neg (by rw [n_lt_0 (by omega)]; omega), n_cl (by omega)] at hnmE
        obtain ⟨σ', z1, z2⟩ := h65 (.int (nI g)) .null
        refine ⟨σ', ?_, z2⟩
        have g0 : ¬ g < 0 := by omega
        simp (disch := omega) only [e157, s157_0, s157_1, s157_4, s157_32, s157_7, s157_33, s157_8, s157_9, s157_12, s157_13, s157_16, s157_19, s157_20, s157_21, s157_22, s157_23, s157_26, s157_29, s157_34, s157_35, s157_36, s157_37, s157_38, s157_39, s157_42, s157_44, s157_46, s157_59, s157_49, s157_60, s157_50, s157_63, s157_53, s157_64, s157_55, s157_56, s157_67, s157_69, s157_74, s157_72, s157_75, s157_73, s157_76, s157_77, s157_79, s157_82, s157_89, s157_85, s157_90, s157_86, s157_92, s157_108, s157_93, s157_96, s157_107, s157_99, s157_101, s157_103, s157_104, xA44, xL44, xa44, hq, n_lt_0, n_le_0, n_tl_0, n_el_0, n_eq_0, n_ad_0, n_lt_1, n_le_1, n_tl_1, n_el_1, n_eq_1, n_ad_1, n_lt_2, n_le_2, n_tl_2, n_el_2, n_eq_2, n_ad_2, n_lt_3, n_le_3, n_tl_3, n_el_3, n_eq_3, n_ad_3, n_lt_4, n_le_4, n_tl_4, n_el_4, n_eq_4, n_ad_4, n_lt_5, n_le_5, n_tl_5, n_el_5, n_eq_5, n_ad_5, n_lt_6, n_le_6, n_tl_6, n_el_6, n_eq_6, n_ad_6, n_lt_10, n_le_10, n_tl_10, n_el_10, n_eq_10, n_ad_10, n_lt_11, n_le_11, n_tl_11, n_el_11, n_eq_11, n_ad_11, n_lt_12, n_le_12, n_tl_12, n_el_12, n_eq_12, n_ad_12, n_lt_13, n_le_13, n_tl_13, n_el_13, n_eq_13, n_ad_13, n_lt_15, n_le_15, n_tl_15, n_el_15, n_eq_15, n_ad_15, n_lt_20, n_le_20, n_tl_20, n_el_20, n_eq_20, n_ad_20, n_lt_30, n_le_30, n_tl_30, n_el_30, n_eq_30, n_ad_30, n_lt_31, n_le_31, n_tl_31, n_el_31, n_eq_31, n_ad_31, n_lt_32, n_le_32, n_tl_32, n_el_32, n_eq_32, n_ad_32, n_lt_60, n_le_60, n_tl_60, n_el_60, n_eq_60, n_ad_60, n_lt_99, n_le_99, n_tl_99, n_el_99, n_eq_99, n_ad_99, n_lt_100, n_le_100, n_tl_100, n_el_100, n_eq_100, n_ad_100, n_lt_144, n_le_144, n_tl_144, n_el_144, n_eq_144, n_ad_144, n_lt_4096, n_le_4096, n_tl_4096, n_el_4096, n_eq_4096, n_ad_4096, n_mulK, nI_add, pk_mul, n_lt, n_le, n_eq, n_eqM, n_ix, n_cl, q0, g0, hg12, if_false, decide_true, if_true, k151, a1, ir_b_t, m148 hHL1, hh, hnmE, ir_k_i, ir_tl_i]
        simp
        exact z1
