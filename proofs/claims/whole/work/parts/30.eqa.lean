/-! looks answer alike -/
theorem wk_congr {hst hst' : Nat → Bool} {nr nr' ln ln' rt rt' : Nat → Nat → Int32} {den den' : Nat → Nat → Bool} {cut cut' : Int32 → Bool} {N f t : Nat} (H : ∀ a, a < N → a ≠ t → hst a = hst' a ∧ den a t = den' a t ∧ wkH rt nr a t = wkH rt' nr' a t ∧ (wkH rt' nr' a t ≠ -1 → cut (ln a (wkH rt' nr' a t).toNatClampNeg) = cut' (ln' a (wkH rt' nr' a t).toNatClampNeg) ∧ (cut' (ln' a (wkH rt' nr' a t).toNatClampNeg) = false → (wkH rt' nr' a t).toNatClampNeg < N))) :
    ∀ k a n p, a < N → wk hst nr ln rt den cut f t k a n p = wk hst' nr' ln' rt' den' cut' f t k a n p := by
  intro k
  induction k with
  | zero => intro a n p _; rfl
  | succ k ih =>
    intro a n p ha
    by_cases hat : a = t
    · simp only [wk, if_pos hat]
    · obtain ⟨e1, e2, e3, e4⟩ := H a ha hat
      simp only [wk, if_neg hat, e1, e2, e3]
      by_cases q1 : ((decide (a ≠ f) && hst' a) || den' a t) = true
      · rw [if_pos q1, if_pos q1]
      · rw [if_neg q1, if_neg q1]
        by_cases q2 : wkH rt' nr' a t = -1
        · rw [if_pos q2, if_pos q2]
        · obtain ⟨e5, e6⟩ := e4 q2
          rw [if_neg q2, if_neg q2, e5]
          by_cases q3 : cut' (ln' a (wkH rt' nr' a t).toNatClampNeg) = true
          · rw [if_pos q3, if_pos q3]
          · rw [if_neg q3, if_neg q3]
            exact ih _ _ _ (e6 (by simpa using q3))
def VB (σ0 : ir_S) (fs : List Nat) (B : Nat) (σ : ir_S) : Prop :=
  (∀ a h, a < 12 → h < 12 → σ (B + 1) (a * 12 + h) = rtF σ0 fs a h) ∧ (∀ a h s, a < 12 → h < 12 → s < 4 → ir_bit (σ (B + 2) (a * 12 + h)) s = dnF σ0 fs a h s) ∧ (∀ h s, h < 12 → s < 4 → ir_bit (σ (B + 3) h) s = onF σ0 fs h s) ∧ (∀ n, n < 6 → σ (B + 4) n = nmF σ0 fs n) ∧
  (∀ l, l < 20 → ir_bit (σ B 5) l = ctF σ0 fs l) ∧ (∀ h, h < 12 → ir_bit (σ B 6) h = asF σ0 fs h) ∧ σ B 4 = σ0 6 4 ∧ σ 1 = σ0 1 ∧ σ 2 = σ0 2 ∧ σ 4 = σ0 4 ∧ σ 5 = σ0 5
theorem BR_VB {σ0 σ : ir_S} {fs : List Nat} (h : BR σ0 fs σ) : VB σ0 fs 11 σ := by
  obtain ⟨b1, b2, b3, b4, b5, b6, b7, b8⟩ := h
  exact ⟨b1, b2, b3, b4, b5, b6, b7, b8 1 (by omega), b8 2 (by omega), b8 4 (by omega), b8 5 (by omega)⟩
theorem VB_sound {σ : ir_S} {N : Nat} (h2 : R2 σ N) : VB σ [] 6 σ := by
  refine ⟨fun _ _ _ _ => rfl, fun _ _ _ _ _ _ => rfl, fun _ _ _ _ => rfl, fun _ _ => rfl, fun l hl => ?_, fun h hh => ?_, rfl, rfl, rfl, rfl, rfl⟩
  · rw [h2.2.2.2.2.2.1, ir_bit_0 (by omega)]; rfl
  · rw [h2.2.2.2.2.2.2.1, ir_bit_0 (by omega)]; rfl
section EQA
variable {σ σ0 : ir_S} {N m F B : Nat} {LA LB : Nat → Nat} {fs : List Nat}
theorem isHo_N (h1 : R1 σ0 N m LA LB) (hv : VB σ0 fs B σ) {a : Nat} (ha : a < N) : isHo σ (nI a) = decide (σ0 34 a = 0) := by
  have hN := h1.1
  obtain ⟨-, -, -, -, -, -, -, e1, e2, -⟩ := hv
  unfold isHo isN
  rw [e1, e2, h1.2.2.1, n_cl (by omega), (h1.2.2.2.2.2.2.2.1 a ha).1]
  have q1 : ¬ (nI a < 0) := by rw [n_lt_0 (by omega)]; omega
  have q2 : ¬ (nI N ≤ nI a) := by rw [n_le (by omega) (by omega)]; omega
  simp [q1, q2]
theorem wkH_eq (h1 : R1 σ0 N m LA LB) (h2 : R2 σ0 N) (h3 : R3 σ0 N m F) (hfs : ∀ f ∈ fs, f < F) (hv : VB σ0 fs B σ) {a t : Nat} (ha : a < N) (ht : t < N) (hat : a ≠ t) : wkH (fun a b => σ (B + 1) (a * 12 + b)) (fun a b => σ 5 (a * 12 + b)) a t = wkH (rtX σ0 fs) (fun a t => nrV N (adjM σ0 m) (relM σ0) a t) a t ∧ nod 12 (wkH (rtX σ0 fs) (fun a t => nrV N (adjM σ0 m) (relM σ0) a t) a t) := by
  have hN := h1.1
  have hnr : σ 5 (a * 12 + t) = nrV N (adjM σ0 m) (relM σ0) a t := by
    rw [hv.2.2.2.2.2.2.2.2.2.2]
    exact (nrV_eq (h1.2.2.2.2.2.2.2.2.2.2.2.2.1 a t ha ht hat)).symm
  have hr := hv.1 a t (by omega) (by omega)
  have hrm := v_rt (a := a) (h := t) h2 h3 hfs (by omega) (by omega)
  unfold wkH rtX
  rw [hrm]
  dsimp only
  rcases v_rt_ok hN h2 h3 hfs (show a < 12 by omega) (show t < 12 by omega) with q | ⟨_, _, q3, q4, k, hk, q5⟩
  · have hr' := hr.trans q
    have z : ¬ (0 : Int32) ≤ -1 := by decide
    simp only [hr', q, z, and_false, if_false, if_true]
    exact ⟨hnr, nrV_nod hN⟩
  · have hne : ¬ nI k = (-1 : Int32) := by rw [n_eqM (by omega)]; exact fun h => h
    have e34 : 1 < σ0 34 a := by
      rw [(h1.2.2.2.2.2.2.2.1 a ha).1]
      obtain ⟨j, hj, ej⟩ := (h1.2.2.2.2.2.2.2.1 a ha).2
      rw [ej] at q3 ⊢
      rw [n_el_2 (by omega)] at q3
      rw [n_tl_1 (by omega)]
      omega
    have e34t : σ0 34 t = 0 := by rw [(h1.2.2.2.2.2.2.2.1 t ht).1]; exact q4
    have hr' := hr.trans q5
    have z : (0 : Int32) ≤ nI k := by rw [n_el_0 (by omega)]; omega
    simp only [hr', q5, e34, e34t, z, and_self, if_true, hne, if_false]
    exact ⟨trivial, Or.inr ⟨k, by omega, rfl⟩⟩
theorem cW_eq (h1 : R1 σ0 N m LA LB) (h2 : R2 σ0 N) (h3 : R3 σ0 N m F) (hfs : ∀ f ∈ fs, f < F) (hv : VB σ0 fs B σ) {s f t : Nat} (hs : s < 4) (ht : t < N) : ∀ k a n p, a < N → cW σ B s f t k a n p = mW σ0 N m fs s f t k a n p := by
  have hN := h1.1
  have hm := h1.2.1
  unfold cW mW
  refine wk_congr (fun a ha hat => ?_)
  obtain ⟨e3, hnod⟩ := wkH_eq h1 h2 h3 hfs hv ha ht hat
  refine ⟨isHo_N h1 hv ha, ?_, e3, fun hne => ?_⟩
  · rw [hv.2.1 a t s (by omega) (by omega) hs, v_dn h2 h3 hfs (by omega) (by omega)]
    cases hd : dnF σ0 fs a t s with
    | false => simp
    | true =>
      have := v_dn_ok hN h2 h3 hfs (show a < 12 by omega) (show t < 12 by omega) hs hd
      simp [(h1.2.2.2.2.2.2.2.1 a ha).1, this.2]
  · rcases hnod with q | ⟨h, hh, q⟩
    · exact absurd q hne
    · rw [q, n_cl (by omega)]
      have hln : σ 4 (a * 12 + h) = lnF (σ0 35) (σ0 36) (nI a) (nI h) m 0 := by
        rw [hv.2.2.2.2.2.2.2.2.2.1]
        exact h1.2.2.2.2.2.2.2.2.2.1 a h (by omega) hh
      rw [hln]
      rcases lnF_val (A := σ0 35) (B := σ0 36) (a := nI a) (b := nI h) (n := m) (i := 0) with q1 | ⟨l, _, hl, q1⟩
      · rw [q1]
        exact ⟨by simp [cutB], fun z => by simp at z⟩
      · have hne2 : ¬ nI l = (-1 : Int32) := by rw [n_eqM (by omega)]; exact fun h => h
        refine ⟨?_, fun _ => ?_⟩
        · rw [q1]
          unfold cutB
          rw [if_neg hne2, if_neg hne2, n_cl (by omega), hv.2.2.2.2.1 l (by omega), v_ct h3 hfs]
        · have hadj : adjM σ0 m a h = true := by
            unfold adjM
            rw [q1]
            simp [hne2]
          obtain ⟨l2, hl2, hh2⟩ := (adjM_iff hm).mp hadj
          obtain ⟨g1, g2, g3, g4, g5⟩ := h1.2.2.2.2.2.2.1 l2 hl2
          rw [g4, g5] at hh2
          rcases hh2 with ⟨y1, y2⟩ | ⟨y1, y2⟩
          · have : LB l2 = h := (nI_eq (by omega) (by omega)).mp y2
            omega
          · have : LA l2 = h := (nI_eq (by omega) (by omega)).mp y1
            omega
theorem cC_eq (h1 : R1 σ0 N m LA LB) (h2 : R2 σ0 N) (h3 : R3 σ0 N m F) (hfs : ∀ f ∈ fs, f < F) (hv : VB σ0 fs B σ) {s f t : Nat} (hs : s < 4) (hf : f < N) (ht : t < N) : cC σ B s f t = mC σ0 N m fs s f t := by
  have hN := h1.1
  unfold cC mC
  rw [cW_eq h1 h2 h3 hfs hv hs ht _ _ _ _ hf, hv.2.2.2.2.2.1 t (by omega), v_as h3 hfs]
theorem cB_eq (h1 : R1 σ0 N m LA LB) (h2 : R2 σ0 N) (h3 : R3 σ0 N m F) (hfs : ∀ f ∈ fs, f < F) (hv : VB σ0 fs B σ) {s f t : Nat} (hs : s < 4) (hf : f < N) (ht : t < N) : cB σ B s f t = gB (mC σ0 N m fs) s f t := by
  unfold cB gB
  rw [cC_eq h1 h2 h3 hfs hv hs hf ht, cC_eq h1 h2 h3 hfs hv hs ht hf]
theorem cCall_eq (h1 : R1 σ0 N m LA LB) (h2 : R2 σ0 N) (h3 : R3 σ0 N m F) (hfs : ∀ f ∈ fs, f < F) (hv : VB σ0 fs B σ) {f n s : Nat} (hs : s < 4) (hf : f < N) (hn : n < 6) : cCall σ B f n s = gCall (mC σ0 N m fs) (onM σ0 fs) (nmM σ0 fs) (σ0 33 10) f n s := by
  have hN := h1.1
  have e4 : σ0 33 10 = σ B 4 := by rw [hv.2.2.2.2.2.2.1]; exact h2.2.2.2.2.1
  have enm : nmM σ0 fs n = σ (B + 4) n := by rw [hv.2.2.2.1 n hn]; exact v_nm h2 h3 hfs hn
  have hnm : nod N (σ (B + 4) n) := by rw [hv.2.2.2.1 n hn]; exact v_nm_ok h2 h3 hfs hn
  have hnr : nod N (σ B 4) := by rw [hv.2.2.2.2.2.2.1]; exact h2.2.2.2.2.2.2.2.2.2.2
  unfold cCall gCall
  rw [e4, enm]
  rcases hnr with q | ⟨k, hk, q⟩
  · rw [if_pos q, if_pos q]
  · rw [q]
    have hne : ¬ nI k = (-1 : Int32) := by rw [n_eqM (by omega)]; exact fun h => h
    rw [if_neg hne, if_neg hne, n_cl (by omega), hv.2.2.1 k 1 (by omega) (by omega), v_on h2 h3 hfs (by omega), cB_eq h1 h2 h3 hfs hv (by omega) hf hk]
    rcases hnm with z | ⟨j, hj, z⟩
    · rw [z]
      simp
    · rw [z]
      have hne2 : ¬ nI j = (-1 : Int32) := by rw [n_eqM (by omega)]; exact fun h => h
      rw [if_neg hne2, if_neg hne2, n_cl (by omega), hv.2.2.1 j s (by omega) hs, v_on h2 h3 hfs (by omega), cB_eq h1 h2 h3 hfs hv hs hf hj]
/-- a look answers alike on both sides -/
theorem cAns_eq (h1 : R1 σ0 N m LA LB) (h2 : R2 σ0 N) (h3 : R3 σ0 N m F) (hfs : ∀ f ∈ fs, f < F) (hv : VB σ0 fs B σ) {kd a b c : Int32} (hl : lookN N kd a b c) (hdis : kd = 3 → a ≠ b) : cAns σ B kd a.toNatClampNeg b.toNatClampNeg c.toNatClampNeg = mAns σ0 N m fs kd a.toNatClampNeg b.toNatClampNeg c.toNatClampNeg := by
  have hN := h1.1
  have hm := h1.2.1
  unfold cAns mAns gAns
  rcases hl with ⟨hk, ⟨x, hx, rfl⟩, y, hy, rfl⟩ | ⟨hk, ⟨x, hx, rfl⟩, ⟨y, hy, rfl⟩, z, hz, rfl⟩ | ⟨hk, ⟨x, hx, rfl⟩, y, hy, rfl⟩ | ⟨hk, x, hx, rfl⟩
  · rw [n_cl (by omega), n_cl (by omega)]
    rcases hk with rfl | rfl
    · simp only [if_true]
      rw [cB_eq h1 h2 h3 hfs hv (by omega) hx hy]
    · rw [cW_eq h1 h2 h3 hfs hv (by omega) hy _ _ _ _ hx, cC_eq h1 h2 h3 hfs hv (by omega) hx hy]
      simp
  · rw [n_cl (by omega), n_cl (by omega), n_cl (by omega), hk, cCall_eq h1 h2 h3 hfs hv hz hx hy]
    simp
  · rw [n_cl (by omega), n_cl (by omega), hk]
    have hxy : x ≠ y := fun q => hdis hk (by rw [q])
    have e := (wkH_eq h1 h2 h3 hfs hv hx hy hxy).1
    have e2 : cH σ B x y = wkH (rtX σ0 fs) (fun a t => nrV N (adjM σ0 m) (relM σ0) a t) x y := by rw [← e]; rfl
    simp [e2]
  · rw [n_cl (by omega), hk, hv.2.2.2.2.1 x hx]
    simp [v_ct (l := x) h3 hfs]
end EQA
