/-! what the calls that change nothing of the net leave as it is -/
def dynC (c : Nat) : Bool := (Nat.ble 11 c && Nat.ble c 17) || (Nat.ble 25 c && Nat.ble c 32) || Nat.beq c 41 || Nat.beq c 48 || Nat.beq c 49 || Nat.beq c 50 || Nat.beq c 56 || Nat.beq c 57
def dynF (j : Nat) : Bool := !(Nat.beq j 1 || Nat.beq j 3 || Nat.beq j 10 || Nat.beq j 12 || Nat.beq j 17 || Nat.beq j 26)
def stat (σ : ir_S) : ir_S := fun c j => cond (dynC c) 0 (cond (Nat.beq c 33 && dynF j) 0 (σ c j))
def agS (σ σ' : ir_S) : Prop := stat σ' = stat σ
theorem agS_of {σ σ' : ir_S} (h : ∀ c, dynC c = false → c ≠ 33 → σ' c = σ c) (h33 : ∀ j, dynF j = false → σ' 33 j = σ 33 j) : agS σ σ' := by
  funext c j
  unfold stat
  cases hd : dynC c with
  | true => rfl
  | false =>
    by_cases e : c = 33
    · subst e
      cases hj : dynF j with
      | true => rfl
      | false => exact h33 j hj
    · rw [h c hd e]
theorem agS_rf (σ : ir_S) : agS σ σ := rfl
theorem agS_tr {σ σ1 σ2 : ir_S} (h1 : agS σ σ1) (h2 : agS σ1 σ2) : agS σ σ2 := Eq.trans h2 h1
theorem agS_sy {σ σ1 : ir_S} (h1 : agS σ σ1) : agS σ1 σ := Eq.symm h1
theorem dy_ne {c k : Nat} (h : dynC c = false) (hk : dynC k = true) : c ≠ k := fun e => by rw [e, hk] at h; cases h
theorem dy_nf {j k : Nat} (h : dynF j = false) (hk : dynF k = true) : j ≠ k := fun e => by rw [e, hk] at h; cases h
theorem agS_up {σ σ0 : ir_S} {c k : Nat} {v : Int32} (hc : dynC c = true) (h : agS σ0 σ) : agS σ0 (ir_up σ c k v) :=
  agS_tr h (agS_of (fun q hq _ => u_n _ _ _ (dy_ne hq hc)) (fun j _ => by rw [u_n _ _ _ (fun e => by rw [← e] at hc; cases hc)]))
theorem agS_33 {σ σ0 : ir_S} {k : Nat} {v : Int32} (hk : dynF k = true) (h : agS σ0 σ) : agS σ0 (ir_up σ 33 k v) :=
  agS_tr h (agS_of (fun q _ h3 => u_n _ _ _ h3) (fun j hj => by rw [u_s, upd_n _ _ (dy_nf hj hk)]))
theorem agS_17 {σ σ' : ir_S} (h : ∀ c, c ≠ 16 → c ≠ 17 → σ' c = σ c) : agS σ σ' := agS_of (fun c hc _ => h c (dy_ne hc rfl) (dy_ne hc rfl)) (fun j _ => by rw [h 33 (by decide) (by decide)])
theorem agS_ag3 {σ σ' : ir_S} (h : ag3 σ σ') : agS σ σ' := agS_of (fun c hc h3 => h.1 c h3 (dy_ne hc rfl) (dy_ne hc rfl)) (fun j hj => h.2 j (dy_nf hj rfl))
theorem agS_ag5 {σ σ' : ir_S} (h : ag5 σ σ') : agS σ σ' := agS_of (fun c hc h3 => h.1 c h3 (dy_ne hc rfl)) (fun j hj => h.2 j (dy_nf hj rfl))
theorem agS_BR {σ σ' : ir_S} {fs : List Nat} (h : BR σ fs σ') : agS σ σ' := by
  have h8 := h.2.2.2.2.2.2.2
  refine agS_of (fun c hc _ => h8 c ?_) (fun j _ => by rw [h8 33 (by omega)])
  apply Classical.byContradiction
  intro hn
  have h1 : Nat.ble 11 c = true := Nat.ble_eq.mpr (by omega)
  have h2 : Nat.ble c 17 = true := Nat.ble_eq.mpr (by omega)
  unfold dynC at hc
  rw [h1, h2] at hc
  simp at hc
theorem agS_29 {σ σ' : ir_S} (h : ∀ c, c ≠ 29 → σ' c = σ c) : agS σ σ' := agS_of (fun c hc _ => h c (dy_ne hc rfl)) (fun j _ => by rw [h 33 (by decide)])
theorem agS_57 {σ σ' : ir_S} (h : ∀ c, c ≠ 57 → σ' c = σ c) : agS σ σ' := agS_of (fun c hc _ => h c (dy_ne hc rfl)) (fun j _ => by rw [h 33 (by decide)])
section ST
variable {σ σ' : ir_S} {N m F C K : Nat} {LA LB : Nat → Nat} {fs : List Nat}
theorem R1_ag (h : agS σ σ') (r : R1 σ N m LA LB) : R1 σ' N m LA LB := by
  have e : R1 (stat σ) N m LA LB := r
  rw [← h] at e; exact e
theorem R2_ag (h : agS σ σ') (r : R2 σ N) : R2 σ' N := by
  have e : R2 (stat σ) N := r
  rw [← h] at e; exact e
theorem R3_ag (h : agS σ σ') (r : R3 σ N m F) : R3 σ' N m F := by
  have e : R3 (stat σ) N m F := r
  rw [← h] at e; exact e
theorem R4_ag (h : agS σ σ') (r : R4 σ F C) : R4 σ' F C := by
  have e : R4 (stat σ) F C := r
  rw [← h] at e; exact e
theorem R5_ag (h : agS σ σ') (r : R5 σ N m K) : R5 σ' N m K := by
  have e : R5 (stat σ) N m K := r
  rw [← h] at e; exact e
theorem mLk_st {l : Nat} : mLk σ N m fs l = mLk (stat σ) N m fs l := rfl
theorem mLk_ag {l : Nat} (h : agS σ σ') : mLk σ' N m fs l = mLk σ N m fs l := by rw [mLk_st, mLk_st (σ := σ), h]
theorem acts_st {c mm : Int32} : acts σ c mm = acts (stat σ) c mm := rfl
theorem acts_ag {c mm : Int32} (h : agS σ σ') : acts σ' c mm = acts σ c mm := by rw [acts_st, acts_st (σ := σ), h]
/-- the five together -/
def R0 (σ : ir_S) (N m F C K : Nat) (LA LB : Nat → Nat) : Prop := R1 σ N m LA LB ∧ R2 σ N ∧ R3 σ N m F ∧ R4 σ F C ∧ R5 σ N m K
theorem R0_ag (h : agS σ σ') (r : R0 σ N m F C K LA LB) : R0 σ' N m F C K LA LB := ⟨R1_ag h r.1, R2_ag h r.2.1, R3_ag h r.2.2.1, R4_ag h r.2.2.2.1, R5_ag h r.2.2.2.2⟩
/-! looks asked on either side -/
theorem lookN_V {kd a b c : Int32} (hN : N ≤ 12) (h : lookN N kd a b c) : lookV kd a b c := by
  rcases h with ⟨hk, ⟨x, hx, ha⟩, y, hy, hb⟩ | ⟨hk, ⟨x, hx, ha⟩, ⟨y, hy, hb⟩, z, hz, hc⟩ | ⟨hk, ⟨x, hx, ha⟩, y, hy, hb⟩ | ⟨hk, x, hx, ha⟩
  · exact Or.inl ⟨hk, ⟨x, by omega, ha⟩, y, by omega, hb⟩
  · exact Or.inr (Or.inl ⟨hk, ⟨x, by omega, ha⟩, ⟨y, hy, hb⟩, z, hz, hc⟩)
  · exact Or.inr (Or.inr (Or.inl ⟨hk, ⟨x, by omega, ha⟩, y, by omega, hb⟩))
  · exact Or.inr (Or.inr (Or.inr ⟨hk, x, hx, ha⟩))
theorem nod_mono {a b : Nat} {v : Int32} (hab : a ≤ b) (h : nod a v) : nod b v := by
  rcases h with h | ⟨k, hk, h⟩
  · exact Or.inl h
  · exact Or.inr ⟨k, by omega, h⟩
theorem ix_dm {i : Nat} (hi : i < 144) : i = i / 12 * 12 + i % 12 ∧ i / 12 < 12 ∧ i % 12 < 12 := by omega
theorem setB_of {B : Nat} (r : R0 σ N m F C K LA LB) (hfs : ∀ f ∈ fs, f < F) (hv : VB σ fs B σ') : setB σ' B := by
  obtain ⟨h1, h2, h3, h4, h5⟩ := r
  have hN := h1.1
  have hm := h1.2.1
  obtain ⟨v1, v2, v3, v4, v5, v6, v7, v8, v9, v10, v11⟩ := hv
  refine ⟨⟨?_, ?_, ?_, ?_⟩, ?_, ?_⟩
  · rw [v8, h1.2.2.1, nI_toInt (by omega)]; omega
  · intro i hi
    rw [v11]
    exact h1.2.2.2.2.2.2.2.2.2.2.2.1 i hi
  · intro i hi
    obtain ⟨e, ha, hb⟩ := ix_dm hi
    rw [v10, e, h1.2.2.2.2.2.2.2.2.2.1 _ _ ha hb]
    rcases lnF_val (A := σ 35) (B := σ 36) (a := nI (i / 12)) (b := nI (i % 12)) (n := m) (i := 0) with q | ⟨l, _, hl, q⟩
    · exact Or.inl q
    · exact Or.inr ⟨l, by omega, q⟩
  · intro i hi
    obtain ⟨e, ha, hb⟩ := ix_dm hi
    rw [e, v1 _ _ ha hb]
    rcases v_rt_ok hN h2 h3 hfs ha hb with q | ⟨_, _, _, _, k, hk, q⟩
    · exact Or.inl q
    · exact Or.inr ⟨k, by omega, q⟩
  · rw [v7]
    exact nod_mono hN h2.2.2.2.2.2.2.2.2.2.2
  · intro i hi
    rw [v4 i hi]
    exact nod_mono hN (v_nm_ok h2 h3 hfs hi)
theorem cLk_eq {B l : Nat} (r : R0 σ N m F C K LA LB) (hfs : ∀ f ∈ fs, f < F) (hl : l < K) (hv : VB σ fs B σ') (h23 : σ' 23 = σ 23) : cLk σ' B l = mLk σ N m fs l := by
  obtain ⟨h1, h2, h3, h4, h5⟩ := r
  obtain ⟨e1, e2, e3, e4, _, _, e7, e8⟩ := h5.2.2.2 l hl
  unfold cLk mLk
  rw [h23, e1, e2, e3, e4]
  exact cAns_eq h1 h2 h3 hfs hv e7 e8
theorem ask_6 {d l : Nat} (r : R0 σ N m F C K LA LB) (hfs : ∀ f ∈ fs, f < F) (hl : l < K) (hv : VB σ fs 6 σ') (h23 : σ' 23 = σ 23) : ∃ σ2, ir_ev (d + 5) 71 [.ref 24, .int (nI l), .ref 6] σ' = some (some (.int (mLk σ N m fs l)), σ2) ∧ (∀ c, c ≠ 16 → c ≠ 17 → σ2 c = σ' c) := by
  have hK := r.2.2.2.2.1
  rw [← cLk_eq r hfs hl hv h23]
  refine c71_6 (by omega) ?_ (setB_of r hfs hv)
  rw [h23]
  exact lookN_V r.1.1 (r.2.2.2.2.2.2.2 l hl).2.2.2.2.2.2.1
theorem ask_11 {d l : Nat} (r : R0 σ N m F C K LA LB) (hfs : ∀ f ∈ fs, f < F) (hl : l < K) (hv : VB σ fs 11 σ') (h23 : σ' 23 = σ 23) : ∃ σ2, ir_ev (d + 5) 71 [.ref 24, .int (nI l), .ref 11] σ' = some (some (.int (mLk σ N m fs l)), σ2) ∧ (∀ c, c ≠ 16 → c ≠ 17 → σ2 c = σ' c) := by
  have hK := r.2.2.2.2.1
  rw [← cLk_eq r hfs hl hv h23]
  refine c71_11 (by omega) ?_ (setB_of r hfs hv)
  rw [h23]
  exact lookN_V r.1.1 (r.2.2.2.2.2.2.2 l hl).2.2.2.2.2.2.1
theorem VB_ag {B : Nat} {σ0 : ir_S} (hB : B = 6 ∨ B = 11) (h : ∀ c, c < 16 → σ' c = σ c) (hv : VB σ0 fs B σ) : VB σ0 fs B σ' := by
  unfold VB at *
  rcases hB with rfl | rfl <;> rw [h 1 (by decide), h 2 (by decide), h 4 (by decide), h 5 (by decide), h _ (by decide), h _ (by decide), h _ (by decide), h _ (by decide), h _ (by decide)] <;> exact hv
theorem askM {d l : Nat} (r : R0 σ N m F C K LA LB) (hfs : ∀ f ∈ fs, f < F) (hH : HL σ fs) (hl : l < K) : ∃ σ', ir_ev (d + 8) 158 [.ref 33, .int (nI l)] σ = some (some (.int (mLk σ N m fs l)), σ') ∧ ag3 σ σ' := by
  obtain ⟨h1, h2, h3, h4, h5⟩ := r
  have hN := h1.1
  have hm := h1.2.1
  have hK := h5.1
  obtain ⟨e1, e2, e3, e4, _, _, e7, e8⟩ := h5.2.2.2 l hl
  refine m158 (LA := LA) (LB := LB) ⟨hN, hm, h1.2.2.2.1, h1.2.2.2.2.2.1, h1.2.2.2.2.2.2.1, hH⟩ ?_ ?_ ?_ (by omega) ?_
  · intro a h ha hh
    rw [v_rt h2 h3 hfs ha hh]
    rcases v_rt_ok hN h2 h3 hfs ha hh with q | ⟨_, _, _, _, k, hk, q⟩
    · exact Or.inl q
    · exact Or.inr ⟨k, by omega, q⟩
  · rw [h2.2.2.2.2.1]
    exact h2.2.2.2.2.2.2.2.2.2.2
  · intro n hn
    rw [v_nm h2 h3 hfs hn]
    exact v_nm_ok h2 h3 hfs hn
  · rw [e1, e2, e3, e4]
    exact e7
/-! the faults at work, alike on both sides -/
theorem isE_in {e k n : Nat} (h : σ e 1 = nI n) (hn : n ≤ 12) (hk : k < n) : isE σ e (nI k) = true := by
  unfold isE
  rw [h]
  have q1 : ¬ nI k < 0 := by rw [n_lt_0 (by omega)]; omega
  have q2 : ¬ nI n ≤ nI k := by rw [n_le (by omega) (by omega)]; omega
  simp [q1, q2]
theorem isE_m1 {e : Nat} : isE σ e (-1) = false := by
  unfold isE
  have : ((-1 : Int32) < 0) := by decide
  simp [this]
theorem act1_eq {v mm : Int32} (h3 : R3 σ N m F) (hv : nod F v) : act1 σ v mm = mact1 v mm := by
  have hF := h3.1
  unfold act1 mact1
  rcases hv with rfl | ⟨f, hf, rfl⟩
  · rw [isE_m1]; simp
  · have hne : ¬ nI f = (-1 : Int32) := by rw [n_eqM (by omega)]; exact fun h => h
    rw [isE_in h3.2.1 hF hf, if_neg hne]
    cases ir_bit mm (nI f).toNatClampNeg <;> simp
theorem mact1_lt {v mm : Int32} {f : Nat} (hF : F ≤ 12) (hv : nod F v) (hf : f ∈ mact1 v mm) : f < F := by
  unfold mact1 at hf
  rcases hv with rfl | ⟨k, hk, rfl⟩
  · simp at hf
  · have hne : ¬ nI k = (-1 : Int32) := by rw [n_eqM (by omega)]; exact fun h => h
    rw [if_neg hne, n_cl (by omega)] at hf
    by_cases q : ir_bit mm k = true
    · rw [if_pos q] at hf; simp at hf
    · rw [if_neg q] at hf
      simp at hf
      omega
theorem acts_c {c : Nat} {mm : Int32} (h3 : R3 σ N m F) (h4 : R4 σ F C) (hc : c < C) : acts σ (nI c) mm = mact1 (σ 46 c) mm ++ mact1 (σ 47 c) mm ∧ ∀ f ∈ acts σ (nI c) mm, f < F := by
  have hC := h4.1
  obtain ⟨e1, e2, ⟨f, hf, e3⟩, e4, _⟩ := h4.2.2.2 c hc
  have hn1 : nod F (σ 21 (c * 5 + 1)) := Or.inr ⟨f, hf, e3⟩
  unfold acts
  rw [isE_in h4.2.1 hC hc, if_pos rfl, n_cl (by omega), act1_eq h3 hn1, act1_eq h3 e4, e1, e2]
  refine ⟨rfl, fun g hg => ?_⟩
  rcases List.mem_append.mp hg with hg | hg
  · exact mact1_lt h3.1 hn1 hg
  · exact mact1_lt h3.1 e4 hg
theorem acts_n {mm : Int32} : acts σ (-1) mm = [] := by
  unfold acts
  rw [isE_m1]
  rfl
theorem FV_of (r : R0 σ N m F C K LA LB) : FV σ := by
  obtain ⟨h1, h2, h3, h4, h5⟩ := r
  have hF := h3.1
  unfold FV
  rw [h3.2.1, nI_toInt (by omega)]
  refine ⟨by omega, fun k hk => ?_⟩
  exact faultN_V h1.1 h1.2.1 (h3.2.2.2 k (by omega)).2.2.2.2
/-- breakBy -/
theorem brk {d : Nat} {c mm : Int32} (r : R0 σ N m F C K LA LB) : ∃ σ', ir_ev (d + 4) 112 [.ref 0, .int c, .int mm] σ = some (none, σ') ∧ BR σ (acts σ c mm) σ' := by
  have hC := r.2.2.2.1.1
  refine c112 (FV_of r) ?_ r.2.1.2.2.2.2.2.1 r.2.1.2.2.2.2.2.2.1
  rw [r.2.2.2.1.2.1, nI_toInt (by omega)]
  omega
/-- breaks -/
theorem brkM {d c : Nat} {mm : Int32} (r : R0 σ N m F C K LA LB) (hc : c < C) : ∃ σ', ir_ev (d + 1) 147 [.ref 33, .int (nI c), .int mm] σ = some (none, σ') ∧ ag5 σ σ' ∧ HL σ' (acts σ (nI c) mm) := by
  have hC := r.2.2.2.1.1
  have hF := r.2.2.1.1
  obtain ⟨e1, e2, ⟨f, hf, e3⟩, e4, _⟩ := r.2.2.2.1.2.2.2 c hc
  rw [(acts_c r.2.2.1 r.2.2.2.1 hc).1]
  refine m147 (by omega) ?_ ?_
  · rw [e1, e3]; exact Or.inr ⟨f, by omega, rfl⟩
  · rw [e2]; exact nod_mono hF e4
end ST
