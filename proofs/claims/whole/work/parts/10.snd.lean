/-! inversions of the interpreter's parts -/
theorem ir_ln_some {n k : Nat} {o : ir_O} {x : ir_R ⊕ ir_C} (h : ir_ln n k o = some x) : n = k ∧ o = some x := by
  unfold ir_ln at h
  by_cases e : n = k
  · rw [if_pos e] at h; exact ⟨e, h⟩
  · rw [if_neg e] at h; cases h
theorem ir_ldi_some {L : List Value} {k : Nat} {f : Int32 → ir_O} {x : ir_R ⊕ ir_C} (h : ir_ldi L k f = some x) : ∃ v, L[k]? = some (.int v) ∧ f v = some x := by
  unfold ir_ldi at h
  split at h
  · rename_i v hv
    exact ⟨v, hv, h⟩
  · cases h
theorem ir_ldl_some {L : List Value} {k : Nat} {f : Int64 → ir_O} {x : ir_R ⊕ ir_C} (h : ir_ldl L k f = some x) : ∃ v, L[k]? = some (.long v) ∧ f v = some x := by
  unfold ir_ldl at h
  split at h
  · rename_i v hv
    exact ⟨v, hv, h⟩
  · cases h
theorem ir_ldr_some {L : List Value} {k : Nat} {f : Nat → ir_O} {x : ir_R ⊕ ir_C} (h : ir_ldr L k f = some x) : ∃ v, L[k]? = some (.ref v) ∧ f v = some x := by
  unfold ir_ldr at h
  split at h
  · rename_i v hv
    exact ⟨v, hv, h⟩
  · cases h
theorem ir_i1_some {st : List Value} {f : Int32 → List Value → ir_O} {x : ir_R ⊕ ir_C} (h : ir_i1 st f = some x) : ∃ v r, st = .int v :: r ∧ f v r = some x := by
  unfold ir_i1 at h
  split at h
  · exact ⟨_, _, rfl, h⟩
  · cases h
theorem ir_i2_some {st : List Value} {f : Int32 → Int32 → List Value → ir_O} {x : ir_R ⊕ ir_C} (h : ir_i2 st f = some x) : ∃ v w r, st = .int w :: .int v :: r ∧ f v w r = some x := by
  unfold ir_i2 at h
  split at h
  · exact ⟨_, _, _, rfl, h⟩
  · cases h
theorem ir_l2_some {st : List Value} {f : Int64 → Int64 → List Value → ir_O} {x : ir_R ⊕ ir_C} (h : ir_l2 st f = some x) : ∃ v w r, st = .long w :: .long v :: r ∧ f v w r = some x := by
  unfold ir_l2 at h
  split at h
  · exact ⟨_, _, _, rfl, h⟩
  · cases h
theorem ir_r1_some {st : List Value} {f : Nat → List Value → ir_O} {x : ir_R ⊕ ir_C} (h : ir_r1 st f = some x) : ∃ v r, st = .ref v :: r ∧ f v r = some x := by
  unfold ir_r1 at h
  split at h
  · exact ⟨_, _, rfl, h⟩
  · cases h
theorem ir_v1_some {st : List Value} {f : Value → List Value → ir_O} {x : ir_R ⊕ ir_C} (h : ir_v1 st f = some x) : ∃ v r, st = v :: r ∧ v.category = 1 ∧ f v r = some x := by
  unfold ir_v1 at h
  split at h
  · exact ⟨_, _, rfl, rfl, h⟩
  · exact ⟨_, _, rfl, rfl, h⟩
  · cases h
theorem ir_sto_some {mi k : Nat} {L : List Value} {v : Value} {f : List Value → ir_O} {x : ir_R ⊕ ir_C} (h : ir_sto mi L k v f = some x) : ¬ (mi == ir_long) = true ∧ k < L.length ∧ f (L.set k v) = some x := by
  unfold ir_sto at h
  by_cases e : (mi == ir_long) = true
  · rw [if_pos e] at h; cases h
  · rw [if_neg e] at h
    by_cases e2 : k < L.length
    · rw [if_pos e2] at h; exact ⟨e, e2, h⟩
    · rw [if_neg e2] at h; cases h
theorem ir_br_some {pc : Nat} {off : Int} {f : Nat → ir_O} {x : ir_R ⊕ ir_C} (h : ir_br pc off f = some x) : ∃ t : Nat, (pc : Int) + off = (t : Int) ∧ f t = some x := by
  cases off with
  | ofNat k => exact ⟨pc + k, by simp, h⟩
  | negSucc k =>
    have h : (if k + 1 ≤ pc then f (pc - (k + 1)) else none) = some x := h
    by_cases e : k + 1 ≤ pc
    · rw [if_pos e] at h
      exact ⟨pc - (k + 1), by omega, h⟩
    · rw [if_neg e] at h; cases h
theorem ir_opt_some {α : Type} {o : Option α} {f : α → ir_O} {x : ir_R ⊕ ir_C} (h : ir_opt o f = some x) : ∃ v, o = some v ∧ f v = some x := by
  cases o with
  | none => cases h
  | some v => exact ⟨v, rfl, h⟩
theorem ir_arr_some {a : Nat} {f : Nat → ir_O} {x : ir_R ⊕ ir_C} (h : ir_arr a f = some x) : ∃ n, ir_sh a = some (.inl n) ∧ f n = some x := by
  unfold ir_arr at h
  split at h
  · rename_i n hn
    exact ⟨n, hn, h⟩
  · cases h
theorem ir_obj_some {a c : Nat} {f : List (Option Nat) → ir_O} {x : ir_R ⊕ ir_C} (h : ir_obj a c f = some x) : ∃ fs, ir_sh a = some (.inr (c, fs)) ∧ f fs = some x := by
  unfold ir_obj at h
  split at h
  · rename_i c' fs hn
    by_cases e : c' = c
    · rw [if_pos e] at h; subst e; exact ⟨fs, hn, h⟩
    · rw [if_neg e] at h; cases h
  · cases h
theorem ir_after_some {o : Option ir_R} {pc : Nat} {L rest : List Value} {x : ir_R ⊕ ir_C} (h : ir_after o pc L rest = some x) : ∃ (v : Option Int32) (σ : ir_S), o = some (v.map Value.int, σ) ∧ x = .inr (pc, L, ir_tl v ++ rest, σ) := by
  unfold ir_after at h
  split at h
  · exact ⟨some _, _, rfl, (Option.some.inj h).symm⟩
  · exact ⟨none, _, rfl, (Option.some.inj h).symm⟩
  · cases h
theorem ir_go_some {pc : Nat} {L st : List Value} {σ : ir_S} {x : ir_R ⊕ ir_C} (h : ir_go pc L st σ = some x) : x = .inr (pc, L, st, σ) := (Option.some.inj h).symm
theorem ir_ite_some {P : Prop} {dP : Decidable P} {o : ir_O} {x : ir_R ⊕ ir_C} (h : (if P then o else none) = some x) : P ∧ o = some x := by
  by_cases e : P
  · rw [if_pos e] at h; exact ⟨e, h⟩
  · rw [if_neg e] at h; cases h
def ir_shok_b (x : ir_Sh) : Bool := match x with
  | .inl _ => true
  | .inr q => decide (q.1 < 10) && decide (q.2.length = (ir_C1 q.1).2.2)
theorem ir_shok_l : ir_shl.all ir_shok_b = true := by decide +kernel
theorem ir_shok {i c : Nat} {fs : List (Option Nat)} (h : ir_sh i = some (.inr (c, fs))) : c < 10 ∧ fs.length = (ir_C1 c).2.2 := by
  have h1 := List.all_eq_true.mp ir_shok_l _ (List.mem_of_getElem? h)
  have h2 : (decide (c < 10) && decide (fs.length = (ir_C1 c).2.2)) = true := h1
  rw [Bool.and_eq_true, decide_eq_true_iff, decide_eq_true_iff] at h2
  exact h2
theorem ir_clok2_l : ∀ c, c < 13 → ∀ q ∈ ir_cl.getD c [], q.2.1 ≤ 4 := by decide +kernel
/-! the world, contracts -/
def ir_N (U : State) : Prop := ∀ c, c < 13 → ∀ q ∈ ir_cl.getD c [], q.2.1 = 2 → va_Nw (.methodLinkNest (ir_Rn c) q.1 (ir_m q.2.2).1 RX8) U
theorem ir_N_warm {s U : State} (hW : s.WarmedH U.vm) (h : ir_N s) : ir_N U := fun c hc q hq hk => va_Nw.warmM hW (h c hc q hq hk)
def ir_At (dC : Nat → ClassId) (dI : Nat → Nat → Nat) (ad : Nat → Nat) (cI : ClassId) (σ : ir_S) (U : State) : Prop := va_P (dC, dI) vwCl (ir_ws ad cI σ) U.heap ∧ va_K (dC, dI) vwCl [(cI, .int)] U ∧ ir_N U
def ir_Q (dC : Nat → ClassId) (dI : Nat → Nat → Nat) (ad : Nat → Nat) (cI : ClassId) (r : Option Value) (σ' : ir_S) : Array Value → State → Outcome → State → Prop := fun _ st oc t => oc = .returned r ∧ ir_At dC dI ad cI σ' t ∧ va_F (ir_A ad) st t
def ir_rm (d : Nat) : Room := { frames := d, cells := 0, slots := 0, locals := 40 * d }
def ir_Met (l : Launch) (dC : Nat → ClassId) (dI : Nat → Nat → Nat) (ad : Nat → Nat) (cI : ClassId) (d mi : Nat) (vs : List Value) (σ : ir_S) (r : Option Value) (σ' : ir_S) : Prop := Met l (ir_m mi).1 (ir_W mi) (ir_rm d) (va_Pc (vs.map (ir_cv ad)) (ir_At dC dI ad cI σ)) (ir_Q dC dI ad cI r σ') 0 0 (ir_A ad)
theorem ir_blind {dC : Nat → ClassId} {dI : Nat → Nat → Nat} {ad : Nat → Nat} {cI : ClassId} {vs : List Value} {σ : ir_S} : FrameBlind (va_Pc vs (ir_At dC dI ad cI σ)) := fun a U g mk h => ⟨h.1, h.2.1, va_K.moved (u := U) (U := U.calling g mk a) (Vm.Alike.refl U.vm) h.2.2.1, fun c hc q hq hk => va_Nw.same rfl rfl (h.2.2.2 c hc q hq hk)⟩
theorem ir_catsum (ad : Nat → Nat) (vs : List Value) (h : vs.length ≤ 4) : ((vs.map (ir_cv ad)).map fun v => v.category).sum ≤ 8 := by
  have key : ∀ ws : List Value, ((ws.map (ir_cv ad)).map fun v => v.category).sum ≤ 2 * ws.length := by
    intro ws
    induction ws with
    | nil => exact Nat.le_refl _
    | cons w ws ih =>
      simp only [List.map_cons, List.sum_cons, List.length_cons]
      have : (ir_cv ad w).category ≤ 2 := by rcases lv_cat (ir_cv ad w) with e | e <;> omega
      omega
  have := key vs
  omega
section IRW
variable {p : Program} {l : Launch} {e : Env} {s : State} {m : MethodId} {args : Array Value} {below : List Frame} {meth : Method} {c : Code} {Q : State → Prop} {dC : Nat → ClassId} {dI : Nat → Nat → Nat} {ad : Nat → Nat} {cI : ClassId} {d mi : Nat} {E : Nat → List Value → ir_S → Option ir_R}
def ir_Fx (p : Program) (s : State) (m : MethodId) (args : Array Value) (c : Code) (dC : Nat → ClassId) (dI : Nat → Nat → Nat) (ad : Nat → Nat) (cI : ClassId) (mi : Nat) : Prop :=
  p.tables.exec = Jvm.exec ∧ c.code = ir_code mi ∧ c.maxLocals = ir_nL mi ∧ s.vm.findClass (ir_Rn (ir_own mi)) = some m.cls ∧ (∀ w ∈ ir_T, w.before args s = true) ∧ va_K (dC, dI) vwCl [(cI, .int)] s ∧ ir_N s ∧ (∀ i j, i < 58 → j < 58 → ad i = ad j → i = j)
def ir_Rel (dC : Nat → ClassId) (dI : Nat → Nat → Nat) (ad : Nat → Nat) (cI : ClassId) (mi : Nat) (s : State) (L : List Value) (σ : ir_S) (ls : Array Slot) (H : Heap) (locs : List Loc) : Prop :=
  L.length = ir_nL mi ∧ ((mi == ir_long) = true ∨ ∀ v ∈ L, v.category = 1) ∧ ir_LR ad ls L ∧ va_P (dC, dI) vwCl (ir_ws ad cI σ) H ∧ va_S (ir_A ad) s.heap H locs
theorem ir_callW {H H0 : Heap} {locs : List Loc} {pc : Nat} {ls : Array Slot} {st0 rest : List Value} {r : Option Value} {σ' : ir_S} {a : Array Value} {R : Room} {cells slots : Nat}
    (hr : va_Run p l e R s m args below meth c H locs cells slots 0 0 (F0 m pc ls st0) rest (ir_Q dC dI ad cI r σ' a) (ir_A ad)) (hS : va_S (ir_A ad) H0 H locs)
    (kk : ∀ (H1 : Heap) (locs1 : List Loc), va_P (dC, dI) vwCl (ir_ws ad cI σ') H1 → va_S (ir_A ad) H0 H1 locs1 → W p l e R s m args below meth c H1 locs1 cells slots Q (F0 m (pc + 3) ls (r.toList ++ rest))) : W p l e R s m args below meth c H locs cells slots Q (F0 m pc ls st0) := by
  intro T hT X
  obtain ⟨v, st₀, t, T', L, h0, X', hL, e1, e2, ⟨hv, hb, hz, hk⟩, st⟩ := hr T hT X
  cases hv
  rw [h0] at hz hk
  obtain ⟨t2, a1, b1⟩ := kk T'.heap (locs ++ L) (by rw [e1]; exact hb.1)
    ⟨Nat.le_trans hS.1 (by rw [e1]; exact hz), fun q h1 h2 => by rw [e1, hk q (Nat.lt_of_lt_of_le h1 hS.1) h2]; exact hS.2.1 q h1 h2, fun q hq => by
      rcases List.mem_append.mp hq with h | h
      · exact hS.2.2 q h
      · exact hL q h⟩ T' rfl X'
  exact ⟨t2, st t2 a1, b1⟩
theorem ir_hR (k : Nat) : (ir_rm d).frames + 1 ≤ (ir_rm (d + 1)).frames ∧ 8 + (ir_nL k + 11) + (ir_rm d).locals ≤ (ir_rm (d + 1)).locals := by
  have h := (ir_mok k).2.2.2.2.1
  refine ⟨Nat.le_refl _, ?_⟩
  show 8 + (ir_nL k + 11) + 40 * d ≤ 40 * (d + 1)
  have h2 : ir_nL k ≤ 20 := h
  omega
theorem ir_virtW {pc ix : Nat} {L st : List Value} {σ : ir_S} {ls : Array Slot} {H : Heap} {locs : List Loc} {o : ir_R ⊕ ir_C} (fx : ir_Fx p s m args c dC dI ad cI mi) (hE : ∀ k vs σ r σ', E k vs σ = some (r, σ') → ir_Met l dC dI ad cI d k vs σ r σ') (hd : decode (ir_code mi) pc = .ok (.invokevirtual ix, 3))
    (h : ir_virt E mi ix pc L st σ = some o) (rl : ir_Rel dC dI ad cI mi s L σ ls H locs)
    (K : ∀ pc' L' st' σ', o = .inr (pc', L', st', σ') → ∀ ls H locs, ir_Rel dC dI ad cI mi s L' σ' ls H locs → W p l e (ir_rm (d + 1)) s m args below meth c H locs 0 0 Q (F0 m pc' ls (st'.map (ir_cv ad)))) :
    W p l e (ir_rm (d + 1)) s m args below meth c H locs 0 0 Q (F0 m pc ls (st.map (ir_cv ad))) := by
  obtain ⟨hx, hb, hml, hown, hts, hK, hN, hinj⟩ := fx
  obtain ⟨r1, r2, r3, hP, hS⟩ := id rl
  unfold ir_virt at h
  replace h := ir_opt_some h
  obtain ⟨⟨kind, k⟩, hlk, h⟩ := h
  replace h := ir_ite_some h
  obtain ⟨hk0, h⟩ := h
  replace h := ir_r1_some h
  obtain ⟨b, rest, hdrop, h⟩ := h
  replace h := ir_obj_some h
  obtain ⟨fs, hsh, h⟩ := h
  replace h := ir_ite_some h
  obtain ⟨hrest, h⟩ := h
  replace h := ir_after_some h
  obtain ⟨v, σ1, hEv, rfl⟩ := h
  have hk0 : kind = 0 := hk0
  subst hk0
  have hM := hE k _ _ _ _ hEv
  have hw := ir_in2 hlk
  obtain ⟨hmc, hmf⟩ := ir_shok hsh
  obtain ⟨q1, q2, q3, q4, q5, q6, q7⟩ := ir_mok k
  have hcls : (ir_m k).1.cls = (ir_C1 (ir_own k)).1 := by rw [ir_C1_R hmc]; exact q6
  have hst : st = st.take (ir_na k) ++ .ref b :: rest := by
    have := (List.take_append_drop (ir_na k) st).symm
    rw [hdrop] at this
    exact this
  have hlen : (st.take (ir_na k)).length = ir_na k := by
    rw [List.length_take]
    have : (st.drop (ir_na k)).length = rest.length + 1 := by rw [hdrop]; rfl
    rw [List.length_drop] at this
    omega
  refine ir_callW (a := ((Value.ref b :: (st.take (ir_na k)).reverse).map (ir_cv ad)).toArray) (va_runV (C := (ir_m k).1.cls) (own := ir_Rn (ir_own mi)) (bytes := ir_code k) (maxL := ir_nL k) (ret := ir_ret k) (n := ir_na k) (b := ad b) (As := ((st.take (ir_na k)).reverse).map (ir_cv ad)) (rest := rest.map (ir_cv ad)) ⟨hx, hb, hml, hown, hts⟩ hM
    ⟨callB_of (ws' := ir_T) (ir_na k) hts (ir_W_good k) rfl rfl rfl (hts _ (ir_in1 k).2) (hts _ (hw _ (by simp [ir_cw]))) ⟨q2, q3, q4⟩ (ir_hR k), hts _ (hw _ (by simp [ir_cw])), hts _ (hw _ (by simp [ir_cw]))⟩
    ⟨ir_blind, by rw [hcls]; exact va_recv hK hP (ir_C1_get hmc) (ir_ws_obj hsh), fun U hU hW => ⟨rfl, by rw [hU]; exact hP, va_K.moved hW.alike hK, ir_N_warm hW hN⟩⟩
    rfl (by rw [List.length_map, List.length_reverse, hlen]) (by show ls.size = _; rw [r3.1, r1]) ?_ (lv_room (ir_catsum ad rest hrest)) hd ⟨Nat.le_refl _, Nat.le_refl _⟩) hS (fun H1 locs1 hP1 hS1 => ?_)
  · show st.map (ir_cv ad) = _
    conv => lhs; rw [hst]
    rw [List.map_append, List.map_reverse, List.reverse_reverse]
    rfl
  · have hK2 := K _ _ _ _ rfl ls H1 locs1 ⟨r1, r2, r3, hP1, hS1⟩
    have hvr : (v.map Value.int).toList ++ rest.map (ir_cv ad) = (ir_tl v ++ rest).map (ir_cv ad) := by cases v <;> rfl
    rw [hvr]
    exact hK2
end IRW
