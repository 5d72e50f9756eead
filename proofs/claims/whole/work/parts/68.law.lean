/-! THE CLAIM OUT OF ONE WALK OF THE LAW'S BODY. Your part is whole_start (and what it stands on); all else here is the same for every law, but numbers. -/
def R_law : String := "NetSchoolLaw"
def lw_P (b : Addr) (xs : List Int32) (args : Array Value) (s : State) : Prop := args = #[.ref b] ∧ s.IntsAt b xs ∧ xs.length ≤ 3072 ∧ (Jvm.Cond.and given_1 narrow_1).before args s = true
def lw_Q (_ : Array Value) (s : State) (o : Outcome) (t : State) : Prop := o = .returned (some (.int 1)) ∧ Framed s o t [] 601024 7293034
def lw_Z (below : List Frame) (a : Array Value) (s : State) : State → Prop := fun t => ∃ o, t.status = .running ∧ Ended t below o ∧ lw_Q a s o t
/-- the law's own end, with 1 on the stack, nothing written that was there before, its room as the claim has it -/
theorem lw_ret {p : Program} {l : Launch} {e : Env} {s : State} {m : MethodId} {below : List Frame} {meth : Method} {c : Code} {b : Nat} (hx : p.tables.exec = Jvm.exec) (hb : c.code = code) (hr : meth.sig.returnType = ret) (hlocks : meth.locks = false) {pc : Nat} {H : Heap} {ls : Array Slot} (hdg : decode code pc = .ok (.ireturn, 1)) : W p l e room_1 s m #[Value.ref b] below meth c H [] 601024 7293034 (lw_Z below #[Value.ref b] s) (F0 m pc ls [.int 1]) := by
  intro T hT X
  obtain ⟨fs, hret, hrun, hended, hW, hframe⟩ := X.leave (v := some (.int 1)) (hlocks := hlocks) (fun h => by rw [hr] at h; cases h)
  have hmeth' : T.vm.method? m = some meth := X.method'
  refine ⟨T.setFrames fs, ?_, .returned (some (.int 1)), hrun, hended, rfl, ⟨_, rfl⟩, hW, hframe⟩
  jvm_step X.here [X.here.top, hx, hb, hdg, hmeth', hr, ret, narrow_b1]
  (try refine ⟨rfl, ?_⟩); (try refine ⟨rfl, ?_⟩)
  first | (intro acts; rw [hret _ acts rfl rfl rfl]) | rw [hret _ _ rfl rfl rfl]
  exact Steps.refl _
/-- what holds at the law's entry: the machine, the code, the tables' words (any of lw_tbl by 'hts w (by decide +kernel)'), the script of L ints xs at the cell b, what the Statement gives of the start (any of its parts by flat_of_before) -/
def lw_At (p : Program) (s : State) (m : MethodId) (meth : Method) (c : Code) (b L : Nat) (xs : Nat → Int32) : Prop :=
  p.tables.exec = Jvm.exec ∧ c.code = code ∧ meth.sig.returnType = ret ∧ c.maxLocals = 7 ∧ s.vm.findClass R_law = some m.cls ∧ (∀ w ∈ lw_tbl, w.before #[Value.ref b] s = true) ∧ va_X b L xs s s.heap ∧ b < s.heap.size ∧ meth.locks = false ∧ (Jvm.Cond.and given_1 narrow_1).before #[Value.ref b] s = true

/-! rules of the law's loop -/
def lw_E (p : Program) (s : State) (m : MethodId) (meth : Method) (c : Code) (b L : Nat) (xs : Nat → Int32) (dC : Nat → ClassId) (dI : Nat → Nat → Nat) (ad : Nat → Nat) (cI cL : ClassId) (o : Nat) : Prop :=
  lw_At p s m meth c b L xs ∧ va_K (dC, dI) vwCl [(cI, .int), (cL, .long)] s ∧ ir_N s ∧ (∀ i j, i < 58 → j < 58 → ad i = ad j → i = j) ∧ (∀ i, i < 58 → s.heap.size ≤ ad i) ∧ s.heap.size ≤ o ∧ (∀ i, i < 58 → ad i ≠ o) ∧ L ≤ 3072
def lw_I (s : State) (dC : Nat → ClassId) (dI : Nat → Nat → Nat) (ad : Nat → Nat) (cI cL : ClassId) (o : Nat) (σ : ir_S) (g : Nat → Int64) (H : Heap) (locs : List Loc) : Prop :=
  va_P (dC, dI) vwCl (ir_ws ad cI σ) H ∧ va_P (dC, dI) vwCl [(o, .inl (cL, 1, .inr (.inl g)))] H ∧ va_S (fun q : Nat => s.heap.size ≤ q) s.heap H locs
def lw_L (b o : Nat) (ad : Nat → Nat) (i : Nat) (ls : Array Slot) : Prop := lv_has ls 7 [(0, .ref b), (1, .ref (ad 0)), (2, .ref (ad 33)), (3, .ref o), (4, .int (nI i))]
theorem ir_W_law (mi : Nat) : GoodIn lw_tbl (ir_W mi) := fun w hw => ⟨(ir_T_good _ (ir_W_good mi _ hw).1).1, (ir_W_good mi _ hw).2⟩
section LWV
variable {p : Program} {l : Launch} {e : Env} {s : State} {m : MethodId} {below : List Frame} {meth : Method} {c : Code} {Q : State → Prop} {dC : Nat → ClassId} {dI : Nat → Nat → Nat} {ad : Nat → Nat} {cI cL : ClassId} {b L o : Nat} {xs : Nat → Int32} {H : Heap} {locs : List Loc} {cells slots : Nat} {ls : Array Slot} {pc : Nat} {σ σ' : ir_S} {g : Nat → Int64} {i : Nat} {rest : List Value}
theorem lw_callW {args : Array Value} {R : Room} {H0 : Heap} {st0 : List Value} {r : Option Value} {a : Array Value} {A : Nat → Prop} (hAA : ∀ q, ir_A ad q → A q)
    (hr : va_Run p l e R s m args below meth c H locs cells slots 0 0 (F0 m pc ls st0) rest (ir_Q dC dI ad cI r σ' a) (ir_A ad)) (hS : va_S A H0 H locs)
    (kk : ∀ (H1 : Heap) (locs1 : List Loc), va_P (dC, dI) vwCl (ir_ws ad cI σ') H1 → (∀ q : Nat, q < H.size → ¬ ir_A ad q → H1[q]? = H[q]?) → va_S A H0 H1 locs1 → W p l e R s m args below meth c H1 locs1 cells slots Q (F0 m (pc + 3) ls (r.toList ++ rest))) : W p l e R s m args below meth c H locs cells slots Q (F0 m pc ls st0) := by
  intro T hT X
  obtain ⟨v, st₀, t, T', L, h0, X', hL, e1, e2, ⟨hv, hb, hz, hk⟩, st⟩ := hr T hT X
  cases hv
  rw [h0] at hz hk
  obtain ⟨t2, a1, b1⟩ := kk T'.heap (locs ++ L) (by rw [e1]; exact hb.1) (fun q h1 h2 => by rw [e1]; exact hk q h1 h2)
    ⟨Nat.le_trans hS.1 (by rw [e1]; exact hz), fun q h1 h2 => by rw [e1, hk q (Nat.lt_of_lt_of_le h1 hS.1) (fun z => h2 (hAA q z))]; exact hS.2.1 q h1 h2, fun q hq => by
      rcases List.mem_append.mp hq with h | h
      · exact hS.2.2 q h
      · exact hAA _ (hL q h)⟩ T' rfl X'
  exact ⟨t2, st t2 a1, b1⟩
theorem lw_virt {mi ix bb : Nat} {va : List Value} {v : Int32} {fs : List (Option Nat)} {st : List Value} (E : lw_E p s m meth c b L xs dC dI ad cI cL o) (I : lw_I s dC dI ad cI cL o σ g H locs) (hev : ir_ev 50 mi (.ref bb :: va) σ = some (some (.int v), σ')) (hsh : ir_sh bb = some (.inr (ir_own mi, fs))) (hva : va.map (ir_cv ad) = va) (hlen : va.length = ir_na mi)
    (hw : ∀ w ∈ [Cond.methodLink RL ix (ir_m mi).1, Cond.instanceMethod (ir_m mi).1, Cond.selects (ir_m mi).1.cls (ir_m mi).1 (ir_m mi).1], w ∈ lw_tbl) (hd : decode cL_law pc = .ok (.invokevirtual ix, 3)) (hst : st = va.reverse ++ .ref (ad bb) :: rest) (hrest : (rest.map fun v => v.category).sum ≤ 8) (hL : lw_L b o ad i ls) (hcs : cells ≤ 601024 ∧ slots ≤ 7293034)
    (kk : ∀ (H1 : Heap) (locs1 : List Loc), lw_I s dC dI ad cI cL o σ' g H1 locs1 → W p l e room_1 s m #[Value.ref b] below meth c H1 locs1 cells slots Q (F0 m (pc + 3) ls (.int v :: rest))) : W p l e room_1 s m #[Value.ref b] below meth c H locs cells slots Q (F0 m pc ls st) := by
  obtain ⟨⟨hx, hb, hr, hml, hown, hts, hX, hbl, hlocks, hgv⟩, hK0, hN, hinj, had, ho, hno, hL3⟩ := E
  obtain ⟨hP, hPo, hS⟩ := I
  have hM := ir_sound l dC dI ad cI hinj 50 mi _ _ _ _ hev
  have hK := hK0.sub (tys' := [(cI, .int)]) [0] rfl
  obtain ⟨hmc, hmf⟩ := ir_shok hsh
  obtain ⟨q1, q2, q3, q4, q5, q6, q7⟩ := ir_mok mi
  have hcls : (ir_m mi).1.cls = (ir_C1 (ir_own mi)).1 := by rw [ir_C1_R hmc]; exact q6
  have hAA : ∀ q, ir_A ad q → s.heap.size ≤ q := fun q ⟨i, hi, e9⟩ => by rw [e9]; exact had i hi
  refine lw_callW (A := fun q : Nat => s.heap.size ≤ q) hAA (a := ((Value.ref bb :: va).map (ir_cv ad)).toArray) (va_runV (C := (ir_m mi).1.cls) (own := RL) (bytes := ir_code mi) (maxL := ir_nL mi) (ret := ir_ret mi) (n := ir_na mi) (b := ad bb) (As := va.map (ir_cv ad)) (rest := rest) ⟨hx, hb, hml, hown, hts⟩ hM
    ⟨callB_of (ws' := ir_T) (ir_na mi) hts (ir_W_law mi) rfl rfl rfl (hts _ (ir_T_good _ (ir_in1 mi).2).1) (hts _ (hw _ (by simp))) ⟨q2, q3, q4⟩ ⟨Nat.le_of_ble_eq_true rfl, ?_⟩, hts _ (hw _ (by simp)), hts _ (hw _ (by simp))⟩
    ⟨ir_blind, by rw [hcls]; exact va_recv hK hP (ir_C1_get hmc) (ir_ws_obj hsh), fun U hU hW => ⟨rfl, by rw [hU]; exact hP, va_K.moved hW.alike hK, ir_N_warm hW hN⟩⟩
    rfl (by rw [List.length_map, hlen]) hL.1 ?_ (lv_room hrest) hd ⟨hcs.1, hcs.2⟩) hS (fun H1 locs1 hP1 hk1 hS1 => ?_)
  · show 8 + (ir_nL mi + 11) + 40 * 50 ≤ 84000
    have h2 : ir_nL mi ≤ 20 := q5
    omega
  · rw [hva]; exact hst
  · refine kk H1 locs1 ⟨hP1, hPo.kept (fun k x hx => hk1 x.1 ((hPo k x hx).lt) ?_), hS1⟩
    have hz : k < 1 := (List.getElem?_eq_some_iff.mp hx).1
    rw [show k = 0 by omega] at hx
    cases hx
    exact fun ⟨j, hj, e9⟩ => hno j hj e9.symm
theorem lw_arg {K : Nat} {kz : Int} (E : lw_E p s m meth c b L xs dC dI ad cI cL o) (I : lw_I s dC dI ad cI cL o σ g H locs) (hl : lw_L b o ad i ls) (hi : i + 6 ≤ L) (hk : Int32.ofInt kz = nI K) (hK6 : K < 6) (d0 : decode cL_law pc = .ok (.aload_n 0, 1)) (d1 : decode cL_law (pc + 1) = .ok (.iload 4, 2)) (d3 : decode cL_law (pc + 3) = .ok (.iconst kz, 1)) (d4 : decode cL_law (pc + 4) = .ok (.iadd, 1)) (d5 : decode cL_law (pc + 5) = .ok (.iaload, 1))
    (kk : W p l e room_1 s m #[Value.ref b] below meth c H locs cells slots Q (F0 m (pc + 6) ls (.int (xs (i + K)) :: rest))) : W p l e room_1 s m #[Value.ref b] below meth c H locs cells slots Q (F0 m pc ls rest) := by
  obtain ⟨⟨hx, hb, hr, hml, hown, hts, hX, hbl, hlocks, hgv⟩, hK0, hN, hinj, had, ho, hno, hL3⟩ := E
  obtain ⟨hP, hPo, hS⟩ := I
  refine lv_aload_n hx hb d0 rfl (lv_at hl 0 rfl) ?_
  refine lv_iload hx hb d1 (lv_at hl 4 rfl) ?_
  refine lv_iconst (v := nI K) hx hb d3 hk ?_
  refine lv_iadd hx hb d4 ?_
  rw [nI_add]
  refine va_sld hx hb hX hbl (Nat.not_le.mpr hbl) hS (vp_in_nI (show i + K < L by omega) (by omega)) d5 ?_
  rw [n_cl (by omega)]
  exact kk
theorem lw_barg {y : Int32} (E : lw_E p s m meth c b L xs dC dI ad cI cL o) (d0 : decode cL_law pc = .ok (.ifCond .eq 7, 3)) (d1 : decode cL_law (pc + 3) = .ok (.iconst 1, 1)) (d2 : decode cL_law (pc + 4) = .ok (.goto 4, 3)) (d3 : decode cL_law (pc + 7) = .ok (.iconst 0, 1))
    (kk : W p l e room_1 s m #[Value.ref b] below meth c H locs cells slots Q (F0 m (pc + 8) ls (.int (if y = 0 then 0 else 1) :: rest))) : W p l e room_1 s m #[Value.ref b] below meth c H locs cells slots Q (F0 m pc ls (.int y :: rest)) := by
  obtain ⟨⟨hx, hb, hr, hml, hown, hts, hX, hbl, hlocks, hgv⟩, hK0, hN, hinj, had, ho, hno, hL3⟩ := E
  refine lv_if_eq (tgt := pc + 7) hx hb d0 (by omega) (fun h => ?_) (fun h => ?_)
  · rw [if_pos h] at kk
    exact lv_iconst (v := 0) hx hb d3 (by decide) kk
  · rw [if_neg h] at kk
    refine lv_iconst (v := 1) hx hb d1 (by decide) ?_
    exact lv_goto (tgt := pc + 8) hx hb d2 (by omega) kk
theorem lw_w179 : ∀ w ∈ [Cond.methodLink RL 23 (ir_m 74).1, Cond.instanceMethod (ir_m 74).1, Cond.selects (ir_m 74).1.cls (ir_m 74).1 (ir_m 74).1], w ∈ lw_tbl := by decide +kernel
theorem lw_w189 : ∀ w ∈ [Cond.methodLink RL 26 (ir_m 130).1, Cond.instanceMethod (ir_m 130).1, Cond.selects (ir_m 130).1.cls (ir_m 130).1 (ir_m 130).1], w ∈ lw_tbl := by decide +kernel
set_option maxHeartbeats 2000000 in
theorem lw_c_node (E : lw_E p s m meth c b L xs dC dI ad cI cL o) (I : lw_I s dC dI ad cI cL o σ g H locs) (hl : lw_L b o ad i ls) (hi : i + 6 ≤ L) (h : RR σ) (hcs : cells ≤ 601024 ∧ slots ≤ 7293034)
    (K : ∀ (σ' : ir_S) (H' : Heap) (locs' : List Loc), RR σ' → lw_I s dC dI ad cI cL o σ' g H' locs' → W p l e room_1 s m #[Value.ref b] below meth c H' locs' cells slots Q (F0 m 1231 ls [])) : W p l e room_1 s m #[Value.ref b] below meth c H locs cells slots Q (F0 m 172 ls []) := by
  obtain ⟨v, σ1, σ2, e1, e2, h2⟩ : PAIR 0 74 130 [.int (xs (i + 1))] σ := p_node h
  refine lv_aload_n E.1.1 E.1.2.1 dL_law_172 rfl (lv_at hl 1 rfl) ?_
  refine lw_arg (K := 1) E I hl hi (by decide) (by decide) dL_law_173 dL_law_174 dL_law_176 dL_law_177 dL_law_178 ?_
  refine lw_virt (mi := 74) (bb := 0) (va := [.int (xs (i + 1))]) (rest := []) E I e1 rfl rfl rfl lw_w179 dL_law_179 rfl (Nat.le_of_ble_eq_true rfl) hl hcs (fun H locs I => ?_)
  refine lv_aload_n E.1.1 E.1.2.1 dL_law_182 rfl (lv_at hl 2 rfl) ?_
  refine lw_arg (K := 1) E I hl hi (by decide) (by decide) dL_law_183 dL_law_184 dL_law_186 dL_law_187 dL_law_188 ?_
  refine lw_virt (mi := 130) (bb := 33) (va := [.int (xs (i + 1))]) (rest := [.int v]) E I e2 rfl rfl rfl lw_w189 dL_law_189 rfl (Nat.le_of_ble_eq_true rfl) hl hcs (fun H locs I => ?_)
  refine lv_icmp_eq (tgt := 1231) E.1.1 E.1.2.1 dL_law_192 (by decide) (fun _ => ?_) (fun c9 => absurd rfl c9)
  exact K σ2 H locs h2 I
theorem lw_w210 : ∀ w ∈ [Cond.methodLink RL 27 (ir_m 75).1, Cond.instanceMethod (ir_m 75).1, Cond.selects (ir_m 75).1.cls (ir_m 75).1 (ir_m 75).1], w ∈ lw_tbl := by decide +kernel
theorem lw_w226 : ∀ w ∈ [Cond.methodLink RL 30 (ir_m 131).1, Cond.instanceMethod (ir_m 131).1, Cond.selects (ir_m 131).1.cls (ir_m 131).1 (ir_m 131).1], w ∈ lw_tbl := by decide +kernel
set_option maxHeartbeats 2000000 in
theorem lw_c_line (E : lw_E p s m meth c b L xs dC dI ad cI cL o) (I : lw_I s dC dI ad cI cL o σ g H locs) (hl : lw_L b o ad i ls) (hi : i + 6 ≤ L) (h : RR σ) (hcs : cells ≤ 601024 ∧ slots ≤ 7293034)
    (K : ∀ (σ' : ir_S) (H' : Heap) (locs' : List Loc), RR σ' → lw_I s dC dI ad cI cL o σ' g H' locs' → W p l e room_1 s m #[Value.ref b] below meth c H' locs' cells slots Q (F0 m 1231 ls [])) : W p l e room_1 s m #[Value.ref b] below meth c H locs cells slots Q (F0 m 197 ls []) := by
  obtain ⟨v, σ1, σ2, e1, e2, h2⟩ : PAIR 0 75 131 [.int (xs (i + 1)), .int (xs (i + 2))] σ := p_line h
  refine lv_aload_n E.1.1 E.1.2.1 dL_law_197 rfl (lv_at hl 1 rfl) ?_
  refine lw_arg (K := 1) E I hl hi (by decide) (by decide) dL_law_198 dL_law_199 dL_law_201 dL_law_202 dL_law_203 ?_
  refine lw_arg (K := 2) E I hl hi (by decide) (by decide) dL_law_204 dL_law_205 dL_law_207 dL_law_208 dL_law_209 ?_
  refine lw_virt (mi := 75) (bb := 0) (va := [.int (xs (i + 1)), .int (xs (i + 2))]) (rest := []) E I e1 rfl rfl rfl lw_w210 dL_law_210 rfl (Nat.le_of_ble_eq_true rfl) hl hcs (fun H locs I => ?_)
  refine lv_aload_n E.1.1 E.1.2.1 dL_law_213 rfl (lv_at hl 2 rfl) ?_
  refine lw_arg (K := 1) E I hl hi (by decide) (by decide) dL_law_214 dL_law_215 dL_law_217 dL_law_218 dL_law_219 ?_
  refine lw_arg (K := 2) E I hl hi (by decide) (by decide) dL_law_220 dL_law_221 dL_law_223 dL_law_224 dL_law_225 ?_
  refine lw_virt (mi := 131) (bb := 33) (va := [.int (xs (i + 1)), .int (xs (i + 2))]) (rest := [.int v]) E I e2 rfl rfl rfl lw_w226 dL_law_226 rfl (Nat.le_of_ble_eq_true rfl) hl hcs (fun H locs I => ?_)
  refine lv_icmp_eq (tgt := 1231) E.1.1 E.1.2.1 dL_law_229 (by decide) (fun _ => ?_) (fun c9 => absurd rfl c9)
  exact K σ2 H locs h2 I
theorem lw_w253 : ∀ w ∈ [Cond.methodLink RL 31 (ir_m 76).1, Cond.instanceMethod (ir_m 76).1, Cond.selects (ir_m 76).1.cls (ir_m 76).1 (ir_m 76).1], w ∈ lw_tbl := by decide +kernel
theorem lw_w275 : ∀ w ∈ [Cond.methodLink RL 35 (ir_m 132).1, Cond.instanceMethod (ir_m 132).1, Cond.selects (ir_m 132).1.cls (ir_m 132).1 (ir_m 132).1], w ∈ lw_tbl := by decide +kernel
set_option maxHeartbeats 2000000 in
theorem lw_c_route (E : lw_E p s m meth c b L xs dC dI ad cI cL o) (I : lw_I s dC dI ad cI cL o σ g H locs) (hl : lw_L b o ad i ls) (hi : i + 6 ≤ L) (h : RR σ) (hcs : cells ≤ 601024 ∧ slots ≤ 7293034)
    (K : ∀ (σ' : ir_S) (H' : Heap) (locs' : List Loc), RR σ' → lw_I s dC dI ad cI cL o σ' g H' locs' → W p l e room_1 s m #[Value.ref b] below meth c H' locs' cells slots Q (F0 m 1231 ls [])) : W p l e room_1 s m #[Value.ref b] below meth c H locs cells slots Q (F0 m 234 ls []) := by
  obtain ⟨v, σ1, σ2, e1, e2, h2⟩ : PAIR 0 76 132 [.int (xs (i + 1)), .int (xs (i + 2)), .int (xs (i + 3))] σ := p_route h
  refine lv_aload_n E.1.1 E.1.2.1 dL_law_234 rfl (lv_at hl 1 rfl) ?_
  refine lw_arg (K := 1) E I hl hi (by decide) (by decide) dL_law_235 dL_law_236 dL_law_238 dL_law_239 dL_law_240 ?_
  refine lw_arg (K := 2) E I hl hi (by decide) (by decide) dL_law_241 dL_law_242 dL_law_244 dL_law_245 dL_law_246 ?_
  refine lw_arg (K := 3) E I hl hi (by decide) (by decide) dL_law_247 dL_law_248 dL_law_250 dL_law_251 dL_law_252 ?_
  refine lw_virt (mi := 76) (bb := 0) (va := [.int (xs (i + 1)), .int (xs (i + 2)), .int (xs (i + 3))]) (rest := []) E I e1 rfl rfl rfl lw_w253 dL_law_253 rfl (Nat.le_of_ble_eq_true rfl) hl hcs (fun H locs I => ?_)
  refine lv_aload_n E.1.1 E.1.2.1 dL_law_256 rfl (lv_at hl 2 rfl) ?_
  refine lw_arg (K := 1) E I hl hi (by decide) (by decide) dL_law_257 dL_law_258 dL_law_260 dL_law_261 dL_law_262 ?_
  refine lw_arg (K := 2) E I hl hi (by decide) (by decide) dL_law_263 dL_law_264 dL_law_266 dL_law_267 dL_law_268 ?_
  refine lw_arg (K := 3) E I hl hi (by decide) (by decide) dL_law_269 dL_law_270 dL_law_272 dL_law_273 dL_law_274 ?_
  refine lw_virt (mi := 132) (bb := 33) (va := [.int (xs (i + 1)), .int (xs (i + 2)), .int (xs (i + 3))]) (rest := [.int v]) E I e2 rfl rfl rfl lw_w275 dL_law_275 rfl (Nat.le_of_ble_eq_true rfl) hl hcs (fun H locs I => ?_)
  refine lv_icmp_eq (tgt := 1231) E.1.1 E.1.2.1 dL_law_278 (by decide) (fun _ => ?_) (fun c9 => absurd rfl c9)
  exact K σ2 H locs h2 I
theorem lw_w316 : ∀ w ∈ [Cond.methodLink RL 36 (ir_m 77).1, Cond.instanceMethod (ir_m 77).1, Cond.selects (ir_m 77).1.cls (ir_m 77).1 (ir_m 77).1], w ∈ lw_tbl := by decide +kernel
theorem lw_w352 : ∀ w ∈ [Cond.methodLink RL 40 (ir_m 133).1, Cond.instanceMethod (ir_m 133).1, Cond.selects (ir_m 133).1.cls (ir_m 133).1 (ir_m 133).1], w ∈ lw_tbl := by decide +kernel
set_option maxHeartbeats 2000000 in
theorem lw_c_deny (E : lw_E p s m meth c b L xs dC dI ad cI cL o) (I : lw_I s dC dI ad cI cL o σ g H locs) (hl : lw_L b o ad i ls) (hi : i + 6 ≤ L) (h : RR σ) (hcs : cells ≤ 601024 ∧ slots ≤ 7293034)
    (K : ∀ (σ' : ir_S) (H' : Heap) (locs' : List Loc), RR σ' → lw_I s dC dI ad cI cL o σ' g H' locs' → W p l e room_1 s m #[Value.ref b] below meth c H' locs' cells slots Q (F0 m 1231 ls [])) : W p l e room_1 s m #[Value.ref b] below meth c H locs cells slots Q (F0 m 283 ls []) := by
  obtain ⟨v, σ1, σ2, e1, e2, h2⟩ : PAIR 0 77 133 [.int (xs (i + 1)), .int (xs (i + 2)), .int (xs (i + 3)), .int (if xs (i + 4) = 0 then 0 else 1)] σ := p_deny h
  refine lv_aload_n E.1.1 E.1.2.1 dL_law_283 rfl (lv_at hl 1 rfl) ?_
  refine lw_arg (K := 1) E I hl hi (by decide) (by decide) dL_law_284 dL_law_285 dL_law_287 dL_law_288 dL_law_289 ?_
  refine lw_arg (K := 2) E I hl hi (by decide) (by decide) dL_law_290 dL_law_291 dL_law_293 dL_law_294 dL_law_295 ?_
  refine lw_arg (K := 3) E I hl hi (by decide) (by decide) dL_law_296 dL_law_297 dL_law_299 dL_law_300 dL_law_301 ?_
  refine lw_arg (K := 4) E I hl hi (by decide) (by decide) dL_law_302 dL_law_303 dL_law_305 dL_law_306 dL_law_307 ?_
  refine lw_barg E dL_law_308 dL_law_311 dL_law_312 dL_law_315 ?_
  refine lw_virt (mi := 77) (bb := 0) (va := [.int (xs (i + 1)), .int (xs (i + 2)), .int (xs (i + 3)), .int (if xs (i + 4) = 0 then 0 else 1)]) (rest := []) E I e1 rfl rfl rfl lw_w316 dL_law_316 rfl (Nat.le_of_ble_eq_true rfl) hl hcs (fun H locs I => ?_)
  refine lv_aload_n E.1.1 E.1.2.1 dL_law_319 rfl (lv_at hl 2 rfl) ?_
  refine lw_arg (K := 1) E I hl hi (by decide) (by decide) dL_law_320 dL_law_321 dL_law_323 dL_law_324 dL_law_325 ?_
  refine lw_arg (K := 2) E I hl hi (by decide) (by decide) dL_law_326 dL_law_327 dL_law_329 dL_law_330 dL_law_331 ?_
  refine lw_arg (K := 3) E I hl hi (by decide) (by decide) dL_law_332 dL_law_333 dL_law_335 dL_law_336 dL_law_337 ?_
  refine lw_arg (K := 4) E I hl hi (by decide) (by decide) dL_law_338 dL_law_339 dL_law_341 dL_law_342 dL_law_343 ?_
  refine lw_barg E dL_law_344 dL_law_347 dL_law_348 dL_law_351 ?_
  refine lw_virt (mi := 133) (bb := 33) (va := [.int (xs (i + 1)), .int (xs (i + 2)), .int (xs (i + 3)), .int (if xs (i + 4) = 0 then 0 else 1)]) (rest := [.int v]) E I e2 rfl rfl rfl lw_w352 dL_law_352 rfl (Nat.le_of_ble_eq_true rfl) hl hcs (fun H locs I => ?_)
  refine lv_icmp_eq (tgt := 1231) E.1.1 E.1.2.1 dL_law_355 (by decide) (fun _ => ?_) (fun c9 => absurd rfl c9)
  exact K σ2 H locs h2 I
theorem lw_w387 : ∀ w ∈ [Cond.methodLink RL 41 (ir_m 78).1, Cond.instanceMethod (ir_m 78).1, Cond.selects (ir_m 78).1.cls (ir_m 78).1 (ir_m 78).1], w ∈ lw_tbl := by decide +kernel
theorem lw_w417 : ∀ w ∈ [Cond.methodLink RL 45 (ir_m 134).1, Cond.instanceMethod (ir_m 134).1, Cond.selects (ir_m 134).1.cls (ir_m 134).1 (ir_m 134).1], w ∈ lw_tbl := by decide +kernel
set_option maxHeartbeats 2000000 in
theorem lw_c_on (E : lw_E p s m meth c b L xs dC dI ad cI cL o) (I : lw_I s dC dI ad cI cL o σ g H locs) (hl : lw_L b o ad i ls) (hi : i + 6 ≤ L) (h : RR σ) (hcs : cells ≤ 601024 ∧ slots ≤ 7293034)
    (K : ∀ (σ' : ir_S) (H' : Heap) (locs' : List Loc), RR σ' → lw_I s dC dI ad cI cL o σ' g H' locs' → W p l e room_1 s m #[Value.ref b] below meth c H' locs' cells slots Q (F0 m 1231 ls [])) : W p l e room_1 s m #[Value.ref b] below meth c H locs cells slots Q (F0 m 360 ls []) := by
  obtain ⟨v, σ1, σ2, e1, e2, h2⟩ : PAIR 0 78 134 [.int (xs (i + 1)), .int (xs (i + 2)), .int (if xs (i + 3) = 0 then 0 else 1)] σ := p_on h
  refine lv_aload_n E.1.1 E.1.2.1 dL_law_360 rfl (lv_at hl 1 rfl) ?_
  refine lw_arg (K := 1) E I hl hi (by decide) (by decide) dL_law_361 dL_law_362 dL_law_364 dL_law_365 dL_law_366 ?_
  refine lw_arg (K := 2) E I hl hi (by decide) (by decide) dL_law_367 dL_law_368 dL_law_370 dL_law_371 dL_law_372 ?_
  refine lw_arg (K := 3) E I hl hi (by decide) (by decide) dL_law_373 dL_law_374 dL_law_376 dL_law_377 dL_law_378 ?_
  refine lw_barg E dL_law_379 dL_law_382 dL_law_383 dL_law_386 ?_
  refine lw_virt (mi := 78) (bb := 0) (va := [.int (xs (i + 1)), .int (xs (i + 2)), .int (if xs (i + 3) = 0 then 0 else 1)]) (rest := []) E I e1 rfl rfl rfl lw_w387 dL_law_387 rfl (Nat.le_of_ble_eq_true rfl) hl hcs (fun H locs I => ?_)
  refine lv_aload_n E.1.1 E.1.2.1 dL_law_390 rfl (lv_at hl 2 rfl) ?_
  refine lw_arg (K := 1) E I hl hi (by decide) (by decide) dL_law_391 dL_law_392 dL_law_394 dL_law_395 dL_law_396 ?_
  refine lw_arg (K := 2) E I hl hi (by decide) (by decide) dL_law_397 dL_law_398 dL_law_400 dL_law_401 dL_law_402 ?_
  refine lw_arg (K := 3) E I hl hi (by decide) (by decide) dL_law_403 dL_law_404 dL_law_406 dL_law_407 dL_law_408 ?_
  refine lw_barg E dL_law_409 dL_law_412 dL_law_413 dL_law_416 ?_
  refine lw_virt (mi := 134) (bb := 33) (va := [.int (xs (i + 1)), .int (xs (i + 2)), .int (if xs (i + 3) = 0 then 0 else 1)]) (rest := [.int v]) E I e2 rfl rfl rfl lw_w417 dL_law_417 rfl (Nat.le_of_ble_eq_true rfl) hl hcs (fun H locs I => ?_)
  refine lv_icmp_eq (tgt := 1231) E.1.1 E.1.2.1 dL_law_420 (by decide) (fun _ => ?_) (fun c9 => absurd rfl c9)
  exact K σ2 H locs h2 I
theorem lw_w438 : ∀ w ∈ [Cond.methodLink RL 46 (ir_m 79).1, Cond.instanceMethod (ir_m 79).1, Cond.selects (ir_m 79).1.cls (ir_m 79).1 (ir_m 79).1], w ∈ lw_tbl := by decide +kernel
theorem lw_w454 : ∀ w ∈ [Cond.methodLink RL 50 (ir_m 135).1, Cond.instanceMethod (ir_m 135).1, Cond.selects (ir_m 135).1.cls (ir_m 135).1 (ir_m 135).1], w ∈ lw_tbl := by decide +kernel
set_option maxHeartbeats 2000000 in
theorem lw_c_name (E : lw_E p s m meth c b L xs dC dI ad cI cL o) (I : lw_I s dC dI ad cI cL o σ g H locs) (hl : lw_L b o ad i ls) (hi : i + 6 ≤ L) (h : RR σ) (hcs : cells ≤ 601024 ∧ slots ≤ 7293034)
    (K : ∀ (σ' : ir_S) (H' : Heap) (locs' : List Loc), RR σ' → lw_I s dC dI ad cI cL o σ' g H' locs' → W p l e room_1 s m #[Value.ref b] below meth c H' locs' cells slots Q (F0 m 1231 ls [])) : W p l e room_1 s m #[Value.ref b] below meth c H locs cells slots Q (F0 m 425 ls []) := by
  obtain ⟨v, σ1, σ2, e1, e2, h2⟩ : PAIR 0 79 135 [.int (xs (i + 1)), .int (xs (i + 2))] σ := p_name h
  refine lv_aload_n E.1.1 E.1.2.1 dL_law_425 rfl (lv_at hl 1 rfl) ?_
  refine lw_arg (K := 1) E I hl hi (by decide) (by decide) dL_law_426 dL_law_427 dL_law_429 dL_law_430 dL_law_431 ?_
  refine lw_arg (K := 2) E I hl hi (by decide) (by decide) dL_law_432 dL_law_433 dL_law_435 dL_law_436 dL_law_437 ?_
  refine lw_virt (mi := 79) (bb := 0) (va := [.int (xs (i + 1)), .int (xs (i + 2))]) (rest := []) E I e1 rfl rfl rfl lw_w438 dL_law_438 rfl (Nat.le_of_ble_eq_true rfl) hl hcs (fun H locs I => ?_)
  refine lv_aload_n E.1.1 E.1.2.1 dL_law_441 rfl (lv_at hl 2 rfl) ?_
  refine lw_arg (K := 1) E I hl hi (by decide) (by decide) dL_law_442 dL_law_443 dL_law_445 dL_law_446 dL_law_447 ?_
  refine lw_arg (K := 2) E I hl hi (by decide) (by decide) dL_law_448 dL_law_449 dL_law_451 dL_law_452 dL_law_453 ?_
  refine lw_virt (mi := 135) (bb := 33) (va := [.int (xs (i + 1)), .int (xs (i + 2))]) (rest := [.int v]) E I e2 rfl rfl rfl lw_w454 dL_law_454 rfl (Nat.le_of_ble_eq_true rfl) hl hcs (fun H locs I => ?_)
  refine lv_icmp_eq (tgt := 1231) E.1.1 E.1.2.1 dL_law_457 (by decide) (fun _ => ?_) (fun c9 => absurd rfl c9)
  exact K σ2 H locs h2 I
theorem lw_w469 : ∀ w ∈ [Cond.methodLink RL 51 (ir_m 80).1, Cond.instanceMethod (ir_m 80).1, Cond.selects (ir_m 80).1.cls (ir_m 80).1 (ir_m 80).1], w ∈ lw_tbl := by decide +kernel
theorem lw_w479 : ∀ w ∈ [Cond.methodLink RL 55 (ir_m 136).1, Cond.instanceMethod (ir_m 136).1, Cond.selects (ir_m 136).1.cls (ir_m 136).1 (ir_m 136).1], w ∈ lw_tbl := by decide +kernel
set_option maxHeartbeats 2000000 in
theorem lw_c_namer (E : lw_E p s m meth c b L xs dC dI ad cI cL o) (I : lw_I s dC dI ad cI cL o σ g H locs) (hl : lw_L b o ad i ls) (hi : i + 6 ≤ L) (h : RR σ) (hcs : cells ≤ 601024 ∧ slots ≤ 7293034)
    (K : ∀ (σ' : ir_S) (H' : Heap) (locs' : List Loc), RR σ' → lw_I s dC dI ad cI cL o σ' g H' locs' → W p l e room_1 s m #[Value.ref b] below meth c H' locs' cells slots Q (F0 m 1231 ls [])) : W p l e room_1 s m #[Value.ref b] below meth c H locs cells slots Q (F0 m 462 ls []) := by
  obtain ⟨v, σ1, σ2, e1, e2, h2⟩ : PAIR 0 80 136 [.int (xs (i + 1))] σ := p_namer h
  refine lv_aload_n E.1.1 E.1.2.1 dL_law_462 rfl (lv_at hl 1 rfl) ?_
  refine lw_arg (K := 1) E I hl hi (by decide) (by decide) dL_law_463 dL_law_464 dL_law_466 dL_law_467 dL_law_468 ?_
  refine lw_virt (mi := 80) (bb := 0) (va := [.int (xs (i + 1))]) (rest := []) E I e1 rfl rfl rfl lw_w469 dL_law_469 rfl (Nat.le_of_ble_eq_true rfl) hl hcs (fun H locs I => ?_)
  refine lv_aload_n E.1.1 E.1.2.1 dL_law_472 rfl (lv_at hl 2 rfl) ?_
  refine lw_arg (K := 1) E I hl hi (by decide) (by decide) dL_law_473 dL_law_474 dL_law_476 dL_law_477 dL_law_478 ?_
  refine lw_virt (mi := 136) (bb := 33) (va := [.int (xs (i + 1))]) (rest := [.int v]) E I e2 rfl rfl rfl lw_w479 dL_law_479 rfl (Nat.le_of_ble_eq_true rfl) hl hcs (fun H locs I => ?_)
  refine lv_icmp_eq (tgt := 1231) E.1.1 E.1.2.1 dL_law_482 (by decide) (fun _ => ?_) (fun c9 => absurd rfl c9)
  exact K σ2 H locs h2 I
theorem lw_w488 : ∀ w ∈ [Cond.methodLink RL 56 (ir_m 81).1, Cond.instanceMethod (ir_m 81).1, Cond.selects (ir_m 81).1.cls (ir_m 81).1 (ir_m 81).1], w ∈ lw_tbl := by decide +kernel
theorem lw_w492 : ∀ w ∈ [Cond.methodLink RL 60 (ir_m 137).1, Cond.instanceMethod (ir_m 137).1, Cond.selects (ir_m 137).1.cls (ir_m 137).1 (ir_m 137).1], w ∈ lw_tbl := by decide +kernel
set_option maxHeartbeats 2000000 in
theorem lw_c_clear (E : lw_E p s m meth c b L xs dC dI ad cI cL o) (I : lw_I s dC dI ad cI cL o σ g H locs) (hl : lw_L b o ad i ls) (hi : i + 6 ≤ L) (h : RR σ) (hcs : cells ≤ 601024 ∧ slots ≤ 7293034)
    (K : ∀ (σ' : ir_S) (H' : Heap) (locs' : List Loc), RR σ' → lw_I s dC dI ad cI cL o σ' g H' locs' → W p l e room_1 s m #[Value.ref b] below meth c H' locs' cells slots Q (F0 m 1231 ls [])) : W p l e room_1 s m #[Value.ref b] below meth c H locs cells slots Q (F0 m 487 ls []) := by
  obtain ⟨v, σ1, σ2, e1, e2, h2⟩ := p_clear (d := 0)  h
  refine lv_aload_n E.1.1 E.1.2.1 dL_law_487 rfl (lv_at hl 1 rfl) ?_
  refine lw_virt (mi := 81) (bb := 0) (va := []) (rest := []) E I e1 rfl rfl rfl lw_w488 dL_law_488 rfl (Nat.le_of_ble_eq_true rfl) hl hcs (fun H locs I => ?_)
  refine lv_aload_n E.1.1 E.1.2.1 dL_law_491 rfl (lv_at hl 2 rfl) ?_
  refine lw_virt (mi := 137) (bb := 33) (va := []) (rest := [.int v]) E I e2 rfl rfl rfl lw_w492 dL_law_492 rfl (Nat.le_of_ble_eq_true rfl) hl hcs (fun H locs I => ?_)
  refine lv_icmp_eq (tgt := 1231) E.1.1 E.1.2.1 dL_law_495 (by decide) (fun _ => ?_) (fun c9 => absurd rfl c9)
  exact K σ2 H locs h2 I
theorem lw_w507 : ∀ w ∈ [Cond.methodLink RL 61 (ir_m 82).1, Cond.instanceMethod (ir_m 82).1, Cond.selects (ir_m 82).1.cls (ir_m 82).1 (ir_m 82).1], w ∈ lw_tbl := by decide +kernel
theorem lw_w517 : ∀ w ∈ [Cond.methodLink RL 64 (ir_m 138).1, Cond.instanceMethod (ir_m 138).1, Cond.selects (ir_m 138).1.cls (ir_m 138).1 (ir_m 138).1], w ∈ lw_tbl := by decide +kernel
set_option maxHeartbeats 2000000 in
theorem lw_c_count (E : lw_E p s m meth c b L xs dC dI ad cI cL o) (I : lw_I s dC dI ad cI cL o σ g H locs) (hl : lw_L b o ad i ls) (hi : i + 6 ≤ L) (h : RR σ) (hcs : cells ≤ 601024 ∧ slots ≤ 7293034)
    (K : ∀ (σ' : ir_S) (H' : Heap) (locs' : List Loc), RR σ' → lw_I s dC dI ad cI cL o σ' g H' locs' → W p l e room_1 s m #[Value.ref b] below meth c H' locs' cells slots Q (F0 m 1231 ls [])) : W p l e room_1 s m #[Value.ref b] below meth c H locs cells slots Q (F0 m 500 ls []) := by
  obtain ⟨v, σ1, σ2, e1, e2, h2⟩ : PAIR 0 82 138 [.int (xs (i + 1))] σ := p_count h
  refine lv_aload_n E.1.1 E.1.2.1 dL_law_500 rfl (lv_at hl 1 rfl) ?_
  refine lw_arg (K := 1) E I hl hi (by decide) (by decide) dL_law_501 dL_law_502 dL_law_504 dL_law_505 dL_law_506 ?_
  refine lw_virt (mi := 82) (bb := 0) (va := [.int (xs (i + 1))]) (rest := []) E I e1 rfl rfl rfl lw_w507 dL_law_507 rfl (Nat.le_of_ble_eq_true rfl) hl hcs (fun H locs I => ?_)
  refine lv_aload_n E.1.1 E.1.2.1 dL_law_510 rfl (lv_at hl 2 rfl) ?_
  refine lw_arg (K := 1) E I hl hi (by decide) (by decide) dL_law_511 dL_law_512 dL_law_514 dL_law_515 dL_law_516 ?_
  refine lw_virt (mi := 138) (bb := 33) (va := [.int (xs (i + 1))]) (rest := [.int v]) E I e2 rfl rfl rfl lw_w517 dL_law_517 rfl (Nat.le_of_ble_eq_true rfl) hl hcs (fun H locs I => ?_)
  refine lv_icmp_eq (tgt := 1231) E.1.1 E.1.2.1 dL_law_520 (by decide) (fun _ => ?_) (fun c9 => absurd rfl c9)
  exact K σ2 H locs h2 I
theorem lw_w544 : ∀ w ∈ [Cond.methodLink RL 65 (ir_m 83).1, Cond.instanceMethod (ir_m 83).1, Cond.selects (ir_m 83).1.cls (ir_m 83).1 (ir_m 83).1], w ∈ lw_tbl := by decide +kernel
theorem lw_w566 : ∀ w ∈ [Cond.methodLink RL 69 (ir_m 142).1, Cond.instanceMethod (ir_m 142).1, Cond.selects (ir_m 142).1.cls (ir_m 142).1 (ir_m 142).1], w ∈ lw_tbl := by decide +kernel
set_option maxHeartbeats 2000000 in
theorem lw_c_next (E : lw_E p s m meth c b L xs dC dI ad cI cL o) (I : lw_I s dC dI ad cI cL o σ g H locs) (hl : lw_L b o ad i ls) (hi : i + 6 ≤ L) (h : RR σ) (hcs : cells ≤ 601024 ∧ slots ≤ 7293034)
    (K : ∀ (σ' : ir_S) (H' : Heap) (locs' : List Loc), RR σ' → lw_I s dC dI ad cI cL o σ' g H' locs' → W p l e room_1 s m #[Value.ref b] below meth c H' locs' cells slots Q (F0 m 1231 ls [])) : W p l e room_1 s m #[Value.ref b] below meth c H locs cells slots Q (F0 m 525 ls []) := by
  obtain ⟨v, σ1, σ2, e1, e2, h2⟩ : PAIR 0 83 142 [.int (xs (i + 1)), .int (xs (i + 2)), .int (xs (i + 3))] σ := p_next h
  refine lv_aload_n E.1.1 E.1.2.1 dL_law_525 rfl (lv_at hl 1 rfl) ?_
  refine lw_arg (K := 1) E I hl hi (by decide) (by decide) dL_law_526 dL_law_527 dL_law_529 dL_law_530 dL_law_531 ?_
  refine lw_arg (K := 2) E I hl hi (by decide) (by decide) dL_law_532 dL_law_533 dL_law_535 dL_law_536 dL_law_537 ?_
  refine lw_arg (K := 3) E I hl hi (by decide) (by decide) dL_law_538 dL_law_539 dL_law_541 dL_law_542 dL_law_543 ?_
  refine lw_virt (mi := 83) (bb := 0) (va := [.int (xs (i + 1)), .int (xs (i + 2)), .int (xs (i + 3))]) (rest := []) E I e1 rfl rfl rfl lw_w544 dL_law_544 rfl (Nat.le_of_ble_eq_true rfl) hl hcs (fun H locs I => ?_)
  refine lv_aload_n E.1.1 E.1.2.1 dL_law_547 rfl (lv_at hl 2 rfl) ?_
  refine lw_arg (K := 1) E I hl hi (by decide) (by decide) dL_law_548 dL_law_549 dL_law_551 dL_law_552 dL_law_553 ?_
  refine lw_arg (K := 2) E I hl hi (by decide) (by decide) dL_law_554 dL_law_555 dL_law_557 dL_law_558 dL_law_559 ?_
  refine lw_arg (K := 3) E I hl hi (by decide) (by decide) dL_law_560 dL_law_561 dL_law_563 dL_law_564 dL_law_565 ?_
  refine lw_virt (mi := 142) (bb := 33) (va := [.int (xs (i + 1)), .int (xs (i + 2)), .int (xs (i + 3))]) (rest := [.int v]) E I e2 rfl rfl rfl lw_w566 dL_law_566 rfl (Nat.le_of_ble_eq_true rfl) hl hcs (fun H locs I => ?_)
  refine lv_icmp_eq (tgt := 1231) E.1.1 E.1.2.1 dL_law_569 (by decide) (fun _ => ?_) (fun c9 => absurd rfl c9)
  exact K σ2 H locs h2 I
theorem lw_w599 : ∀ w ∈ [Cond.methodLink RL 70 (ir_m 84).1, Cond.instanceMethod (ir_m 84).1, Cond.selects (ir_m 84).1.cls (ir_m 84).1 (ir_m 84).1], w ∈ lw_tbl := by decide +kernel
theorem lw_w627 : ∀ w ∈ [Cond.methodLink RL 74 (ir_m 143).1, Cond.instanceMethod (ir_m 143).1, Cond.selects (ir_m 143).1.cls (ir_m 143).1 (ir_m 143).1], w ∈ lw_tbl := by decide +kernel
set_option maxHeartbeats 2000000 in
theorem lw_c_fault (E : lw_E p s m meth c b L xs dC dI ad cI cL o) (I : lw_I s dC dI ad cI cL o σ g H locs) (hl : lw_L b o ad i ls) (hi : i + 6 ≤ L) (h : RR σ) (hcs : cells ≤ 601024 ∧ slots ≤ 7293034)
    (K : ∀ (σ' : ir_S) (H' : Heap) (locs' : List Loc), RR σ' → lw_I s dC dI ad cI cL o σ' g H' locs' → W p l e room_1 s m #[Value.ref b] below meth c H' locs' cells slots Q (F0 m 1231 ls [])) : W p l e room_1 s m #[Value.ref b] below meth c H locs cells slots Q (F0 m 574 ls []) := by
  obtain ⟨v, σ1, σ2, e1, e2, h2⟩ : PAIR 0 84 143 [.int (xs (i + 1)), .int (xs (i + 2)), .int (xs (i + 3)), .int (xs (i + 4))] σ := p_fault h
  refine lv_aload_n E.1.1 E.1.2.1 dL_law_574 rfl (lv_at hl 1 rfl) ?_
  refine lw_arg (K := 1) E I hl hi (by decide) (by decide) dL_law_575 dL_law_576 dL_law_578 dL_law_579 dL_law_580 ?_
  refine lw_arg (K := 2) E I hl hi (by decide) (by decide) dL_law_581 dL_law_582 dL_law_584 dL_law_585 dL_law_586 ?_
  refine lw_arg (K := 3) E I hl hi (by decide) (by decide) dL_law_587 dL_law_588 dL_law_590 dL_law_591 dL_law_592 ?_
  refine lw_arg (K := 4) E I hl hi (by decide) (by decide) dL_law_593 dL_law_594 dL_law_596 dL_law_597 dL_law_598 ?_
  refine lw_virt (mi := 84) (bb := 0) (va := [.int (xs (i + 1)), .int (xs (i + 2)), .int (xs (i + 3)), .int (xs (i + 4))]) (rest := []) E I e1 rfl rfl rfl lw_w599 dL_law_599 rfl (Nat.le_of_ble_eq_true rfl) hl hcs (fun H locs I => ?_)
  refine lv_aload_n E.1.1 E.1.2.1 dL_law_602 rfl (lv_at hl 2 rfl) ?_
  refine lw_arg (K := 1) E I hl hi (by decide) (by decide) dL_law_603 dL_law_604 dL_law_606 dL_law_607 dL_law_608 ?_
  refine lw_arg (K := 2) E I hl hi (by decide) (by decide) dL_law_609 dL_law_610 dL_law_612 dL_law_613 dL_law_614 ?_
  refine lw_arg (K := 3) E I hl hi (by decide) (by decide) dL_law_615 dL_law_616 dL_law_618 dL_law_619 dL_law_620 ?_
  refine lw_arg (K := 4) E I hl hi (by decide) (by decide) dL_law_621 dL_law_622 dL_law_624 dL_law_625 dL_law_626 ?_
  refine lw_virt (mi := 143) (bb := 33) (va := [.int (xs (i + 1)), .int (xs (i + 2)), .int (xs (i + 3)), .int (xs (i + 4))]) (rest := [.int v]) E I e2 rfl rfl rfl lw_w627 dL_law_627 rfl (Nat.le_of_ble_eq_true rfl) hl hcs (fun H locs I => ?_)
  refine lv_icmp_eq (tgt := 1231) E.1.1 E.1.2.1 dL_law_630 (by decide) (fun _ => ?_) (fun c9 => absurd rfl c9)
  exact K σ2 H locs h2 I
theorem lw_w648 : ∀ w ∈ [Cond.methodLink RL 75 (ir_m 85).1, Cond.instanceMethod (ir_m 85).1, Cond.selects (ir_m 85).1.cls (ir_m 85).1 (ir_m 85).1], w ∈ lw_tbl := by decide +kernel
theorem lw_w664 : ∀ w ∈ [Cond.methodLink RL 78 (ir_m 146).1, Cond.instanceMethod (ir_m 146).1, Cond.selects (ir_m 146).1.cls (ir_m 146).1 (ir_m 146).1], w ∈ lw_tbl := by decide +kernel
set_option maxHeartbeats 2000000 in
theorem lw_c_cause (E : lw_E p s m meth c b L xs dC dI ad cI cL o) (I : lw_I s dC dI ad cI cL o σ g H locs) (hl : lw_L b o ad i ls) (hi : i + 6 ≤ L) (h : RR σ) (hcs : cells ≤ 601024 ∧ slots ≤ 7293034)
    (K : ∀ (σ' : ir_S) (H' : Heap) (locs' : List Loc), RR σ' → lw_I s dC dI ad cI cL o σ' g H' locs' → W p l e room_1 s m #[Value.ref b] below meth c H' locs' cells slots Q (F0 m 1231 ls [])) : W p l e room_1 s m #[Value.ref b] below meth c H locs cells slots Q (F0 m 635 ls []) := by
  obtain ⟨v, σ1, σ2, e1, e2, h2⟩ : PAIR 0 85 146 [.int (xs (i + 1)), .int (xs (i + 2))] σ := p_cause h
  refine lv_aload_n E.1.1 E.1.2.1 dL_law_635 rfl (lv_at hl 1 rfl) ?_
  refine lw_arg (K := 1) E I hl hi (by decide) (by decide) dL_law_636 dL_law_637 dL_law_639 dL_law_640 dL_law_641 ?_
  refine lw_arg (K := 2) E I hl hi (by decide) (by decide) dL_law_642 dL_law_643 dL_law_645 dL_law_646 dL_law_647 ?_
  refine lw_virt (mi := 85) (bb := 0) (va := [.int (xs (i + 1)), .int (xs (i + 2))]) (rest := []) E I e1 rfl rfl rfl lw_w648 dL_law_648 rfl (Nat.le_of_ble_eq_true rfl) hl hcs (fun H locs I => ?_)
  refine lv_aload_n E.1.1 E.1.2.1 dL_law_651 rfl (lv_at hl 2 rfl) ?_
  refine lw_arg (K := 1) E I hl hi (by decide) (by decide) dL_law_652 dL_law_653 dL_law_655 dL_law_656 dL_law_657 ?_
  refine lw_arg (K := 2) E I hl hi (by decide) (by decide) dL_law_658 dL_law_659 dL_law_661 dL_law_662 dL_law_663 ?_
  refine lw_virt (mi := 146) (bb := 33) (va := [.int (xs (i + 1)), .int (xs (i + 2))]) (rest := [.int v]) E I e2 rfl rfl rfl lw_w664 dL_law_664 rfl (Nat.le_of_ble_eq_true rfl) hl hcs (fun H locs I => ?_)
  refine lv_icmp_eq (tgt := 1231) E.1.1 E.1.2.1 dL_law_667 (by decide) (fun _ => ?_) (fun c9 => absurd rfl c9)
  exact K σ2 H locs h2 I
theorem lw_w703 : ∀ w ∈ [Cond.methodLink RL 79 (ir_m 86).1, Cond.instanceMethod (ir_m 86).1, Cond.selects (ir_m 86).1.cls (ir_m 86).1 (ir_m 86).1], w ∈ lw_tbl := by decide +kernel
theorem lw_w737 : ∀ w ∈ [Cond.methodLink RL 83 (ir_m 155).1, Cond.instanceMethod (ir_m 155).1, Cond.selects (ir_m 155).1.cls (ir_m 155).1 (ir_m 155).1], w ∈ lw_tbl := by decide +kernel
set_option maxHeartbeats 2000000 in
theorem lw_c_look (E : lw_E p s m meth c b L xs dC dI ad cI cL o) (I : lw_I s dC dI ad cI cL o σ g H locs) (hl : lw_L b o ad i ls) (hi : i + 6 ≤ L) (h : RR σ) (hcs : cells ≤ 601024 ∧ slots ≤ 7293034)
    (K : ∀ (σ' : ir_S) (H' : Heap) (locs' : List Loc), RR σ' → lw_I s dC dI ad cI cL o σ' g H' locs' → W p l e room_1 s m #[Value.ref b] below meth c H' locs' cells slots Q (F0 m 1231 ls [])) : W p l e room_1 s m #[Value.ref b] below meth c H locs cells slots Q (F0 m 672 ls []) := by
  obtain ⟨v, σ1, σ2, e1, e2, h2⟩ : PAIR 0 86 155 [.int (xs (i + 1)), .int (xs (i + 2)), .int (xs (i + 3)), .int (xs (i + 4)), .int (xs (i + 5))] σ := p_look h
  refine lv_aload_n E.1.1 E.1.2.1 dL_law_672 rfl (lv_at hl 1 rfl) ?_
  refine lw_arg (K := 1) E I hl hi (by decide) (by decide) dL_law_673 dL_law_674 dL_law_676 dL_law_677 dL_law_678 ?_
  refine lw_arg (K := 2) E I hl hi (by decide) (by decide) dL_law_679 dL_law_680 dL_law_682 dL_law_683 dL_law_684 ?_
  refine lw_arg (K := 3) E I hl hi (by decide) (by decide) dL_law_685 dL_law_686 dL_law_688 dL_law_689 dL_law_690 ?_
  refine lw_arg (K := 4) E I hl hi (by decide) (by decide) dL_law_691 dL_law_692 dL_law_694 dL_law_695 dL_law_696 ?_
  refine lw_arg (K := 5) E I hl hi (by decide) (by decide) dL_law_697 dL_law_698 dL_law_700 dL_law_701 dL_law_702 ?_
  refine lw_virt (mi := 86) (bb := 0) (va := [.int (xs (i + 1)), .int (xs (i + 2)), .int (xs (i + 3)), .int (xs (i + 4)), .int (xs (i + 5))]) (rest := []) E I e1 rfl rfl rfl lw_w703 dL_law_703 rfl (Nat.le_of_ble_eq_true rfl) hl hcs (fun H locs I => ?_)
  refine lv_aload_n E.1.1 E.1.2.1 dL_law_706 rfl (lv_at hl 2 rfl) ?_
  refine lw_arg (K := 1) E I hl hi (by decide) (by decide) dL_law_707 dL_law_708 dL_law_710 dL_law_711 dL_law_712 ?_
  refine lw_arg (K := 2) E I hl hi (by decide) (by decide) dL_law_713 dL_law_714 dL_law_716 dL_law_717 dL_law_718 ?_
  refine lw_arg (K := 3) E I hl hi (by decide) (by decide) dL_law_719 dL_law_720 dL_law_722 dL_law_723 dL_law_724 ?_
  refine lw_arg (K := 4) E I hl hi (by decide) (by decide) dL_law_725 dL_law_726 dL_law_728 dL_law_729 dL_law_730 ?_
  refine lw_arg (K := 5) E I hl hi (by decide) (by decide) dL_law_731 dL_law_732 dL_law_734 dL_law_735 dL_law_736 ?_
  refine lw_virt (mi := 155) (bb := 33) (va := [.int (xs (i + 1)), .int (xs (i + 2)), .int (xs (i + 3)), .int (xs (i + 4)), .int (xs (i + 5))]) (rest := [.int v]) E I e2 rfl rfl rfl lw_w737 dL_law_737 rfl (Nat.le_of_ble_eq_true rfl) hl hcs (fun H locs I => ?_)
  refine lv_icmp_eq (tgt := 1231) E.1.1 E.1.2.1 dL_law_740 (by decide) (fun _ => ?_) (fun c9 => absurd rfl c9)
  exact K σ2 H locs h2 I
theorem lw_w838 : ∀ w ∈ [Cond.methodLink RL 93 (ir_m 88).1, Cond.instanceMethod (ir_m 88).1, Cond.selects (ir_m 88).1.cls (ir_m 88).1 (ir_m 88).1], w ∈ lw_tbl := by decide +kernel
theorem lw_w866 : ∀ w ∈ [Cond.methodLink RL 96 (ir_m 154).1, Cond.instanceMethod (ir_m 154).1, Cond.selects (ir_m 154).1.cls (ir_m 154).1 (ir_m 154).1], w ∈ lw_tbl := by decide +kernel
set_option maxHeartbeats 2000000 in
theorem lw_c_goes (E : lw_E p s m meth c b L xs dC dI ad cI cL o) (I : lw_I s dC dI ad cI cL o σ g H locs) (hl : lw_L b o ad i ls) (hi : i + 6 ≤ L) (h : RR σ) (hcs : cells ≤ 601024 ∧ slots ≤ 7293034)
    (K : ∀ (σ' : ir_S) (H' : Heap) (locs' : List Loc), RR σ' → lw_I s dC dI ad cI cL o σ' g H' locs' → W p l e room_1 s m #[Value.ref b] below meth c H' locs' cells slots Q (F0 m 1231 ls [])) : W p l e room_1 s m #[Value.ref b] below meth c H locs cells slots Q (F0 m 813 ls []) := by
  obtain ⟨v, σ1, σ2, e1, e2, h2⟩ : PAIR 0 88 154 [.int (xs (i + 1)), .int (xs (i + 2)), .int (xs (i + 3)), .int (xs (i + 4))] σ := p_goes h
  refine lv_aload_n E.1.1 E.1.2.1 dL_law_813 rfl (lv_at hl 1 rfl) ?_
  refine lw_arg (K := 1) E I hl hi (by decide) (by decide) dL_law_814 dL_law_815 dL_law_817 dL_law_818 dL_law_819 ?_
  refine lw_arg (K := 2) E I hl hi (by decide) (by decide) dL_law_820 dL_law_821 dL_law_823 dL_law_824 dL_law_825 ?_
  refine lw_arg (K := 3) E I hl hi (by decide) (by decide) dL_law_826 dL_law_827 dL_law_829 dL_law_830 dL_law_831 ?_
  refine lw_arg (K := 4) E I hl hi (by decide) (by decide) dL_law_832 dL_law_833 dL_law_835 dL_law_836 dL_law_837 ?_
  refine lw_virt (mi := 88) (bb := 0) (va := [.int (xs (i + 1)), .int (xs (i + 2)), .int (xs (i + 3)), .int (xs (i + 4))]) (rest := []) E I e1 rfl rfl rfl lw_w838 dL_law_838 rfl (Nat.le_of_ble_eq_true rfl) hl hcs (fun H locs I => ?_)
  refine lv_aload_n E.1.1 E.1.2.1 dL_law_841 rfl (lv_at hl 2 rfl) ?_
  refine lw_arg (K := 1) E I hl hi (by decide) (by decide) dL_law_842 dL_law_843 dL_law_845 dL_law_846 dL_law_847 ?_
  refine lw_arg (K := 2) E I hl hi (by decide) (by decide) dL_law_848 dL_law_849 dL_law_851 dL_law_852 dL_law_853 ?_
  refine lw_arg (K := 3) E I hl hi (by decide) (by decide) dL_law_854 dL_law_855 dL_law_857 dL_law_858 dL_law_859 ?_
  refine lw_arg (K := 4) E I hl hi (by decide) (by decide) dL_law_860 dL_law_861 dL_law_863 dL_law_864 dL_law_865 ?_
  refine lw_virt (mi := 154) (bb := 33) (va := [.int (xs (i + 1)), .int (xs (i + 2)), .int (xs (i + 3)), .int (xs (i + 4))]) (rest := [.int v]) E I e2 rfl rfl rfl lw_w866 dL_law_866 rfl (Nat.le_of_ble_eq_true rfl) hl hcs (fun H locs I => ?_)
  refine lv_icmp_eq (tgt := 1231) E.1.1 E.1.2.1 dL_law_869 (by decide) (fun _ => ?_) (fun c9 => absurd rfl c9)
  exact K σ2 H locs h2 I
theorem lw_w887 : ∀ w ∈ [Cond.methodLink RL 97 (ir_m 89).1, Cond.instanceMethod (ir_m 89).1, Cond.selects (ir_m 89).1.cls (ir_m 89).1 (ir_m 89).1], w ∈ lw_tbl := by decide +kernel
theorem lw_w903 : ∀ w ∈ [Cond.methodLink RL 100 (ir_m 163).1, Cond.instanceMethod (ir_m 163).1, Cond.selects (ir_m 163).1.cls (ir_m 163).1 (ir_m 163).1], w ∈ lw_tbl := by decide +kernel
set_option maxHeartbeats 2000000 in
theorem lw_c_unlike (E : lw_E p s m meth c b L xs dC dI ad cI cL o) (I : lw_I s dC dI ad cI cL o σ g H locs) (hl : lw_L b o ad i ls) (hi : i + 6 ≤ L) (h : RR σ) (hcs : cells ≤ 601024 ∧ slots ≤ 7293034)
    (K : ∀ (σ' : ir_S) (H' : Heap) (locs' : List Loc), RR σ' → lw_I s dC dI ad cI cL o σ' g H' locs' → W p l e room_1 s m #[Value.ref b] below meth c H' locs' cells slots Q (F0 m 1231 ls [])) : W p l e room_1 s m #[Value.ref b] below meth c H locs cells slots Q (F0 m 874 ls []) := by
  obtain ⟨v, σ1, σ2, e1, e2, h2⟩ : PAIR 0 89 163 [.int (xs (i + 1)), .int (xs (i + 2))] σ := p_unlike h
  refine lv_aload_n E.1.1 E.1.2.1 dL_law_874 rfl (lv_at hl 1 rfl) ?_
  refine lw_arg (K := 1) E I hl hi (by decide) (by decide) dL_law_875 dL_law_876 dL_law_878 dL_law_879 dL_law_880 ?_
  refine lw_arg (K := 2) E I hl hi (by decide) (by decide) dL_law_881 dL_law_882 dL_law_884 dL_law_885 dL_law_886 ?_
  refine lw_virt (mi := 89) (bb := 0) (va := [.int (xs (i + 1)), .int (xs (i + 2))]) (rest := []) E I e1 rfl rfl rfl lw_w887 dL_law_887 rfl (Nat.le_of_ble_eq_true rfl) hl hcs (fun H locs I => ?_)
  refine lv_aload_n E.1.1 E.1.2.1 dL_law_890 rfl (lv_at hl 2 rfl) ?_
  refine lw_arg (K := 1) E I hl hi (by decide) (by decide) dL_law_891 dL_law_892 dL_law_894 dL_law_895 dL_law_896 ?_
  refine lw_arg (K := 2) E I hl hi (by decide) (by decide) dL_law_897 dL_law_898 dL_law_900 dL_law_901 dL_law_902 ?_
  refine lw_virt (mi := 163) (bb := 33) (va := [.int (xs (i + 1)), .int (xs (i + 2))]) (rest := [.int v]) E I e2 rfl rfl rfl lw_w903 dL_law_903 rfl (Nat.le_of_ble_eq_true rfl) hl hcs (fun H locs I => ?_)
  refine lv_icmp_eq (tgt := 1231) E.1.1 E.1.2.1 dL_law_906 (by decide) (fun _ => ?_) (fun c9 => absurd rfl c9)
  exact K σ2 H locs h2 I
theorem lw_w912 : ∀ w ∈ [Cond.methodLink RL 101 (ir_m 90).1, Cond.instanceMethod (ir_m 90).1, Cond.selects (ir_m 90).1.cls (ir_m 90).1 (ir_m 90).1], w ∈ lw_tbl := by decide +kernel
theorem lw_w916 : ∀ w ∈ [Cond.methodLink RL 104 (ir_m 164).1, Cond.instanceMethod (ir_m 164).1, Cond.selects (ir_m 164).1.cls (ir_m 164).1 (ir_m 164).1], w ∈ lw_tbl := by decide +kernel
set_option maxHeartbeats 2000000 in
theorem lw_c_fair (E : lw_E p s m meth c b L xs dC dI ad cI cL o) (I : lw_I s dC dI ad cI cL o σ g H locs) (hl : lw_L b o ad i ls) (hi : i + 6 ≤ L) (h : RR σ) (hcs : cells ≤ 601024 ∧ slots ≤ 7293034)
    (K : ∀ (σ' : ir_S) (H' : Heap) (locs' : List Loc), RR σ' → lw_I s dC dI ad cI cL o σ' g H' locs' → W p l e room_1 s m #[Value.ref b] below meth c H' locs' cells slots Q (F0 m 1231 ls [])) : W p l e room_1 s m #[Value.ref b] below meth c H locs cells slots Q (F0 m 911 ls []) := by
  obtain ⟨v, σ1, σ2, e1, e2, h2⟩ := p_fair (d := 0)  h
  refine lv_aload_n E.1.1 E.1.2.1 dL_law_911 rfl (lv_at hl 1 rfl) ?_
  refine lw_virt (mi := 90) (bb := 0) (va := []) (rest := []) E I e1 rfl rfl rfl lw_w912 dL_law_912 rfl (Nat.le_of_ble_eq_true rfl) hl hcs (fun H locs I => ?_)
  refine lv_aload_n E.1.1 E.1.2.1 dL_law_915 rfl (lv_at hl 2 rfl) ?_
  refine lw_virt (mi := 164) (bb := 33) (va := []) (rest := [.int v]) E I e2 rfl rfl rfl lw_w916 dL_law_916 rfl (Nat.le_of_ble_eq_true rfl) hl hcs (fun H locs I => ?_)
  refine lv_icmp_eq (tgt := 1231) E.1.1 E.1.2.1 dL_law_919 (by decide) (fun _ => ?_) (fun c9 => absurd rfl c9)
  exact K σ2 H locs h2 I
theorem lw_w931 : ∀ w ∈ [Cond.methodLink RL 105 (ir_m 91).1, Cond.instanceMethod (ir_m 91).1, Cond.selects (ir_m 91).1.cls (ir_m 91).1 (ir_m 91).1], w ∈ lw_tbl := by decide +kernel
theorem lw_w941 : ∀ w ∈ [Cond.methodLink RL 108 (ir_m 165).1, Cond.instanceMethod (ir_m 165).1, Cond.selects (ir_m 165).1.cls (ir_m 165).1 (ir_m 165).1], w ∈ lw_tbl := by decide +kernel
set_option maxHeartbeats 2000000 in
theorem lw_c_groups (E : lw_E p s m meth c b L xs dC dI ad cI cL o) (I : lw_I s dC dI ad cI cL o σ g H locs) (hl : lw_L b o ad i ls) (hi : i + 6 ≤ L) (h : RR σ) (hcs : cells ≤ 601024 ∧ slots ≤ 7293034)
    (K : ∀ (σ' : ir_S) (H' : Heap) (locs' : List Loc), RR σ' → lw_I s dC dI ad cI cL o σ' g H' locs' → W p l e room_1 s m #[Value.ref b] below meth c H' locs' cells slots Q (F0 m 1231 ls [])) : W p l e room_1 s m #[Value.ref b] below meth c H locs cells slots Q (F0 m 924 ls []) := by
  obtain ⟨v, σ1, σ2, e1, e2, h2⟩ : PAIR 0 91 165 [.int (xs (i + 1))] σ := p_groups h
  refine lv_aload_n E.1.1 E.1.2.1 dL_law_924 rfl (lv_at hl 1 rfl) ?_
  refine lw_arg (K := 1) E I hl hi (by decide) (by decide) dL_law_925 dL_law_926 dL_law_928 dL_law_929 dL_law_930 ?_
  refine lw_virt (mi := 91) (bb := 0) (va := [.int (xs (i + 1))]) (rest := []) E I e1 rfl rfl rfl lw_w931 dL_law_931 rfl (Nat.le_of_ble_eq_true rfl) hl hcs (fun H locs I => ?_)
  refine lv_aload_n E.1.1 E.1.2.1 dL_law_934 rfl (lv_at hl 2 rfl) ?_
  refine lw_arg (K := 1) E I hl hi (by decide) (by decide) dL_law_935 dL_law_936 dL_law_938 dL_law_939 dL_law_940 ?_
  refine lw_virt (mi := 165) (bb := 33) (va := [.int (xs (i + 1))]) (rest := [.int v]) E I e2 rfl rfl rfl lw_w941 dL_law_941 rfl (Nat.le_of_ble_eq_true rfl) hl hcs (fun H locs I => ?_)
  refine lv_icmp_eq (tgt := 1231) E.1.1 E.1.2.1 dL_law_944 (by decide) (fun _ => ?_) (fun c9 => absurd rfl c9)
  exact K σ2 H locs h2 I
theorem lw_w956 : ∀ w ∈ [Cond.methodLink RL 109 (ir_m 92).1, Cond.instanceMethod (ir_m 92).1, Cond.selects (ir_m 92).1.cls (ir_m 92).1 (ir_m 92).1], w ∈ lw_tbl := by decide +kernel
theorem lw_w966 : ∀ w ∈ [Cond.methodLink RL 112 (ir_m 170).1, Cond.instanceMethod (ir_m 170).1, Cond.selects (ir_m 170).1.cls (ir_m 170).1 (ir_m 170).1], w ∈ lw_tbl := by decide +kernel
set_option maxHeartbeats 2000000 in
theorem lw_c_worst (E : lw_E p s m meth c b L xs dC dI ad cI cL o) (I : lw_I s dC dI ad cI cL o σ g H locs) (hl : lw_L b o ad i ls) (hi : i + 6 ≤ L) (h : RR σ) (hcs : cells ≤ 601024 ∧ slots ≤ 7293034)
    (K : ∀ (σ' : ir_S) (H' : Heap) (locs' : List Loc), RR σ' → lw_I s dC dI ad cI cL o σ' g H' locs' → W p l e room_1 s m #[Value.ref b] below meth c H' locs' cells slots Q (F0 m 1231 ls [])) : W p l e room_1 s m #[Value.ref b] below meth c H locs cells slots Q (F0 m 949 ls []) := by
  obtain ⟨v, σ1, σ2, e1, e2, h2⟩ : PAIR 0 92 170 [.int (xs (i + 1))] σ := p_worst h
  refine lv_aload_n E.1.1 E.1.2.1 dL_law_949 rfl (lv_at hl 1 rfl) ?_
  refine lw_arg (K := 1) E I hl hi (by decide) (by decide) dL_law_950 dL_law_951 dL_law_953 dL_law_954 dL_law_955 ?_
  refine lw_virt (mi := 92) (bb := 0) (va := [.int (xs (i + 1))]) (rest := []) E I e1 rfl rfl rfl lw_w956 dL_law_956 rfl (Nat.le_of_ble_eq_true rfl) hl hcs (fun H locs I => ?_)
  refine lv_aload_n E.1.1 E.1.2.1 dL_law_959 rfl (lv_at hl 2 rfl) ?_
  refine lw_arg (K := 1) E I hl hi (by decide) (by decide) dL_law_960 dL_law_961 dL_law_963 dL_law_964 dL_law_965 ?_
  refine lw_virt (mi := 170) (bb := 33) (va := [.int (xs (i + 1))]) (rest := [.int v]) E I e2 rfl rfl rfl lw_w966 dL_law_966 rfl (Nat.le_of_ble_eq_true rfl) hl hcs (fun H locs I => ?_)
  refine lv_icmp_eq (tgt := 1231) E.1.1 E.1.2.1 dL_law_969 (by decide) (fun _ => ?_) (fun c9 => absurd rfl c9)
  exact K σ2 H locs h2 I
theorem lw_w981 : ∀ w ∈ [Cond.methodLink RL 113 (ir_m 93).1, Cond.instanceMethod (ir_m 93).1, Cond.selects (ir_m 93).1.cls (ir_m 93).1 (ir_m 93).1], w ∈ lw_tbl := by decide +kernel
theorem lw_w991 : ∀ w ∈ [Cond.methodLink RL 116 (ir_m 172).1, Cond.instanceMethod (ir_m 172).1, Cond.selects (ir_m 172).1.cls (ir_m 172).1 (ir_m 172).1], w ∈ lw_tbl := by decide +kernel
set_option maxHeartbeats 2000000 in
theorem lw_c_tells (E : lw_E p s m meth c b L xs dC dI ad cI cL o) (I : lw_I s dC dI ad cI cL o σ g H locs) (hl : lw_L b o ad i ls) (hi : i + 6 ≤ L) (h : RR σ) (hcs : cells ≤ 601024 ∧ slots ≤ 7293034)
    (K : ∀ (σ' : ir_S) (H' : Heap) (locs' : List Loc), RR σ' → lw_I s dC dI ad cI cL o σ' g H' locs' → W p l e room_1 s m #[Value.ref b] below meth c H' locs' cells slots Q (F0 m 1231 ls [])) : W p l e room_1 s m #[Value.ref b] below meth c H locs cells slots Q (F0 m 974 ls []) := by
  obtain ⟨v, σ1, σ2, e1, e2, h2⟩ : PAIR 0 93 172 [.int (xs (i + 1))] σ := p_tells h
  refine lv_aload_n E.1.1 E.1.2.1 dL_law_974 rfl (lv_at hl 1 rfl) ?_
  refine lw_arg (K := 1) E I hl hi (by decide) (by decide) dL_law_975 dL_law_976 dL_law_978 dL_law_979 dL_law_980 ?_
  refine lw_virt (mi := 93) (bb := 0) (va := [.int (xs (i + 1))]) (rest := []) E I e1 rfl rfl rfl lw_w981 dL_law_981 rfl (Nat.le_of_ble_eq_true rfl) hl hcs (fun H locs I => ?_)
  refine lv_aload_n E.1.1 E.1.2.1 dL_law_984 rfl (lv_at hl 2 rfl) ?_
  refine lw_arg (K := 1) E I hl hi (by decide) (by decide) dL_law_985 dL_law_986 dL_law_988 dL_law_989 dL_law_990 ?_
  refine lw_virt (mi := 172) (bb := 33) (va := [.int (xs (i + 1))]) (rest := [.int v]) E I e2 rfl rfl rfl lw_w991 dL_law_991 rfl (Nat.le_of_ble_eq_true rfl) hl hcs (fun H locs I => ?_)
  refine lv_icmp_eq (tgt := 1231) E.1.1 E.1.2.1 dL_law_994 (by decide) (fun _ => ?_) (fun c9 => absurd rfl c9)
  exact K σ2 H locs h2 I
theorem lw_w1006 : ∀ w ∈ [Cond.methodLink RL 117 (ir_m 94).1, Cond.instanceMethod (ir_m 94).1, Cond.selects (ir_m 94).1.cls (ir_m 94).1 (ir_m 94).1], w ∈ lw_tbl := by decide +kernel
theorem lw_w1016 : ∀ w ∈ [Cond.methodLink RL 120 (ir_m 173).1, Cond.instanceMethod (ir_m 173).1, Cond.selects (ir_m 173).1.cls (ir_m 173).1 (ir_m 173).1], w ∈ lw_tbl := by decide +kernel
set_option maxHeartbeats 2000000 in
theorem lw_c_first (E : lw_E p s m meth c b L xs dC dI ad cI cL o) (I : lw_I s dC dI ad cI cL o σ g H locs) (hl : lw_L b o ad i ls) (hi : i + 6 ≤ L) (h : RR σ) (hcs : cells ≤ 601024 ∧ slots ≤ 7293034)
    (K : ∀ (σ' : ir_S) (H' : Heap) (locs' : List Loc), RR σ' → lw_I s dC dI ad cI cL o σ' g H' locs' → W p l e room_1 s m #[Value.ref b] below meth c H' locs' cells slots Q (F0 m 1231 ls [])) : W p l e room_1 s m #[Value.ref b] below meth c H locs cells slots Q (F0 m 999 ls []) := by
  obtain ⟨v, σ1, σ2, e1, e2, h2⟩ : PAIR 0 94 173 [.int (xs (i + 1))] σ := p_first h
  refine lv_aload_n E.1.1 E.1.2.1 dL_law_999 rfl (lv_at hl 1 rfl) ?_
  refine lw_arg (K := 1) E I hl hi (by decide) (by decide) dL_law_1000 dL_law_1001 dL_law_1003 dL_law_1004 dL_law_1005 ?_
  refine lw_virt (mi := 94) (bb := 0) (va := [.int (xs (i + 1))]) (rest := []) E I e1 rfl rfl rfl lw_w1006 dL_law_1006 rfl (Nat.le_of_ble_eq_true rfl) hl hcs (fun H locs I => ?_)
  refine lv_aload_n E.1.1 E.1.2.1 dL_law_1009 rfl (lv_at hl 2 rfl) ?_
  refine lw_arg (K := 1) E I hl hi (by decide) (by decide) dL_law_1010 dL_law_1011 dL_law_1013 dL_law_1014 dL_law_1015 ?_
  refine lw_virt (mi := 173) (bb := 33) (va := [.int (xs (i + 1))]) (rest := [.int v]) E I e2 rfl rfl rfl lw_w1016 dL_law_1016 rfl (Nat.le_of_ble_eq_true rfl) hl hcs (fun H locs I => ?_)
  refine lv_icmp_eq (tgt := 1231) E.1.1 E.1.2.1 dL_law_1019 (by decide) (fun _ => ?_) (fun c9 => absurd rfl c9)
  exact K σ2 H locs h2 I
theorem lw_w1031 : ∀ w ∈ [Cond.methodLink RL 121 (ir_m 95).1, Cond.instanceMethod (ir_m 95).1, Cond.selects (ir_m 95).1.cls (ir_m 95).1 (ir_m 95).1], w ∈ lw_tbl := by decide +kernel
theorem lw_w1041 : ∀ w ∈ [Cond.methodLink RL 124 (ir_m 174).1, Cond.instanceMethod (ir_m 174).1, Cond.selects (ir_m 174).1.cls (ir_m 174).1 (ir_m 174).1], w ∈ lw_tbl := by decide +kernel
set_option maxHeartbeats 2000000 in
theorem lw_c_begin (E : lw_E p s m meth c b L xs dC dI ad cI cL o) (I : lw_I s dC dI ad cI cL o σ g H locs) (hl : lw_L b o ad i ls) (hi : i + 6 ≤ L) (h : RR σ) (hcs : cells ≤ 601024 ∧ slots ≤ 7293034)
    (K : ∀ (σ' : ir_S) (H' : Heap) (locs' : List Loc), RR σ' → lw_I s dC dI ad cI cL o σ' g H' locs' → W p l e room_1 s m #[Value.ref b] below meth c H' locs' cells slots Q (F0 m 1231 ls [])) : W p l e room_1 s m #[Value.ref b] below meth c H locs cells slots Q (F0 m 1024 ls []) := by
  obtain ⟨v, σ1, σ2, e1, e2, h2⟩ : PAIR 0 95 174 [.int (xs (i + 1))] σ := p_begin h
  refine lv_aload_n E.1.1 E.1.2.1 dL_law_1024 rfl (lv_at hl 1 rfl) ?_
  refine lw_arg (K := 1) E I hl hi (by decide) (by decide) dL_law_1025 dL_law_1026 dL_law_1028 dL_law_1029 dL_law_1030 ?_
  refine lw_virt (mi := 95) (bb := 0) (va := [.int (xs (i + 1))]) (rest := []) E I e1 rfl rfl rfl lw_w1031 dL_law_1031 rfl (Nat.le_of_ble_eq_true rfl) hl hcs (fun H locs I => ?_)
  refine lv_aload_n E.1.1 E.1.2.1 dL_law_1034 rfl (lv_at hl 2 rfl) ?_
  refine lw_arg (K := 1) E I hl hi (by decide) (by decide) dL_law_1035 dL_law_1036 dL_law_1038 dL_law_1039 dL_law_1040 ?_
  refine lw_virt (mi := 174) (bb := 33) (va := [.int (xs (i + 1))]) (rest := [.int v]) E I e2 rfl rfl rfl lw_w1041 dL_law_1041 rfl (Nat.le_of_ble_eq_true rfl) hl hcs (fun H locs I => ?_)
  refine lv_icmp_eq (tgt := 1231) E.1.1 E.1.2.1 dL_law_1044 (by decide) (fun _ => ?_) (fun c9 => absurd rfl c9)
  exact K σ2 H locs h2 I
theorem lw_w1056 : ∀ w ∈ [Cond.methodLink RL 125 (ir_m 96).1, Cond.instanceMethod (ir_m 96).1, Cond.selects (ir_m 96).1.cls (ir_m 96).1 (ir_m 96).1], w ∈ lw_tbl := by decide +kernel
theorem lw_w1066 : ∀ w ∈ [Cond.methodLink RL 128 (ir_m 175).1, Cond.instanceMethod (ir_m 175).1, Cond.selects (ir_m 175).1.cls (ir_m 175).1 (ir_m 175).1], w ∈ lw_tbl := by decide +kernel
set_option maxHeartbeats 2000000 in
theorem lw_c_use (E : lw_E p s m meth c b L xs dC dI ad cI cL o) (I : lw_I s dC dI ad cI cL o σ g H locs) (hl : lw_L b o ad i ls) (hi : i + 6 ≤ L) (h : RR σ) (hcs : cells ≤ 601024 ∧ slots ≤ 7293034)
    (K : ∀ (σ' : ir_S) (H' : Heap) (locs' : List Loc), RR σ' → lw_I s dC dI ad cI cL o σ' g H' locs' → W p l e room_1 s m #[Value.ref b] below meth c H' locs' cells slots Q (F0 m 1231 ls [])) : W p l e room_1 s m #[Value.ref b] below meth c H locs cells slots Q (F0 m 1049 ls []) := by
  obtain ⟨v, σ1, σ2, e1, e2, h2⟩ : PAIR 0 96 175 [.int (xs (i + 1))] σ := p_use h
  refine lv_aload_n E.1.1 E.1.2.1 dL_law_1049 rfl (lv_at hl 1 rfl) ?_
  refine lw_arg (K := 1) E I hl hi (by decide) (by decide) dL_law_1050 dL_law_1051 dL_law_1053 dL_law_1054 dL_law_1055 ?_
  refine lw_virt (mi := 96) (bb := 0) (va := [.int (xs (i + 1))]) (rest := []) E I e1 rfl rfl rfl lw_w1056 dL_law_1056 rfl (Nat.le_of_ble_eq_true rfl) hl hcs (fun H locs I => ?_)
  refine lv_aload_n E.1.1 E.1.2.1 dL_law_1059 rfl (lv_at hl 2 rfl) ?_
  refine lw_arg (K := 1) E I hl hi (by decide) (by decide) dL_law_1060 dL_law_1061 dL_law_1063 dL_law_1064 dL_law_1065 ?_
  refine lw_virt (mi := 175) (bb := 33) (va := [.int (xs (i + 1))]) (rest := [.int v]) E I e2 rfl rfl rfl lw_w1066 dL_law_1066 rfl (Nat.le_of_ble_eq_true rfl) hl hcs (fun H locs I => ?_)
  refine lv_icmp_eq (tgt := 1231) E.1.1 E.1.2.1 dL_law_1069 (by decide) (fun _ => ?_) (fun c9 => absurd rfl c9)
  exact K σ2 H locs h2 I
theorem lw_w1075 : ∀ w ∈ [Cond.methodLink RL 129 (ir_m 97).1, Cond.instanceMethod (ir_m 97).1, Cond.selects (ir_m 97).1.cls (ir_m 97).1 (ir_m 97).1], w ∈ lw_tbl := by decide +kernel
theorem lw_w1079 : ∀ w ∈ [Cond.methodLink RL 132 (ir_m 176).1, Cond.instanceMethod (ir_m 176).1, Cond.selects (ir_m 176).1.cls (ir_m 176).1 (ir_m 176).1], w ∈ lw_tbl := by decide +kernel
set_option maxHeartbeats 2000000 in
theorem lw_c_left (E : lw_E p s m meth c b L xs dC dI ad cI cL o) (I : lw_I s dC dI ad cI cL o σ g H locs) (hl : lw_L b o ad i ls) (hi : i + 6 ≤ L) (h : RR σ) (hcs : cells ≤ 601024 ∧ slots ≤ 7293034)
    (K : ∀ (σ' : ir_S) (H' : Heap) (locs' : List Loc), RR σ' → lw_I s dC dI ad cI cL o σ' g H' locs' → W p l e room_1 s m #[Value.ref b] below meth c H' locs' cells slots Q (F0 m 1231 ls [])) : W p l e room_1 s m #[Value.ref b] below meth c H locs cells slots Q (F0 m 1074 ls []) := by
  obtain ⟨v, σ1, σ2, e1, e2, h2⟩ := p_left (d := 0)  h
  refine lv_aload_n E.1.1 E.1.2.1 dL_law_1074 rfl (lv_at hl 1 rfl) ?_
  refine lw_virt (mi := 97) (bb := 0) (va := []) (rest := []) E I e1 rfl rfl rfl lw_w1075 dL_law_1075 rfl (Nat.le_of_ble_eq_true rfl) hl hcs (fun H locs I => ?_)
  refine lv_aload_n E.1.1 E.1.2.1 dL_law_1078 rfl (lv_at hl 2 rfl) ?_
  refine lw_virt (mi := 176) (bb := 33) (va := []) (rest := [.int v]) E I e2 rfl rfl rfl lw_w1079 dL_law_1079 rfl (Nat.le_of_ble_eq_true rfl) hl hcs (fun H locs I => ?_)
  refine lv_icmp_eq (tgt := 1231) E.1.1 E.1.2.1 dL_law_1082 (by decide) (fun _ => ?_) (fun c9 => absurd rfl c9)
  exact K σ2 H locs h2 I
theorem lw_w1094 : ∀ w ∈ [Cond.methodLink RL 133 (ir_m 98).1, Cond.instanceMethod (ir_m 98).1, Cond.selects (ir_m 98).1.cls (ir_m 98).1 (ir_m 98).1], w ∈ lw_tbl := by decide +kernel
theorem lw_w1104 : ∀ w ∈ [Cond.methodLink RL 136 (ir_m 177).1, Cond.instanceMethod (ir_m 177).1, Cond.selects (ir_m 177).1.cls (ir_m 177).1 (ir_m 177).1], w ∈ lw_tbl := by decide +kernel
set_option maxHeartbeats 2000000 in
theorem lw_c_mend (E : lw_E p s m meth c b L xs dC dI ad cI cL o) (I : lw_I s dC dI ad cI cL o σ g H locs) (hl : lw_L b o ad i ls) (hi : i + 6 ≤ L) (h : RR σ) (hcs : cells ≤ 601024 ∧ slots ≤ 7293034)
    (K : ∀ (σ' : ir_S) (H' : Heap) (locs' : List Loc), RR σ' → lw_I s dC dI ad cI cL o σ' g H' locs' → W p l e room_1 s m #[Value.ref b] below meth c H' locs' cells slots Q (F0 m 1231 ls [])) : W p l e room_1 s m #[Value.ref b] below meth c H locs cells slots Q (F0 m 1087 ls []) := by
  obtain ⟨v, σ1, σ2, e1, e2, h2⟩ : PAIR 0 98 177 [.int (xs (i + 1))] σ := p_mend h
  refine lv_aload_n E.1.1 E.1.2.1 dL_law_1087 rfl (lv_at hl 1 rfl) ?_
  refine lw_arg (K := 1) E I hl hi (by decide) (by decide) dL_law_1088 dL_law_1089 dL_law_1091 dL_law_1092 dL_law_1093 ?_
  refine lw_virt (mi := 98) (bb := 0) (va := [.int (xs (i + 1))]) (rest := []) E I e1 rfl rfl rfl lw_w1094 dL_law_1094 rfl (Nat.le_of_ble_eq_true rfl) hl hcs (fun H locs I => ?_)
  refine lv_aload_n E.1.1 E.1.2.1 dL_law_1097 rfl (lv_at hl 2 rfl) ?_
  refine lw_arg (K := 1) E I hl hi (by decide) (by decide) dL_law_1098 dL_law_1099 dL_law_1101 dL_law_1102 dL_law_1103 ?_
  refine lw_virt (mi := 177) (bb := 33) (va := [.int (xs (i + 1))]) (rest := [.int v]) E I e2 rfl rfl rfl lw_w1104 dL_law_1104 rfl (Nat.le_of_ble_eq_true rfl) hl hcs (fun H locs I => ?_)
  refine lv_icmp_eq (tgt := 1231) E.1.1 E.1.2.1 dL_law_1107 (by decide) (fun _ => ?_) (fun c9 => absurd rfl c9)
  exact K σ2 H locs h2 I
theorem lw_w1113 : ∀ w ∈ [Cond.methodLink RL 137 (ir_m 99).1, Cond.instanceMethod (ir_m 99).1, Cond.selects (ir_m 99).1.cls (ir_m 99).1 (ir_m 99).1], w ∈ lw_tbl := by decide +kernel
theorem lw_w1117 : ∀ w ∈ [Cond.methodLink RL 140 (ir_m 178).1, Cond.instanceMethod (ir_m 178).1, Cond.selects (ir_m 178).1.cls (ir_m 178).1 (ir_m 178).1], w ∈ lw_tbl := by decide +kernel
set_option maxHeartbeats 2000000 in
theorem lw_c_well (E : lw_E p s m meth c b L xs dC dI ad cI cL o) (I : lw_I s dC dI ad cI cL o σ g H locs) (hl : lw_L b o ad i ls) (hi : i + 6 ≤ L) (h : RR σ) (hcs : cells ≤ 601024 ∧ slots ≤ 7293034)
    (K : ∀ (σ' : ir_S) (H' : Heap) (locs' : List Loc), RR σ' → lw_I s dC dI ad cI cL o σ' g H' locs' → W p l e room_1 s m #[Value.ref b] below meth c H' locs' cells slots Q (F0 m 1231 ls [])) : W p l e room_1 s m #[Value.ref b] below meth c H locs cells slots Q (F0 m 1112 ls []) := by
  obtain ⟨v, σ1, σ2, e1, e2, h2⟩ := p_well (d := 0)  h
  refine lv_aload_n E.1.1 E.1.2.1 dL_law_1112 rfl (lv_at hl 1 rfl) ?_
  refine lw_virt (mi := 99) (bb := 0) (va := []) (rest := []) E I e1 rfl rfl rfl lw_w1113 dL_law_1113 rfl (Nat.le_of_ble_eq_true rfl) hl hcs (fun H locs I => ?_)
  refine lv_aload_n E.1.1 E.1.2.1 dL_law_1116 rfl (lv_at hl 2 rfl) ?_
  refine lw_virt (mi := 178) (bb := 33) (va := []) (rest := [.int v]) E I e2 rfl rfl rfl lw_w1117 dL_law_1117 rfl (Nat.le_of_ble_eq_true rfl) hl hcs (fun H locs I => ?_)
  refine lv_icmp_eq (tgt := 1231) E.1.1 E.1.2.1 dL_law_1120 (by decide) (fun _ => ?_) (fun c9 => absurd rfl c9)
  exact K σ2 H locs h2 I
theorem lw_w1132 : ∀ w ∈ [Cond.methodLink RL 141 (ir_m 100).1, Cond.instanceMethod (ir_m 100).1, Cond.selects (ir_m 100).1.cls (ir_m 100).1 (ir_m 100).1], w ∈ lw_tbl := by decide +kernel
theorem lw_w1142 : ∀ w ∈ [Cond.methodLink RL 144 (ir_m 179).1, Cond.instanceMethod (ir_m 179).1, Cond.selects (ir_m 179).1.cls (ir_m 179).1 (ir_m 179).1], w ∈ lw_tbl := by decide +kernel
set_option maxHeartbeats 2000000 in
theorem lw_c_claim (E : lw_E p s m meth c b L xs dC dI ad cI cL o) (I : lw_I s dC dI ad cI cL o σ g H locs) (hl : lw_L b o ad i ls) (hi : i + 6 ≤ L) (h : RR σ) (hcs : cells ≤ 601024 ∧ slots ≤ 7293034)
    (K : ∀ (σ' : ir_S) (H' : Heap) (locs' : List Loc), RR σ' → lw_I s dC dI ad cI cL o σ' g H' locs' → W p l e room_1 s m #[Value.ref b] below meth c H' locs' cells slots Q (F0 m 1231 ls [])) : W p l e room_1 s m #[Value.ref b] below meth c H locs cells slots Q (F0 m 1125 ls []) := by
  obtain ⟨v, σ1, σ2, e1, e2, h2⟩ : PAIR 0 100 179 [.int (xs (i + 1))] σ := p_claim h
  refine lv_aload_n E.1.1 E.1.2.1 dL_law_1125 rfl (lv_at hl 1 rfl) ?_
  refine lw_arg (K := 1) E I hl hi (by decide) (by decide) dL_law_1126 dL_law_1127 dL_law_1129 dL_law_1130 dL_law_1131 ?_
  refine lw_virt (mi := 100) (bb := 0) (va := [.int (xs (i + 1))]) (rest := []) E I e1 rfl rfl rfl lw_w1132 dL_law_1132 rfl (Nat.le_of_ble_eq_true rfl) hl hcs (fun H locs I => ?_)
  refine lv_aload_n E.1.1 E.1.2.1 dL_law_1135 rfl (lv_at hl 2 rfl) ?_
  refine lw_arg (K := 1) E I hl hi (by decide) (by decide) dL_law_1136 dL_law_1137 dL_law_1139 dL_law_1140 dL_law_1141 ?_
  refine lw_virt (mi := 179) (bb := 33) (va := [.int (xs (i + 1))]) (rest := [.int v]) E I e2 rfl rfl rfl lw_w1142 dL_law_1142 rfl (Nat.le_of_ble_eq_true rfl) hl hcs (fun H locs I => ?_)
  refine lv_icmp_eq (tgt := 1231) E.1.1 E.1.2.1 dL_law_1145 (by decide) (fun _ => ?_) (fun c9 => absurd rfl c9)
  exact K σ2 H locs h2 I
theorem lw_w1157 : ∀ w ∈ [Cond.methodLink RL 145 (ir_m 101).1, Cond.instanceMethod (ir_m 101).1, Cond.selects (ir_m 101).1.cls (ir_m 101).1 (ir_m 101).1], w ∈ lw_tbl := by decide +kernel
theorem lw_w1167 : ∀ w ∈ [Cond.methodLink RL 148 (ir_m 180).1, Cond.instanceMethod (ir_m 180).1, Cond.selects (ir_m 180).1.cls (ir_m 180).1 (ir_m 180).1], w ∈ lw_tbl := by decide +kernel
set_option maxHeartbeats 2000000 in
theorem lw_c_mark (E : lw_E p s m meth c b L xs dC dI ad cI cL o) (I : lw_I s dC dI ad cI cL o σ g H locs) (hl : lw_L b o ad i ls) (hi : i + 6 ≤ L) (h : RR σ) (hcs : cells ≤ 601024 ∧ slots ≤ 7293034)
    (K : ∀ (σ' : ir_S) (H' : Heap) (locs' : List Loc), RR σ' → lw_I s dC dI ad cI cL o σ' g H' locs' → W p l e room_1 s m #[Value.ref b] below meth c H' locs' cells slots Q (F0 m 1231 ls [])) : W p l e room_1 s m #[Value.ref b] below meth c H locs cells slots Q (F0 m 1150 ls []) := by
  obtain ⟨v, σ1, σ2, e1, e2, h2⟩ : PAIR 0 101 180 [.int (xs (i + 1))] σ := p_mark h
  refine lv_aload_n E.1.1 E.1.2.1 dL_law_1150 rfl (lv_at hl 1 rfl) ?_
  refine lw_arg (K := 1) E I hl hi (by decide) (by decide) dL_law_1151 dL_law_1152 dL_law_1154 dL_law_1155 dL_law_1156 ?_
  refine lw_virt (mi := 101) (bb := 0) (va := [.int (xs (i + 1))]) (rest := []) E I e1 rfl rfl rfl lw_w1157 dL_law_1157 rfl (Nat.le_of_ble_eq_true rfl) hl hcs (fun H locs I => ?_)
  refine lv_aload_n E.1.1 E.1.2.1 dL_law_1160 rfl (lv_at hl 2 rfl) ?_
  refine lw_arg (K := 1) E I hl hi (by decide) (by decide) dL_law_1161 dL_law_1162 dL_law_1164 dL_law_1165 dL_law_1166 ?_
  refine lw_virt (mi := 180) (bb := 33) (va := [.int (xs (i + 1))]) (rest := [.int v]) E I e2 rfl rfl rfl lw_w1167 dL_law_1167 rfl (Nat.le_of_ble_eq_true rfl) hl hcs (fun H locs I => ?_)
  refine lv_icmp_eq (tgt := 1231) E.1.1 E.1.2.1 dL_law_1170 (by decide) (fun _ => ?_) (fun c9 => absurd rfl c9)
  exact K σ2 H locs h2 I
end LWV
