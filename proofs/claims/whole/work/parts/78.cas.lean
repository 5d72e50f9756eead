/-! the law's cases answer and row -/
theorem lw_gA : GoodIn lw_tbl (va_wsS RL 84 yL_answer (.codeWith yL_answer cL_answer 5 (some .int) [(0, 10, 13, 13)] :: xLT)) := goodIn_app (a := [Cond.methodLink RL 84 yL_answer, Cond.static yL_answer, Cond.initialized yL_answer.cls, Cond.codeWith yL_answer cL_answer 5 (some .int) [(0, 10, 13, 13)]]) (goodIn_sub (by decide +kernel) (by decide +kernel)) xLT_good
theorem lw_gR : GoodIn lw_tbl (va_wsS RL 149 yL_row (.codeWith yL_row cL_row 4 (some .int) [(0, 9, 12, 13)] :: xLT)) := goodIn_app (a := [Cond.methodLink RL 149 yL_row, Cond.static yL_row, Cond.initialized yL_row.cls, Cond.codeWith yL_row cL_row 4 (some .int) [(0, 9, 12, 13)]]) (goodIn_sub (by decide +kernel) (by decide +kernel)) xLT_good
theorem lw_w777 : ∀ w ∈ [Cond.methodLink RL 89 (ir_m 159).1, Cond.instanceMethod (ir_m 159).1, Cond.selects (ir_m 159).1.cls (ir_m 159).1 (ir_m 159).1], w ∈ lw_tbl := by decide +kernel
theorem lw_w783 : ∀ w ∈ [Cond.methodLink RL 90 (ir_m 118).1, Cond.instanceMethod (ir_m 118).1, Cond.selects (ir_m 118).1.cls (ir_m 118).1 (ir_m 118).1], w ∈ lw_tbl := by decide +kernel
theorem lw_w1195 : ∀ w ∈ [Cond.methodLink RL 152 (ir_m 181).1, Cond.instanceMethod (ir_m 181).1, Cond.selects (ir_m 181).1.cls (ir_m 181).1 (ir_m 181).1], w ∈ lw_tbl := by decide +kernel
section LWX
variable {p : Program} {l : Launch} {e : Env} {s : State} {m : MethodId} {below : List Frame} {meth : Method} {c : Code} {Q : State → Prop} {dC : Nat → ClassId} {dI : Nat → Nat → Nat} {ad : Nat → Nat} {cI cL : ClassId} {b L o : Nat} {xs : Nat → Int32} {H : Heap} {locs : List Loc} {cells slots : Nat} {ls : Array Slot} {pc : Nat} {σ σ' : ir_S} {g g' : Nat → Int64} {i : Nat} {rest : List Value}
theorem lw_callX {args : Array Value} {R : Room} {H0 : Heap} {st0 : List Value} {r : Int32} {a : Array Value} {A : Nat → Prop} (hAA : ∀ q, xAo ad o q → A q)
    (hr : va_Run p l e R s m args below meth c H locs cells slots 1 6 (F0 m pc ls st0) rest (xQL dC dI ad cI cL o r σ' g' a) (xAo ad o)) (hS : va_S A H0 H locs)
    (kk : ∀ (H1 : Heap) (locs1 : List Loc), va_P (dC, dI) vwCl (ir_ws ad cI σ') H1 → va_P (dC, dI) vwCl [(o, .inl (cL, 1, .inr (.inl g')))] H1 → va_S A H0 H1 locs1 → W p l e R s m args below meth c H1 locs1 (cells + 1) (slots + 6) Q (F0 m (pc + 3) ls (.int r :: rest))) : W p l e R s m args below meth c H locs cells slots Q (F0 m pc ls st0) := by
  intro T hT X
  obtain ⟨v, st₀, t, T', L, h0, X', hL, e1, e2, ⟨hv, hb, hb2, hz, hk⟩, st⟩ := hr T hT X
  cases hv
  rw [h0] at hz hk
  obtain ⟨t2, a1, b1⟩ := kk T'.heap (locs ++ L) (by rw [e1]; exact hb) (by rw [e1]; exact hb2)
    ⟨Nat.le_trans hS.1 (by rw [e1]; exact hz), fun q h1 h2 => by rw [e1, hk q (Nat.lt_of_lt_of_le h1 hS.1) (fun z => h2 (hAA q z))]; exact hS.2.1 q h1 h2, fun q hq => by
      rcases List.mem_append.mp hq with h | h
      · exact hS.2.2 q h
      · exact hAA _ (hL q h)⟩ T' rfl X'
  exact ⟨t2, st t2 a1, b1⟩
theorem lw_stat {y : MethodName} {bytes : ByteArray} {maxL ix n : Nat} {hh : List (Nat × Nat × Nat × Nat)} {As st : List Value} {r : Int32} (E : lw_E p s m meth c b L xs dC dI ad cI cL o) (I : lw_I s dC dI ad cI cL o σ g H locs)
    (hM : ∀ sa1 sa2, Met l y (.codeWith y bytes maxL (some .int) hh :: xLT) xRL (va_Pc As (xPL dC dI ad cI cL o sa1 sa2 σ g)) (xQL dC dI ad cI cL o r σ' g') 1 6 (xAo ad o))
    (hw : GoodIn lw_tbl (va_wsS RL ix y (.codeWith y bytes maxL (some .int) hh :: xLT))) (hy : y.cls ≠ "java/lang/invoke/MethodHandle" ∧ y.cls ≠ "java/lang/invoke/VarHandle" ∧ (parseMethodDescriptor y.desc).map (fun d => d.parameters.length) = some n) (hmL : maxL ≤ 20) (hn : As.length = n)
    (hd : decode cL_law pc = .ok (.invokestatic ix, 3)) (hst : st = As.reverse ++ rest) (hrest : (rest.map fun v => v.category).sum ≤ 8) (hL : lw_L b o ad i ls) (hcs : cells + 1 ≤ 601024 ∧ slots + 6 ≤ 7293034)
    (kk : ∀ (H1 : Heap) (locs1 : List Loc), lw_I s dC dI ad cI cL o σ' g' H1 locs1 → W p l e room_1 s m #[Value.ref b] below meth c H1 locs1 (cells + 1) (slots + 6) Q (F0 m (pc + 3) ls (.int r :: rest))) : W p l e room_1 s m #[Value.ref b] below meth c H locs cells slots Q (F0 m pc ls st) := by
  obtain ⟨sa1, sa2, hXP⟩ := lw_XP E.1
  obtain ⟨⟨hx, hb, hr, hml, hown, hts, hX, hbl, hlocks, hgv⟩, hK0, hN, hinj, had, ho, hno, hL3⟩ := E
  obtain ⟨hP, hPo, hS⟩ := I
  have hK := hK0.sub (tys' := [(cI, .int)]) [0] rfl
  have hKo := hK0.sub (tys' := [(cL, .long)]) [1] rfl
  have hAA : ∀ q, xAo ad o q → s.heap.size ≤ q := fun q h => by
    rcases h with ⟨i, hi, e9⟩ | e9
    · rw [e9]; exact had i hi
    · rw [e9]; exact ho
  refine lw_callX (A := fun q : Nat => s.heap.size ≤ q) hAA (a := As.toArray) (vx_runSW (bytes := bytes) (maxL := maxL) (ret := some .int) (hh := hh) (n := n) (own := RL) (As := As) (rest := rest) ⟨hx, hb, hml, hown, hts⟩ (hM sa1 sa2)
    (vx_cwSW n hts hw rfl rfl rfl hy ⟨Nat.le_of_ble_eq_true rfl, ?_⟩)
    ⟨xPL_blind, fun U hU hW => ⟨rfl, ⟨by rw [hU]; exact hP, va_K.moved hW.alike hK, ir_N_warm hW hN⟩, by rw [hU]; exact hPo, va_K.moved hW.alike hKo, by rw [hU]; exact XP.warm hW ((hXP.kept hS.2.1).narrow hAA)⟩⟩
    rfl hn hL.1 hst (lv_room hrest) hd ⟨hcs.1, hcs.2⟩) hS (fun H1 locs1 hP1 hP2 hS1 => kk H1 locs1 ⟨hP1, hP2, hS1⟩)
  show 8 + (maxL + 11) + 2500 ≤ 84000
  omega
theorem lw_tl {off : Int} {r v : Int32} (hg : r = 0 → g 0 = v.toInt64) (E : lw_E p s m meth c b L xs dC dI ad cI cL o) (I : lw_I s dC dI ad cI cL o σ g H locs) (hl : lv_has ls 7 [(5, .int r), (0, .ref b), (1, .ref (ad 0)), (2, .ref (ad 33)), (3, .ref o), (4, .int (nI i))]) (hth : σ 33 0 = r) (hcs : cells ≤ 601024 ∧ slots ≤ 7293034)
    (d0 : decode cL_law pc = .ok (.istore 6, 2)) (d2 : decode cL_law (pc + 2) = .ok (.aload_n 2, 1)) (d3 : decode cL_law (pc + 3) = .ok (.invokevirtual 90, 3)) (d6 : decode cL_law (pc + 6) = .ok (.iload 5, 2)) (d8 : decode cL_law (pc + 8) = .ok (.if_icmp .eq 5, 3))
    (d13 : decode cL_law (pc + 13) = .ok (.iload 5, 2)) (d15 : decode cL_law (pc + 15) = .ok (.ifCond .ne 15, 3)) (d18 : decode cL_law (pc + 18) = .ok (.aload_n 3, 1)) (d19 : decode cL_law (pc + 19) = .ok (.iconst 0, 1)) (d20 : decode cL_law (pc + 20) = .ok (.laload, 1))
    (d21 : decode cL_law (pc + 21) = .ok (.iload 6, 2)) (d23 : decode cL_law (pc + 23) = .ok (.i2l, 1)) (d24 : decode cL_law (pc + 24) = .ok (.lcmp, 1)) (d25 : decode cL_law (pc + 25) = .ok (.ifCond .eq 5, 3)) (d30 : decode cL_law (pc + 30) = .ok (.goto off, 3)) (hoff : (pc : Int) + 30 + off = 1231)
    (kk : ∀ (H1 : Heap) (locs1 : List Loc) (ls' : Array Slot), lw_I s dC dI ad cI cL o σ g H1 locs1 → lw_L b o ad i ls' → W p l e room_1 s m #[Value.ref b] below meth c H1 locs1 cells slots Q (F0 m 1231 ls' [])) : W p l e room_1 s m #[Value.ref b] below meth c H locs cells slots Q (F0 m pc ls [.int v]) := by
  have hx := E.1.1
  have hb := E.1.2.1
  have hKo := E.2.1.sub (tys' := [(cL, .long)]) [1] rfl
  refine lv_istore (lv' := [(6, .int v), (5, .int r), (0, .ref b), (1, .ref (ad 0)), (2, .ref (ad 33)), (3, .ref o), (4, .int (nI i))]) hx hb d0 hl (by decide) rfl (fun ls hl => ?_)
  have hL : lw_L b o ad i ls := lv_sub hl [2, 3, 4, 5, 6] rfl
  refine lv_aload_n hx hb d2 rfl (lv_at hl 4 rfl) ?_
  refine lw_virt (mi := 118) (bb := 33) (va := []) (rest := []) E I (c118 (d := 49)) rfl rfl rfl lw_w783 d3 rfl (Nat.le_of_ble_eq_true rfl) hL hcs (fun H locs I => ?_)
  rw [hth]
  refine lv_iload hx hb d6 (lv_at hl 1 rfl) ?_
  refine lv_icmp_eq (tgt := pc + 13) hx hb d8 (by omega) (fun _ => ?_) (fun c9 => absurd rfl c9)
  refine lv_iload hx hb d13 (lv_at hl 1 rfl) ?_
  refine lv_if_ne (tgt := pc + 30) hx hb d15 (by omega) (fun _ => ?_) (fun c9 => ?_)
  · refine lv_goto (tgt := 1231) hx hb d30 (by omega) ?_
    exact kk H locs ls I hL
  · refine lv_aload_n hx hb d18 rfl (lv_at hl 5 rfl) ?_
    refine lv_iconst (v := 0) hx hb d19 (by decide) ?_
    refine va_lald hx hb hKo I.2.1 0 0 rfl rfl (vp_in_nI (n := 0) (show 0 < 1 by decide) (by decide)) d20 ?_
    refine lv_iload hx hb d21 (lv_at hl 0 rfl) ?_
    refine lv_i2l (v := v.toInt64) hx hb d23 rfl ?_
    refine W.lcmp hx hb d24 ?_
    refine lv_if_eq (tgt := pc + 30) hx hb d25 (by omega) (fun _ => ?_) (fun c8 => absurd ((lg_cmp_eq _ _).mpr (hg c9)) c8)
    refine lv_goto (tgt := 1231) hx hb d30 (by omega) ?_
    exact kk H locs ls I hL
end LWX
set_option maxHeartbeats 2000000 in
theorem lw_cA : lw_cs 745 := by
  intro p l e s m below meth c Q dC dI ad cI cL b L o xs H locs cells slots ls σ g i hst E I hl hi h hcs K
  have hinj := E.2.2.2.1
  have hno := E.2.2.2.2.2.2.1
  have hx := E.1.1
  have hb := E.1.2.1
  refine lv_aload_n hx hb dL_law_745 rfl (lv_at hl 1 rfl) ?_
  refine lw_arg (K := 1) E I hl hi (by decide) (by decide) dL_law_746 dL_law_747 dL_law_749 dL_law_750 dL_law_751 ?_
  refine lw_arg (K := 2) E I hl hi (by decide) (by decide) dL_law_752 dL_law_753 dL_law_755 dL_law_756 dL_law_757 ?_
  refine lv_aload_n hx hb dL_law_758 rfl (lv_at hl 3 rfl) ?_
  obtain ⟨r, a, σ1, σ2, g1, hM, e2, e3, h2, hg⟩ : ∃ (r a : Int32) (σ1 σ2 : ir_S) (g1 : Nat → Int64), (∀ sa1 sa2, Met l yL_answer (.codeWith yL_answer cL_answer 5 (some .int) [(0, 10, 13, 13)] :: xLT) xRL (va_Pc [.ref (ad 0), .int (xs (i + 1)), .int (xs (i + 2)), .ref o] (xPL dC dI ad cI cL o sa1 sa2 σ g)) (xQL dC dI ad cI cL o r σ1 g1) 1 6 (xAo ad o)) ∧ ir_ev 50 159 [.ref 33, .int (xs (i + 1)), .int (xs (i + 2))] σ1 = some (some (.int a), σ2) ∧ σ2 33 0 = r ∧ RR σ2 ∧ (r = 0 → g1 0 = a.toInt64) := by
    rcases p_answer (d := 0) (v := xs (i + 1)) (w := xs (i + 2)) h with ⟨hn, a, σ1, σ2, e1, e2, e3, h2⟩ | ⟨hn, σ2, e2, e3, h2⟩
    · exact ⟨0, a, σ1, σ2, vp_updL g 0 a.toInt64, fun sa1 sa2 => k_LansR l dC dI ad cI cL o sa1 sa2 hinj hno _ _ a σ σ1 g e1, e2, e3, h2, fun _ => by simp [vp_updL]⟩
    · exact ⟨1, 0, σ, σ2, g, fun sa1 sa2 => k_LansX l hst dC dI ad cI cL o sa1 sa2 hinj hno _ _ σ g hn, e2, e3, h2, fun q => absurd q (by decide)⟩
  refine lw_stat (As := [.ref (ad 0), .int (xs (i + 1)), .int (xs (i + 2)), .ref o]) (rest := []) (n := 4) E I hM lw_gA (by decide +kernel) (by decide) rfl dL_law_759 rfl (Nat.le_of_ble_eq_true rfl) hl ⟨by omega, by omega⟩ (fun H locs I => ?_)
  refine lv_istore (lv' := [(5, .int r), (0, .ref b), (1, .ref (ad 0)), (2, .ref (ad 33)), (3, .ref o), (4, .int (nI i))]) hx hb dL_law_762 hl (by decide) rfl (fun ls hl5 => ?_)
  have hl : lw_L b o ad i ls := lv_sub hl5 [1, 2, 3, 4, 5] rfl
  refine lv_aload_n hx hb dL_law_764 rfl (lv_at hl 2 rfl) ?_
  refine lw_arg (K := 1) E I hl hi (by decide) (by decide) dL_law_765 dL_law_766 dL_law_768 dL_law_769 dL_law_770 ?_
  refine lw_arg (K := 2) E I hl hi (by decide) (by decide) dL_law_771 dL_law_772 dL_law_774 dL_law_775 dL_law_776 ?_
  refine lw_virt (mi := 159) (bb := 33) (va := [.int (xs (i + 1)), .int (xs (i + 2))]) (rest := []) E I e2 rfl rfl rfl lw_w777 dL_law_777 rfl (Nat.le_of_ble_eq_true rfl) hl ⟨by omega, by omega⟩ (fun H locs I => ?_)
  refine lw_tl (pc := 780) hg E I hl5 e3 ⟨by omega, by omega⟩ dL_law_780 dL_law_782 dL_law_783 dL_law_786 dL_law_788 dL_law_793 dL_law_795 dL_law_798 dL_law_799 dL_law_800 dL_law_801 dL_law_803 dL_law_804 dL_law_805 dL_law_810 (by decide) (fun H locs ls I hl => ?_)
  exact W.widen (by omega) (by omega) (K σ2 g1 H locs ls h2 I hl)
set_option maxHeartbeats 2000000 in
theorem lw_cR : lw_cs 1175 := by
  intro p l e s m below meth c Q dC dI ad cI cL b L o xs H locs cells slots ls σ g i hst E I hl hi h hcs K
  have hinj := E.2.2.2.1
  have hno := E.2.2.2.2.2.2.1
  have hx := E.1.1
  have hb := E.1.2.1
  refine lv_aload_n hx hb dL_law_1175 rfl (lv_at hl 1 rfl) ?_
  refine lw_arg (K := 1) E I hl hi (by decide) (by decide) dL_law_1176 dL_law_1177 dL_law_1179 dL_law_1180 dL_law_1181 ?_
  refine lv_aload_n hx hb dL_law_1182 rfl (lv_at hl 3 rfl) ?_
  obtain ⟨r, a, σ1, σ2, g1, hM, e2, e3, h2, hg⟩ : ∃ (r a : Int32) (σ1 σ2 : ir_S) (g1 : Nat → Int64), (∀ sa1 sa2, Met l yL_row (.codeWith yL_row cL_row 4 (some .int) [(0, 9, 12, 13)] :: xLT) xRL (va_Pc [.ref (ad 0), .int (xs (i + 1)), .ref o] (xPL dC dI ad cI cL o sa1 sa2 σ g)) (xQL dC dI ad cI cL o r σ1 g1) 1 6 (xAo ad o)) ∧ ir_ev 50 181 [.ref 33, .int (xs (i + 1))] σ1 = some (some (.int a), σ2) ∧ σ2 33 0 = r ∧ RR σ2 ∧ (r = 0 → g1 0 = a.toInt64) := by
    rcases p_row (d := 0) (v := xs (i + 1)) h with ⟨hn, a, σ1, σ2, e1, e2, e3, h2⟩ | ⟨hn, σ2, e2, e3, h2⟩
    · exact ⟨0, a, σ1, σ2, vp_updL g 0 a.toInt64, fun sa1 sa2 => k_LrowR l dC dI ad cI cL o sa1 sa2 hinj hno _ a σ σ1 g e1, e2, e3, h2, fun _ => by simp [vp_updL]⟩
    · exact ⟨1, 0, σ, σ2, g, fun sa1 sa2 => k_LrowX l hst dC dI ad cI cL o sa1 sa2 hinj hno _ σ g hn, e2, e3, h2, fun q => absurd q (by decide)⟩
  refine lw_stat (As := [.ref (ad 0), .int (xs (i + 1)), .ref o]) (rest := []) (n := 3) E I hM lw_gR (by decide +kernel) (by decide) rfl dL_law_1183 rfl (Nat.le_of_ble_eq_true rfl) hl ⟨by omega, by omega⟩ (fun H locs I => ?_)
  refine lv_istore (lv' := [(5, .int r), (0, .ref b), (1, .ref (ad 0)), (2, .ref (ad 33)), (3, .ref o), (4, .int (nI i))]) hx hb dL_law_1186 hl (by decide) rfl (fun ls hl5 => ?_)
  have hl : lw_L b o ad i ls := lv_sub hl5 [1, 2, 3, 4, 5] rfl
  refine lv_aload_n hx hb dL_law_1188 rfl (lv_at hl 2 rfl) ?_
  refine lw_arg (K := 1) E I hl hi (by decide) (by decide) dL_law_1189 dL_law_1190 dL_law_1192 dL_law_1193 dL_law_1194 ?_
  refine lw_virt (mi := 181) (bb := 33) (va := [.int (xs (i + 1))]) (rest := []) E I e2 rfl rfl rfl lw_w1195 dL_law_1195 rfl (Nat.le_of_ble_eq_true rfl) hl ⟨by omega, by omega⟩ (fun H locs I => ?_)
  refine lw_tl (pc := 1198) hg E I hl5 e3 ⟨by omega, by omega⟩ dL_law_1198 dL_law_1200 dL_law_1201 dL_law_1204 dL_law_1206 dL_law_1211 dL_law_1213 dL_law_1216 dL_law_1217 dL_law_1218 dL_law_1219 dL_law_1221 dL_law_1222 dL_law_1223 dL_law_1228 (by decide) (fun H locs ls I hl => ?_)
  exact W.widen (by omega) (by omega) (K σ2 g1 H locs ls h2 I hl)
