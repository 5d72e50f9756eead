section IRS
variable {p : Program} {l : Launch} {e : Env} {s : State} {m : MethodId} {args : Array Value} {below : List Frame} {meth : Method} {c : Code} {Q : State → Prop} {dC : Nat → ClassId} {dI : Nat → Nat → Nat} {ad : Nat → Nat} {cI : ClassId} {d mi : Nat} {E : Nat → List Value → ir_S → Option ir_R}
theorem ir_statW {pc ix : Nat} {L st : List Value} {σ : ir_S} {ls : Array Slot} {H : Heap} {locs : List Loc} {o : ir_R ⊕ ir_C} (fx : ir_Fx p s m args c dC dI ad cI mi) (hE : ∀ k vs σ r σ', E k vs σ = some (r, σ') → ir_Met l dC dI ad cI d k vs σ r σ') (hd : decode (ir_code mi) pc = .ok (.invokestatic ix, 3))
    (h : ir_stat E mi ix pc L st σ = some o) (rl : ir_Rel dC dI ad cI mi s L σ ls H locs)
    (K : ∀ pc' L' st' σ', o = .inr (pc', L', st', σ') → ∀ ls H locs, ir_Rel dC dI ad cI mi s L' σ' ls H locs → W p l e (ir_rm (d + 1)) s m args below meth c H locs 0 0 Q (F0 m pc' ls (st'.map (ir_cv ad)))) :
    W p l e (ir_rm (d + 1)) s m args below meth c H locs 0 0 Q (F0 m pc ls (st.map (ir_cv ad))) := by
  obtain ⟨hx, hb, hml, hown, hts, hK, hN, hinj⟩ := fx
  obtain ⟨r1, r2, r3, hP, hS⟩ := id rl
  unfold ir_stat at h
  replace h := ir_opt_some h
  obtain ⟨⟨kind, k⟩, hlk, h⟩ := h
  have hw := ir_in2 hlk
  have hsz : c.maxLocals = ls.size := by rw [hml, ← r1]; exact r3.1.symm
  by_cases e0 : kind = 0
  · rw [if_pos e0] at h; cases h
  rw [if_neg e0] at h
  by_cases e3 : kind = 3
  · rw [if_pos e3] at h
    subst e3
    replace h := ir_i2_some h
    obtain ⟨x, y, rest, rfl, h⟩ := h
    replace h := ir_ite_some h
    obtain ⟨hrest, h⟩ := h
    have hcs := ir_catsum ad rest hrest
    exact va_mmax hx hb hsz hown (hts _ (hw _ (by simp [ir_cw]))) (hts _ (hw _ (by simp [ir_cw]))) (hts _ (hw _ (by simp [ir_cw]))) (hts _ (hw _ (by simp [ir_cw]))) (by show 1 ≤ d + 1; omega) (by show _ ≤ 40 * (d + 1); omega) (Nat.le_refl _) (Nat.le_refl _) hd (K _ _ _ _ (ir_go_some h) ls H locs rl)
  rw [if_neg e3] at h
  by_cases e4 : kind = 4
  · rw [if_pos e4] at h
    subst e4
    replace h := ir_i2_some h
    obtain ⟨x, y, rest, rfl, h⟩ := h
    replace h := ir_ite_some h
    obtain ⟨hrest, h⟩ := h
    have hcs := ir_catsum ad rest hrest
    exact va_mmin hx hb hsz hown (hts _ (hw _ (by simp [ir_cw]))) (hts _ (hw _ (by simp [ir_cw]))) (hts _ (hw _ (by simp [ir_cw]))) (hts _ (hw _ (by simp [ir_cw]))) (by show 1 ≤ d + 1; omega) (by show _ ≤ 40 * (d + 1); omega) (Nat.le_refl _) (Nat.le_refl _) hd (K _ _ _ _ (ir_go_some h) ls H locs rl)
  rw [if_neg e4] at h
  replace h := ir_ite_some h
  obtain ⟨⟨hrest, hna⟩, h⟩ := h
  replace h := ir_after_some h
  obtain ⟨v, σ1, hEv, rfl⟩ := h
  have hM := hE k _ _ _ _ hEv
  obtain ⟨q1, q2, q3, q4, q5, q6, q7⟩ := ir_mok k
  have hlen : (st.take (ir_na k)).length = ir_na k := by
    rw [List.length_take]
    exact Nat.min_eq_left hna
  have hstk : st.map (ir_cv ad) = ((st.take (ir_na k)).reverse.map (ir_cv ad)).reverse ++ (st.drop (ir_na k)).map (ir_cv ad) := by
    conv => lhs; rw [← List.take_append_drop (ir_na k) st]
    rw [List.map_append, List.map_reverse, List.reverse_reverse]
  have hvr : (v.map Value.int).toList ++ (st.drop (ir_na k)).map (ir_cv ad) = (ir_tl v ++ st.drop (ir_na k)).map (ir_cv ad) := by cases v <;> rfl
  have hin := ir_look_mem hlk
  by_cases e1 : kind = 1
  · subst e1
    refine ir_callW (a := ((st.take (ir_na k)).reverse.map (ir_cv ad)).toArray) (va_runS (own := ir_Rn (ir_own mi)) (bytes := ir_code k) (maxL := ir_nL k) (ret := ir_ret k) (n := ir_na k) (As := ((st.take (ir_na k)).reverse).map (ir_cv ad)) (rest := (st.drop (ir_na k)).map (ir_cv ad)) ⟨hx, hb, hml, hown, hts⟩ hM
      ⟨callB_of (ws' := ir_T) (ir_na k) hts (ir_W_good k) rfl rfl rfl (hts _ (ir_in1 k).2) (hts _ (hw _ (by simp [ir_cw]))) ⟨q2, q3, q4⟩ (ir_hR k), hts _ (hw _ (by simp [ir_cw]))⟩
      ⟨ir_blind, fun U hU hW => ⟨rfl, by rw [hU]; exact hP, va_K.moved hW.alike hK, ir_N_warm hW hN⟩⟩
      rfl (by rw [List.length_map, List.length_reverse, hlen]) (by show ls.size = _; rw [r3.1, r1]) hstk (lv_room (ir_catsum ad _ hrest)) hd ⟨Nat.le_refl _, Nat.le_refl _⟩) hS (fun H1 locs1 hP1 hS1 => ?_)
    rw [hvr]
    exact K _ _ _ _ rfl ls H1 locs1 ⟨r1, r2, r3, hP1, hS1⟩
  · have e2 : kind = 2 := by
      have := ir_clok2_l _ hin.1 _ hin.2
      simp only at this
      omega
    subst e2
    refine ir_callW (a := ((st.take (ir_na k)).reverse.map (ir_cv ad)).toArray) (va_runSN (host := RX8) (own := ir_Rn (ir_own mi)) (bytes := ir_code k) (maxL := ir_nL k) (ret := ir_ret k) (n := ir_na k) (As := ((st.take (ir_na k)).reverse).map (ir_cv ad)) (rest := (st.drop (ir_na k)).map (ir_cv ad)) ⟨hx, hb, hml, hown, hts⟩ hM
      ⟨va_cnB (ws' := ir_T) (ir_na k) hts (ir_W_good k) rfl rfl rfl (hN _ hin.1 _ hin.2 rfl) (hts _ (ir_in1 k).2) ⟨q2, q3, q4⟩ (ir_hR k), hts _ (hw _ (by simp [ir_cw])), trivial⟩
      ⟨ir_blind, fun U hU hW => ⟨rfl, by rw [hU]; exact hP, va_K.moved hW.alike hK, ir_N_warm hW hN⟩⟩
      rfl (by rw [List.length_map, List.length_reverse, hlen]) (by show ls.size = _; rw [r3.1, r1]) hstk (lv_room (ir_catsum ad _ hrest)) hd ⟨Nat.le_refl _, Nat.le_refl _⟩) hS (fun H1 locs1 hP1 hS1 => ?_)
    rw [hvr]
    exact K _ _ _ _ rfl ls H1 locs1 ⟨r1, r2, r3, hP1, hS1⟩
theorem ir_acpW {pc ix : Nat} {L st : List Value} {σ : ir_S} {ls : Array Slot} {H : Heap} {locs : List Loc} {o : ir_R ⊕ ir_C} (fx : ir_Fx p s m args c dC dI ad cI mi) (hd : decode (ir_code mi) pc = .ok (.invokestatic ix, 3)) (h5 : ir_own mi = 5) (hix : ix = ir_aci)
    (h : ir_acp pc L st σ = some o) (rl : ir_Rel dC dI ad cI mi s L σ ls H locs)
    (K : ∀ pc' L' st' σ', o = .inr (pc', L', st', σ') → ∀ ls H locs, ir_Rel dC dI ad cI mi s L' σ' ls H locs → W p l e (ir_rm (d + 1)) s m args below meth c H locs 0 0 Q (F0 m pc' ls (st'.map (ir_cv ad)))) :
    W p l e (ir_rm (d + 1)) s m args below meth c H locs 0 0 Q (F0 m pc ls (st.map (ir_cv ad))) := by
  obtain ⟨hx, hb, hml, hown, hts, hK, hN, hinj⟩ := fx
  obtain ⟨r1, r2, r3, hP, hS⟩ := id rl
  have hsz : c.maxLocals = ls.size := by rw [hml, ← r1]; exact r3.1.symm
  rw [h5] at hown
  subst hix
  unfold ir_acp at h
  split at h
  · rename_i n dp b sp a rest
    replace h := ir_arr_some h
    obtain ⟨la, hla, h⟩ := h
    replace h := ir_arr_some h
    obtain ⟨lb, hlb, h⟩ := h
    replace h := ir_ite_some h
    obtain ⟨⟨e1, e2, hn0, hn1, hn2, hrest⟩, h⟩ := h
    subst e1; subst e2
    have hcs := ir_catsum ad rest hrest
    have hfw : nativeFrameWords "java/lang/System" "arraycopy" 5 ≤ 20 := by decide
    have hcl : n.toNatClampNeg = n.toInt.toNat := rfl
    have hn3 : ¬ n < 0 := by
      intro hh
      have := Int32.lt_iff_toInt_lt.mp hh
      simp at this
      omega
    refine va_copyi (D := (dC, dI)) hx hb hsz hown (hts _ (ir_in7 _ (by simp [ir_T7]))) (hts _ (ir_in7 _ (by simp [ir_T7]))) (hts _ (ir_in7 _ (by simp [ir_T7]))) (hts _ (ir_in7 _ (by simp [ir_T7]))) hK hP (ir_D hinj) hS a b 0 0 (ir_ws_arr hla) (ir_ws_arr hlb) rfl rfl rfl (by decide) (by decide) hn3 (by rw [sb_cl0]; omega) (by rw [sb_cl0]; omega) (fun _ _ => rfl) (by show 1 ≤ d + 1; omega) (by show _ ≤ 40 * (d + 1); omega) hd (fun H1 locs1 hP1 hD1 hS1 => ?_)
    rw [ir_ws_row hlb, sb_cl0] at hP1
    exact K _ _ _ _ (ir_go_some h) ls H1 locs1 ⟨r1, r2, r3, hP1, hS1⟩
  · cases h
theorem ir_opW {pc n : Nat} {i : Instr} {L st : List Value} {σ σ' : ir_S} {ls : Array Slot} {H : Heap} {locs : List Loc} {o : ir_R ⊕ ir_C} {r : Option Value} (fx : ir_Fx p s m args c dC dI ad cI mi) (hE : ∀ k vs σ r σ', E k vs σ = some (r, σ') → ir_Met l dC dI ad cI d k vs σ r σ') (hd : decode (ir_code mi) pc = .ok (i, n)) (hret : meth.sig.returnType = ir_ret mi) (hlocks : meth.locks = false)
    (h : ir_op E mi i n pc L st σ = some o) (rl : ir_Rel dC dI ad cI mi s L σ ls H locs)
    (K : ∀ pc' L' st' σ'', o = .inr (pc', L', st', σ'') → ∀ ls H locs, ir_Rel dC dI ad cI mi s L' σ'' ls H locs → W p l e (ir_rm (d + 1)) s m args below meth c H locs 0 0 (MQ below (ir_Q dC dI ad cI r σ') args s 0 0 (ir_A ad)) (F0 m pc' ls (st'.map (ir_cv ad))))
    (hfin : ∀ r0 σ0, o = .inl (r0, σ0) → r0 = r ∧ σ0 = σ') :
    W p l e (ir_rm (d + 1)) s m args below meth c H locs 0 0 (MQ below (ir_Q dC dI ad cI r σ') args s 0 0 (ir_A ad)) (F0 m pc ls (st.map (ir_cv ad))) := by
  obtain ⟨hx, hb, hml, hown, hts, hK, hN, hinj⟩ := id fx
  obtain ⟨r1, r2, r3, hP, hS⟩ := id rl
  cases i with
  | aload_n k =>
    replace h := ir_ln_some h
    obtain ⟨rfl, h⟩ := h
    replace h := ir_ldr_some h
    obtain ⟨a, hl, h⟩ := h
    exact lv_aload_n hx hb hd rfl (ir_LR_get r3 hl (fun h => by cases h)) (K _ _ _ _ (ir_go_some h) ls H locs rl)
  | aload k =>
    replace h := ir_ln_some h
    obtain ⟨rfl, h⟩ := h
    replace h := ir_ldr_some h
    obtain ⟨a, hl, h⟩ := h
    exact lv_aload hx hb hd (ir_LR_get r3 hl (fun h => by cases h)) (K _ _ _ _ (ir_go_some h) ls H locs rl)
  | iload_n k =>
    replace h := ir_ln_some h
    obtain ⟨rfl, h⟩ := h
    replace h := ir_ldi_some h
    obtain ⟨a, hl, h⟩ := h
    exact lv_iload_n hx hb hd rfl (ir_LR_get r3 hl (fun h => by cases h)) (K _ _ _ _ (ir_go_some h) ls H locs rl)
  | iload k =>
    replace h := ir_ln_some h
    obtain ⟨rfl, h⟩ := h
    replace h := ir_ldi_some h
    obtain ⟨a, hl, h⟩ := h
    exact lv_iload hx hb hd (ir_LR_get r3 hl (fun h => by cases h)) (K _ _ _ _ (ir_go_some h) ls H locs rl)
  | lload_n k =>
    replace h := ir_ln_some h
    obtain ⟨rfl, h⟩ := h
    replace h := ir_ldl_some h
    obtain ⟨a, hl, h⟩ := h
    exact lv_lload_n hx hb hd rfl (ir_LR_get r3 hl (fun h => by cases h)) (K _ _ _ _ (ir_go_some h) ls H locs rl)
  | lload k =>
    replace h := ir_ln_some h
    obtain ⟨rfl, h⟩ := h
    replace h := ir_ldl_some h
    obtain ⟨a, hl, h⟩ := h
    exact lv_lload hx hb hd (ir_LR_get r3 hl (fun h => by cases h)) (K _ _ _ _ (ir_go_some h) ls H locs rl)
  | iconst v =>
    replace h := ir_ln_some h
    obtain ⟨rfl, h⟩ := h
    exact lv_iconst hx hb hd rfl (K _ _ _ _ (ir_go_some h) ls H locs rl)
  | bipush v =>
    replace h := ir_ln_some h
    obtain ⟨rfl, h⟩ := h
    exact lv_bipush hx hb hd rfl (K _ _ _ _ (ir_go_some h) ls H locs rl)
  | sipush v =>
    replace h := ir_ln_some h
    obtain ⟨rfl, h⟩ := h
    exact lv_sipush hx hb hd rfl (K _ _ _ _ (ir_go_some h) ls H locs rl)
  | lconst v =>
    replace h := ir_ln_some h
    obtain ⟨rfl, h⟩ := h
    exact lv_lconst hx hb hd rfl (K _ _ _ _ (ir_go_some h) ls H locs rl)
  | ldc ix =>
    replace h := ir_ln_some h
    obtain ⟨rfl, h⟩ := h
    replace h := ir_opt_some h
    obtain ⟨v, hv, h⟩ := h
    exact lv_ldc hx hb hown (hts _ (ir_in5 hv)) hd (K _ _ _ _ (ir_go_some h) ls H locs rl)
  | ldc_w ix =>
    replace h := ir_ln_some h
    obtain ⟨rfl, h⟩ := h
    replace h := ir_opt_some h
    obtain ⟨v, hv, h⟩ := h
    exact lv_ldcw hx hb hown (hts _ (ir_in5 hv)) hd (K _ _ _ _ (ir_go_some h) ls H locs rl)
  | ldc2_w ix =>
    replace h := ir_ln_some h
    obtain ⟨rfl, h⟩ := h
    replace h := ir_opt_some h
    obtain ⟨v, hv, h⟩ := h
    exact lv_ldc2 hx hb hown (hts _ (ir_in6 hv)) hd (K _ _ _ _ (ir_go_some h) ls H locs rl)
  | istore_n k =>
    replace h := ir_ln_some h
    obtain ⟨rfl, h⟩ := h
    replace h := ir_i1_some h
    obtain ⟨x, rest, rfl, h⟩ := h
    replace h := ir_sto_some h
    obtain ⟨hnl, hk, h⟩ := h
    have hc := r2.resolve_left hnl
    exact lv_istore_n hx hb hd rfl r3 hk rfl (fun ls' hl' => K _ _ _ _ (ir_go_some h) ls' H locs ⟨by rw [List.length_set]; exact r1, Or.inr (fun v hv => (List.mem_or_eq_of_mem_set hv).elim (hc v) (fun e => by rw [e]; rfl)), ir_LR_set hc hl', hP, hS⟩)
  | istore k =>
    replace h := ir_ln_some h
    obtain ⟨rfl, h⟩ := h
    replace h := ir_i1_some h
    obtain ⟨x, rest, rfl, h⟩ := h
    replace h := ir_sto_some h
    obtain ⟨hnl, hk, h⟩ := h
    have hc := r2.resolve_left hnl
    exact lv_istore hx hb hd r3 hk rfl (fun ls' hl' => K _ _ _ _ (ir_go_some h) ls' H locs ⟨by rw [List.length_set]; exact r1, Or.inr (fun v hv => (List.mem_or_eq_of_mem_set hv).elim (hc v) (fun e => by rw [e]; rfl)), ir_LR_set hc hl', hP, hS⟩)
  | iinc k v =>
    replace h := ir_ln_some h
    obtain ⟨rfl, h⟩ := h
    replace h := ir_ldi_some h
    obtain ⟨x, hl, h⟩ := h
    replace h := ir_sto_some h
    obtain ⟨hnl, hk, h⟩ := h
    have hc := r2.resolve_left hnl
    obtain ⟨j, hj⟩ := List.getElem?_of_mem (ir_pairs_mem (ad := ad) hl (fun h => by cases h))
    exact lv_iinc hx hb hd r3 hj rfl hk rfl (fun ls' hl' => K _ _ _ _ (ir_go_some h) ls' H locs ⟨by rw [List.length_set]; exact r1, Or.inr (fun v hv => (List.mem_or_eq_of_mem_set hv).elim (hc v) (fun e => by rw [e]; rfl)), ir_LR_set hc hl', hP, hS⟩)
  | iadd =>
    replace h := ir_ln_some h
    obtain ⟨rfl, h⟩ := h
    replace h := ir_i2_some h
    obtain ⟨x, y, rest, rfl, h⟩ := h
    exact lv_iadd hx hb hd (K _ _ _ _ (ir_go_some h) ls H locs rl)
  | isub =>
    replace h := ir_ln_some h
    obtain ⟨rfl, h⟩ := h
    replace h := ir_i2_some h
    obtain ⟨x, y, rest, rfl, h⟩ := h
    exact lv_isub hx hb hd (K _ _ _ _ (ir_go_some h) ls H locs rl)
  | imul =>
    replace h := ir_ln_some h
    obtain ⟨rfl, h⟩ := h
    replace h := ir_i2_some h
    obtain ⟨x, y, rest, rfl, h⟩ := h
    exact lv_imul hx hb hd (K _ _ _ _ (ir_go_some h) ls H locs rl)
  | iand =>
    replace h := ir_ln_some h
    obtain ⟨rfl, h⟩ := h
    replace h := ir_i2_some h
    obtain ⟨x, y, rest, rfl, h⟩ := h
    exact lv_iand hx hb hd (K _ _ _ _ (ir_go_some h) ls H locs rl)
  | ior =>
    replace h := ir_ln_some h
    obtain ⟨rfl, h⟩ := h
    replace h := ir_i2_some h
    obtain ⟨x, y, rest, rfl, h⟩ := h
    exact lv_ior hx hb hd (K _ _ _ _ (ir_go_some h) ls H locs rl)
  | ixor =>
    replace h := ir_ln_some h
    obtain ⟨rfl, h⟩ := h
    replace h := ir_i2_some h
    obtain ⟨x, y, rest, rfl, h⟩ := h
    exact lv_ixor hx hb hd (K _ _ _ _ (ir_go_some h) ls H locs rl)
  | ishl =>
    replace h := ir_ln_some h
    obtain ⟨rfl, h⟩ := h
    replace h := ir_i2_some h
    obtain ⟨x, y, rest, rfl, h⟩ := h
    exact lv_ishl hx hb hd (K _ _ _ _ (ir_go_some h) ls H locs rl)
  | ishr =>
    replace h := ir_ln_some h
    obtain ⟨rfl, h⟩ := h
    replace h := ir_i2_some h
    obtain ⟨x, y, rest, rfl, h⟩ := h
    exact lv_ishr hx hb hd (K _ _ _ _ (ir_go_some h) ls H locs rl)
  | iushr =>
    replace h := ir_ln_some h
    obtain ⟨rfl, h⟩ := h
    replace h := ir_i2_some h
    obtain ⟨x, y, rest, rfl, h⟩ := h
    exact lv_iushr hx hb hd rfl (K _ _ _ _ (ir_go_some h) ls H locs rl)
  | ineg =>
    replace h := ir_ln_some h
    obtain ⟨rfl, h⟩ := h
    replace h := ir_i1_some h
    obtain ⟨x, rest, rfl, h⟩ := h
    exact lv_ineg hx hb hd (K _ _ _ _ (ir_go_some h) ls H locs rl)
  | i2l =>
    replace h := ir_ln_some h
    obtain ⟨rfl, h⟩ := h
    replace h := ir_i1_some h
    obtain ⟨x, rest, rfl, h⟩ := h
    exact lv_i2l hx hb hd rfl (K _ _ _ _ (ir_go_some h) ls H locs rl)
  | lcmp =>
    replace h := ir_ln_some h
    obtain ⟨rfl, h⟩ := h
    replace h := ir_l2_some h
    obtain ⟨x, y, rest, rfl, h⟩ := h
    exact W.lcmp hx hb hd (K _ _ _ _ (ir_go_some h) ls H locs rl)
  | dup =>
    replace h := ir_ln_some h
    obtain ⟨rfl, h⟩ := h
    replace h := ir_v1_some h
    obtain ⟨v, rest, rfl, hv, h⟩ := h
    exact lv_dup hx hb hd (by rw [ir_cv_cat]; exact hv) (K _ _ _ _ (ir_go_some h) ls H locs rl)
  | dup2 =>
    replace h := ir_ln_some h
    obtain ⟨rfl, h⟩ := h
    replace h := ir_v1_some h
    obtain ⟨v, rest, rfl, hv, h⟩ := h
    replace h := ir_v1_some h
    obtain ⟨w, rest, rfl, hw, h⟩ := h
    exact lv_dup2_11 hx hb hd (by rw [ir_cv_cat]; exact hv) (by rw [ir_cv_cat]; exact hw) (K _ _ _ _ (ir_go_some h) ls H locs rl)
  | pop =>
    replace h := ir_ln_some h
    obtain ⟨rfl, h⟩ := h
    replace h := ir_v1_some h
    obtain ⟨v, rest, rfl, hv, h⟩ := h
    exact lv_pop hx hb hd (by rw [ir_cv_cat]; exact hv) (K _ _ _ _ (ir_go_some h) ls H locs rl)
  | goto off =>
    replace h := ir_ln_some h
    obtain ⟨rfl, h⟩ := h
    replace h := ir_br_some h
    obtain ⟨t, ht, h⟩ := h
    exact lv_goto hx hb hd ht (K _ _ _ _ (ir_go_some h) ls H locs rl)
  | ifCond cd off =>
    cases cd with
    | eq =>
      replace h := ir_ln_some h
      obtain ⟨rfl, h⟩ := h
      replace h := ir_i1_some h
      obtain ⟨x, rest, rfl, h⟩ := h
      replace h := ir_br_some h
      obtain ⟨t, ht, h⟩ := h
      exact lv_if_eq hx hb hd ht (fun cc => by rw [if_pos cc] at h; exact K _ _ _ _ (ir_go_some h) ls H locs rl) (fun cc => by rw [if_neg cc] at h; exact K _ _ _ _ (ir_go_some h) ls H locs rl)
    | ne =>
      replace h := ir_ln_some h
      obtain ⟨rfl, h⟩ := h
      replace h := ir_i1_some h
      obtain ⟨x, rest, rfl, h⟩ := h
      replace h := ir_br_some h
      obtain ⟨t, ht, h⟩ := h
      exact lv_if_ne hx hb hd ht (fun cc => by rw [if_neg cc] at h; exact K _ _ _ _ (ir_go_some h) ls H locs rl) (fun cc => by rw [if_pos cc] at h; exact K _ _ _ _ (ir_go_some h) ls H locs rl)
    | lt =>
      replace h := ir_ln_some h
      obtain ⟨rfl, h⟩ := h
      replace h := ir_i1_some h
      obtain ⟨x, rest, rfl, h⟩ := h
      replace h := ir_br_some h
      obtain ⟨t, ht, h⟩ := h
      exact lv_if_lt hx hb hd ht (fun cc => by rw [if_pos cc] at h; exact K _ _ _ _ (ir_go_some h) ls H locs rl) (fun cc => by rw [if_neg cc] at h; exact K _ _ _ _ (ir_go_some h) ls H locs rl)
    | ge =>
      replace h := ir_ln_some h
      obtain ⟨rfl, h⟩ := h
      replace h := ir_i1_some h
      obtain ⟨x, rest, rfl, h⟩ := h
      replace h := ir_br_some h
      obtain ⟨t, ht, h⟩ := h
      exact lv_if_ge hx hb hd ht (fun cc => by rw [if_pos cc] at h; exact K _ _ _ _ (ir_go_some h) ls H locs rl) (fun cc => by rw [if_neg cc] at h; exact K _ _ _ _ (ir_go_some h) ls H locs rl)
    | gt =>
      replace h := ir_ln_some h
      obtain ⟨rfl, h⟩ := h
      replace h := ir_i1_some h
      obtain ⟨x, rest, rfl, h⟩ := h
      replace h := ir_br_some h
      obtain ⟨t, ht, h⟩ := h
      exact lv_if_gt hx hb hd ht (fun cc => by rw [if_pos cc] at h; exact K _ _ _ _ (ir_go_some h) ls H locs rl) (fun cc => by rw [if_neg cc] at h; exact K _ _ _ _ (ir_go_some h) ls H locs rl)
    | le =>
      replace h := ir_ln_some h
      obtain ⟨rfl, h⟩ := h
      replace h := ir_i1_some h
      obtain ⟨x, rest, rfl, h⟩ := h
      replace h := ir_br_some h
      obtain ⟨t, ht, h⟩ := h
      exact lv_if_le hx hb hd ht (fun cc => by rw [if_pos cc] at h; exact K _ _ _ _ (ir_go_some h) ls H locs rl) (fun cc => by rw [if_neg cc] at h; exact K _ _ _ _ (ir_go_some h) ls H locs rl)
  | if_icmp cd off =>
    cases cd with
    | eq =>
      replace h := ir_ln_some h
      obtain ⟨rfl, h⟩ := h
      replace h := ir_i2_some h
      obtain ⟨x, y, rest, rfl, h⟩ := h
      replace h := ir_br_some h
      obtain ⟨t, ht, h⟩ := h
      exact lv_icmp_eq hx hb hd ht (fun cc => by rw [if_pos cc] at h; exact K _ _ _ _ (ir_go_some h) ls H locs rl) (fun cc => by rw [if_neg cc] at h; exact K _ _ _ _ (ir_go_some h) ls H locs rl)
    | ne =>
      replace h := ir_ln_some h
      obtain ⟨rfl, h⟩ := h
      replace h := ir_i2_some h
      obtain ⟨x, y, rest, rfl, h⟩ := h
      replace h := ir_br_some h
      obtain ⟨t, ht, h⟩ := h
      exact lv_icmp_ne hx hb hd ht (fun cc => by rw [if_neg cc] at h; exact K _ _ _ _ (ir_go_some h) ls H locs rl) (fun cc => by rw [if_pos cc] at h; exact K _ _ _ _ (ir_go_some h) ls H locs rl)
    | lt =>
      replace h := ir_ln_some h
      obtain ⟨rfl, h⟩ := h
      replace h := ir_i2_some h
      obtain ⟨x, y, rest, rfl, h⟩ := h
      replace h := ir_br_some h
      obtain ⟨t, ht, h⟩ := h
      exact lv_icmp_lt hx hb hd ht (fun cc => by rw [if_pos cc] at h; exact K _ _ _ _ (ir_go_some h) ls H locs rl) (fun cc => by rw [if_neg cc] at h; exact K _ _ _ _ (ir_go_some h) ls H locs rl)
    | ge =>
      replace h := ir_ln_some h
      obtain ⟨rfl, h⟩ := h
      replace h := ir_i2_some h
      obtain ⟨x, y, rest, rfl, h⟩ := h
      replace h := ir_br_some h
      obtain ⟨t, ht, h⟩ := h
      exact lv_icmp_ge hx hb hd ht (fun cc => by rw [if_pos cc] at h; exact K _ _ _ _ (ir_go_some h) ls H locs rl) (fun cc => by rw [if_neg cc] at h; exact K _ _ _ _ (ir_go_some h) ls H locs rl)
    | gt =>
      replace h := ir_ln_some h
      obtain ⟨rfl, h⟩ := h
      replace h := ir_i2_some h
      obtain ⟨x, y, rest, rfl, h⟩ := h
      replace h := ir_br_some h
      obtain ⟨t, ht, h⟩ := h
      exact lv_icmp_gt hx hb hd ht (fun cc => by rw [if_pos cc] at h; exact K _ _ _ _ (ir_go_some h) ls H locs rl) (fun cc => by rw [if_neg cc] at h; exact K _ _ _ _ (ir_go_some h) ls H locs rl)
    | le =>
      replace h := ir_ln_some h
      obtain ⟨rfl, h⟩ := h
      replace h := ir_i2_some h
      obtain ⟨x, y, rest, rfl, h⟩ := h
      replace h := ir_br_some h
      obtain ⟨t, ht, h⟩ := h
      exact lv_icmp_le hx hb hd ht (fun cc => by rw [if_pos cc] at h; exact K _ _ _ _ (ir_go_some h) ls H locs rl) (fun cc => by rw [if_neg cc] at h; exact K _ _ _ _ (ir_go_some h) ls H locs rl)
  | tableswitch df lo hi offs =>
    replace h := ir_i1_some h
    obtain ⟨x, rest, rfl, h⟩ := h
    by_cases cc : x.toInt < lo ∨ hi < x.toInt
    · rw [if_pos cc] at h
      replace h := ir_br_some h
      obtain ⟨t, ht, h⟩ := h
      exact lv_tableOut hx hb hd cc ht (K _ _ _ _ (ir_go_some h) ls H locs rl)
    · rw [if_neg cc] at h
      replace h := ir_opt_some h
      obtain ⟨o', ho, h⟩ := h
      replace h := ir_br_some h
      obtain ⟨t, ht, h⟩ := h
      exact lv_tableIn hx hb hd (fun q => cc (Or.inl q)) (fun q => cc (Or.inr q)) ho ht (K _ _ _ _ (ir_go_some h) ls H locs rl)
  | arraylength =>
    replace h := ir_ln_some h
    obtain ⟨rfl, h⟩ := h
    replace h := ir_r1_some h
    obtain ⟨a, rest, rfl, h⟩ := h
    replace h := ir_arr_some h
    obtain ⟨k, hk, h⟩ := h
    exact va_alen (D := (dC, dI)) hx hb hK hP a 0 (ir_ws_arr hk) rfl rfl hd (K _ _ _ _ (ir_go_some h) ls H locs rl)
  | iaload =>
    replace h := ir_ln_some h
    obtain ⟨rfl, h⟩ := h
    replace h := ir_i1_some h
    obtain ⟨j, rest, rfl, h⟩ := h
    replace h := ir_r1_some h
    obtain ⟨a, rest, rfl, h⟩ := h
    replace h := ir_arr_some h
    obtain ⟨k, hk, h⟩ := h
    replace h := ir_ite_some h
    obtain ⟨hj, h⟩ := h
    exact va_iald (D := (dC, dI)) hx hb hK hP a 0 (ir_ws_arr hk) rfl (ir_ixb_in hj) hd (K _ _ _ _ (ir_go_some h) ls H locs rl)
  | iastore =>
    replace h := ir_ln_some h
    obtain ⟨rfl, h⟩ := h
    replace h := ir_i2_some h
    obtain ⟨j, x, rest, rfl, h⟩ := h
    replace h := ir_r1_some h
    obtain ⟨a, rest, rfl, h⟩ := h
    replace h := ir_arr_some h
    obtain ⟨k, hk, h⟩ := h
    replace h := ir_ite_some h
    obtain ⟨hj, h⟩ := h
    refine va_iast (D := (dC, dI)) hx hb hK hP (ir_D hinj) hS a 0 (ir_ws_arr hk) rfl (ir_ixb_in hj) hd (fun H1 locs1 hP1 hD1 hS1 => ?_)
    rw [ir_ws_row hk] at hP1
    exact K _ _ _ _ (ir_go_some h) ls H1 locs1 ⟨r1, r2, r3, hP1, hS1⟩
  | getfield ix =>
    replace h := ir_ln_some h
    obtain ⟨rfl, h⟩ := h
    replace h := ir_r1_some h
    obtain ⟨a, rest, rfl, h⟩ := h
    replace h := ir_opt_some h
    obtain ⟨⟨k, kind⟩, hk, h⟩ := h
    replace h := ir_obj_some h
    obtain ⟨fs, hsh, h⟩ := h
    replace h := ir_opt_some h
    obtain ⟨f, hf, h⟩ := h
    obtain ⟨g1, g2, g3, -, -⟩ := ir_fok hk
    have hlink := hts _ (ir_in3 hk)
    have hown' : s.vm.findClass (ir_C1 (ir_own mi)).1 = some m.cls := by rw [ir_C1_R g1]; exact hown
    refine va_get (D := (dC, dI)) (own := (ir_C1 (ir_own mi)).1) (v := ir_f1 ad (σ a) k f) hx hb hts (ir_in4 g1) hown' hK hP a (ir_ws_obj hsh) (ir_C1_get g1) k g2 hlink (fun _ h9 => by rw [g3] at h9; exact h9) (ir_fv_get hf) hd ?_
    cases f with
    | some j => exact K _ _ _ _ (ir_go_some h) ls H locs rl
    | none => exact K _ _ _ _ (ir_go_some h) ls H locs rl
  | putfield ix =>
    replace h := ir_ln_some h
    obtain ⟨rfl, h⟩ := h
    replace h := ir_i1_some h
    obtain ⟨x, rest, rfl, h⟩ := h
    replace h := ir_r1_some h
    obtain ⟨a, rest, rfl, h⟩ := h
    replace h := ir_opt_some h
    obtain ⟨⟨k, kind⟩, hk, h⟩ := h
    replace h := ir_obj_some h
    obtain ⟨fs, hsh, h⟩ := h
    replace h := ir_opt_some h
    obtain ⟨f, hf, h⟩ := h
    obtain ⟨g1, g2, g3, g4, g5⟩ := ir_fok hk
    have hlink := hts _ (ir_in3 hk)
    have hown' : s.vm.findClass (ir_C1 (ir_own mi)).1 = some m.cls := by rw [ir_C1_R g1]; exact hown
    have hl : k < (ir_fv ad (σ a) fs).length := by unfold ir_fv; rw [List.length_mapIdx]; exact (List.getElem?_eq_some_iff.mp hf).1
    cases f with
    | some j => cases h
    | none =>
      replace h := ir_ite_some h
      obtain ⟨hkd, h⟩ := h
      have key : ∃ ty, parseFieldDescriptor ((ir_C1 (ir_own mi)).2.1 k).2.2.1 = some ty ∧ narrow ty (.int x) = .int x ∧ fits ty (.int x) = true ∧ ((ir_C1 (ir_own mi)).2.1 k).2.2.2 = false := by
        rcases hkd with hkd | ⟨hkd, hx01⟩
        · obtain ⟨e1, e2⟩ := g4 hkd
          exact ⟨.int, by rw [e1]; decide +kernel, rfl, rfl, e2⟩
        · obtain ⟨e1, e2⟩ := g5 hkd
          refine ⟨.boolean, by rw [e1]; decide +kernel, ?_, ?_, e2⟩
          · rcases hx01 with e | e <;> rw [e] <;> decide
          · rcases hx01 with e | e <;> rw [e] <;> decide
      obtain ⟨ty, k1, k2, k3, k4⟩ := key
      refine va_put (D := (dC, dI)) (own := (ir_C1 (ir_own mi)).1) (v := .int x) hx hb hts (ir_in4 g1) (ir_ty (ir_own mi)) (ir_ty_ok g1) (ir_nm_ok g1) hown' hK hP (ir_D hinj) hS a (ir_ws_obj hsh) (ir_C1_get g1) k g2 hlink (fun _ h9 => by rw [g3] at h9; exact h9) k4 k1 k2 k3 hl hd (fun H1 locs1 hP1 hD1 hS1 => ?_)
      rw [ir_ws_put hsh hf] at hP1
      exact K _ _ _ _ (ir_go_some h) ls H1 locs1 ⟨r1, r2, r3, hP1, hS1⟩
  | invokevirtual ix =>
    replace h := ir_ln_some h
    obtain ⟨rfl, h⟩ := h
    exact ir_virtW fx hE hd h rl K
  | invokestatic ix =>
    replace h := ir_ln_some h
    obtain ⟨rfl, h⟩ := h
    by_cases cc : ir_own mi = 5 ∧ ix = ir_aci
    · rw [if_pos cc] at h
      exact ir_acpW fx hd cc.1 cc.2 h rl K
    · rw [if_neg cc] at h
      exact ir_statW fx hE hd h rl K
  | ireturn =>
    replace h := ir_ln_some h
    obtain ⟨rfl, h⟩ := h
    generalize hre : ir_ret mi = re at h
    split at h
    · rename_i x
      cases h
      obtain ⟨rfl, rfl⟩ := hfin _ _ rfl
      exact W.iret (v := x) hx hb (hret.trans hre) (fun t ht hW => ⟨rfl, ⟨by rw [ht]; exact hP, va_K.moved hW.alike hK, ir_N_warm hW hN⟩, hS.F ht⟩) hS.2.2 hd
    · rename_i x
      replace h := ir_ite_some h
      obtain ⟨hx01, h⟩ := h
      cases h
      obtain ⟨rfl, rfl⟩ := hfin _ _ rfl
      exact W.zret (v := x) hx hb (hret.trans hre) (by rcases hx01 with e | e <;> rw [e] <;> decide) (fun t ht hW => ⟨rfl, ⟨by rw [ht]; exact hP, va_K.moved hW.alike hK, ir_N_warm hW hN⟩, hS.F ht⟩) hS.2.2 hd
    · cases h
  | return_ =>
    replace h := ir_ln_some h
    obtain ⟨rfl, h⟩ := h
    generalize hre : ir_ret mi = re at h
    split at h
    · cases h
      obtain ⟨rfl, rfl⟩ := hfin _ _ rfl
      exact W.vret hx hb (hret.trans hre) (fun t ht hW => ⟨rfl, ⟨by rw [ht]; exact hP, va_K.moved hW.alike hK, ir_N_warm hW hN⟩, hS.F ht⟩) hS.2.2 hd
    · cases h
  | _ =>
    have h2 : (none : ir_O) = some o := h
    cases h2
theorem ir_itW {r : Option Value} {σ' : ir_S} (fx : ir_Fx p s m args c dC dI ad cI mi) (hE : ∀ k vs σ r σ', E k vs σ = some (r, σ') → ir_Met l dC dI ad cI d k vs σ r σ') (hret : meth.sig.returnType = ir_ret mi) (hlocks : meth.locks = false) :
    ∀ (k pc : Nat) (L st : List Value) (σ : ir_S) (ls : Array Slot) (H : Heap) (locs : List Loc), ir_it (ir_step E mi) k (pc, L, st, σ) = some (r, σ') → ir_Rel dC dI ad cI mi s L σ ls H locs →
      W p l e (ir_rm (d + 1)) s m args below meth c H locs 0 0 (MQ below (ir_Q dC dI ad cI r σ') args s 0 0 (ir_A ad)) (F0 m pc ls (st.map (ir_cv ad))) := by
  intro k
  induction k with
  | zero => intro pc L st σ ls H locs h; cases h
  | succ k ih =>
    intro pc L st σ ls H locs h rl
    unfold ir_it at h
    cases hs : ir_step E mi (pc, L, st, σ) with
    | none => rw [hs] at h; cases h
    | some o =>
      rw [hs] at h
      unfold ir_step at hs
      split at hs
      · rename_i q hq
        refine ir_opW fx hE (i := q.1) (n := q.2) hq hret hlocks hs rl (fun pc' L' st' σ'' ho ls H locs rl' => ?_) (fun r0 σ0 ho => ?_)
        · subst ho
          exact ih pc' L' st' σ'' ls H locs h rl'
        · subst ho
          cases h
          exact ⟨rfl, rfl⟩
      · cases hs
end IRS
theorem ir_fl1_c1 {vs : List Value} (h : vs.all ir_c1 = true) : ∀ v ∈ ir_fl1 vs, v.category = 1 := by
  intro v hv
  unfold ir_fl1 at hv
  obtain ⟨w, hw, hv⟩ := List.mem_flatMap.mp hv
  have hc := List.all_eq_true.mp h w hw
  have hcat : w.category = 1 := by cases w <;> first | rfl | cases hc
  rw [if_neg (by omega)] at hv
  rw [List.mem_singleton.mp hv]
  exact hcat
set_option maxHeartbeats 4000000 in
/-- what the interpreter answers, the machine answers -/
theorem ir_sound (l : Launch) (dC : Nat → ClassId) (dI : Nat → Nat → Nat) (ad : Nat → Nat) (cI : ClassId) (hinj : ∀ i j, i < 58 → j < 58 → ad i = ad j → i = j) : ∀ (d mi : Nat) (vs : List Value) (σ : ir_S) (r : Option Value) (σ' : ir_S), ir_ev d mi vs σ = some (r, σ') → ir_Met l dC dI ad cI d mi vs σ r σ' := by
  intro d
  induction d with
  | zero => intro mi vs σ r σ' h; cases h
  | succ d ih =>
    intro mi vs σ r σ' h
    have h : (if ir_ok mi vs = true then ir_run (ir_ev d) mi (0, ir_init mi vs, [], σ) else none) = some (r, σ') := h
    by_cases hok : ir_ok mi vs = true
    · rw [if_pos hok] at h
      obtain ⟨k, hk⟩ := ir_loop_some.mp h
      have hok2 := hok
      unfold ir_ok at hok2
      rw [Bool.and_eq_true, decide_eq_true_iff, Bool.or_eq_true] at hok2
      obtain ⟨en1, en2⟩ := ir_entry (ad := ad) hok2.1
      unfold ir_Met
      refine Met.ofW (cc := ir_code mi) (maxL := ir_nL mi) (ret := ir_ret mi) (ir_mok mi).1 rfl ?_
      intro p e s m args below meth c s₁ B hml hv
      obtain ⟨rfl, hP, hK, hN⟩ := hv
      have hts0 := atoms_spec (ws := ir_W mi) B.pre
      have hown : s.vm.findClass (ir_Rn (ir_own mi)) = some m.cls := by
        have := findClass_of_methodNamed B.named
        rw [(ir_mok mi).2.2.2.2.2.1] at this
        exact this
      rw [lg_entry_eq]
      exact ir_itW ⟨B.exec, B.bytes, hml, hown, fun w hw => hts0 w (List.mem_cons_of_mem _ hw), hK, hN, hinj⟩ ih B.returns B.notSynchronized k 0 _ [] σ _ _ _ hk ⟨en1, hok2.2.imp id (fun hh v hv => by
        unfold ir_init at hv
        rcases List.mem_append.mp hv with hv | hv
        · exact ir_fl1_c1 hh v hv
        · rw [List.eq_of_mem_replicate hv]; rfl), en2, hP, va_S.rf⟩
    · rw [if_neg hok] at h; cases h
