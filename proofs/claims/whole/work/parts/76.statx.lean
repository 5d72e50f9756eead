/-! the law's two static methods where the class throws -/
theorem xc_in : Cond.castable xNS xNS ∈ xTX := by decide +kernel
theorem xLT_W {w : Cond} (h : w ∈ ir_T) : GoodIn xLT (w :: xT) := fun x hx => by
  rcases List.mem_cons.mp hx with rfl | hx
  · exact ⟨List.mem_append_left _ (List.mem_append_left _ h), (ir_T_good _ h).2⟩
  · exact ⟨List.mem_append_left _ hx, (xT_good _ hx).2⟩
set_option maxHeartbeats 2000000 in
theorem k_LansX (l : Launch) (hst : l.stackTraces = false) (dC : Nat → ClassId) (dI : Nat → Nat → Nat) (ad : Nat → Nat) (cI cL : ClassId) (o sa1 sa2 : Nat) (hinj : ∀ i j, i < 58 → j < 58 → ad i = ad j → i = j) (hno : ∀ i, i < 58 → ad i ≠ o) (v w : Int32) (σ : ir_S) (g : Nat → Int64) (hn : (isE σ 22 v && cN σ w) = false) :
    Met l yL_answer (.codeWith yL_answer cL_answer 5 (some .int) [(0, 10, 13, 13)] :: xLT) xRL (va_Pc [.ref (ad 0), .int v, .int w, .ref o] (xPL dC dI ad cI cL o sa1 sa2 σ g)) (xQL dC dI ad cI cL o 1 σ g) 1 6 (xAo ad o) := by
  refine va_MetW (cc := cL_answer) (maxL := 5) (ret := some .int) (by decide) rfl ?_
  intro p e s m args below meth c s₁ B hml hv
  obtain ⟨rfl, ⟨hP, hK, hN⟩, hPo, hKo, hX⟩ := hv
  have hx := B.exec
  have hb := B.bytes
  have hr := B.returns
  have hts0 := atoms_spec (ws := .codeWith yL_answer cL_answer 5 (some .int) [(0, 10, 13, 13)] :: xLT) B.pre
  have hts : ∀ w ∈ xLT, w.before _ s = true := fun w h => hts0 w (List.mem_cons_of_mem _ h)
  have htb : c.exceptionTable.toList = tableOf [(0, 10, 13, 13)] := vx_table (x := yL_answer) B (hts0 _ List.mem_cons_self)
  have hown : s.vm.findClass RL = some m.cls := findClass_of_methodNamed B.named
  have hS : va_S (xAo ad o) s.heap s.heap [] := va_S.rf
  have hl := lv_entry ([.ref (ad 0), .int v, .int w, .ref o]) (n := 5) (Nat.le_of_ble_eq_true rfl)
  rw [lg_entry_eq]
  generalize (lg_sl ([.ref (ad 0), .int v, .int w, .ref o]) ++ List.replicate (5 - (lg_sl ([.ref (ad 0), .int v, .int w, .ref o])).length) Slot.unset).toArray = ls at hl ⊢
  have hl : lv_has ls 5 [(0, .ref (ad 0)), (1, .int v), (2, .int w), (3, .ref o)] := hl
  refine lv_aload_n hx hb dL_answer_0 rfl (lv_at hl 3 rfl) ?_
  refine lv_iconst (v := 0) hx hb dL_answer_1 (by decide) ?_
  refine lv_aload_n hx hb dL_answer_2 rfl (lv_at hl 0 rfl) ?_
  refine lv_iload_n hx hb dL_answer_3 rfl (lv_at hl 1 rfl) ?_
  refine lv_iload_n hx hb dL_answer_4 rfl (lv_at hl 2 rfl) ?_
  refine vx_calli (A0 := xAo ad o) (H0 := s.heap) (vx_runV (C := (ir_m 87).1.cls) (own := RL) (bytes := cX8_answer) (maxL := 3) (ret := some .int) (n := 2) (b := ad 0) (As := [.int v, .int w]) (rest := [.int 0, .ref o]) ⟨hx, hb, hml, hown, hts⟩ (k_ansX l hst dC dI ad cI hinj v w σ hn sa1 sa2)
    ⟨callB_of 2 hts (xLT_W (ir_in1 87).1) rfl rfl rfl (hts _ (xLT_T _ (ir_in1 87).2).1) (hts _ (xLT_1 (by simp [xL1]))) (by decide +kernel) ⟨by decide, by decide⟩, hts _ (xLT_1 (by simp [xL1])), hts _ (xLT_1 (by simp [xL1]))⟩
    ⟨fun a U f mk h => ⟨h.1, ⟨h.2.1.1, va_K.moved (u := U) (U := U.calling f mk a) (Vm.Alike.refl U.vm) h.2.1.2.1, fun c hc q hq hk => va_Nw.same rfl rfl (h.2.1.2.2 c hc q hq hk)⟩, XP.same (s := U) (U := U.calling f mk a) rfl h.2.2⟩, va_recv hK hP (ir_C1_get (c := 8) (by decide)) (ir_ws_obj (i := 0) rfl), fun U hU hW => ⟨rfl, ⟨by rw [hU]; exact hP, va_K.moved hW.alike hK, ir_N_warm hW hN⟩, by rw [hU]; exact XP.warm hW (hX.narrow (fun q h => Or.inl h))⟩⟩
    rfl rfl hl.1 rfl (lv_room (Nat.le_of_ble_eq_true rfl)) dL_answer_5 ⟨by decide, by decide⟩) hS (fun q _ h => Or.inl h) (fun q h => Or.inl h) (fun q _ h => Or.inl h) (fun E ce q9 u t H1 locs1 ht hal hpx hBX hz hk hS1 hce hcv hcl => ?_) (fun r u t H1 locs1 ht hal hf => hf.elim)
  obtain ⟨rfl, hP1⟩ := hBX
  rw [ht] at hP1
  refine vx_catch (own := RL) (name := xNS) hown [] _ [] htb (fun z h9 => nomatch h9) rfl (by decide) (hts _ (xLT_1 (by simp [xL1]))) (va_Nw.use rfl (hX.1 _ xc_in)) hce hcv hcl ?_
  refine lv_astore (lv' := [(4, .ref q9), (0, .ref (ad 0)), (1, .int v), (2, .int w), (3, .ref o)]) hx hb dL_answer_13 hl (by decide) rfl (fun ls hl => ?_)
  refine lv_iconst (v := 1) hx hb dL_answer_15 (by decide) ?_
  exact W.iret hx hb hr (fun t ht hW => ⟨rfl, by rw [ht]; exact hP1, by rw [ht]; exact hPo.kept (fun k x h9 => hk x.1 ((hPo k x h9).lt) (fun ⟨j, hj, e9⟩ => by
    have hz : k < 1 := (List.getElem?_eq_some_iff.mp h9).1
    rw [show k = 0 by omega] at h9
    cases h9
    exact hno j hj e9.symm)), hS1.F ht⟩) hS1.2.2 dL_answer_16
set_option maxHeartbeats 2000000 in
theorem k_LrowX (l : Launch) (hst : l.stackTraces = false) (dC : Nat → ClassId) (dI : Nat → Nat → Nat) (ad : Nat → Nat) (cI cL : ClassId) (o sa1 sa2 : Nat) (hinj : ∀ i j, i < 58 → j < 58 → ad i = ad j → i = j) (hno : ∀ i, i < 58 → ad i ≠ o) (v : Int32) (σ : ir_S) (g : Nat → Int64) (hn : inr v (σ 31 1) = false) :
    Met l yL_row (.codeWith yL_row cL_row 4 (some .int) [(0, 9, 12, 13)] :: xLT) xRL (va_Pc [.ref (ad 0), .int v, .ref o] (xPL dC dI ad cI cL o sa1 sa2 σ g)) (xQL dC dI ad cI cL o 1 σ g) 1 6 (xAo ad o) := by
  refine va_MetW (cc := cL_row) (maxL := 4) (ret := some .int) (by decide) rfl ?_
  intro p e s m args below meth c s₁ B hml hv
  obtain ⟨rfl, ⟨hP, hK, hN⟩, hPo, hKo, hX⟩ := hv
  have hx := B.exec
  have hb := B.bytes
  have hr := B.returns
  have hts0 := atoms_spec (ws := .codeWith yL_row cL_row 4 (some .int) [(0, 9, 12, 13)] :: xLT) B.pre
  have hts : ∀ w ∈ xLT, w.before _ s = true := fun w h => hts0 w (List.mem_cons_of_mem _ h)
  have htb : c.exceptionTable.toList = tableOf [(0, 9, 12, 13)] := vx_table (x := yL_row) B (hts0 _ List.mem_cons_self)
  have hown : s.vm.findClass RL = some m.cls := findClass_of_methodNamed B.named
  have hS : va_S (xAo ad o) s.heap s.heap [] := va_S.rf
  have hl := lv_entry ([.ref (ad 0), .int v, .ref o]) (n := 4) (Nat.le_of_ble_eq_true rfl)
  rw [lg_entry_eq]
  generalize (lg_sl ([.ref (ad 0), .int v, .ref o]) ++ List.replicate (4 - (lg_sl ([.ref (ad 0), .int v, .ref o])).length) Slot.unset).toArray = ls at hl ⊢
  have hl : lv_has ls 4 [(0, .ref (ad 0)), (1, .int v), (2, .ref o)] := hl
  refine lv_aload_n hx hb dL_row_0 rfl (lv_at hl 2 rfl) ?_
  refine lv_iconst (v := 0) hx hb dL_row_1 (by decide) ?_
  refine lv_aload_n hx hb dL_row_2 rfl (lv_at hl 0 rfl) ?_
  refine lv_iload_n hx hb dL_row_3 rfl (lv_at hl 1 rfl) ?_
  refine vx_calli (A0 := xAo ad o) (H0 := s.heap) (vx_runV (C := (ir_m 102).1.cls) (own := RL) (bytes := cX8_row) (maxL := 2) (ret := some .int) (n := 1) (b := ad 0) (As := [.int v]) (rest := [.int 0, .ref o]) ⟨hx, hb, hml, hown, hts⟩ (k_rowX l hst dC dI ad cI hinj v σ hn sa1 sa2)
    ⟨callB_of 1 hts (xLT_W (ir_in1 102).1) rfl rfl rfl (hts _ (xLT_T _ (ir_in1 102).2).1) (hts _ (xLT_1 (by simp [xL1]))) (by decide +kernel) ⟨by decide, by decide⟩, hts _ (xLT_1 (by simp [xL1])), hts _ (xLT_1 (by simp [xL1]))⟩
    ⟨fun a U f mk h => ⟨h.1, ⟨h.2.1.1, va_K.moved (u := U) (U := U.calling f mk a) (Vm.Alike.refl U.vm) h.2.1.2.1, fun c hc q hq hk => va_Nw.same rfl rfl (h.2.1.2.2 c hc q hq hk)⟩, XP.same (s := U) (U := U.calling f mk a) rfl h.2.2⟩, va_recv hK hP (ir_C1_get (c := 8) (by decide)) (ir_ws_obj (i := 0) rfl), fun U hU hW => ⟨rfl, ⟨by rw [hU]; exact hP, va_K.moved hW.alike hK, ir_N_warm hW hN⟩, by rw [hU]; exact XP.warm hW (hX.narrow (fun q h => Or.inl h))⟩⟩
    rfl rfl hl.1 rfl (lv_room (Nat.le_of_ble_eq_true rfl)) dL_row_4 ⟨by decide, by decide⟩) hS (fun q _ h => Or.inl h) (fun q h => Or.inl h) (fun q _ h => Or.inl h) (fun E ce q9 u t H1 locs1 ht hal hpx hBX hz hk hS1 hce hcv hcl => ?_) (fun r u t H1 locs1 ht hal hf => hf.elim)
  obtain ⟨rfl, hP1⟩ := hBX
  rw [ht] at hP1
  refine vx_catch (own := RL) (name := xNS) hown [] _ [] htb (fun z h9 => nomatch h9) rfl (by decide) (hts _ (xLT_1 (by simp [xL1]))) (va_Nw.use rfl (hX.1 _ xc_in)) hce hcv hcl ?_
  refine lv_astore_n (lv' := [(3, .ref q9), (0, .ref (ad 0)), (1, .int v), (2, .ref o)]) hx hb dL_row_12 rfl hl (by decide) rfl (fun ls hl => ?_)
  refine lv_iconst (v := 1) hx hb dL_row_13 (by decide) ?_
  exact W.iret hx hb hr (fun t ht hW => ⟨rfl, by rw [ht]; exact hP1, by rw [ht]; exact hPo.kept (fun k x h9 => hk x.1 ((hPo k x h9).lt) (fun ⟨j, hj, e9⟩ => by
    have hz : k < 1 := (List.getElem?_eq_some_iff.mp h9).1
    rw [show k = 0 by omega] at h9
    cases h9
    exact hno j hj e9.symm)), hS1.F ht⟩) hS1.2.2 dL_row_14
