/-! the law's two static methods -/
def xL1 : List Cond := [.classLink RL 13 xNS, .methodLink RL 7 (ir_m 87).1, .instanceMethod (ir_m 87).1, .selects (ir_m 87).1.cls (ir_m 87).1 (ir_m 87).1, .methodLink RL 15 (ir_m 102).1, .instanceMethod (ir_m 102).1, .selects (ir_m 102).1.cls (ir_m 102).1 (ir_m 102).1]
def xLT : List Cond := xT ++ xL1
theorem xL1_g : GoodIn lw_tbl xL1 := goodIn_sub (by decide +kernel) (by decide +kernel)
theorem xLT_good : GoodIn lw_tbl xLT := goodIn_app xT_good xL1_g
theorem xLT_T : GoodIn xLT ir_T := fun w h => ⟨List.mem_append_left _ (List.mem_append_left _ h), (ir_T_good w h).2⟩
theorem xLT_1 {w : Cond} (h : w ∈ xL1) : w ∈ xLT := List.mem_append_right _ h
abbrev xRL : Room := { frames := 60, cells := 1, slots := 6, locals := 2500 }
def xAo (ad : Nat → Nat) (o : Nat) : Nat → Prop := fun q => ir_A ad q ∨ q = o
def xPL (dC : Nat → ClassId) (dI : Nat → Nat → Nat) (ad : Nat → Nat) (cI cL : ClassId) (o sa1 sa2 : Nat) (σ : ir_S) (g : Nat → Int64) (U : State) : Prop := ir_At dC dI ad cI σ U ∧ va_P (dC, dI) vwCl [(o, .inl (cL, 1, .inr (.inl g)))] U.heap ∧ va_K (dC, dI) vwCl [(cL, .long)] U ∧ XP (xAo ad o) sa1 sa2 U U.heap
def xQL (dC : Nat → ClassId) (dI : Nat → Nat → Nat) (ad : Nat → Nat) (cI cL : ClassId) (o : Nat) (r : Int32) (σ : ir_S) (g : Nat → Int64) : Array Value → State → Outcome → State → Prop := fun _ st oc t => oc = .returned (some (.int r)) ∧ va_P (dC, dI) vwCl (ir_ws ad cI σ) t.heap ∧ va_P (dC, dI) vwCl [(o, .inl (cL, 1, .inr (.inl g)))] t.heap ∧ va_F (xAo ad o) st t
theorem ir_ws_len {ad : Nat → Nat} {cI : ClassId} {σ : ir_S} : (ir_ws ad cI σ).length = 58 := by unfold ir_ws; rw [List.length_map, List.length_range]
theorem lw_D {A : Nat → Prop} {ad : Nat → Nat} {cI : ClassId} {σ : ir_S} {o : Nat} {x : va_E} (hinj : ∀ i j, i < 58 → j < 58 → ad i = ad j → i = j) (had : ∀ i, i < 58 → A (ad i)) (ho : A o) (hno : ∀ i, i < 58 → ad i ≠ o) : va_D A (ir_ws ad cI σ ++ [(o, x)]) := by
  have key : ∀ (k : Nat) (q : Nat × va_E), (ir_ws ad cI σ ++ [(o, x)])[k]? = some q → (k < 58 ∧ q.1 = ad k) ∨ (k = 58 ∧ q.1 = o) := by
    intro k q h
    rcases Nat.lt_or_ge k 58 with hk | hk
    · rw [List.getElem?_append_left (by rw [ir_ws_len]; exact hk), ir_ws_get hk] at h
      cases h
      exact Or.inl ⟨hk, rfl⟩
    · rw [List.getElem?_append_right (by rw [ir_ws_len]; exact hk), ir_ws_len] at h
      have hz : k - 58 < 1 := (List.getElem?_eq_some_iff.mp h).1
      rw [show k - 58 = 0 by omega] at h
      cases h
      exact Or.inr ⟨by omega, rfl⟩
  refine ⟨fun i j p q hi hj e9 => ?_, fun k q h => ?_⟩
  · rcases key i p hi with ⟨a1, a2⟩ | ⟨a1, a2⟩ <;> rcases key j q hj with ⟨b1, b2⟩ | ⟨b1, b2⟩
    · exact hinj i j a1 b1 (by rw [← a2, ← b2]; exact e9)
    · exact absurd (by rw [← a2, ← b2]; exact e9) (hno i a1)
    · exact absurd (by rw [← a2, ← b2]; exact e9.symm) (hno j b1)
    · rw [a1, b1]
  · rcases key k q h with ⟨a1, a2⟩ | ⟨a1, a2⟩
    · rw [a2]; exact had k a1
    · rw [a2]; exact ho
theorem xPL_blind {dC : Nat → ClassId} {dI : Nat → Nat → Nat} {ad : Nat → Nat} {cI cL : ClassId} {o sa1 sa2 : Nat} {σ : ir_S} {g : Nat → Int64} {vs : List Value} : FrameBlind (va_Pc vs (xPL dC dI ad cI cL o sa1 sa2 σ g)) := fun a U f mk h => ⟨h.1, ⟨h.2.1.1, va_K.moved (u := U) (U := U.calling f mk a) (Vm.Alike.refl U.vm) h.2.1.2.1, fun c hc q hq hk => va_Nw.same rfl rfl (h.2.1.2.2 c hc q hq hk)⟩, h.2.2.1, va_K.moved (u := U) (U := U.calling f mk a) (Vm.Alike.refl U.vm) h.2.2.2.1, XP.same (s := U) (U := U.calling f mk a) rfl h.2.2.2.2⟩
set_option maxHeartbeats 2000000 in
theorem k_LansR (l : Launch) (dC : Nat → ClassId) (dI : Nat → Nat → Nat) (ad : Nat → Nat) (cI cL : ClassId) (o sa1 sa2 : Nat) (hinj : ∀ i j, i < 58 → j < 58 → ad i = ad j → i = j) (hno : ∀ i, i < 58 → ad i ≠ o) (v w a : Int32) (σ σ1 : ir_S) (g : Nat → Int64) (hev : ir_ev 50 87 [.ref 0, .int v, .int w] σ = some (some (.int a), σ1)) :
    Met l yL_answer (.codeWith yL_answer cL_answer 5 (some .int) [(0, 10, 13, 13)] :: xLT) xRL (va_Pc [.ref (ad 0), .int v, .int w, .ref o] (xPL dC dI ad cI cL o sa1 sa2 σ g)) (xQL dC dI ad cI cL o 0 σ1 (vp_updL g 0 a.toInt64)) 1 6 (xAo ad o) := by
  refine va_MetW (cc := cL_answer) (maxL := 5) (ret := some .int) (by decide) rfl ?_
  intro p e s m args below meth c s₁ B hml hv
  obtain ⟨rfl, ⟨hP, hK, hN⟩, hPo, hKo, hX⟩ := hv
  have hx := B.exec
  have hb := B.bytes
  have hr := B.returns
  have hts0 := atoms_spec (ws := .codeWith yL_answer cL_answer 5 (some .int) [(0, 10, 13, 13)] :: xLT) B.pre
  have hts : ∀ w ∈ xLT, w.before _ s = true := fun w h => hts0 w (List.mem_cons_of_mem _ h)
  have hown : s.vm.findClass RL = some m.cls := findClass_of_methodNamed B.named
  have hS : va_S (xAo ad o) s.heap s.heap [] := va_S.rf
  have hl := lv_entry ([.ref (ad 0), .int v, .int w, .ref o]) (n := 5) (Nat.le_of_ble_eq_true rfl)
  rw [lg_entry_eq]
  generalize (lg_sl ([.ref (ad 0), .int v, .int w, .ref o]) ++ List.replicate (5 - (lg_sl ([.ref (ad 0), .int v, .int w, .ref o])).length) Slot.unset).toArray = ls at hl ⊢
  have hl : lv_has ls 5 [(0, .ref (ad 0)), (1, .int v), (2, .int w), (3, .ref o)] := hl
  refine lv_aload_n hx hb dL_answer_0 rfl (lv_at hl 3 rfl) ?_
  refine lv_iconst (v := 0) hx hb dL_answer_1 (by decide) ?_
  refine lv_aload_n hx hb dL_answer_2 rfl (lv_at hl 0 rfl) ?_
  refine lv_iload_n hx hb dL_answer_3 rfl (lv_at hl 1 rfl) ?_
  refine lv_iload_n hx hb dL_answer_4 rfl (lv_at hl 2 rfl) ?_
  refine gx_virt (d := 50) (mi := 87) (bb := 0) (va := [.int v, .int w]) (rest := [.int 0, .ref o]) ⟨hx, hb, hml, hown, hts⟩ xLT_T hinj hK hN hP hS (fun _ h => Or.inl h) hev rfl rfl rfl (xLT_1 (by simp [xL1])) (xLT_1 (by simp [xL1])) (xLT_1 (by simp [xL1])) dL_answer_5 rfl (Nat.le_of_ble_eq_true rfl) hl.1 ⟨by decide, by decide⟩ ⟨by decide, by decide⟩ (fun H locs hP hk hS => ?_)
  refine lv_i2l (v := a.toInt64) hx hb dL_answer_8 rfl ?_
  have hPo1 := hPo.kept (fun k x h9 => hk x.1 ((hPo k x h9).lt) (fun ⟨j, hj, e9⟩ => by
    have hz : k < 1 := (List.getElem?_eq_some_iff.mp h9).1
    rw [show k = 0 by omega] at h9
    cases h9
    exact hno j hj e9.symm))
  have hP9 := hP.app hPo1
  have hD9 : va_D (xAo ad o) (ir_ws ad cI σ1 ++ [(o, .inl (cL, 1, .inr (.inl g)))]) := lw_D hinj (fun i hi => Or.inl ⟨i, hi, rfl⟩) (Or.inr rfl) hno
  refine va_last hx hb hKo hP9 hD9 hS 58 0 (by rw [List.getElem?_append_right (by rw [ir_ws_len]; exact Nat.le_refl _), ir_ws_len]; rfl) rfl (vp_in_nI (n := 0) (show 0 < 1 by decide) (by decide)) dL_answer_9 (fun H locs hP hD hS => ?_)
  rw [List.set_append_right _ _ (by rw [ir_ws_len]; exact Nat.le_refl _), ir_ws_len] at hP hD
  obtain ⟨hP1, hP2, -, -, -⟩ := lw_split hP hD
  refine lv_goto (tgt := 17) hx hb dL_answer_10 (by decide) ?_
  refine lv_iconst (v := 0) hx hb dL_answer_17 (by decide) ?_
  refine W.widen (k := 1) (n := 6) (by decide) (by decide) ?_
  exact W.iret hx hb hr (fun t ht hW => ⟨rfl, by rw [ht]; exact hP1, by rw [ht]; exact hP2, hS.F ht⟩) hS.2.2 dL_answer_18
set_option maxHeartbeats 2000000 in
theorem k_LrowR (l : Launch) (dC : Nat → ClassId) (dI : Nat → Nat → Nat) (ad : Nat → Nat) (cI cL : ClassId) (o sa1 sa2 : Nat) (hinj : ∀ i j, i < 58 → j < 58 → ad i = ad j → i = j) (hno : ∀ i, i < 58 → ad i ≠ o) (v a : Int32) (σ σ1 : ir_S) (g : Nat → Int64) (hev : ir_ev 50 102 [.ref 0, .int v] σ = some (some (.int a), σ1)) :
    Met l yL_row (.codeWith yL_row cL_row 4 (some .int) [(0, 9, 12, 13)] :: xLT) xRL (va_Pc [.ref (ad 0), .int v, .ref o] (xPL dC dI ad cI cL o sa1 sa2 σ g)) (xQL dC dI ad cI cL o 0 σ1 (vp_updL g 0 a.toInt64)) 1 6 (xAo ad o) := by
  refine va_MetW (cc := cL_row) (maxL := 4) (ret := some .int) (by decide) rfl ?_
  intro p e s m args below meth c s₁ B hml hv
  obtain ⟨rfl, ⟨hP, hK, hN⟩, hPo, hKo, hX⟩ := hv
  have hx := B.exec
  have hb := B.bytes
  have hr := B.returns
  have hts0 := atoms_spec (ws := .codeWith yL_row cL_row 4 (some .int) [(0, 9, 12, 13)] :: xLT) B.pre
  have hts : ∀ w ∈ xLT, w.before _ s = true := fun w h => hts0 w (List.mem_cons_of_mem _ h)
  have hown : s.vm.findClass RL = some m.cls := findClass_of_methodNamed B.named
  have hS : va_S (xAo ad o) s.heap s.heap [] := va_S.rf
  have hl := lv_entry ([.ref (ad 0), .int v, .ref o]) (n := 4) (Nat.le_of_ble_eq_true rfl)
  rw [lg_entry_eq]
  generalize (lg_sl ([.ref (ad 0), .int v, .ref o]) ++ List.replicate (4 - (lg_sl ([.ref (ad 0), .int v, .ref o])).length) Slot.unset).toArray = ls at hl ⊢
  have hl : lv_has ls 4 [(0, .ref (ad 0)), (1, .int v), (2, .ref o)] := hl
  refine lv_aload_n hx hb dL_row_0 rfl (lv_at hl 2 rfl) ?_
  refine lv_iconst (v := 0) hx hb dL_row_1 (by decide) ?_
  refine lv_aload_n hx hb dL_row_2 rfl (lv_at hl 0 rfl) ?_
  refine lv_iload_n hx hb dL_row_3 rfl (lv_at hl 1 rfl) ?_
  refine gx_virt (d := 50) (mi := 102) (bb := 0) (va := [.int v]) (rest := [.int 0, .ref o]) ⟨hx, hb, hml, hown, hts⟩ xLT_T hinj hK hN hP hS (fun _ h => Or.inl h) hev rfl rfl rfl (xLT_1 (by simp [xL1])) (xLT_1 (by simp [xL1])) (xLT_1 (by simp [xL1])) dL_row_4 rfl (Nat.le_of_ble_eq_true rfl) hl.1 ⟨by decide, by decide⟩ ⟨by decide, by decide⟩ (fun H locs hP hk hS => ?_)
  refine lv_i2l (v := a.toInt64) hx hb dL_row_7 rfl ?_
  have hPo1 := hPo.kept (fun k x h9 => hk x.1 ((hPo k x h9).lt) (fun ⟨j, hj, e9⟩ => by
    have hz : k < 1 := (List.getElem?_eq_some_iff.mp h9).1
    rw [show k = 0 by omega] at h9
    cases h9
    exact hno j hj e9.symm))
  have hP9 := hP.app hPo1
  have hD9 : va_D (xAo ad o) (ir_ws ad cI σ1 ++ [(o, .inl (cL, 1, .inr (.inl g)))]) := lw_D hinj (fun i hi => Or.inl ⟨i, hi, rfl⟩) (Or.inr rfl) hno
  refine va_last hx hb hKo hP9 hD9 hS 58 0 (by rw [List.getElem?_append_right (by rw [ir_ws_len]; exact Nat.le_refl _), ir_ws_len]; rfl) rfl (vp_in_nI (n := 0) (show 0 < 1 by decide) (by decide)) dL_row_8 (fun H locs hP hD hS => ?_)
  rw [List.set_append_right _ _ (by rw [ir_ws_len]; exact Nat.le_refl _), ir_ws_len] at hP hD
  obtain ⟨hP1, hP2, -, -, -⟩ := lw_split hP hD
  refine lv_goto (tgt := 15) hx hb dL_row_9 (by decide) ?_
  refine lv_iconst (v := 0) hx hb dL_row_15 (by decide) ?_
  refine W.widen (k := 1) (n := 6) (by decide) (by decide) ?_
  exact W.iret hx hb hr (fun t ht hW => ⟨rfl, by rw [ht]; exact hP1, by rw [ht]; exact hP2, hS.F ht⟩) hS.2.2 dL_row_16
