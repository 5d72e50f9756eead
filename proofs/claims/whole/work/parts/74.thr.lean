/-! the two calls that may throw -/
def xTX : List Cond := (xAT RX8 180).filter (fun w => !goodWord w)
def xk (w : Cond) : Bool := match w with
  | .castable .. => true
  | .declares _ => true
  | _ => false
theorem xTX_k : xTX.all xk = true := by decide +kernel
theorem xTX_in : ∀ w ∈ xTX, w ∈ lw_tbl := by decide +kernel
def TX (U : State) : Prop := ∀ w ∈ xTX, va_Nw w U
theorem TX_of {args : Array Value} {s : State} (hts : ∀ w ∈ lw_tbl, w.before args s = true) : TX s := fun w hw => by
  have h := List.all_eq_true.mp xTX_k w hw
  have h2 := hts w (xTX_in w hw)
  cases w <;> first | exact va_Nw.of rfl h2 | cases h
theorem TX_warm {s U : State} (hW : s.WarmedH U.vm) (h : TX s) : TX U := fun w hw => by
  have h1 := List.all_eq_true.mp xTX_k w hw
  have h2 := h w hw
  cases w <;> first | exact va_Nw.warmD hW h2 | exact va_tabs rfl (rfl : (s.setVm U.vm).vm = U.vm) (by rw [Cond.castable_setVm hW.alike]; exact h2) | cases h1
theorem TX_same {u U : State} (hv : u.vm = U.vm) (h : TX u) : TX U := fun w hw => by
  have h1 := List.all_eq_true.mp xTX_k w hw
  have h2 := h w hw
  cases w <;> first | exact va_Nw.same rfl hv h2 | cases h1
def XP (A : Nat → Prop) (sa1 sa2 : Nat) (U : State) (H : Heap) : Prop := TX U ∧ vk_R RX8 178 "no such look or cause" sa1 U ∧ vk_R RX8 283 "no such number of the row" sa2 U ∧ vx_Zq Jvm.Bundle.tN "UNASSIGNED_STACK" Jvm.Bundle.steD A U H ∧ vx_Zq Jvm.Bundle.tN "SUPPRESSED_SENTINEL" Jvm.Bundle.listD A U H
theorem XP.warm {A : Nat → Prop} {sa1 sa2 : Nat} {s U : State} {H : Heap} (hW : s.WarmedH U.vm) (h : XP A sa1 sa2 s H) : XP A sa1 sa2 U H := ⟨TX_warm hW h.1, vk_R.warm hW h.2.1, vk_R.warm hW h.2.2.1, vx_Zq.moved hW.alike h.2.2.2.1, vx_Zq.moved hW.alike h.2.2.2.2⟩
theorem XP.same {A : Nat → Prop} {sa1 sa2 : Nat} {s U : State} {H : Heap} (hv : s.vm = U.vm) (h : XP A sa1 sa2 s H) : XP A sa1 sa2 U H := ⟨TX_same hv h.1, vk_R.same hv.symm h.2.1, vk_R.same hv.symm h.2.2.1, vx_Zq.moved (by rw [hv]; exact Vm.Alike.refl U.vm) h.2.2.2.1, vx_Zq.moved (by rw [hv]; exact Vm.Alike.refl U.vm) h.2.2.2.2⟩
theorem XP.kept {A : Nat → Prop} {sa1 sa2 : Nat} {U : State} {H H1 : Heap} (h : XP A sa1 sa2 U H) (hq : ∀ a : Nat, a < H.size → ¬ A a → H1[a]? = H[a]?) : XP A sa1 sa2 U H1 := ⟨h.1, h.2.1, h.2.2.1, h.2.2.2.1.kept hq, h.2.2.2.2.kept hq⟩
theorem XP.narrow {A B : Nat → Prop} {sa1 sa2 : Nat} {U : State} {H : Heap} (h : XP A sa1 sa2 U H) (hAB : ∀ q, B q → A q) : XP B sa1 sa2 U H := ⟨h.1, h.2.1, h.2.2.1, h.2.2.2.1.narrow hAB, h.2.2.2.2.narrow hAB⟩
def xE1 : List Cond := [.classLink RX8 176 xNS, .initialized xNS, .fieldLink RX8 45 "NetSchool" "looks" "LNetSchool$Entries;", .fieldLink RX8 74 "NetSchool" "told" "LNetSchool$Row;", .methodLink RX8 167 (ir_m 2).1, .instanceMethod (ir_m 2).1, .selects (ir_m 2).1.cls (ir_m 2).1 (ir_m 2).1, .methodLink RX8 173 (ir_m 106).1, .instanceMethod (ir_m 106).1, .selects (ir_m 106).1.cls (ir_m 106).1 (ir_m 106).1, .methodLink RX8 147 (ir_m 39).1, .instanceMethod (ir_m 39).1, .selects (ir_m 39).1.cls (ir_m 39).1 (ir_m 39).1]
def xG : List Cond := (xAT RX8 180).filter goodWord
def xT : List Cond := ir_T ++ (xE1 ++ (u_ws RX8 TX8 11 ++ xG))
theorem xE1_g : GoodIn lw_tbl xE1 := goodIn_sub (by decide +kernel) (by decide +kernel)
set_option maxRecDepth 100000 in
theorem xG_g : GoodIn lw_tbl xG := goodIn_sub (by decide +kernel) (by decide +kernel)
theorem xT_good : GoodIn lw_tbl xT := goodIn_app ir_T_good (goodIn_app xE1_g (goodIn_app cu_8 xG_g))
theorem xT_T : GoodIn xT ir_T := fun w h => ⟨List.mem_append_left _ h, (ir_T_good w h).2⟩
theorem xT_E {w : Cond} (h : w ∈ xE1) : w ∈ xT := List.mem_append_right _ (List.mem_append_left _ h)
theorem xT_U : ∀ w ∈ u_ws RX8 TX8 11, w ∈ xT := fun w h => List.mem_append_right _ (List.mem_append_right _ (List.mem_append_left _ h))
theorem xT_G : ∀ w ∈ xG, w ∈ xT := fun w h => List.mem_append_right _ (List.mem_append_right _ (List.mem_append_right _ h))
theorem xot : ∀ w ∈ Cond.classLink RX8 176 xNS :: Cond.initialized xNS :: xAT RX8 180, vx_ot w = true := by decide +kernel
theorem xhat {args : Array Value} {s : State} (hts : ∀ w ∈ xT, w.before args s = true) (h : TX s) : ∀ w ∈ xAT RX8 180, w.before args s = true :=
  vx_hat (B := xTX) (fun w hw => hts w (xT_G w hw)) (fun _ hw => hw) (fun w hw => by
    have h1 := List.all_eq_true.mp xTX_k w hw
    have h2 := h w hw
    cases w <;> first | exact va_Nw.use rfl h2 | cases h1)
section GXV
variable {p : Program} {l : Launch} {e : Env} {R : Room} {s : State} {m : MethodId} {args : Array Value} {below : List Frame} {meth : Method} {c : Code} {Q : State → Prop} {dC : Nat → ClassId} {dI : Nat → Nat → Nat} {ad : Nat → Nat} {cI : ClassId} {H H0 : Heap} {locs : List Loc} {cells slots : Nat} {ls : Array Slot} {pc : Nat} {σ σ' : ir_S} {rest : List Value} {A : Nat → Prop} {Ts : List Cond} {own : String} {cc : ByteArray} {nL : Nat}
theorem gx_virt {d mi ix bb : Nat} {va : List Value} {v : Int32} {fs : List (Option Nat)} {st : List Value} (S : CallFix p m c cc nL s args Ts own) (hG : GoodIn Ts ir_T) (hinj : ∀ i j, i < 58 → j < 58 → ad i = ad j → i = j) (hK : va_K (dC, dI) vwCl [(cI, .int)] s) (hN : ir_N s) (hP : va_P (dC, dI) vwCl (ir_ws ad cI σ) H) (hS : va_S A H0 H locs) (hAA : ∀ q, ir_A ad q → A q) (hev : ir_ev d mi (.ref bb :: va) σ = some (some (.int v), σ')) (hsh : ir_sh bb = some (.inr (ir_own mi, fs))) (hva : va.map (ir_cv ad) = va) (hlen : va.length = ir_na mi)
    (w1 : Cond.methodLink own ix (ir_m mi).1 ∈ Ts) (w2 : Cond.instanceMethod (ir_m mi).1 ∈ Ts) (w3 : Cond.selects (ir_m mi).1.cls (ir_m mi).1 (ir_m mi).1 ∈ Ts) (hd : decode cc pc = .ok (.invokevirtual ix, 3)) (hst : st = va.reverse ++ .ref (ad bb) :: rest) (hrest : (rest.map fun v => v.category).sum ≤ 8) (hL : ls.size = nL) (hR : d + 1 ≤ R.frames ∧ 39 + 40 * d ≤ R.locals) (hcs : cells ≤ R.cells ∧ slots ≤ R.slots)
    (kk : ∀ (H1 : Heap) (locs1 : List Loc), va_P (dC, dI) vwCl (ir_ws ad cI σ') H1 → (∀ q : Nat, q < H.size → ¬ ir_A ad q → H1[q]? = H[q]?) → va_S A H0 H1 locs1 → W p l e R s m args below meth c H1 locs1 cells slots Q (F0 m (pc + 3) ls (.int v :: rest))) : W p l e R s m args below meth c H locs cells slots Q (F0 m pc ls st) := by
  obtain ⟨hx, hb, hml, hown, hts⟩ := id S
  have hM := ir_sound l dC dI ad cI hinj d mi _ _ _ _ hev
  obtain ⟨hmc, hmf⟩ := ir_shok hsh
  obtain ⟨q1, q2, q3, q4, q5, q6, q7⟩ := ir_mok mi
  have hcls : (ir_m mi).1.cls = (ir_C1 (ir_own mi)).1 := by rw [ir_C1_R hmc]; exact q6
  have hGW : GoodIn Ts (ir_W mi) := fun w hw => ⟨(hG _ (ir_W_good mi _ hw).1).1, (ir_W_good mi _ hw).2⟩
  refine lw_callW (A := A) hAA (a := ((Value.ref bb :: va).map (ir_cv ad)).toArray) (va_runV (C := (ir_m mi).1.cls) (own := own) (bytes := ir_code mi) (maxL := ir_nL mi) (ret := ir_ret mi) (n := ir_na mi) (b := ad bb) (As := va.map (ir_cv ad)) (rest := rest) S hM
    ⟨callB_of (ws' := ir_T) (ir_na mi) hts hGW rfl rfl rfl (hts _ (hG _ (ir_in1 mi).2).1) (hts _ w1) ⟨q2, q3, q4⟩ ⟨hR.1, ?_⟩, hts _ w2, hts _ w3⟩
    ⟨ir_blind, by rw [hcls]; exact va_recv hK hP (ir_C1_get hmc) (ir_ws_obj hsh), fun U hU hW => ⟨rfl, by rw [hU]; exact hP, va_K.moved hW.alike hK, ir_N_warm hW hN⟩⟩
    rfl (by rw [List.length_map, hlen]) hL ?_ (lv_room hrest) hd ⟨hcs.1, hcs.2⟩) hS (fun H1 locs1 hP1 hk1 hS1 => kk H1 locs1 hP1 hk1 hS1)
  · show 8 + (ir_nL mi + 11) + 40 * d ≤ R.locals
    have h2 : ir_nL mi ≤ 20 := q5
    omega
  · rw [hva]; exact hst
end GXV
abbrev xQ (A : Nat → Prop) : Array Value → State → Outcome → State → Prop := va_Qi (fun (_ : Int32) (_ : Unit) => False) (fun _ _ => True) A
abbrev xX (dC : Nat → ClassId) (dI : Nat → Nat → Nat) (ad : Nat → Nat) (cI : ClassId) (σ : ir_S) : String → State → State → Prop := vx_X (fun _ : Unit => True) (fun E _ t => E = xNS ∧ va_P (dC, dI) vwCl (ir_ws ad cI σ) t.heap) (ir_A ad)
abbrev xRm : Room := { frames := 20, cells := 1, slots := 6, locals := 1000 }
set_option maxHeartbeats 2000000 in
theorem k_ansX (l : Launch) (hst : l.stackTraces = false) (dC : Nat → ClassId) (dI : Nat → Nat → Nat) (ad : Nat → Nat) (cI : ClassId) (hinj : ∀ i j, i < 58 → j < 58 → ad i = ad j → i = j) (v w : Int32) (σ : ir_S) (hno : (isE σ 22 v && cN σ w) = false) (sa1 sa2 : Nat) :
    vx_Met l (ir_m 87).1 (.code (ir_m 87).1 cX8_answer 3 (some .int) :: xT) xRm (va_Pc [.ref (ad 0), .int v, .int w] (fun U => ir_At dC dI ad cI σ U ∧ XP (ir_A ad) sa1 sa2 U U.heap)) (xQ (ir_A ad)) (xX dC dI ad cI σ) 1 6 (ir_A ad) := by
  refine vx_ofW (cc := cX8_answer) (maxL := 3) (ret := some .int) (by decide) rfl ?_
  intro p e s m args below meth c s₁ B hml hnt hv
  obtain ⟨rfl, ⟨hP, hK, hN⟩, hX⟩ := hv
  have hx := B.exec
  have hb := B.bytes
  have hts0 := atoms_spec (ws := .code (ir_m 87).1 cX8_answer 3 (some .int) :: xT) B.pre
  have hts : ∀ w ∈ xT, w.before _ s = true := fun w h => hts0 w (List.mem_cons_of_mem _ h)
  have hown : s.vm.findClass RX8 = some m.cls := findClass_of_methodNamed B.named
  have hlocks := B.notSynchronized
  have hS : va_S (ir_A ad) s.heap s.heap [] := va_S.rf
  have hl := lv_entry ([.ref (ad 0), .int v, .int w]) (n := 3) (Nat.le_of_ble_eq_true rfl)
  rw [lg_entry_eq]
  generalize (lg_sl ([.ref (ad 0), .int v, .int w]) ++ List.replicate (3 - (lg_sl ([.ref (ad 0), .int v, .int w])).length) Slot.unset).toArray = ls at hl ⊢
  have hl : lv_has ls 3 [(0, .ref (ad 0)), (1, .int v), (2, .int w)] := hl
  have thr : ∀ (H : Heap) (locs : List Loc), va_P (dC, dI) vwCl (ir_ws ad cI σ) H → va_S (ir_A ad) s.heap H locs → W p l e xRm s m _ below meth c H locs 0 0 (vx_MQ below (xQ (ir_A ad)) (xX dC dI ad cI σ) _ s 1 6 (ir_A ad)) (F0 m 19 ls []) := fun H locs hP hS =>
    x_throwS (own := RX8) (text := "no such look or cause") (ik := 176) (is := 178) (ic := 180) (sa := sa1) (A := ir_A ad) hx hb hst hown (hts _ (xT_E (by simp [xE1]))) (hts _ (xT_E (by simp [xE1]))) hX.2.1 (xhat hts hX.1) xot hX.2.2.2.1 hX.2.2.2.2 hS (hl.1.trans hml.symm) dX8_answer_19 dX8_answer_22 dX8_answer_23 dX8_answer_25 dX8_answer_28 (fun x h9 => (hnt x h9).elim) (by decide) (by decide) (by decide) (by decide) hlocks
      (fun t ha hz hq => ⟨(), trivial, ⟨rfl, hP.kept (fun k x h9 => hq x.1 ((hP k x h9).lt))⟩, ⟨Nat.le_trans hS.1 hz, fun q h1 h2 => (hq q (Nat.lt_of_lt_of_le h1 hS.1)).trans (hS.2.1 q h1 h2)⟩⟩) (fun z h9 => hS.2.2 z h9) (by decide) (by decide)
  refine lv_aload_n hx hb dX8_answer_0 rfl (lv_at hl 0 rfl) ?_
  refine va_get (D := (dC, dI)) (ci := 8) (v := .ref (ad 22)) (fs := [.ref (ad 1), .ref (ad 6), .ref (ad 11), .ref (ad 16), .ref (ad 18), .ref (ad 20), .ref (ad 22), .ref (ad 24), .ref (ad 25), .ref (ad 30), .ref (ad 31)]) (C := RX8) (T := TX8) (N := 11) hx hb hts xT_U hown hK hP 0 (by rw [ir_ws_get (by decide), irwc_0]) rfl 6 (by decide) (hts _ (xT_E (by simp [xE1, TX8]))) (fun _ h9 => h9) rfl dX8_answer_1 ?_
  refine lv_iload_n hx hb dX8_answer_4 rfl (lv_at hl 1 rfl) ?_
  refine gx_virt (d := 1) (mi := 2) (bb := 22) (va := [.int v]) (rest := []) ⟨hx, hb, hml, hown, hts⟩ xT_T hinj hK hN hP hS (fun _ h => h) (c2_22 (d := 0)) rfl rfl rfl (xT_E (by simp [xE1])) (xT_E (by simp [xE1])) (xT_E (by simp [xE1])) dX8_answer_5 rfl (by decide) hl.1 ⟨by decide, by decide⟩ ⟨by decide, by decide⟩ (fun H locs hP _ hS => ?_)
  refine lv_if_eq (tgt := 19) hx hb dX8_answer_8 (by decide) (fun _ => thr H locs hP hS) (fun h1 => ?_)
  refine lv_aload_n hx hb dX8_answer_11 rfl (lv_at hl 0 rfl) ?_
  refine lv_iload_n hx hb dX8_answer_12 rfl (lv_at hl 2 rfl) ?_
  refine gx_virt (d := 2) (mi := 106) (bb := 0) (va := [.int w]) (rest := []) ⟨hx, hb, hml, hown, hts⟩ xT_T hinj hK hN hP hS (fun _ h => h) (c106 (d := 0)) rfl rfl rfl (xT_E (by simp [xE1])) (xT_E (by simp [xE1])) (xT_E (by simp [xE1])) dX8_answer_13 rfl (by decide) hl.1 ⟨by decide, by decide⟩ ⟨by decide, by decide⟩ (fun H locs hP _ hS => ?_)
  refine lv_if_ne (tgt := 29) hx hb dX8_answer_16 (by decide) (fun h2 => ?_) (fun _ => thr H locs hP hS)
  refine absurd hno ?_
  cases e1 : isE σ 22 v
  · rw [e1] at h1; exact absurd rfl h1
  · cases e2 : cN σ w
    · rw [e2] at h2; exact absurd rfl h2
    · decide
set_option maxHeartbeats 2000000 in
theorem k_rowX (l : Launch) (hst : l.stackTraces = false) (dC : Nat → ClassId) (dI : Nat → Nat → Nat) (ad : Nat → Nat) (cI : ClassId) (hinj : ∀ i j, i < 58 → j < 58 → ad i = ad j → i = j) (v : Int32) (σ : ir_S) (hno : inr v (σ 31 1) = false) (sa1 sa2 : Nat) :
    vx_Met l (ir_m 102).1 (.code (ir_m 102).1 cX8_row 2 (some .int) :: xT) xRm (va_Pc [.ref (ad 0), .int v] (fun U => ir_At dC dI ad cI σ U ∧ XP (ir_A ad) sa1 sa2 U U.heap)) (xQ (ir_A ad)) (xX dC dI ad cI σ) 1 6 (ir_A ad) := by
  refine vx_ofW (cc := cX8_row) (maxL := 2) (ret := some .int) (by decide) rfl ?_
  intro p e s m args below meth c s₁ B hml hnt hv
  obtain ⟨rfl, ⟨hP, hK, hN⟩, hX⟩ := hv
  have hx := B.exec
  have hb := B.bytes
  have hts0 := atoms_spec (ws := .code (ir_m 102).1 cX8_row 2 (some .int) :: xT) B.pre
  have hts : ∀ w ∈ xT, w.before _ s = true := fun w h => hts0 w (List.mem_cons_of_mem _ h)
  have hown : s.vm.findClass RX8 = some m.cls := findClass_of_methodNamed B.named
  have hlocks := B.notSynchronized
  have hS : va_S (ir_A ad) s.heap s.heap [] := va_S.rf
  have hl := lv_entry ([.ref (ad 0), .int v]) (n := 2) (Nat.le_of_ble_eq_true rfl)
  rw [lg_entry_eq]
  generalize (lg_sl ([.ref (ad 0), .int v]) ++ List.replicate (2 - (lg_sl ([.ref (ad 0), .int v])).length) Slot.unset).toArray = ls at hl ⊢
  have hl : lv_has ls 2 [(0, .ref (ad 0)), (1, .int v)] := hl
  have thr : ∀ (H : Heap) (locs : List Loc), va_P (dC, dI) vwCl (ir_ws ad cI σ) H → va_S (ir_A ad) s.heap H locs → W p l e xRm s m _ below meth c H locs 0 0 (vx_MQ below (xQ (ir_A ad)) (xX dC dI ad cI σ) _ s 1 6 (ir_A ad)) (F0 m 15 ls []) := fun H locs hP hS =>
    x_throwSW (own := RX8) (text := "no such number of the row") (ik := 176) (is := 283) (ic := 180) (sa := sa2) (A := ir_A ad) hx hb hst hown (hts _ (xT_E (by simp [xE1]))) (hts _ (xT_E (by simp [xE1]))) hX.2.2.1 (xhat hts hX.1) xot hX.2.2.2.1 hX.2.2.2.2 hS (hl.1.trans hml.symm) dX8_row_15 dX8_row_18 dX8_row_19 dX8_row_22 dX8_row_25 (fun x h9 => (hnt x h9).elim) (by decide) (by decide) (by decide) (by decide) hlocks
      (fun t ha hz hq => ⟨(), trivial, ⟨rfl, hP.kept (fun k x h9 => hq x.1 ((hP k x h9).lt))⟩, ⟨Nat.le_trans hS.1 hz, fun q h1 h2 => (hq q (Nat.lt_of_lt_of_le h1 hS.1)).trans (hS.2.1 q h1 h2)⟩⟩) (fun z h9 => hS.2.2 z h9) (by decide) (by decide)
  refine lv_iload_n hx hb dX8_row_0 rfl (lv_at hl 1 rfl) ?_
  refine lv_if_lt (tgt := 15) hx hb dX8_row_1 (by decide) (fun _ => thr s.heap [] hP hS) (fun h1 => ?_)
  refine lv_iload_n hx hb dX8_row_4 rfl (lv_at hl 1 rfl) ?_
  refine lv_aload_n hx hb dX8_row_5 rfl (lv_at hl 0 rfl) ?_
  refine va_get (D := (dC, dI)) (ci := 8) (v := .ref (ad 31)) (fs := [.ref (ad 1), .ref (ad 6), .ref (ad 11), .ref (ad 16), .ref (ad 18), .ref (ad 20), .ref (ad 22), .ref (ad 24), .ref (ad 25), .ref (ad 30), .ref (ad 31)]) (C := RX8) (T := TX8) (N := 11) hx hb hts xT_U hown hK hP 0 (by rw [ir_ws_get (by decide), irwc_0]) rfl 10 (by decide) (hts _ (xT_E (by simp [xE1, TX8]))) (fun _ h9 => h9) rfl dX8_row_6 ?_
  refine gx_virt (d := 1) (mi := 39) (bb := 31) (va := []) (rest := [.int v]) ⟨hx, hb, hml, hown, hts⟩ xT_T hinj hK hN hP hS (fun _ h => h) (c39 (d := 0)) rfl rfl rfl (xT_E (by simp [xE1])) (xT_E (by simp [xE1])) (xT_E (by simp [xE1])) dX8_row_9 rfl (Nat.le_of_ble_eq_true rfl) hl.1 ⟨by decide, by decide⟩ ⟨by decide, by decide⟩ (fun H locs hP _ hS => ?_)
  refine lv_icmp_lt (tgt := 26) hx hb dX8_row_12 (by decide) (fun h2 => ?_) (fun _ => thr H locs hP hS)
  refine absurd hno ?_
  unfold inr
  rw [decide_eq_true h1, decide_eq_true (Int32.not_le.mpr h2)]
  decide
