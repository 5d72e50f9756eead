/-! constructors of the small classes, at the machine's level (by program: gen_ctor.py) -/
theorem fill_loop {p : Program} {l : Launch} {e : Env} {R : Room} {s : State} {m : MethodId} {args : Array Value} {below : List Frame} {meth : Method} {c : Code} {Q : State → Prop} {A : Nat → Prop} {dC : Nat → ClassId} {dI : Nat → Nat → Nat} {cI : ClassId} {N h0 : Nat} {v : Int32} (hx : p.tables.exec = Jvm.exec) (hb : c.code = cJ7_fill_53178) (hK : va_K (dC, dI) vwCl [(cI, .int)] s) (hN : N ≤ 10000)
    (kk : ∀ (f : Nat → Int32) (H : Heap) (locs : List Loc) (ls : Array Slot), (∀ j, j < N → f j = v) → va_P (dC, dI) vwCl [(h0, .inl (cI, N, .inl f))] H → va_D A [(h0, .inl (cI, N, .inl f))] → va_S A s.heap H locs → W p l e R s m args below meth c H locs 0 0 Q (F0 m 20 ls [])) :
    ∀ (n i : Nat) (f : Nat → Int32) (H : Heap) (locs : List Loc) (ls : Array Slot), i + n = N → (∀ j, j < i → f j = v) → va_P (dC, dI) vwCl [(h0, .inl (cI, N, .inl f))] H → va_D A [(h0, .inl (cI, N, .inl f))] → va_S A s.heap H locs → lv_has ls 4 [(0, .ref h0), (1, .int v), (2, .int (nI i)), (3, .int (nI N))] → W p l e R s m args below meth c H locs 0 0 Q (F0 m 5 ls []) := by
  intro n
  induction n with
  | zero =>
    intro i f H locs ls hi hf hP hD hS hl
    refine lv_iload_n hx hb dJ7_fill_53178_5 rfl (lv_at hl 2 rfl) ?_
    refine lv_iload_n hx hb dJ7_fill_53178_6 rfl (lv_at hl 3 rfl) ?_
    refine lv_icmp_ge (tgt := 20) hx hb dJ7_fill_53178_7 (by decide) (fun _ => ?_) (fun c9 => ?_)
    · exact kk f H locs ls (fun j hj => hf j (by omega)) hP hD hS
    · exact absurd (by rw [n_le (by omega) (by omega)]; omega) c9
  | succ n ih =>
    intro i f H locs ls hi hf hP hD hS hl
    refine lv_iload_n hx hb dJ7_fill_53178_5 rfl (lv_at hl 2 rfl) ?_
    refine lv_iload_n hx hb dJ7_fill_53178_6 rfl (lv_at hl 3 rfl) ?_
    refine lv_icmp_ge (tgt := 20) hx hb dJ7_fill_53178_7 (by decide) (fun c9 => ?_) (fun _ => ?_)
    · rw [n_le (by omega) (by omega)] at c9
      omega
    · refine lv_aload_n hx hb dJ7_fill_53178_10 rfl (lv_at hl 0 rfl) ?_
      refine lv_iload_n hx hb dJ7_fill_53178_11 rfl (lv_at hl 2 rfl) ?_
      refine lv_iload_n hx hb dJ7_fill_53178_12 rfl (lv_at hl 1 rfl) ?_
      refine va_iast hx hb hK hP hD hS 0 0 rfl rfl (vp_in_nI (show i < N by omega) (by omega)) dJ7_fill_53178_13 (fun H locs hP hD hS => ?_)
      rw [n_cl (by omega)] at hP hD
      refine lv_iinc (v := nI (i + 1)) (lv' := [(2, .int (nI (i + 1))), (0, .ref h0), (1, .int v), (3, .int (nI N))]) hx hb dJ7_fill_53178_14 hl (k := 2) rfl (nI_1 i) (by decide) rfl (fun ls hl => ?_)
      refine lv_goto (tgt := 5) hx hb dJ7_fill_53178_17 (by decide) ?_
      refine ih (i + 1) (upd f i v) H locs ls (by omega) (fun j hj => ?_) hP hD hS (lv_sub hl [1, 2, 0, 3] rfl)
      by_cases e9 : j = i
      · rw [e9, upd_s]
      · rw [upd_n _ _ e9]; exact hf j (by omega)
set_option maxHeartbeats 4000000 in
set_option maxRecDepth 100000 in
theorem k_fill (l : Launch) (dC : Nat → ClassId) (dI : Nat → Nat → Nat) (cI : ClassId) (N : Nat) (hN : N ≤ 10000) (h0 : Nat) (f0 : Nat → Int32) (v : Int32) (sz : Nat) : Met l yJ7_fill_53178 (.code yJ7_fill_53178 cJ7_fill_53178 4 none :: cT) ({ frames := 0, cells := 0, slots := 0, locals := 0 }) (va_Pc [.ref h0, .int v] (fun U => U.heap.size = sz ∧ va_P (dC, dI) vwCl [(h0, .inl (cI, N, .inl f0))] U.heap ∧ va_K (dC, dI) vwCl [(cI, .int)] U ∧ va_D (fun _ => True) [(h0, .inl (cI, N, .inl f0))])) (va_Qv (fun _ : Unit => True) (fun _ t => ∃ f : Nat → Int32, (∀ j, j < N → f j = v) ∧ va_P (dC, dI) vwCl [(h0, .inl (cI, N, .inl f))] t.heap ∧ va_K (dC, dI) vwCl [(cI, .int)] t ∧ va_D (va_A [(h0, .inl (cI, N, .inl f0))] sz) [(h0, .inl (cI, N, .inl f))]) (va_A [(h0, .inl (cI, N, .inl f0))] sz)) 0 0 (va_A [(h0, .inl (cI, N, .inl f0))] sz) := by
  refine Met.ofW (cc := cJ7_fill_53178) (maxL := 4) (ret := none) (by decide) rfl ?_
  intro p e s m args below meth c s₁ B hml hv
  obtain ⟨rfl, hsz, hP, hK, hD0⟩ := hv
  have hx := B.exec
  have hb := B.bytes
  have hr := B.returns
  have hts0 := atoms_spec (ws := .code yJ7_fill_53178 cJ7_fill_53178 4 none :: cT) B.pre
  have hts : ∀ w ∈ cT, w.before _ s = true := fun w h => hts0 w (List.mem_cons_of_mem _ h)
  have hown : s.vm.findClass RJ7 = some m.cls := findClass_of_methodNamed B.named
  have hin : meth.name = "fill" := (name_of_methodNamed B.named B.method).1
  subst hsz
  have hD := hD0.self (sz := s.heap.size)
  generalize hAe : va_A [(h0, .inl (cI, N, .inl f0))] s.heap.size = A at hD ⊢
  have hA : ∀ q : Nat, s.heap.size ≤ q → A q := fun q h => by rw [← hAe]; exact Or.inr h
  have hS : va_S A s.heap s.heap [] := va_S.rf
  have hP : va_P (dC, dI) vwCl [(h0, .inl (cI, N, .inl f0))] s.heap := hP
  have hl := lv_entry ([.ref h0, .int v]) (n := 4) (Nat.le_of_ble_eq_true rfl)
  rw [lg_entry_eq]
  generalize (lg_sl ([.ref h0, .int v]) ++ List.replicate (4 - (lg_sl ([.ref h0, .int v])).length) Slot.unset).toArray = ls at hl ⊢
  have hl : lv_has ls 4 [(0, .ref h0), (1, .int v)] := hl
  refine lv_iconst (v := 0) hx hb dJ7_fill_53178_0 (by decide) ?_
  refine lv_istore_n (lv' := [(2, .int 0), (0, .ref h0), (1, .int v)]) hx hb dJ7_fill_53178_1 rfl hl (by decide) rfl (fun ls hl => ?_)
  refine lv_aload_n hx hb dJ7_fill_53178_2 rfl (lv_at hl 1 rfl) ?_
  refine va_alen hx hb hK hP 0 0 rfl rfl (v := nI N) rfl dJ7_fill_53178_3 ?_
  refine lv_istore_n (lv' := [(3, .int (nI N)), (2, .int 0), (0, .ref h0), (1, .int v)]) hx hb dJ7_fill_53178_4 rfl hl (by decide) rfl (fun ls hl => ?_)
  refine fill_loop hx hb hK hN (fun f H locs ls hf hP hD hS => ?_) N 0 f0 s.heap [] ls (by omega) (fun j hj => by omega) hP hD hS (lv_sub hl [2, 3, 1, 0] rfl)
  exact W.vret hx hb hr (fun t ht hW => ⟨⟨(), rfl, trivial, f, hf, by rw [ht]; exact hP, va_K.moved hW.alike hK, hD⟩, hS.F ht⟩) hS.2.2 dJ7_fill_53178_20
set_option maxHeartbeats 4000000 in
set_option maxRecDepth 100000 in
theorem k_preset (l : Launch) (dC : Nat → ClassId) (dI : Nat → Nat → Nat) (cI : ClassId) (h0 r0 r1 r2 r3 : Nat) (g1 : Nat → Int32) (g2 : Nat → Int32) (g3 : Nat → Int32) (i4 : Int32) (i5 : Int32) (i6 : Int32) (sz : Nat) : Met l yX2_reset (.code yX2_reset cX2_reset 1 none :: cT) ({ frames := 1, cells := 0, slots := 0, locals := 23 }) (va_Pc [.ref h0] (fun U => U.heap.size = sz ∧ va_P (dC, dI) vwCl [(h0, .inr (2, [.ref r0, .ref r1, .ref r2, .ref r3, .int i4, .int i5, .int i6])), (r1, .inl (cI, 12, .inl g1)), (r2, .inl (cI, 144, .inl g2)), (r3, .inl (cI, 144, .inl g3))] U.heap ∧ va_K (dC, dI) vwCl [(cI, .int)] U ∧ va_D (fun _ => True) [(h0, .inr (2, [.ref r0, .ref r1, .ref r2, .ref r3, .int i4, .int i5, .int i6])), (r1, .inl (cI, 12, .inl g1)), (r2, .inl (cI, 144, .inl g2)), (r3, .inl (cI, 144, .inl g3))])) (va_Qv (fun _ : Unit => True) (fun _ t => ∃ f1 : Nat → Int32, ∃ f2 : Nat → Int32, ∃ f3 : Nat → Int32, (∀ j, j < 12 → f1 j = 0) ∧ (∀ j, j < 144 → f2 j = (-1)) ∧ (∀ j, j < 144 → f3 j = (-1)) ∧ va_P (dC, dI) vwCl [(h0, .inr (2, [.ref r0, .ref r1, .ref r2, .ref r3, .int 0, .int 0, .int 0])), (r1, .inl (cI, 12, .inl f1)), (r2, .inl (cI, 144, .inl f2)), (r3, .inl (cI, 144, .inl f3))] t.heap ∧ va_K (dC, dI) vwCl [(cI, .int)] t ∧ va_D (va_A [(h0, .inr (2, [.ref r0, .ref r1, .ref r2, .ref r3, .int i4, .int i5, .int i6])), (r1, .inl (cI, 12, .inl g1)), (r2, .inl (cI, 144, .inl g2)), (r3, .inl (cI, 144, .inl g3))] sz) [(h0, .inr (2, [.ref r0, .ref r1, .ref r2, .ref r3, .int 0, .int 0, .int 0])), (r1, .inl (cI, 12, .inl f1)), (r2, .inl (cI, 144, .inl f2)), (r3, .inl (cI, 144, .inl f3))]) (va_A [(h0, .inr (2, [.ref r0, .ref r1, .ref r2, .ref r3, .int i4, .int i5, .int i6])), (r1, .inl (cI, 12, .inl g1)), (r2, .inl (cI, 144, .inl g2)), (r3, .inl (cI, 144, .inl g3))] sz)) 0 0 (va_A [(h0, .inr (2, [.ref r0, .ref r1, .ref r2, .ref r3, .int i4, .int i5, .int i6])), (r1, .inl (cI, 12, .inl g1)), (r2, .inl (cI, 144, .inl g2)), (r3, .inl (cI, 144, .inl g3))] sz) := by
  refine Met.ofW (cc := cX2_reset) (maxL := 1) (ret := none) (by decide) rfl ?_
  intro p e s m args below meth c s₁ B hml hv
  obtain ⟨rfl, hsz, hP, hK, hD0⟩ := hv
  have hx := B.exec
  have hb := B.bytes
  have hr := B.returns
  have hts0 := atoms_spec (ws := .code yX2_reset cX2_reset 1 none :: cT) B.pre
  have hts : ∀ w ∈ cT, w.before _ s = true := fun w h => hts0 w (List.mem_cons_of_mem _ h)
  have hown : s.vm.findClass RX2 = some m.cls := findClass_of_methodNamed B.named
  have hin : meth.name = "reset" := (name_of_methodNamed B.named B.method).1
  subst hsz
  have hD := hD0.self (sz := s.heap.size)
  generalize hAe : va_A [(h0, .inr (2, [.ref r0, .ref r1, .ref r2, .ref r3, .int i4, .int i5, .int i6])), (r1, .inl (cI, 12, .inl g1)), (r2, .inl (cI, 144, .inl g2)), (r3, .inl (cI, 144, .inl g3))] s.heap.size = A at hD ⊢
  have hA : ∀ q : Nat, s.heap.size ≤ q → A q := fun q h => by rw [← hAe]; exact Or.inr h
  have hS : va_S A s.heap s.heap [] := va_S.rf
  have hP : va_P (dC, dI) vwCl [(h0, .inr (2, [.ref r0, .ref r1, .ref r2, .ref r3, .int i4, .int i5, .int i6])), (r1, .inl (cI, 12, .inl g1)), (r2, .inl (cI, 144, .inl g2)), (r3, .inl (cI, 144, .inl g3))] s.heap := hP
  have hl := lv_entry ([.ref h0]) (n := 1) (Nat.le_of_ble_eq_true rfl)
  rw [lg_entry_eq]
  generalize (lg_sl ([.ref h0]) ++ List.replicate (1 - (lg_sl ([.ref h0])).length) Slot.unset).toArray = ls at hl ⊢
  have hl : lv_has ls 1 [(0, .ref h0)] := hl
  refine lv_aload_n hx hb dX2_reset_0 rfl (lv_at hl 0 rfl) ?_
  refine lv_iconst (v := 0) hx hb dX2_reset_1 (by decide) ?_
  refine va_put (D := (dC, dI)) (ci := 2) (v := .int 0) (ty := .int) (C := RX2) (T := TX2) (N := 7) hx hb hts ci_2 tyX2 tyX2_ok nmX2 hown hK hP hD hS 0 rfl rfl 4 (by decide) (hts _ cm_10) (fun _ h9 => h9) rfl (by decide +kernel) rfl rfl (Nat.le_of_ble_eq_true rfl) dX2_reset_2 (fun H locs hP hD hS => ?_)
  have hP : va_P (dC, dI) vwCl [(h0, .inr (2, [.ref r0, .ref r1, .ref r2, .ref r3, .int 0, .int i5, .int i6])), (r1, .inl (cI, 12, .inl g1)), (r2, .inl (cI, 144, .inl g2)), (r3, .inl (cI, 144, .inl g3))] H := hP
  have hD : va_D A [(h0, .inr (2, [.ref r0, .ref r1, .ref r2, .ref r3, .int 0, .int i5, .int i6])), (r1, .inl (cI, 12, .inl g1)), (r2, .inl (cI, 144, .inl g2)), (r3, .inl (cI, 144, .inl g3))] := hD
  refine lv_aload_n hx hb dX2_reset_5 rfl (lv_at hl 0 rfl) ?_
  refine lv_iconst (v := 0) hx hb dX2_reset_6 (by decide) ?_
  refine va_put (D := (dC, dI)) (ci := 2) (v := .int 0) (ty := .int) (C := RX2) (T := TX2) (N := 7) hx hb hts ci_2 tyX2 tyX2_ok nmX2 hown hK hP hD hS 0 rfl rfl 5 (by decide) (hts _ cm_11) (fun _ h9 => h9) rfl (by decide +kernel) rfl rfl (Nat.le_of_ble_eq_true rfl) dX2_reset_7 (fun H locs hP hD hS => ?_)
  have hP : va_P (dC, dI) vwCl [(h0, .inr (2, [.ref r0, .ref r1, .ref r2, .ref r3, .int 0, .int 0, .int i6])), (r1, .inl (cI, 12, .inl g1)), (r2, .inl (cI, 144, .inl g2)), (r3, .inl (cI, 144, .inl g3))] H := hP
  have hD : va_D A [(h0, .inr (2, [.ref r0, .ref r1, .ref r2, .ref r3, .int 0, .int 0, .int i6])), (r1, .inl (cI, 12, .inl g1)), (r2, .inl (cI, 144, .inl g2)), (r3, .inl (cI, 144, .inl g3))] := hD
  refine lv_aload_n hx hb dX2_reset_10 rfl (lv_at hl 0 rfl) ?_
  refine lv_iconst (v := 0) hx hb dX2_reset_11 (by decide) ?_
  refine va_put (D := (dC, dI)) (ci := 2) (v := .int 0) (ty := .int) (C := RX2) (T := TX2) (N := 7) hx hb hts ci_2 tyX2 tyX2_ok nmX2 hown hK hP hD hS 0 rfl rfl 6 (by decide) (hts _ cm_12) (fun _ h9 => h9) rfl (by decide +kernel) rfl rfl (Nat.le_of_ble_eq_true rfl) dX2_reset_12 (fun H locs hP hD hS => ?_)
  have hP : va_P (dC, dI) vwCl [(h0, .inr (2, [.ref r0, .ref r1, .ref r2, .ref r3, .int 0, .int 0, .int 0])), (r1, .inl (cI, 12, .inl g1)), (r2, .inl (cI, 144, .inl g2)), (r3, .inl (cI, 144, .inl g3))] H := hP
  have hD : va_D A [(h0, .inr (2, [.ref r0, .ref r1, .ref r2, .ref r3, .int 0, .int 0, .int 0])), (r1, .inl (cI, 12, .inl g1)), (r2, .inl (cI, 144, .inl g2)), (r3, .inl (cI, 144, .inl g3))] := hD
  refine lv_aload_n hx hb dX2_reset_15 rfl (lv_at hl 0 rfl) ?_
  refine va_get (D := (dC, dI)) (ci := 2) (v := .ref r1) (C := RX2) (T := TX2) (N := 7) hx hb hts ci_2 hown hK hP 0 rfl rfl 1 (by decide) (hts _ cm_13) (fun _ h9 => h9) rfl dX2_reset_16 ?_
  refine lv_iconst (v := 0) hx hb dX2_reset_19 (by decide) ?_
  have hPc := hP.sub (ws' := [(r1, .inl (cI, 12, .inl g1))]) [1] rfl
  have hDc := hD.sub (ws' := [(r1, .inl (cI, 12, .inl g1))]) [1] (by decide) rfl
  have hKc := hK.sub (tys' := [(cI, .int)]) [0] rfl
  have hFc := va_free (wc := [(r1, .inl (cI, 12, .inl g1))]) hD hS hA [1] rfl
  refine va_callv (va_runS (As := [.ref r1, .int 0]) (rest := []) ⟨hx, hb, hml, hown, hts⟩ (k_fill l dC dI cI 12 (by decide) r1 g1 0 H.size) ⟨callB_of 2 hts (cT_self cm_8) rfl rfl rfl (hts _ cm_18) (hts _ cm_16) (by decide +kernel) ⟨Nat.le_of_ble_eq_true rfl, Nat.le_of_ble_eq_true rfl⟩, hts _ cm_17⟩ ⟨fun a U g mk q => by obtain ⟨q0, q1, qP, qK, qD⟩ := q; exact ⟨q0, q1, qP, va_K.moved (u := U) (U := U.calling g mk a) (Vm.Alike.refl U.vm) qK, qD⟩, fun U hU hW => ⟨rfl, by rw [hU], by rw [hU]; exact hPc, va_K.moved hW.alike hKc, hDc.weaken (fun _ _ _ _ => trivial)⟩⟩ rfl rfl hl.1 rfl (lv_room (Nat.le_of_ble_eq_true rfl)) dX2_reset_20 ⟨Nat.le_of_ble_eq_true rfl, Nat.le_of_ble_eq_true rfl⟩) hS (fun q _ h => hFc q h) hFc (fun u t H1 locs ht hvm hw hB hz1 hk1 hS => ?_)
  obtain ⟨f1, hf1, hP1, hK1, hD1⟩ := hB
  rw [ht] at hP1
  have hK1 := va_K.moved hvm.symm hK1
  obtain ⟨hP, hD⟩ := va_join (wr := [(h0, .inr (2, [.ref r0, .ref r1, .ref r2, .ref r3, .int 0, .int 0, .int 0])), (r2, .inl (cI, 144, .inl g2)), (r3, .inl (cI, 144, .inl g3))]) (w1 := [(r1, .inl (cI, 12, .inl f1))]) hP hD [1] [0, 2, 3] rfl rfl (by decide) (by decide) hk1 hFc hP1 hD1
  generalize H1 = H at hP hS ⊢
  have hP : va_P (dC, dI) vwCl [(h0, .inr (2, [.ref r0, .ref r1, .ref r2, .ref r3, .int 0, .int 0, .int 0])), (r2, .inl (cI, 144, .inl g2)), (r3, .inl (cI, 144, .inl g3)), (r1, .inl (cI, 12, .inl f1))] H := hP
  have hD : va_D A [(h0, .inr (2, [.ref r0, .ref r1, .ref r2, .ref r3, .int 0, .int 0, .int 0])), (r2, .inl (cI, 144, .inl g2)), (r3, .inl (cI, 144, .inl g3)), (r1, .inl (cI, 12, .inl f1))] := hD
  refine lv_aload_n hx hb dX2_reset_23 rfl (lv_at hl 0 rfl) ?_
  refine va_get (D := (dC, dI)) (ci := 2) (v := .ref r2) (C := RX2) (T := TX2) (N := 7) hx hb hts ci_2 hown hK hP 0 rfl rfl 2 (by decide) (hts _ cm_14) (fun _ h9 => h9) rfl dX2_reset_24 ?_
  refine lv_iconst (v := (-1)) hx hb dX2_reset_27 (by decide) ?_
  have hPc := hP.sub (ws' := [(r2, .inl (cI, 144, .inl g2))]) [1] rfl
  have hDc := hD.sub (ws' := [(r2, .inl (cI, 144, .inl g2))]) [1] (by decide) rfl
  have hKc := hK.sub (tys' := [(cI, .int)]) [0] rfl
  have hFc := va_free (wc := [(r2, .inl (cI, 144, .inl g2))]) hD hS hA [1] rfl
  refine va_callv (va_runS (As := [.ref r2, .int (-1)]) (rest := []) ⟨hx, hb, hml, hown, hts⟩ (k_fill l dC dI cI 144 (by decide) r2 g2 (-1) H.size) ⟨callB_of 2 hts (cT_self cm_8) rfl rfl rfl (hts _ cm_18) (hts _ cm_16) (by decide +kernel) ⟨Nat.le_of_ble_eq_true rfl, Nat.le_of_ble_eq_true rfl⟩, hts _ cm_17⟩ ⟨fun a U g mk q => by obtain ⟨q0, q1, qP, qK, qD⟩ := q; exact ⟨q0, q1, qP, va_K.moved (u := U) (U := U.calling g mk a) (Vm.Alike.refl U.vm) qK, qD⟩, fun U hU hW => ⟨rfl, by rw [hU], by rw [hU]; exact hPc, va_K.moved hW.alike hKc, hDc.weaken (fun _ _ _ _ => trivial)⟩⟩ rfl rfl hl.1 rfl (lv_room (Nat.le_of_ble_eq_true rfl)) dX2_reset_28 ⟨Nat.le_of_ble_eq_true rfl, Nat.le_of_ble_eq_true rfl⟩) hS (fun q _ h => hFc q h) hFc (fun u t H1 locs ht hvm hw hB hz1 hk1 hS => ?_)
  obtain ⟨f2, hf2, hP1, hK1, hD1⟩ := hB
  rw [ht] at hP1
  have hK1 := va_K.moved hvm.symm hK1
  obtain ⟨hP, hD⟩ := va_join (wr := [(h0, .inr (2, [.ref r0, .ref r1, .ref r2, .ref r3, .int 0, .int 0, .int 0])), (r3, .inl (cI, 144, .inl g3)), (r1, .inl (cI, 12, .inl f1))]) (w1 := [(r2, .inl (cI, 144, .inl f2))]) hP hD [1] [0, 2, 3] rfl rfl (by decide) (by decide) hk1 hFc hP1 hD1
  generalize H1 = H at hP hS ⊢
  have hP : va_P (dC, dI) vwCl [(h0, .inr (2, [.ref r0, .ref r1, .ref r2, .ref r3, .int 0, .int 0, .int 0])), (r3, .inl (cI, 144, .inl g3)), (r1, .inl (cI, 12, .inl f1)), (r2, .inl (cI, 144, .inl f2))] H := hP
  have hD : va_D A [(h0, .inr (2, [.ref r0, .ref r1, .ref r2, .ref r3, .int 0, .int 0, .int 0])), (r3, .inl (cI, 144, .inl g3)), (r1, .inl (cI, 12, .inl f1)), (r2, .inl (cI, 144, .inl f2))] := hD
  refine lv_aload_n hx hb dX2_reset_31 rfl (lv_at hl 0 rfl) ?_
  refine va_get (D := (dC, dI)) (ci := 2) (v := .ref r3) (C := RX2) (T := TX2) (N := 7) hx hb hts ci_2 hown hK hP 0 rfl rfl 3 (by decide) (hts _ cm_15) (fun _ h9 => h9) rfl dX2_reset_32 ?_
  refine lv_iconst (v := (-1)) hx hb dX2_reset_35 (by decide) ?_
  have hPc := hP.sub (ws' := [(r3, .inl (cI, 144, .inl g3))]) [1] rfl
  have hDc := hD.sub (ws' := [(r3, .inl (cI, 144, .inl g3))]) [1] (by decide) rfl
  have hKc := hK.sub (tys' := [(cI, .int)]) [0] rfl
  have hFc := va_free (wc := [(r3, .inl (cI, 144, .inl g3))]) hD hS hA [1] rfl
  refine va_callv (va_runS (As := [.ref r3, .int (-1)]) (rest := []) ⟨hx, hb, hml, hown, hts⟩ (k_fill l dC dI cI 144 (by decide) r3 g3 (-1) H.size) ⟨callB_of 2 hts (cT_self cm_8) rfl rfl rfl (hts _ cm_18) (hts _ cm_16) (by decide +kernel) ⟨Nat.le_of_ble_eq_true rfl, Nat.le_of_ble_eq_true rfl⟩, hts _ cm_17⟩ ⟨fun a U g mk q => by obtain ⟨q0, q1, qP, qK, qD⟩ := q; exact ⟨q0, q1, qP, va_K.moved (u := U) (U := U.calling g mk a) (Vm.Alike.refl U.vm) qK, qD⟩, fun U hU hW => ⟨rfl, by rw [hU], by rw [hU]; exact hPc, va_K.moved hW.alike hKc, hDc.weaken (fun _ _ _ _ => trivial)⟩⟩ rfl rfl hl.1 rfl (lv_room (Nat.le_of_ble_eq_true rfl)) dX2_reset_36 ⟨Nat.le_of_ble_eq_true rfl, Nat.le_of_ble_eq_true rfl⟩) hS (fun q _ h => hFc q h) hFc (fun u t H1 locs ht hvm hw hB hz1 hk1 hS => ?_)
  obtain ⟨f3, hf3, hP1, hK1, hD1⟩ := hB
  rw [ht] at hP1
  have hK1 := va_K.moved hvm.symm hK1
  obtain ⟨hP, hD⟩ := va_join (wr := [(h0, .inr (2, [.ref r0, .ref r1, .ref r2, .ref r3, .int 0, .int 0, .int 0])), (r1, .inl (cI, 12, .inl f1)), (r2, .inl (cI, 144, .inl f2))]) (w1 := [(r3, .inl (cI, 144, .inl f3))]) hP hD [1] [0, 2, 3] rfl rfl (by decide) (by decide) hk1 hFc hP1 hD1
  generalize H1 = H at hP hS ⊢
  have hP : va_P (dC, dI) vwCl [(h0, .inr (2, [.ref r0, .ref r1, .ref r2, .ref r3, .int 0, .int 0, .int 0])), (r1, .inl (cI, 12, .inl f1)), (r2, .inl (cI, 144, .inl f2)), (r3, .inl (cI, 144, .inl f3))] H := hP
  have hD : va_D A [(h0, .inr (2, [.ref r0, .ref r1, .ref r2, .ref r3, .int 0, .int 0, .int 0])), (r1, .inl (cI, 12, .inl f1)), (r2, .inl (cI, 144, .inl f2)), (r3, .inl (cI, 144, .inl f3))] := hD
  have hP := hP.sub (ws' := [(h0, .inr (2, [.ref r0, .ref r1, .ref r2, .ref r3, .int 0, .int 0, .int 0])), (r1, .inl (cI, 12, .inl f1)), (r2, .inl (cI, 144, .inl f2)), (r3, .inl (cI, 144, .inl f3))]) [0, 1, 2, 3] rfl
  have hD := hD.sub (ws' := [(h0, .inr (2, [.ref r0, .ref r1, .ref r2, .ref r3, .int 0, .int 0, .int 0])), (r1, .inl (cI, 12, .inl f1)), (r2, .inl (cI, 144, .inl f2)), (r3, .inl (cI, 144, .inl f3))]) [0, 1, 2, 3] (by decide) rfl
  refine W.widen (k := 0) (n := 0) (Nat.le_of_ble_eq_true rfl) (Nat.le_of_ble_eq_true rfl) ?_
  exact W.vret hx hb hr (fun t ht hW => ⟨⟨(), rfl, trivial, f1, f2, f3, hf1, hf2, hf3, by rw [ht]; exact hP, va_K.moved hW.alike hK, hD⟩, hS.F ht⟩) hS.2.2 dX2_reset_39
set_option maxHeartbeats 4000000 in
set_option maxRecDepth 100000 in
theorem k_sreset (l : Launch) (dC : Nat → ClassId) (dI : Nat → Nat → Nat) (cI : ClassId) (h0 r0 r1 r2 r3 : Nat) (g0 : Nat → Int32) (g1 : Nat → Int32) (g2 : Nat → Int32) (g3 : Nat → Int32) (i4 : Int32) (i5 : Int32) (i6 : Int32) (sz : Nat) : Met l yX5_reset (.code yX5_reset cX5_reset 1 none :: cT) ({ frames := 1, cells := 0, slots := 0, locals := 23 }) (va_Pc [.ref h0] (fun U => U.heap.size = sz ∧ va_P (dC, dI) vwCl [(h0, .inr (5, [.ref r0, .ref r1, .ref r2, .ref r3, .int i4, .int i5, .int i6])), (r0, .inl (cI, 144, .inl g0)), (r1, .inl (cI, 144, .inl g1)), (r2, .inl (cI, 12, .inl g2)), (r3, .inl (cI, 6, .inl g3))] U.heap ∧ va_K (dC, dI) vwCl [(cI, .int)] U ∧ va_D (fun _ => True) [(h0, .inr (5, [.ref r0, .ref r1, .ref r2, .ref r3, .int i4, .int i5, .int i6])), (r0, .inl (cI, 144, .inl g0)), (r1, .inl (cI, 144, .inl g1)), (r2, .inl (cI, 12, .inl g2)), (r3, .inl (cI, 6, .inl g3))])) (va_Qv (fun _ : Unit => True) (fun _ t => ∃ f0 : Nat → Int32, ∃ f1 : Nat → Int32, ∃ f2 : Nat → Int32, ∃ f3 : Nat → Int32, (∀ j, j < 144 → f0 j = (-1)) ∧ (∀ j, j < 144 → f1 j = 0) ∧ (∀ j, j < 12 → f2 j = 15) ∧ (∀ j, j < 6 → f3 j = (-1)) ∧ va_P (dC, dI) vwCl [(h0, .inr (5, [.ref r0, .ref r1, .ref r2, .ref r3, .int (-1), .int 0, .int 0])), (r0, .inl (cI, 144, .inl f0)), (r1, .inl (cI, 144, .inl f1)), (r2, .inl (cI, 12, .inl f2)), (r3, .inl (cI, 6, .inl f3))] t.heap ∧ va_K (dC, dI) vwCl [(cI, .int)] t ∧ va_D (va_A [(h0, .inr (5, [.ref r0, .ref r1, .ref r2, .ref r3, .int i4, .int i5, .int i6])), (r0, .inl (cI, 144, .inl g0)), (r1, .inl (cI, 144, .inl g1)), (r2, .inl (cI, 12, .inl g2)), (r3, .inl (cI, 6, .inl g3))] sz) [(h0, .inr (5, [.ref r0, .ref r1, .ref r2, .ref r3, .int (-1), .int 0, .int 0])), (r0, .inl (cI, 144, .inl f0)), (r1, .inl (cI, 144, .inl f1)), (r2, .inl (cI, 12, .inl f2)), (r3, .inl (cI, 6, .inl f3))]) (va_A [(h0, .inr (5, [.ref r0, .ref r1, .ref r2, .ref r3, .int i4, .int i5, .int i6])), (r0, .inl (cI, 144, .inl g0)), (r1, .inl (cI, 144, .inl g1)), (r2, .inl (cI, 12, .inl g2)), (r3, .inl (cI, 6, .inl g3))] sz)) 0 0 (va_A [(h0, .inr (5, [.ref r0, .ref r1, .ref r2, .ref r3, .int i4, .int i5, .int i6])), (r0, .inl (cI, 144, .inl g0)), (r1, .inl (cI, 144, .inl g1)), (r2, .inl (cI, 12, .inl g2)), (r3, .inl (cI, 6, .inl g3))] sz) := by
  refine Met.ofW (cc := cX5_reset) (maxL := 1) (ret := none) (by decide) rfl ?_
  intro p e s m args below meth c s₁ B hml hv
  obtain ⟨rfl, hsz, hP, hK, hD0⟩ := hv
  have hx := B.exec
  have hb := B.bytes
  have hr := B.returns
  have hts0 := atoms_spec (ws := .code yX5_reset cX5_reset 1 none :: cT) B.pre
  have hts : ∀ w ∈ cT, w.before _ s = true := fun w h => hts0 w (List.mem_cons_of_mem _ h)
  have hown : s.vm.findClass RX5 = some m.cls := findClass_of_methodNamed B.named
  have hin : meth.name = "reset" := (name_of_methodNamed B.named B.method).1
  subst hsz
  have hD := hD0.self (sz := s.heap.size)
  generalize hAe : va_A [(h0, .inr (5, [.ref r0, .ref r1, .ref r2, .ref r3, .int i4, .int i5, .int i6])), (r0, .inl (cI, 144, .inl g0)), (r1, .inl (cI, 144, .inl g1)), (r2, .inl (cI, 12, .inl g2)), (r3, .inl (cI, 6, .inl g3))] s.heap.size = A at hD ⊢
  have hA : ∀ q : Nat, s.heap.size ≤ q → A q := fun q h => by rw [← hAe]; exact Or.inr h
  have hS : va_S A s.heap s.heap [] := va_S.rf
  have hP : va_P (dC, dI) vwCl [(h0, .inr (5, [.ref r0, .ref r1, .ref r2, .ref r3, .int i4, .int i5, .int i6])), (r0, .inl (cI, 144, .inl g0)), (r1, .inl (cI, 144, .inl g1)), (r2, .inl (cI, 12, .inl g2)), (r3, .inl (cI, 6, .inl g3))] s.heap := hP
  have hl := lv_entry ([.ref h0]) (n := 1) (Nat.le_of_ble_eq_true rfl)
  rw [lg_entry_eq]
  generalize (lg_sl ([.ref h0]) ++ List.replicate (1 - (lg_sl ([.ref h0])).length) Slot.unset).toArray = ls at hl ⊢
  have hl : lv_has ls 1 [(0, .ref h0)] := hl
  refine lv_aload_n hx hb dX5_reset_0 rfl (lv_at hl 0 rfl) ?_
  refine va_get (D := (dC, dI)) (ci := 5) (v := .ref r0) (C := RX5) (T := TX5) (N := 7) hx hb hts ci_5 hown hK hP 0 rfl rfl 0 (by decide) (hts _ cm_34) (fun _ h9 => h9) rfl dX5_reset_1 ?_
  refine lv_iconst (v := (-1)) hx hb dX5_reset_4 (by decide) ?_
  have hPc := hP.sub (ws' := [(r0, .inl (cI, 144, .inl g0))]) [1] rfl
  have hDc := hD.sub (ws' := [(r0, .inl (cI, 144, .inl g0))]) [1] (by decide) rfl
  have hKc := hK.sub (tys' := [(cI, .int)]) [0] rfl
  have hFc := va_free (wc := [(r0, .inl (cI, 144, .inl g0))]) hD hS hA [1] rfl
  refine va_callv (va_runS (As := [.ref r0, .int (-1)]) (rest := []) ⟨hx, hb, hml, hown, hts⟩ (k_fill l dC dI cI 144 (by decide) r0 g0 (-1) s.heap.size) ⟨callB_of 2 hts (cT_self cm_8) rfl rfl rfl (hts _ cm_18) (hts _ cm_41) (by decide +kernel) ⟨Nat.le_of_ble_eq_true rfl, Nat.le_of_ble_eq_true rfl⟩, hts _ cm_17⟩ ⟨fun a U g mk q => by obtain ⟨q0, q1, qP, qK, qD⟩ := q; exact ⟨q0, q1, qP, va_K.moved (u := U) (U := U.calling g mk a) (Vm.Alike.refl U.vm) qK, qD⟩, fun U hU hW => ⟨rfl, by rw [hU], by rw [hU]; exact hPc, va_K.moved hW.alike hKc, hDc.weaken (fun _ _ _ _ => trivial)⟩⟩ rfl rfl hl.1 rfl (lv_room (Nat.le_of_ble_eq_true rfl)) dX5_reset_5 ⟨Nat.le_of_ble_eq_true rfl, Nat.le_of_ble_eq_true rfl⟩) hS (fun q _ h => hFc q h) hFc (fun u t H1 locs ht hvm hw hB hz1 hk1 hS => ?_)
  obtain ⟨f0, hf0, hP1, hK1, hD1⟩ := hB
  rw [ht] at hP1
  have hK1 := va_K.moved hvm.symm hK1
  obtain ⟨hP, hD⟩ := va_join (wr := [(h0, .inr (5, [.ref r0, .ref r1, .ref r2, .ref r3, .int i4, .int i5, .int i6])), (r1, .inl (cI, 144, .inl g1)), (r2, .inl (cI, 12, .inl g2)), (r3, .inl (cI, 6, .inl g3))]) (w1 := [(r0, .inl (cI, 144, .inl f0))]) hP hD [1] [0, 2, 3, 4] rfl rfl (by decide) (by decide) hk1 hFc hP1 hD1
  generalize H1 = H at hP hS ⊢
  have hP : va_P (dC, dI) vwCl [(h0, .inr (5, [.ref r0, .ref r1, .ref r2, .ref r3, .int i4, .int i5, .int i6])), (r1, .inl (cI, 144, .inl g1)), (r2, .inl (cI, 12, .inl g2)), (r3, .inl (cI, 6, .inl g3)), (r0, .inl (cI, 144, .inl f0))] H := hP
  have hD : va_D A [(h0, .inr (5, [.ref r0, .ref r1, .ref r2, .ref r3, .int i4, .int i5, .int i6])), (r1, .inl (cI, 144, .inl g1)), (r2, .inl (cI, 12, .inl g2)), (r3, .inl (cI, 6, .inl g3)), (r0, .inl (cI, 144, .inl f0))] := hD
  refine lv_aload_n hx hb dX5_reset_8 rfl (lv_at hl 0 rfl) ?_
  refine va_get (D := (dC, dI)) (ci := 5) (v := .ref r1) (C := RX5) (T := TX5) (N := 7) hx hb hts ci_5 hown hK hP 0 rfl rfl 1 (by decide) (hts _ cm_35) (fun _ h9 => h9) rfl dX5_reset_9 ?_
  refine lv_iconst (v := 0) hx hb dX5_reset_12 (by decide) ?_
  have hPc := hP.sub (ws' := [(r1, .inl (cI, 144, .inl g1))]) [1] rfl
  have hDc := hD.sub (ws' := [(r1, .inl (cI, 144, .inl g1))]) [1] (by decide) rfl
  have hKc := hK.sub (tys' := [(cI, .int)]) [0] rfl
  have hFc := va_free (wc := [(r1, .inl (cI, 144, .inl g1))]) hD hS hA [1] rfl
  refine va_callv (va_runS (As := [.ref r1, .int 0]) (rest := []) ⟨hx, hb, hml, hown, hts⟩ (k_fill l dC dI cI 144 (by decide) r1 g1 0 H.size) ⟨callB_of 2 hts (cT_self cm_8) rfl rfl rfl (hts _ cm_18) (hts _ cm_41) (by decide +kernel) ⟨Nat.le_of_ble_eq_true rfl, Nat.le_of_ble_eq_true rfl⟩, hts _ cm_17⟩ ⟨fun a U g mk q => by obtain ⟨q0, q1, qP, qK, qD⟩ := q; exact ⟨q0, q1, qP, va_K.moved (u := U) (U := U.calling g mk a) (Vm.Alike.refl U.vm) qK, qD⟩, fun U hU hW => ⟨rfl, by rw [hU], by rw [hU]; exact hPc, va_K.moved hW.alike hKc, hDc.weaken (fun _ _ _ _ => trivial)⟩⟩ rfl rfl hl.1 rfl (lv_room (Nat.le_of_ble_eq_true rfl)) dX5_reset_13 ⟨Nat.le_of_ble_eq_true rfl, Nat.le_of_ble_eq_true rfl⟩) hS (fun q _ h => hFc q h) hFc (fun u t H1 locs ht hvm hw hB hz1 hk1 hS => ?_)
  obtain ⟨f1, hf1, hP1, hK1, hD1⟩ := hB
  rw [ht] at hP1
  have hK1 := va_K.moved hvm.symm hK1
  obtain ⟨hP, hD⟩ := va_join (wr := [(h0, .inr (5, [.ref r0, .ref r1, .ref r2, .ref r3, .int i4, .int i5, .int i6])), (r2, .inl (cI, 12, .inl g2)), (r3, .inl (cI, 6, .inl g3)), (r0, .inl (cI, 144, .inl f0))]) (w1 := [(r1, .inl (cI, 144, .inl f1))]) hP hD [1] [0, 2, 3, 4] rfl rfl (by decide) (by decide) hk1 hFc hP1 hD1
  generalize H1 = H at hP hS ⊢
  have hP : va_P (dC, dI) vwCl [(h0, .inr (5, [.ref r0, .ref r1, .ref r2, .ref r3, .int i4, .int i5, .int i6])), (r2, .inl (cI, 12, .inl g2)), (r3, .inl (cI, 6, .inl g3)), (r0, .inl (cI, 144, .inl f0)), (r1, .inl (cI, 144, .inl f1))] H := hP
  have hD : va_D A [(h0, .inr (5, [.ref r0, .ref r1, .ref r2, .ref r3, .int i4, .int i5, .int i6])), (r2, .inl (cI, 12, .inl g2)), (r3, .inl (cI, 6, .inl g3)), (r0, .inl (cI, 144, .inl f0)), (r1, .inl (cI, 144, .inl f1))] := hD
  refine lv_aload_n hx hb dX5_reset_16 rfl (lv_at hl 0 rfl) ?_
  refine va_get (D := (dC, dI)) (ci := 5) (v := .ref r2) (C := RX5) (T := TX5) (N := 7) hx hb hts ci_5 hown hK hP 0 rfl rfl 2 (by decide) (hts _ cm_36) (fun _ h9 => h9) rfl dX5_reset_17 ?_
  refine lv_bipush (v := 15) hx hb dX5_reset_20 (by decide) ?_
  have hPc := hP.sub (ws' := [(r2, .inl (cI, 12, .inl g2))]) [1] rfl
  have hDc := hD.sub (ws' := [(r2, .inl (cI, 12, .inl g2))]) [1] (by decide) rfl
  have hKc := hK.sub (tys' := [(cI, .int)]) [0] rfl
  have hFc := va_free (wc := [(r2, .inl (cI, 12, .inl g2))]) hD hS hA [1] rfl
  refine va_callv (va_runS (As := [.ref r2, .int 15]) (rest := []) ⟨hx, hb, hml, hown, hts⟩ (k_fill l dC dI cI 12 (by decide) r2 g2 15 H.size) ⟨callB_of 2 hts (cT_self cm_8) rfl rfl rfl (hts _ cm_18) (hts _ cm_41) (by decide +kernel) ⟨Nat.le_of_ble_eq_true rfl, Nat.le_of_ble_eq_true rfl⟩, hts _ cm_17⟩ ⟨fun a U g mk q => by obtain ⟨q0, q1, qP, qK, qD⟩ := q; exact ⟨q0, q1, qP, va_K.moved (u := U) (U := U.calling g mk a) (Vm.Alike.refl U.vm) qK, qD⟩, fun U hU hW => ⟨rfl, by rw [hU], by rw [hU]; exact hPc, va_K.moved hW.alike hKc, hDc.weaken (fun _ _ _ _ => trivial)⟩⟩ rfl rfl hl.1 rfl (lv_room (Nat.le_of_ble_eq_true rfl)) dX5_reset_22 ⟨Nat.le_of_ble_eq_true rfl, Nat.le_of_ble_eq_true rfl⟩) hS (fun q _ h => hFc q h) hFc (fun u t H1 locs ht hvm hw hB hz1 hk1 hS => ?_)
  obtain ⟨f2, hf2, hP1, hK1, hD1⟩ := hB
  rw [ht] at hP1
  have hK1 := va_K.moved hvm.symm hK1
  obtain ⟨hP, hD⟩ := va_join (wr := [(h0, .inr (5, [.ref r0, .ref r1, .ref r2, .ref r3, .int i4, .int i5, .int i6])), (r3, .inl (cI, 6, .inl g3)), (r0, .inl (cI, 144, .inl f0)), (r1, .inl (cI, 144, .inl f1))]) (w1 := [(r2, .inl (cI, 12, .inl f2))]) hP hD [1] [0, 2, 3, 4] rfl rfl (by decide) (by decide) hk1 hFc hP1 hD1
  generalize H1 = H at hP hS ⊢
  have hP : va_P (dC, dI) vwCl [(h0, .inr (5, [.ref r0, .ref r1, .ref r2, .ref r3, .int i4, .int i5, .int i6])), (r3, .inl (cI, 6, .inl g3)), (r0, .inl (cI, 144, .inl f0)), (r1, .inl (cI, 144, .inl f1)), (r2, .inl (cI, 12, .inl f2))] H := hP
  have hD : va_D A [(h0, .inr (5, [.ref r0, .ref r1, .ref r2, .ref r3, .int i4, .int i5, .int i6])), (r3, .inl (cI, 6, .inl g3)), (r0, .inl (cI, 144, .inl f0)), (r1, .inl (cI, 144, .inl f1)), (r2, .inl (cI, 12, .inl f2))] := hD
  refine lv_aload_n hx hb dX5_reset_25 rfl (lv_at hl 0 rfl) ?_
  refine va_get (D := (dC, dI)) (ci := 5) (v := .ref r3) (C := RX5) (T := TX5) (N := 7) hx hb hts ci_5 hown hK hP 0 rfl rfl 3 (by decide) (hts _ cm_37) (fun _ h9 => h9) rfl dX5_reset_26 ?_
  refine lv_iconst (v := (-1)) hx hb dX5_reset_29 (by decide) ?_
  have hPc := hP.sub (ws' := [(r3, .inl (cI, 6, .inl g3))]) [1] rfl
  have hDc := hD.sub (ws' := [(r3, .inl (cI, 6, .inl g3))]) [1] (by decide) rfl
  have hKc := hK.sub (tys' := [(cI, .int)]) [0] rfl
  have hFc := va_free (wc := [(r3, .inl (cI, 6, .inl g3))]) hD hS hA [1] rfl
  refine va_callv (va_runS (As := [.ref r3, .int (-1)]) (rest := []) ⟨hx, hb, hml, hown, hts⟩ (k_fill l dC dI cI 6 (by decide) r3 g3 (-1) H.size) ⟨callB_of 2 hts (cT_self cm_8) rfl rfl rfl (hts _ cm_18) (hts _ cm_41) (by decide +kernel) ⟨Nat.le_of_ble_eq_true rfl, Nat.le_of_ble_eq_true rfl⟩, hts _ cm_17⟩ ⟨fun a U g mk q => by obtain ⟨q0, q1, qP, qK, qD⟩ := q; exact ⟨q0, q1, qP, va_K.moved (u := U) (U := U.calling g mk a) (Vm.Alike.refl U.vm) qK, qD⟩, fun U hU hW => ⟨rfl, by rw [hU], by rw [hU]; exact hPc, va_K.moved hW.alike hKc, hDc.weaken (fun _ _ _ _ => trivial)⟩⟩ rfl rfl hl.1 rfl (lv_room (Nat.le_of_ble_eq_true rfl)) dX5_reset_30 ⟨Nat.le_of_ble_eq_true rfl, Nat.le_of_ble_eq_true rfl⟩) hS (fun q _ h => hFc q h) hFc (fun u t H1 locs ht hvm hw hB hz1 hk1 hS => ?_)
  obtain ⟨f3, hf3, hP1, hK1, hD1⟩ := hB
  rw [ht] at hP1
  have hK1 := va_K.moved hvm.symm hK1
  obtain ⟨hP, hD⟩ := va_join (wr := [(h0, .inr (5, [.ref r0, .ref r1, .ref r2, .ref r3, .int i4, .int i5, .int i6])), (r0, .inl (cI, 144, .inl f0)), (r1, .inl (cI, 144, .inl f1)), (r2, .inl (cI, 12, .inl f2))]) (w1 := [(r3, .inl (cI, 6, .inl f3))]) hP hD [1] [0, 2, 3, 4] rfl rfl (by decide) (by decide) hk1 hFc hP1 hD1
  generalize H1 = H at hP hS ⊢
  have hP : va_P (dC, dI) vwCl [(h0, .inr (5, [.ref r0, .ref r1, .ref r2, .ref r3, .int i4, .int i5, .int i6])), (r0, .inl (cI, 144, .inl f0)), (r1, .inl (cI, 144, .inl f1)), (r2, .inl (cI, 12, .inl f2)), (r3, .inl (cI, 6, .inl f3))] H := hP
  have hD : va_D A [(h0, .inr (5, [.ref r0, .ref r1, .ref r2, .ref r3, .int i4, .int i5, .int i6])), (r0, .inl (cI, 144, .inl f0)), (r1, .inl (cI, 144, .inl f1)), (r2, .inl (cI, 12, .inl f2)), (r3, .inl (cI, 6, .inl f3))] := hD
  refine lv_aload_n hx hb dX5_reset_33 rfl (lv_at hl 0 rfl) ?_
  refine lv_iconst (v := (-1)) hx hb dX5_reset_34 (by decide) ?_
  refine va_put (D := (dC, dI)) (ci := 5) (v := .int (-1)) (ty := .int) (C := RX5) (T := TX5) (N := 7) hx hb hts ci_5 tyX5 tyX5_ok nmX5 hown hK hP hD hS 0 rfl rfl 4 (by decide) (hts _ cm_38) (fun _ h9 => h9) rfl (by decide +kernel) rfl rfl (Nat.le_of_ble_eq_true rfl) dX5_reset_35 (fun H locs hP hD hS => ?_)
  have hP : va_P (dC, dI) vwCl [(h0, .inr (5, [.ref r0, .ref r1, .ref r2, .ref r3, .int (-1), .int i5, .int i6])), (r0, .inl (cI, 144, .inl f0)), (r1, .inl (cI, 144, .inl f1)), (r2, .inl (cI, 12, .inl f2)), (r3, .inl (cI, 6, .inl f3))] H := hP
  have hD : va_D A [(h0, .inr (5, [.ref r0, .ref r1, .ref r2, .ref r3, .int (-1), .int i5, .int i6])), (r0, .inl (cI, 144, .inl f0)), (r1, .inl (cI, 144, .inl f1)), (r2, .inl (cI, 12, .inl f2)), (r3, .inl (cI, 6, .inl f3))] := hD
  refine lv_aload_n hx hb dX5_reset_38 rfl (lv_at hl 0 rfl) ?_
  refine lv_iconst (v := 0) hx hb dX5_reset_39 (by decide) ?_
  refine va_put (D := (dC, dI)) (ci := 5) (v := .int 0) (ty := .int) (C := RX5) (T := TX5) (N := 7) hx hb hts ci_5 tyX5 tyX5_ok nmX5 hown hK hP hD hS 0 rfl rfl 5 (by decide) (hts _ cm_39) (fun _ h9 => h9) rfl (by decide +kernel) rfl rfl (Nat.le_of_ble_eq_true rfl) dX5_reset_40 (fun H locs hP hD hS => ?_)
  have hP : va_P (dC, dI) vwCl [(h0, .inr (5, [.ref r0, .ref r1, .ref r2, .ref r3, .int (-1), .int 0, .int i6])), (r0, .inl (cI, 144, .inl f0)), (r1, .inl (cI, 144, .inl f1)), (r2, .inl (cI, 12, .inl f2)), (r3, .inl (cI, 6, .inl f3))] H := hP
  have hD : va_D A [(h0, .inr (5, [.ref r0, .ref r1, .ref r2, .ref r3, .int (-1), .int 0, .int i6])), (r0, .inl (cI, 144, .inl f0)), (r1, .inl (cI, 144, .inl f1)), (r2, .inl (cI, 12, .inl f2)), (r3, .inl (cI, 6, .inl f3))] := hD
  refine lv_aload_n hx hb dX5_reset_43 rfl (lv_at hl 0 rfl) ?_
  refine lv_iconst (v := 0) hx hb dX5_reset_44 (by decide) ?_
  refine va_put (D := (dC, dI)) (ci := 5) (v := .int 0) (ty := .int) (C := RX5) (T := TX5) (N := 7) hx hb hts ci_5 tyX5 tyX5_ok nmX5 hown hK hP hD hS 0 rfl rfl 6 (by decide) (hts _ cm_40) (fun _ h9 => h9) rfl (by decide +kernel) rfl rfl (Nat.le_of_ble_eq_true rfl) dX5_reset_45 (fun H locs hP hD hS => ?_)
  have hP : va_P (dC, dI) vwCl [(h0, .inr (5, [.ref r0, .ref r1, .ref r2, .ref r3, .int (-1), .int 0, .int 0])), (r0, .inl (cI, 144, .inl f0)), (r1, .inl (cI, 144, .inl f1)), (r2, .inl (cI, 12, .inl f2)), (r3, .inl (cI, 6, .inl f3))] H := hP
  have hD : va_D A [(h0, .inr (5, [.ref r0, .ref r1, .ref r2, .ref r3, .int (-1), .int 0, .int 0])), (r0, .inl (cI, 144, .inl f0)), (r1, .inl (cI, 144, .inl f1)), (r2, .inl (cI, 12, .inl f2)), (r3, .inl (cI, 6, .inl f3))] := hD
  have hP := hP.sub (ws' := [(h0, .inr (5, [.ref r0, .ref r1, .ref r2, .ref r3, .int (-1), .int 0, .int 0])), (r0, .inl (cI, 144, .inl f0)), (r1, .inl (cI, 144, .inl f1)), (r2, .inl (cI, 12, .inl f2)), (r3, .inl (cI, 6, .inl f3))]) [0, 1, 2, 3, 4] rfl
  have hD := hD.sub (ws' := [(h0, .inr (5, [.ref r0, .ref r1, .ref r2, .ref r3, .int (-1), .int 0, .int 0])), (r0, .inl (cI, 144, .inl f0)), (r1, .inl (cI, 144, .inl f1)), (r2, .inl (cI, 12, .inl f2)), (r3, .inl (cI, 6, .inl f3))]) [0, 1, 2, 3, 4] (by decide) rfl
  refine W.widen (k := 0) (n := 0) (Nat.le_of_ble_eq_true rfl) (Nat.le_of_ble_eq_true rfl) ?_
  exact W.vret hx hb hr (fun t ht hW => ⟨⟨(), rfl, trivial, f0, f1, f2, f3, hf0, hf1, hf2, hf3, by rw [ht]; exact hP, va_K.moved hW.alike hK, hD⟩, hS.F ht⟩) hS.2.2 dX5_reset_48
set_option maxHeartbeats 4000000 in
set_option maxRecDepth 100000 in
theorem k_X0 (l : Launch) (dC : Nat → ClassId) (dI : Nat → Nat → Nat) (cI : ClassId) (h0 : Nat) (sz : Nat) : Met l yX0_init (.code yX0_init cX0_init 1 none :: cT) ({ frames := 1, cells := 1, slots := 60, locals := 12 }) (va_Pc [.ref h0] (fun U => U.heap.size = sz ∧ va_P (dC, dI) vwCl [(h0, .inr (0, [.null, .int 0]))] U.heap ∧ va_K (dC, dI) vwCl [(cI, .int)] U ∧ va_D (fun _ => True) [(h0, .inr (0, [.null, .int 0]))])) (va_Qv (fun _ : Unit => True) (fun _ t => ∃ q7 : Nat, va_P (dC, dI) vwCl [(h0, .inr (0, [.ref q7, .int 0])), (q7, .inl (cI, 60, .inl (fun _ => 0)))] t.heap ∧ va_K (dC, dI) vwCl [(cI, .int)] t ∧ va_D (va_A [(h0, .inr (0, [.null, .int 0]))] sz) [(h0, .inr (0, [.ref q7, .int 0])), (q7, .inl (cI, 60, .inl (fun _ => 0)))]) (va_A [(h0, .inr (0, [.null, .int 0]))] sz)) 1 60 (va_A [(h0, .inr (0, [.null, .int 0]))] sz) := by
  refine Met.ofW (cc := cX0_init) (maxL := 1) (ret := none) (by decide) rfl ?_
  intro p e s m args below meth c s₁ B hml hv
  obtain ⟨rfl, hsz, hP, hK, hD0⟩ := hv
  have hx := B.exec
  have hb := B.bytes
  have hr := B.returns
  have hts0 := atoms_spec (ws := .code yX0_init cX0_init 1 none :: cT) B.pre
  have hts : ∀ w ∈ cT, w.before _ s = true := fun w h => hts0 w (List.mem_cons_of_mem _ h)
  have hown : s.vm.findClass RX0 = some m.cls := findClass_of_methodNamed B.named
  have hin : meth.name = "<init>" := (name_of_methodNamed B.named B.method).1
  subst hsz
  have hD := hD0.self (sz := s.heap.size)
  generalize hAe : va_A [(h0, .inr (0, [.null, .int 0]))] s.heap.size = A at hD ⊢
  have hA : ∀ q : Nat, s.heap.size ≤ q → A q := fun q h => by rw [← hAe]; exact Or.inr h
  have hS : va_S A s.heap s.heap [] := va_S.rf
  have hP : va_P (dC, dI) vwCl [(h0, .inr (0, [.null, .int 0]))] s.heap := hP
  have hl := lv_entry ([.ref h0]) (n := 1) (Nat.le_of_ble_eq_true rfl)
  rw [lg_entry_eq]
  generalize (lg_sl ([.ref h0]) ++ List.replicate (1 - (lg_sl ([.ref h0])).length) Slot.unset).toArray = ls at hl ⊢
  have hl : lv_has ls 1 [(0, .ref h0)] := hl
  refine lv_aload_n hx hb dX0_init_0 rfl (lv_at hl 0 rfl) ?_
  refine W.objInit hx hb hown (hts _ cm_1) (hts _ cm_2) (hts _ cm_3) rfl (by rw [hml]; exact hl.1) rfl dX0_init_1 (Nat.le_of_ble_eq_true rfl) (Nat.le_of_ble_eq_true rfl) ?_
  refine W.eq (g2 := F0 m 4 ls []) rfl ?_
  refine lv_aload_n hx hb dX0_init_4 rfl (lv_at hl 0 rfl) ?_
  refine lv_bipush (v := 60) hx hb dX0_init_5 (by decide) ?_
  refine cn_newa (N' := 60) hx hb (hts _ cm_4) hK hP hD hS hA (by decide) (by decide) (by decide) (Nat.le_of_ble_eq_true rfl) (Nat.le_of_ble_eq_true rfl) dX0_init_7 (fun q7 H hP hD hS => ?_)
  have hP : va_P (dC, dI) vwCl [(h0, .inr (0, [.null, .int 0])), (q7, .inl (cI, 60, .inl (fun _ => 0)))] H := hP
  have hD : va_D A [(h0, .inr (0, [.null, .int 0])), (q7, .inl (cI, 60, .inl (fun _ => 0)))] := hD
  refine va_putF (D := (dC, dI)) (ci := 0) (v := .ref q7) (ty := .array .int) (C := RX0) (T := TX0) (N := 2) hx hb hts ci_0 tyX0 tyX0_ok nmX0 hown hK hP hD hS 0 rfl rfl 0 (by decide) (hts _ cm_5) (fun _ h9 => h9) rfl hin rfl (by decide +kernel) rfl rfl (Nat.le_of_ble_eq_true rfl) dX0_init_9 (fun H locs hP hD hS => ?_)
  have hP : va_P (dC, dI) vwCl [(h0, .inr (0, [.ref q7, .int 0])), (q7, .inl (cI, 60, .inl (fun _ => 0)))] H := hP
  have hD : va_D A [(h0, .inr (0, [.ref q7, .int 0])), (q7, .inl (cI, 60, .inl (fun _ => 0)))] := hD
  refine W.widen (k := 1) (n := 60) (Nat.le_of_ble_eq_true rfl) (Nat.le_of_ble_eq_true rfl) ?_
  exact W.vret hx hb hr (fun t ht hW => ⟨⟨(), rfl, trivial, q7, by rw [ht]; exact hP, va_K.moved hW.alike hK, hD⟩, hS.F ht⟩) hS.2.2 dX0_init_12
set_option maxHeartbeats 4000000 in
set_option maxRecDepth 100000 in
theorem k_X1 (l : Launch) (dC : Nat → ClassId) (dI : Nat → Nat → Nat) (cI : ClassId) (h0 : Nat) (sz : Nat) : Met l yX1_init (.code yX1_init cX1_init 1 none :: cT) ({ frames := 1, cells := 0, slots := 0, locals := 12 }) (va_Pc [.ref h0] (fun U => U.heap.size = sz ∧ va_P (dC, dI) vwCl [(h0, .inr (1, [.int 0, .int 0, .int 0, .int 0, .int 0, .int 0, .int 0, .int 0]))] U.heap ∧ va_K (dC, dI) vwCl [(cI, .int)] U ∧ va_D (fun _ => True) [(h0, .inr (1, [.int 0, .int 0, .int 0, .int 0, .int 0, .int 0, .int 0, .int 0]))])) (va_Qv (fun _ : Unit => True) (fun _ t => va_P (dC, dI) vwCl [(h0, .inr (1, [.int 0, .int 0, .int 0, .int 0, .int 0, .int 0, .int 0, .int 0]))] t.heap ∧ va_K (dC, dI) vwCl [(cI, .int)] t ∧ va_D (va_A [(h0, .inr (1, [.int 0, .int 0, .int 0, .int 0, .int 0, .int 0, .int 0, .int 0]))] sz) [(h0, .inr (1, [.int 0, .int 0, .int 0, .int 0, .int 0, .int 0, .int 0, .int 0]))]) (va_A [(h0, .inr (1, [.int 0, .int 0, .int 0, .int 0, .int 0, .int 0, .int 0, .int 0]))] sz)) 0 0 (va_A [(h0, .inr (1, [.int 0, .int 0, .int 0, .int 0, .int 0, .int 0, .int 0, .int 0]))] sz) := by
  refine Met.ofW (cc := cX1_init) (maxL := 1) (ret := none) (by decide) rfl ?_
  intro p e s m args below meth c s₁ B hml hv
  obtain ⟨rfl, hsz, hP, hK, hD0⟩ := hv
  have hx := B.exec
  have hb := B.bytes
  have hr := B.returns
  have hts0 := atoms_spec (ws := .code yX1_init cX1_init 1 none :: cT) B.pre
  have hts : ∀ w ∈ cT, w.before _ s = true := fun w h => hts0 w (List.mem_cons_of_mem _ h)
  have hown : s.vm.findClass RX1 = some m.cls := findClass_of_methodNamed B.named
  have hin : meth.name = "<init>" := (name_of_methodNamed B.named B.method).1
  subst hsz
  have hD := hD0.self (sz := s.heap.size)
  generalize hAe : va_A [(h0, .inr (1, [.int 0, .int 0, .int 0, .int 0, .int 0, .int 0, .int 0, .int 0]))] s.heap.size = A at hD ⊢
  have hA : ∀ q : Nat, s.heap.size ≤ q → A q := fun q h => by rw [← hAe]; exact Or.inr h
  have hS : va_S A s.heap s.heap [] := va_S.rf
  have hP : va_P (dC, dI) vwCl [(h0, .inr (1, [.int 0, .int 0, .int 0, .int 0, .int 0, .int 0, .int 0, .int 0]))] s.heap := hP
  have hl := lv_entry ([.ref h0]) (n := 1) (Nat.le_of_ble_eq_true rfl)
  rw [lg_entry_eq]
  generalize (lg_sl ([.ref h0]) ++ List.replicate (1 - (lg_sl ([.ref h0])).length) Slot.unset).toArray = ls at hl ⊢
  have hl : lv_has ls 1 [(0, .ref h0)] := hl
  refine lv_aload_n hx hb dX1_init_0 rfl (lv_at hl 0 rfl) ?_
  refine W.objInit hx hb hown (hts _ cm_7) (hts _ cm_2) (hts _ cm_3) rfl (by rw [hml]; exact hl.1) rfl dX1_init_1 (Nat.le_of_ble_eq_true rfl) (Nat.le_of_ble_eq_true rfl) ?_
  refine W.eq (g2 := F0 m 4 ls []) rfl ?_
  refine W.widen (k := 0) (n := 0) (Nat.le_of_ble_eq_true rfl) (Nat.le_of_ble_eq_true rfl) ?_
  exact W.vret hx hb hr (fun t ht hW => ⟨⟨(), rfl, trivial, by rw [ht]; exact hP, va_K.moved hW.alike hK, hD⟩, hS.F ht⟩) hS.2.2 dX1_init_4
set_option maxHeartbeats 4000000 in
set_option maxRecDepth 100000 in
theorem k_X2 (l : Launch) (dC : Nat → ClassId) (dI : Nat → Nat → Nat) (cI : ClassId) (h0 : Nat) (sz : Nat) : Met l yX2_init (.code yX2_init cX2_init 1 none :: cT) ({ frames := 2, cells := 4, slots := 312, locals := 43 }) (va_Pc [.ref h0] (fun U => U.heap.size = sz ∧ va_P (dC, dI) vwCl [(h0, .inr (2, [.null, .null, .null, .null, .int 0, .int 0, .int 0]))] U.heap ∧ va_K (dC, dI) vwCl [(cI, .int)] U ∧ va_D (fun _ => True) [(h0, .inr (2, [.null, .null, .null, .null, .int 0, .int 0, .int 0]))])) (va_Qv (fun _ : Unit => True) (fun _ t => ∃ q7 : Nat, ∃ q15 : Nat, ∃ q24 : Nat, ∃ q33 : Nat, ∃ f1 : Nat → Int32, ∃ f2 : Nat → Int32, ∃ f3 : Nat → Int32, (∀ j, j < 12 → f1 j = 0) ∧ (∀ j, j < 144 → f2 j = (-1)) ∧ (∀ j, j < 144 → f3 j = (-1)) ∧ va_P (dC, dI) vwCl [(h0, .inr (2, [.ref q7, .ref q15, .ref q24, .ref q33, .int 0, .int 0, .int 0])), (q7, .inl (cI, 12, .inl (fun _ => 0))), (q15, .inl (cI, 12, .inl f1)), (q24, .inl (cI, 144, .inl f2)), (q33, .inl (cI, 144, .inl f3))] t.heap ∧ va_K (dC, dI) vwCl [(cI, .int)] t ∧ va_D (va_A [(h0, .inr (2, [.null, .null, .null, .null, .int 0, .int 0, .int 0]))] sz) [(h0, .inr (2, [.ref q7, .ref q15, .ref q24, .ref q33, .int 0, .int 0, .int 0])), (q7, .inl (cI, 12, .inl (fun _ => 0))), (q15, .inl (cI, 12, .inl f1)), (q24, .inl (cI, 144, .inl f2)), (q33, .inl (cI, 144, .inl f3))]) (va_A [(h0, .inr (2, [.null, .null, .null, .null, .int 0, .int 0, .int 0]))] sz)) 4 312 (va_A [(h0, .inr (2, [.null, .null, .null, .null, .int 0, .int 0, .int 0]))] sz) := by
  refine Met.ofW (cc := cX2_init) (maxL := 1) (ret := none) (by decide) rfl ?_
  intro p e s m args below meth c s₁ B hml hv
  obtain ⟨rfl, hsz, hP, hK, hD0⟩ := hv
  have hx := B.exec
  have hb := B.bytes
  have hr := B.returns
  have hts0 := atoms_spec (ws := .code yX2_init cX2_init 1 none :: cT) B.pre
  have hts : ∀ w ∈ cT, w.before _ s = true := fun w h => hts0 w (List.mem_cons_of_mem _ h)
  have hown : s.vm.findClass RX2 = some m.cls := findClass_of_methodNamed B.named
  have hin : meth.name = "<init>" := (name_of_methodNamed B.named B.method).1
  subst hsz
  have hD := hD0.self (sz := s.heap.size)
  generalize hAe : va_A [(h0, .inr (2, [.null, .null, .null, .null, .int 0, .int 0, .int 0]))] s.heap.size = A at hD ⊢
  have hA : ∀ q : Nat, s.heap.size ≤ q → A q := fun q h => by rw [← hAe]; exact Or.inr h
  have hS : va_S A s.heap s.heap [] := va_S.rf
  have hP : va_P (dC, dI) vwCl [(h0, .inr (2, [.null, .null, .null, .null, .int 0, .int 0, .int 0]))] s.heap := hP
  have hl := lv_entry ([.ref h0]) (n := 1) (Nat.le_of_ble_eq_true rfl)
  rw [lg_entry_eq]
  generalize (lg_sl ([.ref h0]) ++ List.replicate (1 - (lg_sl ([.ref h0])).length) Slot.unset).toArray = ls at hl ⊢
  have hl : lv_has ls 1 [(0, .ref h0)] := hl
  refine lv_aload_n hx hb dX2_init_0 rfl (lv_at hl 0 rfl) ?_
  refine W.objInit hx hb hown (hts _ cm_20) (hts _ cm_2) (hts _ cm_3) rfl (by rw [hml]; exact hl.1) rfl dX2_init_1 (Nat.le_of_ble_eq_true rfl) (Nat.le_of_ble_eq_true rfl) ?_
  refine W.eq (g2 := F0 m 4 ls []) rfl ?_
  refine lv_aload_n hx hb dX2_init_4 rfl (lv_at hl 0 rfl) ?_
  refine lv_bipush (v := 12) hx hb dX2_init_5 (by decide) ?_
  refine cn_newa (N' := 12) hx hb (hts _ cm_4) hK hP hD hS hA (by decide) (by decide) (by decide) (Nat.le_of_ble_eq_true rfl) (Nat.le_of_ble_eq_true rfl) dX2_init_7 (fun q7 H hP hD hS => ?_)
  have hP : va_P (dC, dI) vwCl [(h0, .inr (2, [.null, .null, .null, .null, .int 0, .int 0, .int 0])), (q7, .inl (cI, 12, .inl (fun _ => 0)))] H := hP
  have hD : va_D A [(h0, .inr (2, [.null, .null, .null, .null, .int 0, .int 0, .int 0])), (q7, .inl (cI, 12, .inl (fun _ => 0)))] := hD
  refine va_putF (D := (dC, dI)) (ci := 2) (v := .ref q7) (ty := .array .int) (C := RX2) (T := TX2) (N := 7) hx hb hts ci_2 tyX2 tyX2_ok nmX2 hown hK hP hD hS 0 rfl rfl 0 (by decide) (hts _ cm_21) (fun _ h9 => h9) rfl hin rfl (by decide +kernel) rfl rfl (Nat.le_of_ble_eq_true rfl) dX2_init_9 (fun H locs hP hD hS => ?_)
  have hP : va_P (dC, dI) vwCl [(h0, .inr (2, [.ref q7, .null, .null, .null, .int 0, .int 0, .int 0])), (q7, .inl (cI, 12, .inl (fun _ => 0)))] H := hP
  have hD : va_D A [(h0, .inr (2, [.ref q7, .null, .null, .null, .int 0, .int 0, .int 0])), (q7, .inl (cI, 12, .inl (fun _ => 0)))] := hD
  refine lv_aload_n hx hb dX2_init_12 rfl (lv_at hl 0 rfl) ?_
  refine lv_bipush (v := 12) hx hb dX2_init_13 (by decide) ?_
  refine cn_newa (N' := 12) hx hb (hts _ cm_4) hK hP hD hS hA (by decide) (by decide) (by decide) (Nat.le_of_ble_eq_true rfl) (Nat.le_of_ble_eq_true rfl) dX2_init_15 (fun q15 H hP hD hS => ?_)
  have hP : va_P (dC, dI) vwCl [(h0, .inr (2, [.ref q7, .null, .null, .null, .int 0, .int 0, .int 0])), (q7, .inl (cI, 12, .inl (fun _ => 0))), (q15, .inl (cI, 12, .inl (fun _ => 0)))] H := hP
  have hD : va_D A [(h0, .inr (2, [.ref q7, .null, .null, .null, .int 0, .int 0, .int 0])), (q7, .inl (cI, 12, .inl (fun _ => 0))), (q15, .inl (cI, 12, .inl (fun _ => 0)))] := hD
  refine va_putF (D := (dC, dI)) (ci := 2) (v := .ref q15) (ty := .array .int) (C := RX2) (T := TX2) (N := 7) hx hb hts ci_2 tyX2 tyX2_ok nmX2 hown hK hP hD hS 0 rfl rfl 1 (by decide) (hts _ cm_13) (fun _ h9 => h9) rfl hin rfl (by decide +kernel) rfl rfl (Nat.le_of_ble_eq_true rfl) dX2_init_17 (fun H locs hP hD hS => ?_)
  have hP : va_P (dC, dI) vwCl [(h0, .inr (2, [.ref q7, .ref q15, .null, .null, .int 0, .int 0, .int 0])), (q7, .inl (cI, 12, .inl (fun _ => 0))), (q15, .inl (cI, 12, .inl (fun _ => 0)))] H := hP
  have hD : va_D A [(h0, .inr (2, [.ref q7, .ref q15, .null, .null, .int 0, .int 0, .int 0])), (q7, .inl (cI, 12, .inl (fun _ => 0))), (q15, .inl (cI, 12, .inl (fun _ => 0)))] := hD
  refine lv_aload_n hx hb dX2_init_20 rfl (lv_at hl 0 rfl) ?_
  refine lv_sipush (v := 144) hx hb dX2_init_21 (by decide) ?_
  refine cn_newa (N' := 144) hx hb (hts _ cm_4) hK hP hD hS hA (by decide) (by decide) (by decide) (Nat.le_of_ble_eq_true rfl) (Nat.le_of_ble_eq_true rfl) dX2_init_24 (fun q24 H hP hD hS => ?_)
  have hP : va_P (dC, dI) vwCl [(h0, .inr (2, [.ref q7, .ref q15, .null, .null, .int 0, .int 0, .int 0])), (q7, .inl (cI, 12, .inl (fun _ => 0))), (q15, .inl (cI, 12, .inl (fun _ => 0))), (q24, .inl (cI, 144, .inl (fun _ => 0)))] H := hP
  have hD : va_D A [(h0, .inr (2, [.ref q7, .ref q15, .null, .null, .int 0, .int 0, .int 0])), (q7, .inl (cI, 12, .inl (fun _ => 0))), (q15, .inl (cI, 12, .inl (fun _ => 0))), (q24, .inl (cI, 144, .inl (fun _ => 0)))] := hD
  refine va_putF (D := (dC, dI)) (ci := 2) (v := .ref q24) (ty := .array .int) (C := RX2) (T := TX2) (N := 7) hx hb hts ci_2 tyX2 tyX2_ok nmX2 hown hK hP hD hS 0 rfl rfl 2 (by decide) (hts _ cm_14) (fun _ h9 => h9) rfl hin rfl (by decide +kernel) rfl rfl (Nat.le_of_ble_eq_true rfl) dX2_init_26 (fun H locs hP hD hS => ?_)
  have hP : va_P (dC, dI) vwCl [(h0, .inr (2, [.ref q7, .ref q15, .ref q24, .null, .int 0, .int 0, .int 0])), (q7, .inl (cI, 12, .inl (fun _ => 0))), (q15, .inl (cI, 12, .inl (fun _ => 0))), (q24, .inl (cI, 144, .inl (fun _ => 0)))] H := hP
  have hD : va_D A [(h0, .inr (2, [.ref q7, .ref q15, .ref q24, .null, .int 0, .int 0, .int 0])), (q7, .inl (cI, 12, .inl (fun _ => 0))), (q15, .inl (cI, 12, .inl (fun _ => 0))), (q24, .inl (cI, 144, .inl (fun _ => 0)))] := hD
  refine lv_aload_n hx hb dX2_init_29 rfl (lv_at hl 0 rfl) ?_
  refine lv_sipush (v := 144) hx hb dX2_init_30 (by decide) ?_
  refine cn_newa (N' := 144) hx hb (hts _ cm_4) hK hP hD hS hA (by decide) (by decide) (by decide) (Nat.le_of_ble_eq_true rfl) (Nat.le_of_ble_eq_true rfl) dX2_init_33 (fun q33 H hP hD hS => ?_)
  have hP : va_P (dC, dI) vwCl [(h0, .inr (2, [.ref q7, .ref q15, .ref q24, .null, .int 0, .int 0, .int 0])), (q7, .inl (cI, 12, .inl (fun _ => 0))), (q15, .inl (cI, 12, .inl (fun _ => 0))), (q24, .inl (cI, 144, .inl (fun _ => 0))), (q33, .inl (cI, 144, .inl (fun _ => 0)))] H := hP
  have hD : va_D A [(h0, .inr (2, [.ref q7, .ref q15, .ref q24, .null, .int 0, .int 0, .int 0])), (q7, .inl (cI, 12, .inl (fun _ => 0))), (q15, .inl (cI, 12, .inl (fun _ => 0))), (q24, .inl (cI, 144, .inl (fun _ => 0))), (q33, .inl (cI, 144, .inl (fun _ => 0)))] := hD
  refine va_putF (D := (dC, dI)) (ci := 2) (v := .ref q33) (ty := .array .int) (C := RX2) (T := TX2) (N := 7) hx hb hts ci_2 tyX2 tyX2_ok nmX2 hown hK hP hD hS 0 rfl rfl 3 (by decide) (hts _ cm_15) (fun _ h9 => h9) rfl hin rfl (by decide +kernel) rfl rfl (Nat.le_of_ble_eq_true rfl) dX2_init_35 (fun H locs hP hD hS => ?_)
  have hP : va_P (dC, dI) vwCl [(h0, .inr (2, [.ref q7, .ref q15, .ref q24, .ref q33, .int 0, .int 0, .int 0])), (q7, .inl (cI, 12, .inl (fun _ => 0))), (q15, .inl (cI, 12, .inl (fun _ => 0))), (q24, .inl (cI, 144, .inl (fun _ => 0))), (q33, .inl (cI, 144, .inl (fun _ => 0)))] H := hP
  have hD : va_D A [(h0, .inr (2, [.ref q7, .ref q15, .ref q24, .ref q33, .int 0, .int 0, .int 0])), (q7, .inl (cI, 12, .inl (fun _ => 0))), (q15, .inl (cI, 12, .inl (fun _ => 0))), (q24, .inl (cI, 144, .inl (fun _ => 0))), (q33, .inl (cI, 144, .inl (fun _ => 0)))] := hD
  refine lv_aload_n hx hb dX2_init_38 rfl (lv_at hl 0 rfl) ?_
  have hPc := hP.sub (ws' := [(h0, .inr (2, [.ref q7, .ref q15, .ref q24, .ref q33, .int 0, .int 0, .int 0])), (q15, .inl (cI, 12, .inl (fun _ => 0))), (q24, .inl (cI, 144, .inl (fun _ => 0))), (q33, .inl (cI, 144, .inl (fun _ => 0)))]) [0, 2, 3, 4] rfl
  have hDc := hD.sub (ws' := [(h0, .inr (2, [.ref q7, .ref q15, .ref q24, .ref q33, .int 0, .int 0, .int 0])), (q15, .inl (cI, 12, .inl (fun _ => 0))), (q24, .inl (cI, 144, .inl (fun _ => 0))), (q33, .inl (cI, 144, .inl (fun _ => 0)))]) [0, 2, 3, 4] (by decide) rfl
  have hKc := hK.sub (tys' := [(cI, .int)]) [0] rfl
  have hFc := va_free (wc := [(h0, .inr (2, [.ref q7, .ref q15, .ref q24, .ref q33, .int 0, .int 0, .int 0])), (q15, .inl (cI, 12, .inl (fun _ => 0))), (q24, .inl (cI, 144, .inl (fun _ => 0))), (q33, .inl (cI, 144, .inl (fun _ => 0)))]) hD hS hA [0, 2, 3, 4] rfl
  refine va_callv (va_runV (C := RX2) (As := []) (rest := []) ⟨hx, hb, hml, hown, hts⟩ (k_preset l dC dI cI h0 q7 q15 q24 q33 (fun _ => 0) (fun _ => 0) (fun _ => 0) 0 0 0 H.size) ⟨callB_of 0 hts (cT_self cm_9) rfl rfl rfl (hts _ cm_25) (hts _ cm_22) (by decide +kernel) ⟨Nat.le_of_ble_eq_true rfl, Nat.le_of_ble_eq_true rfl⟩, hts _ cm_23, hts _ cm_24⟩ ⟨fun a U g mk q => by obtain ⟨q0, q1, qP, qK, qD⟩ := q; exact ⟨q0, q1, qP, va_K.moved (u := U) (U := U.calling g mk a) (Vm.Alike.refl U.vm) qK, qD⟩, va_recv hKc hPc (ci := 2) (q0 := 0) rfl rfl, fun U hU hW => ⟨rfl, by rw [hU], by rw [hU]; exact hPc, va_K.moved hW.alike hKc, hDc.weaken (fun _ _ _ _ => trivial)⟩⟩ rfl rfl hl.1 rfl (lv_room (Nat.le_of_ble_eq_true rfl)) dX2_init_39 ⟨Nat.le_of_ble_eq_true rfl, Nat.le_of_ble_eq_true rfl⟩) hS (fun q _ h => hFc q h) hFc (fun u t H1 locs ht hvm hw hB hz1 hk1 hS => ?_)
  obtain ⟨f1, f2, f3, hf1, hf2, hf3, hP1, hK1, hD1⟩ := hB
  rw [ht] at hP1
  have hK1 := va_K.moved hvm.symm hK1
  obtain ⟨hP, hD⟩ := va_join (wr := [(q7, .inl (cI, 12, .inl (fun _ => 0)))]) (w1 := [(h0, .inr (2, [.ref q7, .ref q15, .ref q24, .ref q33, .int 0, .int 0, .int 0])), (q15, .inl (cI, 12, .inl f1)), (q24, .inl (cI, 144, .inl f2)), (q33, .inl (cI, 144, .inl f3))]) hP hD [0, 2, 3, 4] [1] rfl rfl (by decide) (by decide) hk1 hFc hP1 hD1
  generalize H1 = H at hP hS ⊢
  have hP : va_P (dC, dI) vwCl [(q7, .inl (cI, 12, .inl (fun _ => 0))), (h0, .inr (2, [.ref q7, .ref q15, .ref q24, .ref q33, .int 0, .int 0, .int 0])), (q15, .inl (cI, 12, .inl f1)), (q24, .inl (cI, 144, .inl f2)), (q33, .inl (cI, 144, .inl f3))] H := hP
  have hD : va_D A [(q7, .inl (cI, 12, .inl (fun _ => 0))), (h0, .inr (2, [.ref q7, .ref q15, .ref q24, .ref q33, .int 0, .int 0, .int 0])), (q15, .inl (cI, 12, .inl f1)), (q24, .inl (cI, 144, .inl f2)), (q33, .inl (cI, 144, .inl f3))] := hD
  have hP := hP.sub (ws' := [(h0, .inr (2, [.ref q7, .ref q15, .ref q24, .ref q33, .int 0, .int 0, .int 0])), (q7, .inl (cI, 12, .inl (fun _ => 0))), (q15, .inl (cI, 12, .inl f1)), (q24, .inl (cI, 144, .inl f2)), (q33, .inl (cI, 144, .inl f3))]) [1, 0, 2, 3, 4] rfl
  have hD := hD.sub (ws' := [(h0, .inr (2, [.ref q7, .ref q15, .ref q24, .ref q33, .int 0, .int 0, .int 0])), (q7, .inl (cI, 12, .inl (fun _ => 0))), (q15, .inl (cI, 12, .inl f1)), (q24, .inl (cI, 144, .inl f2)), (q33, .inl (cI, 144, .inl f3))]) [1, 0, 2, 3, 4] (by decide) rfl
  refine W.widen (k := 4) (n := 312) (Nat.le_of_ble_eq_true rfl) (Nat.le_of_ble_eq_true rfl) ?_
  exact W.vret hx hb hr (fun t ht hW => ⟨⟨(), rfl, trivial, q7, q15, q24, q33, f1, f2, f3, hf1, hf2, hf3, by rw [ht]; exact hP, va_K.moved hW.alike hK, hD⟩, hS.F ht⟩) hS.2.2 dX2_init_42
set_option maxHeartbeats 4000000 in
set_option maxRecDepth 100000 in
theorem k_X3 (l : Launch) (dC : Nat → ClassId) (dI : Nat → Nat → Nat) (cI : ClassId) (h0 h1 : Nat) (sz : Nat) : Met l yX3_init (.code yX3_init cX3_init 2 none :: cT) ({ frames := 1, cells := 1, slots := 31, locals := 12 }) (va_Pc [.ref h0, .ref h1] (fun U => U.heap.size = sz ∧ va_P (dC, dI) vwCl [(h0, .inr (3, [.null, .null, .int 0]))] U.heap ∧ va_K (dC, dI) vwCl [(cI, .int)] U ∧ va_D (fun _ => True) [(h0, .inr (3, [.null, .null, .int 0]))])) (va_Qv (fun _ : Unit => True) (fun _ t => ∃ q7 : Nat, va_P (dC, dI) vwCl [(h0, .inr (3, [.ref h1, .ref q7, .int 0])), (q7, .inl (cI, 31, .inl (fun _ => 0)))] t.heap ∧ va_K (dC, dI) vwCl [(cI, .int)] t ∧ va_D (va_A [(h0, .inr (3, [.null, .null, .int 0]))] sz) [(h0, .inr (3, [.ref h1, .ref q7, .int 0])), (q7, .inl (cI, 31, .inl (fun _ => 0)))]) (va_A [(h0, .inr (3, [.null, .null, .int 0]))] sz)) 1 31 (va_A [(h0, .inr (3, [.null, .null, .int 0]))] sz) := by
  refine Met.ofW (cc := cX3_init) (maxL := 2) (ret := none) (by decide) rfl ?_
  intro p e s m args below meth c s₁ B hml hv
  obtain ⟨rfl, hsz, hP, hK, hD0⟩ := hv
  have hx := B.exec
  have hb := B.bytes
  have hr := B.returns
  have hts0 := atoms_spec (ws := .code yX3_init cX3_init 2 none :: cT) B.pre
  have hts : ∀ w ∈ cT, w.before _ s = true := fun w h => hts0 w (List.mem_cons_of_mem _ h)
  have hown : s.vm.findClass RX3 = some m.cls := findClass_of_methodNamed B.named
  have hin : meth.name = "<init>" := (name_of_methodNamed B.named B.method).1
  subst hsz
  have hD := hD0.self (sz := s.heap.size)
  generalize hAe : va_A [(h0, .inr (3, [.null, .null, .int 0]))] s.heap.size = A at hD ⊢
  have hA : ∀ q : Nat, s.heap.size ≤ q → A q := fun q h => by rw [← hAe]; exact Or.inr h
  have hS : va_S A s.heap s.heap [] := va_S.rf
  have hP : va_P (dC, dI) vwCl [(h0, .inr (3, [.null, .null, .int 0]))] s.heap := hP
  have hl := lv_entry ([.ref h0, .ref h1]) (n := 2) (Nat.le_of_ble_eq_true rfl)
  rw [lg_entry_eq]
  generalize (lg_sl ([.ref h0, .ref h1]) ++ List.replicate (2 - (lg_sl ([.ref h0, .ref h1])).length) Slot.unset).toArray = ls at hl ⊢
  have hl : lv_has ls 2 [(0, .ref h0), (1, .ref h1)] := hl
  refine lv_aload_n hx hb dX3_init_0 rfl (lv_at hl 0 rfl) ?_
  refine W.objInit hx hb hown (hts _ cm_27) (hts _ cm_2) (hts _ cm_3) rfl (by rw [hml]; exact hl.1) rfl dX3_init_1 (Nat.le_of_ble_eq_true rfl) (Nat.le_of_ble_eq_true rfl) ?_
  refine W.eq (g2 := F0 m 4 ls []) rfl ?_
  refine lv_aload_n hx hb dX3_init_4 rfl (lv_at hl 0 rfl) ?_
  refine lv_bipush (v := 31) hx hb dX3_init_5 (by decide) ?_
  refine cn_newa (N' := 31) hx hb (hts _ cm_4) hK hP hD hS hA (by decide) (by decide) (by decide) (Nat.le_of_ble_eq_true rfl) (Nat.le_of_ble_eq_true rfl) dX3_init_7 (fun q7 H hP hD hS => ?_)
  have hP : va_P (dC, dI) vwCl [(h0, .inr (3, [.null, .null, .int 0])), (q7, .inl (cI, 31, .inl (fun _ => 0)))] H := hP
  have hD : va_D A [(h0, .inr (3, [.null, .null, .int 0])), (q7, .inl (cI, 31, .inl (fun _ => 0)))] := hD
  refine va_putF (D := (dC, dI)) (ci := 3) (v := .ref q7) (ty := .array .int) (C := RX3) (T := TX3) (N := 3) hx hb hts ci_3 tyX3 tyX3_ok nmX3 hown hK hP hD hS 0 rfl rfl 1 (by decide) (hts _ cm_28) (fun _ h9 => h9) rfl hin rfl (by decide +kernel) rfl rfl (Nat.le_of_ble_eq_true rfl) dX3_init_9 (fun H locs hP hD hS => ?_)
  have hP : va_P (dC, dI) vwCl [(h0, .inr (3, [.null, .ref q7, .int 0])), (q7, .inl (cI, 31, .inl (fun _ => 0)))] H := hP
  have hD : va_D A [(h0, .inr (3, [.null, .ref q7, .int 0])), (q7, .inl (cI, 31, .inl (fun _ => 0)))] := hD
  refine lv_aload_n hx hb dX3_init_12 rfl (lv_at hl 0 rfl) ?_
  refine lv_aload_n hx hb dX3_init_13 rfl (lv_at hl 1 rfl) ?_
  refine va_putF (D := (dC, dI)) (ci := 3) (v := .ref h1) (ty := .object "NetSchool$Plan") (C := RX3) (T := TX3) (N := 3) hx hb hts ci_3 tyX3 tyX3_ok nmX3 hown hK hP hD hS 0 rfl rfl 0 (by decide) (hts _ cm_29) (fun _ h9 => h9) rfl hin rfl (by decide +kernel) rfl rfl (Nat.le_of_ble_eq_true rfl) dX3_init_14 (fun H locs hP hD hS => ?_)
  have hP : va_P (dC, dI) vwCl [(h0, .inr (3, [.ref h1, .ref q7, .int 0])), (q7, .inl (cI, 31, .inl (fun _ => 0)))] H := hP
  have hD : va_D A [(h0, .inr (3, [.ref h1, .ref q7, .int 0])), (q7, .inl (cI, 31, .inl (fun _ => 0)))] := hD
  refine W.widen (k := 1) (n := 31) (Nat.le_of_ble_eq_true rfl) (Nat.le_of_ble_eq_true rfl) ?_
  exact W.vret hx hb hr (fun t ht hW => ⟨⟨(), rfl, trivial, q7, by rw [ht]; exact hP, va_K.moved hW.alike hK, hD⟩, hS.F ht⟩) hS.2.2 dX3_init_17
set_option maxHeartbeats 4000000 in
set_option maxRecDepth 100000 in
theorem k_X4 (l : Launch) (dC : Nat → ClassId) (dI : Nat → Nat → Nat) (cI : ClassId) (h0 : Nat) (sz : Nat) : Met l yX4_init (.code yX4_init cX4_init 1 none :: cT) ({ frames := 1, cells := 1, slots := 31, locals := 12 }) (va_Pc [.ref h0] (fun U => U.heap.size = sz ∧ va_P (dC, dI) vwCl [(h0, .inr (4, [.null, .int 0]))] U.heap ∧ va_K (dC, dI) vwCl [(cI, .int)] U ∧ va_D (fun _ => True) [(h0, .inr (4, [.null, .int 0]))])) (va_Qv (fun _ : Unit => True) (fun _ t => ∃ q7 : Nat, va_P (dC, dI) vwCl [(h0, .inr (4, [.ref q7, .int 0])), (q7, .inl (cI, 31, .inl (fun _ => 0)))] t.heap ∧ va_K (dC, dI) vwCl [(cI, .int)] t ∧ va_D (va_A [(h0, .inr (4, [.null, .int 0]))] sz) [(h0, .inr (4, [.ref q7, .int 0])), (q7, .inl (cI, 31, .inl (fun _ => 0)))]) (va_A [(h0, .inr (4, [.null, .int 0]))] sz)) 1 31 (va_A [(h0, .inr (4, [.null, .int 0]))] sz) := by
  refine Met.ofW (cc := cX4_init) (maxL := 1) (ret := none) (by decide) rfl ?_
  intro p e s m args below meth c s₁ B hml hv
  obtain ⟨rfl, hsz, hP, hK, hD0⟩ := hv
  have hx := B.exec
  have hb := B.bytes
  have hr := B.returns
  have hts0 := atoms_spec (ws := .code yX4_init cX4_init 1 none :: cT) B.pre
  have hts : ∀ w ∈ cT, w.before _ s = true := fun w h => hts0 w (List.mem_cons_of_mem _ h)
  have hown : s.vm.findClass RX4 = some m.cls := findClass_of_methodNamed B.named
  have hin : meth.name = "<init>" := (name_of_methodNamed B.named B.method).1
  subst hsz
  have hD := hD0.self (sz := s.heap.size)
  generalize hAe : va_A [(h0, .inr (4, [.null, .int 0]))] s.heap.size = A at hD ⊢
  have hA : ∀ q : Nat, s.heap.size ≤ q → A q := fun q h => by rw [← hAe]; exact Or.inr h
  have hS : va_S A s.heap s.heap [] := va_S.rf
  have hP : va_P (dC, dI) vwCl [(h0, .inr (4, [.null, .int 0]))] s.heap := hP
  have hl := lv_entry ([.ref h0]) (n := 1) (Nat.le_of_ble_eq_true rfl)
  rw [lg_entry_eq]
  generalize (lg_sl ([.ref h0]) ++ List.replicate (1 - (lg_sl ([.ref h0])).length) Slot.unset).toArray = ls at hl ⊢
  have hl : lv_has ls 1 [(0, .ref h0)] := hl
  refine lv_aload_n hx hb dX4_init_0 rfl (lv_at hl 0 rfl) ?_
  refine W.objInit hx hb hown (hts _ cm_31) (hts _ cm_2) (hts _ cm_3) rfl (by rw [hml]; exact hl.1) rfl dX4_init_1 (Nat.le_of_ble_eq_true rfl) (Nat.le_of_ble_eq_true rfl) ?_
  refine W.eq (g2 := F0 m 4 ls []) rfl ?_
  refine lv_aload_n hx hb dX4_init_4 rfl (lv_at hl 0 rfl) ?_
  refine lv_bipush (v := 31) hx hb dX4_init_5 (by decide) ?_
  refine cn_newa (N' := 31) hx hb (hts _ cm_4) hK hP hD hS hA (by decide) (by decide) (by decide) (Nat.le_of_ble_eq_true rfl) (Nat.le_of_ble_eq_true rfl) dX4_init_7 (fun q7 H hP hD hS => ?_)
  have hP : va_P (dC, dI) vwCl [(h0, .inr (4, [.null, .int 0])), (q7, .inl (cI, 31, .inl (fun _ => 0)))] H := hP
  have hD : va_D A [(h0, .inr (4, [.null, .int 0])), (q7, .inl (cI, 31, .inl (fun _ => 0)))] := hD
  refine va_putF (D := (dC, dI)) (ci := 4) (v := .ref q7) (ty := .array .int) (C := RX4) (T := TX4) (N := 2) hx hb hts ci_4 tyX4 tyX4_ok nmX4 hown hK hP hD hS 0 rfl rfl 0 (by decide) (hts _ cm_32) (fun _ h9 => h9) rfl hin rfl (by decide +kernel) rfl rfl (Nat.le_of_ble_eq_true rfl) dX4_init_9 (fun H locs hP hD hS => ?_)
  have hP : va_P (dC, dI) vwCl [(h0, .inr (4, [.ref q7, .int 0])), (q7, .inl (cI, 31, .inl (fun _ => 0)))] H := hP
  have hD : va_D A [(h0, .inr (4, [.ref q7, .int 0])), (q7, .inl (cI, 31, .inl (fun _ => 0)))] := hD
  refine W.widen (k := 1) (n := 31) (Nat.le_of_ble_eq_true rfl) (Nat.le_of_ble_eq_true rfl) ?_
  exact W.vret hx hb hr (fun t ht hW => ⟨⟨(), rfl, trivial, q7, by rw [ht]; exact hP, va_K.moved hW.alike hK, hD⟩, hS.F ht⟩) hS.2.2 dX4_init_12
set_option maxHeartbeats 4000000 in
set_option maxRecDepth 100000 in
theorem k_X5 (l : Launch) (dC : Nat → ClassId) (dI : Nat → Nat → Nat) (cI : ClassId) (h0 : Nat) (sz : Nat) : Met l yX5_init (.code yX5_init cX5_init 1 none :: cT) ({ frames := 2, cells := 4, slots := 306, locals := 43 }) (va_Pc [.ref h0] (fun U => U.heap.size = sz ∧ va_P (dC, dI) vwCl [(h0, .inr (5, [.null, .null, .null, .null, .int 0, .int 0, .int 0]))] U.heap ∧ va_K (dC, dI) vwCl [(cI, .int)] U ∧ va_D (fun _ => True) [(h0, .inr (5, [.null, .null, .null, .null, .int 0, .int 0, .int 0]))])) (va_Qv (fun _ : Unit => True) (fun _ t => ∃ q8 : Nat, ∃ q17 : Nat, ∃ q25 : Nat, ∃ q33 : Nat, ∃ f0 : Nat → Int32, ∃ f1 : Nat → Int32, ∃ f2 : Nat → Int32, ∃ f3 : Nat → Int32, (∀ j, j < 144 → f0 j = (-1)) ∧ (∀ j, j < 144 → f1 j = 0) ∧ (∀ j, j < 12 → f2 j = 15) ∧ (∀ j, j < 6 → f3 j = (-1)) ∧ va_P (dC, dI) vwCl [(h0, .inr (5, [.ref q8, .ref q17, .ref q25, .ref q33, .int (-1), .int 0, .int 0])), (q8, .inl (cI, 144, .inl f0)), (q17, .inl (cI, 144, .inl f1)), (q25, .inl (cI, 12, .inl f2)), (q33, .inl (cI, 6, .inl f3))] t.heap ∧ va_K (dC, dI) vwCl [(cI, .int)] t ∧ va_D (va_A [(h0, .inr (5, [.null, .null, .null, .null, .int 0, .int 0, .int 0]))] sz) [(h0, .inr (5, [.ref q8, .ref q17, .ref q25, .ref q33, .int (-1), .int 0, .int 0])), (q8, .inl (cI, 144, .inl f0)), (q17, .inl (cI, 144, .inl f1)), (q25, .inl (cI, 12, .inl f2)), (q33, .inl (cI, 6, .inl f3))]) (va_A [(h0, .inr (5, [.null, .null, .null, .null, .int 0, .int 0, .int 0]))] sz)) 4 306 (va_A [(h0, .inr (5, [.null, .null, .null, .null, .int 0, .int 0, .int 0]))] sz) := by
  refine Met.ofW (cc := cX5_init) (maxL := 1) (ret := none) (by decide) rfl ?_
  intro p e s m args below meth c s₁ B hml hv
  obtain ⟨rfl, hsz, hP, hK, hD0⟩ := hv
  have hx := B.exec
  have hb := B.bytes
  have hr := B.returns
  have hts0 := atoms_spec (ws := .code yX5_init cX5_init 1 none :: cT) B.pre
  have hts : ∀ w ∈ cT, w.before _ s = true := fun w h => hts0 w (List.mem_cons_of_mem _ h)
  have hown : s.vm.findClass RX5 = some m.cls := findClass_of_methodNamed B.named
  have hin : meth.name = "<init>" := (name_of_methodNamed B.named B.method).1
  subst hsz
  have hD := hD0.self (sz := s.heap.size)
  generalize hAe : va_A [(h0, .inr (5, [.null, .null, .null, .null, .int 0, .int 0, .int 0]))] s.heap.size = A at hD ⊢
  have hA : ∀ q : Nat, s.heap.size ≤ q → A q := fun q h => by rw [← hAe]; exact Or.inr h
  have hS : va_S A s.heap s.heap [] := va_S.rf
  have hP : va_P (dC, dI) vwCl [(h0, .inr (5, [.null, .null, .null, .null, .int 0, .int 0, .int 0]))] s.heap := hP
  have hl := lv_entry ([.ref h0]) (n := 1) (Nat.le_of_ble_eq_true rfl)
  rw [lg_entry_eq]
  generalize (lg_sl ([.ref h0]) ++ List.replicate (1 - (lg_sl ([.ref h0])).length) Slot.unset).toArray = ls at hl ⊢
  have hl : lv_has ls 1 [(0, .ref h0)] := hl
  refine lv_aload_n hx hb dX5_init_0 rfl (lv_at hl 0 rfl) ?_
  refine W.objInit hx hb hown (hts _ cm_43) (hts _ cm_2) (hts _ cm_3) rfl (by rw [hml]; exact hl.1) rfl dX5_init_1 (Nat.le_of_ble_eq_true rfl) (Nat.le_of_ble_eq_true rfl) ?_
  refine W.eq (g2 := F0 m 4 ls []) rfl ?_
  refine lv_aload_n hx hb dX5_init_4 rfl (lv_at hl 0 rfl) ?_
  refine lv_sipush (v := 144) hx hb dX5_init_5 (by decide) ?_
  refine cn_newa (N' := 144) hx hb (hts _ cm_4) hK hP hD hS hA (by decide) (by decide) (by decide) (Nat.le_of_ble_eq_true rfl) (Nat.le_of_ble_eq_true rfl) dX5_init_8 (fun q8 H hP hD hS => ?_)
  have hP : va_P (dC, dI) vwCl [(h0, .inr (5, [.null, .null, .null, .null, .int 0, .int 0, .int 0])), (q8, .inl (cI, 144, .inl (fun _ => 0)))] H := hP
  have hD : va_D A [(h0, .inr (5, [.null, .null, .null, .null, .int 0, .int 0, .int 0])), (q8, .inl (cI, 144, .inl (fun _ => 0)))] := hD
  refine va_putF (D := (dC, dI)) (ci := 5) (v := .ref q8) (ty := .array .int) (C := RX5) (T := TX5) (N := 7) hx hb hts ci_5 tyX5 tyX5_ok nmX5 hown hK hP hD hS 0 rfl rfl 0 (by decide) (hts _ cm_34) (fun _ h9 => h9) rfl hin rfl (by decide +kernel) rfl rfl (Nat.le_of_ble_eq_true rfl) dX5_init_10 (fun H locs hP hD hS => ?_)
  have hP : va_P (dC, dI) vwCl [(h0, .inr (5, [.ref q8, .null, .null, .null, .int 0, .int 0, .int 0])), (q8, .inl (cI, 144, .inl (fun _ => 0)))] H := hP
  have hD : va_D A [(h0, .inr (5, [.ref q8, .null, .null, .null, .int 0, .int 0, .int 0])), (q8, .inl (cI, 144, .inl (fun _ => 0)))] := hD
  refine lv_aload_n hx hb dX5_init_13 rfl (lv_at hl 0 rfl) ?_
  refine lv_sipush (v := 144) hx hb dX5_init_14 (by decide) ?_
  refine cn_newa (N' := 144) hx hb (hts _ cm_4) hK hP hD hS hA (by decide) (by decide) (by decide) (Nat.le_of_ble_eq_true rfl) (Nat.le_of_ble_eq_true rfl) dX5_init_17 (fun q17 H hP hD hS => ?_)
  have hP : va_P (dC, dI) vwCl [(h0, .inr (5, [.ref q8, .null, .null, .null, .int 0, .int 0, .int 0])), (q8, .inl (cI, 144, .inl (fun _ => 0))), (q17, .inl (cI, 144, .inl (fun _ => 0)))] H := hP
  have hD : va_D A [(h0, .inr (5, [.ref q8, .null, .null, .null, .int 0, .int 0, .int 0])), (q8, .inl (cI, 144, .inl (fun _ => 0))), (q17, .inl (cI, 144, .inl (fun _ => 0)))] := hD
  refine va_putF (D := (dC, dI)) (ci := 5) (v := .ref q17) (ty := .array .int) (C := RX5) (T := TX5) (N := 7) hx hb hts ci_5 tyX5 tyX5_ok nmX5 hown hK hP hD hS 0 rfl rfl 1 (by decide) (hts _ cm_35) (fun _ h9 => h9) rfl hin rfl (by decide +kernel) rfl rfl (Nat.le_of_ble_eq_true rfl) dX5_init_19 (fun H locs hP hD hS => ?_)
  have hP : va_P (dC, dI) vwCl [(h0, .inr (5, [.ref q8, .ref q17, .null, .null, .int 0, .int 0, .int 0])), (q8, .inl (cI, 144, .inl (fun _ => 0))), (q17, .inl (cI, 144, .inl (fun _ => 0)))] H := hP
  have hD : va_D A [(h0, .inr (5, [.ref q8, .ref q17, .null, .null, .int 0, .int 0, .int 0])), (q8, .inl (cI, 144, .inl (fun _ => 0))), (q17, .inl (cI, 144, .inl (fun _ => 0)))] := hD
  refine lv_aload_n hx hb dX5_init_22 rfl (lv_at hl 0 rfl) ?_
  refine lv_bipush (v := 12) hx hb dX5_init_23 (by decide) ?_
  refine cn_newa (N' := 12) hx hb (hts _ cm_4) hK hP hD hS hA (by decide) (by decide) (by decide) (Nat.le_of_ble_eq_true rfl) (Nat.le_of_ble_eq_true rfl) dX5_init_25 (fun q25 H hP hD hS => ?_)
  have hP : va_P (dC, dI) vwCl [(h0, .inr (5, [.ref q8, .ref q17, .null, .null, .int 0, .int 0, .int 0])), (q8, .inl (cI, 144, .inl (fun _ => 0))), (q17, .inl (cI, 144, .inl (fun _ => 0))), (q25, .inl (cI, 12, .inl (fun _ => 0)))] H := hP
  have hD : va_D A [(h0, .inr (5, [.ref q8, .ref q17, .null, .null, .int 0, .int 0, .int 0])), (q8, .inl (cI, 144, .inl (fun _ => 0))), (q17, .inl (cI, 144, .inl (fun _ => 0))), (q25, .inl (cI, 12, .inl (fun _ => 0)))] := hD
  refine va_putF (D := (dC, dI)) (ci := 5) (v := .ref q25) (ty := .array .int) (C := RX5) (T := TX5) (N := 7) hx hb hts ci_5 tyX5 tyX5_ok nmX5 hown hK hP hD hS 0 rfl rfl 2 (by decide) (hts _ cm_36) (fun _ h9 => h9) rfl hin rfl (by decide +kernel) rfl rfl (Nat.le_of_ble_eq_true rfl) dX5_init_27 (fun H locs hP hD hS => ?_)
  have hP : va_P (dC, dI) vwCl [(h0, .inr (5, [.ref q8, .ref q17, .ref q25, .null, .int 0, .int 0, .int 0])), (q8, .inl (cI, 144, .inl (fun _ => 0))), (q17, .inl (cI, 144, .inl (fun _ => 0))), (q25, .inl (cI, 12, .inl (fun _ => 0)))] H := hP
  have hD : va_D A [(h0, .inr (5, [.ref q8, .ref q17, .ref q25, .null, .int 0, .int 0, .int 0])), (q8, .inl (cI, 144, .inl (fun _ => 0))), (q17, .inl (cI, 144, .inl (fun _ => 0))), (q25, .inl (cI, 12, .inl (fun _ => 0)))] := hD
  refine lv_aload_n hx hb dX5_init_30 rfl (lv_at hl 0 rfl) ?_
  refine lv_bipush (v := 6) hx hb dX5_init_31 (by decide) ?_
  refine cn_newa (N' := 6) hx hb (hts _ cm_4) hK hP hD hS hA (by decide) (by decide) (by decide) (Nat.le_of_ble_eq_true rfl) (Nat.le_of_ble_eq_true rfl) dX5_init_33 (fun q33 H hP hD hS => ?_)
  have hP : va_P (dC, dI) vwCl [(h0, .inr (5, [.ref q8, .ref q17, .ref q25, .null, .int 0, .int 0, .int 0])), (q8, .inl (cI, 144, .inl (fun _ => 0))), (q17, .inl (cI, 144, .inl (fun _ => 0))), (q25, .inl (cI, 12, .inl (fun _ => 0))), (q33, .inl (cI, 6, .inl (fun _ => 0)))] H := hP
  have hD : va_D A [(h0, .inr (5, [.ref q8, .ref q17, .ref q25, .null, .int 0, .int 0, .int 0])), (q8, .inl (cI, 144, .inl (fun _ => 0))), (q17, .inl (cI, 144, .inl (fun _ => 0))), (q25, .inl (cI, 12, .inl (fun _ => 0))), (q33, .inl (cI, 6, .inl (fun _ => 0)))] := hD
  refine va_putF (D := (dC, dI)) (ci := 5) (v := .ref q33) (ty := .array .int) (C := RX5) (T := TX5) (N := 7) hx hb hts ci_5 tyX5 tyX5_ok nmX5 hown hK hP hD hS 0 rfl rfl 3 (by decide) (hts _ cm_37) (fun _ h9 => h9) rfl hin rfl (by decide +kernel) rfl rfl (Nat.le_of_ble_eq_true rfl) dX5_init_35 (fun H locs hP hD hS => ?_)
  have hP : va_P (dC, dI) vwCl [(h0, .inr (5, [.ref q8, .ref q17, .ref q25, .ref q33, .int 0, .int 0, .int 0])), (q8, .inl (cI, 144, .inl (fun _ => 0))), (q17, .inl (cI, 144, .inl (fun _ => 0))), (q25, .inl (cI, 12, .inl (fun _ => 0))), (q33, .inl (cI, 6, .inl (fun _ => 0)))] H := hP
  have hD : va_D A [(h0, .inr (5, [.ref q8, .ref q17, .ref q25, .ref q33, .int 0, .int 0, .int 0])), (q8, .inl (cI, 144, .inl (fun _ => 0))), (q17, .inl (cI, 144, .inl (fun _ => 0))), (q25, .inl (cI, 12, .inl (fun _ => 0))), (q33, .inl (cI, 6, .inl (fun _ => 0)))] := hD
  refine lv_aload_n hx hb dX5_init_38 rfl (lv_at hl 0 rfl) ?_
  have hPc := hP.sub (ws' := [(h0, .inr (5, [.ref q8, .ref q17, .ref q25, .ref q33, .int 0, .int 0, .int 0])), (q8, .inl (cI, 144, .inl (fun _ => 0))), (q17, .inl (cI, 144, .inl (fun _ => 0))), (q25, .inl (cI, 12, .inl (fun _ => 0))), (q33, .inl (cI, 6, .inl (fun _ => 0)))]) [0, 1, 2, 3, 4] rfl
  have hDc := hD.sub (ws' := [(h0, .inr (5, [.ref q8, .ref q17, .ref q25, .ref q33, .int 0, .int 0, .int 0])), (q8, .inl (cI, 144, .inl (fun _ => 0))), (q17, .inl (cI, 144, .inl (fun _ => 0))), (q25, .inl (cI, 12, .inl (fun _ => 0))), (q33, .inl (cI, 6, .inl (fun _ => 0)))]) [0, 1, 2, 3, 4] (by decide) rfl
  have hKc := hK.sub (tys' := [(cI, .int)]) [0] rfl
  have hFc := va_free (wc := [(h0, .inr (5, [.ref q8, .ref q17, .ref q25, .ref q33, .int 0, .int 0, .int 0])), (q8, .inl (cI, 144, .inl (fun _ => 0))), (q17, .inl (cI, 144, .inl (fun _ => 0))), (q25, .inl (cI, 12, .inl (fun _ => 0))), (q33, .inl (cI, 6, .inl (fun _ => 0)))]) hD hS hA [0, 1, 2, 3, 4] rfl
  refine va_callv (va_runV (C := RX5) (As := []) (rest := []) ⟨hx, hb, hml, hown, hts⟩ (k_sreset l dC dI cI h0 q8 q17 q25 q33 (fun _ => 0) (fun _ => 0) (fun _ => 0) (fun _ => 0) 0 0 0 H.size) ⟨callB_of 0 hts (cT_self cm_33) rfl rfl rfl (hts _ cm_47) (hts _ cm_44) (by decide +kernel) ⟨Nat.le_of_ble_eq_true rfl, Nat.le_of_ble_eq_true rfl⟩, hts _ cm_45, hts _ cm_46⟩ ⟨fun a U g mk q => by obtain ⟨q0, q1, qP, qK, qD⟩ := q; exact ⟨q0, q1, qP, va_K.moved (u := U) (U := U.calling g mk a) (Vm.Alike.refl U.vm) qK, qD⟩, va_recv hKc hPc (ci := 5) (q0 := 0) rfl rfl, fun U hU hW => ⟨rfl, by rw [hU], by rw [hU]; exact hPc, va_K.moved hW.alike hKc, hDc.weaken (fun _ _ _ _ => trivial)⟩⟩ rfl rfl hl.1 rfl (lv_room (Nat.le_of_ble_eq_true rfl)) dX5_init_39 ⟨Nat.le_of_ble_eq_true rfl, Nat.le_of_ble_eq_true rfl⟩) hS (fun q _ h => hFc q h) hFc (fun u t H1 locs ht hvm hw hB hz1 hk1 hS => ?_)
  obtain ⟨f0, f1, f2, f3, hf0, hf1, hf2, hf3, hP1, hK1, hD1⟩ := hB
  rw [ht] at hP1
  have hK1 := va_K.moved hvm.symm hK1
  obtain ⟨hP, hD⟩ := va_join (wr := []) (w1 := [(h0, .inr (5, [.ref q8, .ref q17, .ref q25, .ref q33, .int (-1), .int 0, .int 0])), (q8, .inl (cI, 144, .inl f0)), (q17, .inl (cI, 144, .inl f1)), (q25, .inl (cI, 12, .inl f2)), (q33, .inl (cI, 6, .inl f3))]) hP hD [0, 1, 2, 3, 4] [] rfl rfl (by decide) (by decide) hk1 hFc hP1 hD1
  generalize H1 = H at hP hS ⊢
  have hP : va_P (dC, dI) vwCl [(h0, .inr (5, [.ref q8, .ref q17, .ref q25, .ref q33, .int (-1), .int 0, .int 0])), (q8, .inl (cI, 144, .inl f0)), (q17, .inl (cI, 144, .inl f1)), (q25, .inl (cI, 12, .inl f2)), (q33, .inl (cI, 6, .inl f3))] H := hP
  have hD : va_D A [(h0, .inr (5, [.ref q8, .ref q17, .ref q25, .ref q33, .int (-1), .int 0, .int 0])), (q8, .inl (cI, 144, .inl f0)), (q17, .inl (cI, 144, .inl f1)), (q25, .inl (cI, 12, .inl f2)), (q33, .inl (cI, 6, .inl f3))] := hD
  have hP := hP.sub (ws' := [(h0, .inr (5, [.ref q8, .ref q17, .ref q25, .ref q33, .int (-1), .int 0, .int 0])), (q8, .inl (cI, 144, .inl f0)), (q17, .inl (cI, 144, .inl f1)), (q25, .inl (cI, 12, .inl f2)), (q33, .inl (cI, 6, .inl f3))]) [0, 1, 2, 3, 4] rfl
  have hD := hD.sub (ws' := [(h0, .inr (5, [.ref q8, .ref q17, .ref q25, .ref q33, .int (-1), .int 0, .int 0])), (q8, .inl (cI, 144, .inl f0)), (q17, .inl (cI, 144, .inl f1)), (q25, .inl (cI, 12, .inl f2)), (q33, .inl (cI, 6, .inl f3))]) [0, 1, 2, 3, 4] (by decide) rfl
  refine W.widen (k := 4) (n := 306) (Nat.le_of_ble_eq_true rfl) (Nat.le_of_ble_eq_true rfl) ?_
  exact W.vret hx hb hr (fun t ht hW => ⟨⟨(), rfl, trivial, q8, q17, q25, q33, f0, f1, f2, f3, hf0, hf1, hf2, hf3, by rw [ht]; exact hP, va_K.moved hW.alike hK, hD⟩, hS.F ht⟩) hS.2.2 dX5_init_42
set_option maxHeartbeats 4000000 in
set_option maxRecDepth 100000 in
theorem k_X6 (l : Launch) (dC : Nat → ClassId) (dI : Nat → Nat → Nat) (cI : ClassId) (h0 : Nat) (sz : Nat) : Met l yX6_init (.code yX6_init cX6_init 1 none :: cT) ({ frames := 1, cells := 4, slots := 4396, locals := 12 }) (va_Pc [.ref h0] (fun U => U.heap.size = sz ∧ va_P (dC, dI) vwCl [(h0, .inr (6, [.null, .null, .null, .null, .int 0, .int 0, .int 0]))] U.heap ∧ va_K (dC, dI) vwCl [(cI, .int)] U ∧ va_D (fun _ => True) [(h0, .inr (6, [.null, .null, .null, .null, .int 0, .int 0, .int 0]))])) (va_Qv (fun _ : Unit => True) (fun _ t => ∃ q8 : Nat, ∃ q17 : Nat, ∃ q25 : Nat, ∃ q34 : Nat, va_P (dC, dI) vwCl [(h0, .inr (6, [.ref q8, .ref q17, .ref q25, .ref q34, .int 0, .int 0, .int 0])), (q8, .inl (cI, 144, .inl (fun _ => 0))), (q17, .inl (cI, 144, .inl (fun _ => 0))), (q25, .inl (cI, 12, .inl (fun _ => 0))), (q34, .inl (cI, 4096, .inl (fun _ => 0)))] t.heap ∧ va_K (dC, dI) vwCl [(cI, .int)] t ∧ va_D (va_A [(h0, .inr (6, [.null, .null, .null, .null, .int 0, .int 0, .int 0]))] sz) [(h0, .inr (6, [.ref q8, .ref q17, .ref q25, .ref q34, .int 0, .int 0, .int 0])), (q8, .inl (cI, 144, .inl (fun _ => 0))), (q17, .inl (cI, 144, .inl (fun _ => 0))), (q25, .inl (cI, 12, .inl (fun _ => 0))), (q34, .inl (cI, 4096, .inl (fun _ => 0)))]) (va_A [(h0, .inr (6, [.null, .null, .null, .null, .int 0, .int 0, .int 0]))] sz)) 4 4396 (va_A [(h0, .inr (6, [.null, .null, .null, .null, .int 0, .int 0, .int 0]))] sz) := by
  refine Met.ofW (cc := cX6_init) (maxL := 1) (ret := none) (by decide) rfl ?_
  intro p e s m args below meth c s₁ B hml hv
  obtain ⟨rfl, hsz, hP, hK, hD0⟩ := hv
  have hx := B.exec
  have hb := B.bytes
  have hr := B.returns
  have hts0 := atoms_spec (ws := .code yX6_init cX6_init 1 none :: cT) B.pre
  have hts : ∀ w ∈ cT, w.before _ s = true := fun w h => hts0 w (List.mem_cons_of_mem _ h)
  have hown : s.vm.findClass RX6 = some m.cls := findClass_of_methodNamed B.named
  have hin : meth.name = "<init>" := (name_of_methodNamed B.named B.method).1
  subst hsz
  have hD := hD0.self (sz := s.heap.size)
  generalize hAe : va_A [(h0, .inr (6, [.null, .null, .null, .null, .int 0, .int 0, .int 0]))] s.heap.size = A at hD ⊢
  have hA : ∀ q : Nat, s.heap.size ≤ q → A q := fun q h => by rw [← hAe]; exact Or.inr h
  have hS : va_S A s.heap s.heap [] := va_S.rf
  have hP : va_P (dC, dI) vwCl [(h0, .inr (6, [.null, .null, .null, .null, .int 0, .int 0, .int 0]))] s.heap := hP
  have hl := lv_entry ([.ref h0]) (n := 1) (Nat.le_of_ble_eq_true rfl)
  rw [lg_entry_eq]
  generalize (lg_sl ([.ref h0]) ++ List.replicate (1 - (lg_sl ([.ref h0])).length) Slot.unset).toArray = ls at hl ⊢
  have hl : lv_has ls 1 [(0, .ref h0)] := hl
  refine lv_aload_n hx hb dX6_init_0 rfl (lv_at hl 0 rfl) ?_
  refine W.objInit hx hb hown (hts _ cm_49) (hts _ cm_2) (hts _ cm_3) rfl (by rw [hml]; exact hl.1) rfl dX6_init_1 (Nat.le_of_ble_eq_true rfl) (Nat.le_of_ble_eq_true rfl) ?_
  refine W.eq (g2 := F0 m 4 ls []) rfl ?_
  refine lv_aload_n hx hb dX6_init_4 rfl (lv_at hl 0 rfl) ?_
  refine lv_sipush (v := 144) hx hb dX6_init_5 (by decide) ?_
  refine cn_newa (N' := 144) hx hb (hts _ cm_4) hK hP hD hS hA (by decide) (by decide) (by decide) (Nat.le_of_ble_eq_true rfl) (Nat.le_of_ble_eq_true rfl) dX6_init_8 (fun q8 H hP hD hS => ?_)
  have hP : va_P (dC, dI) vwCl [(h0, .inr (6, [.null, .null, .null, .null, .int 0, .int 0, .int 0])), (q8, .inl (cI, 144, .inl (fun _ => 0)))] H := hP
  have hD : va_D A [(h0, .inr (6, [.null, .null, .null, .null, .int 0, .int 0, .int 0])), (q8, .inl (cI, 144, .inl (fun _ => 0)))] := hD
  refine va_putF (D := (dC, dI)) (ci := 6) (v := .ref q8) (ty := .array .int) (C := RX6) (T := TX6) (N := 7) hx hb hts ci_6 tyX6 tyX6_ok nmX6 hown hK hP hD hS 0 rfl rfl 0 (by decide) (hts _ cm_50) (fun _ h9 => h9) rfl hin rfl (by decide +kernel) rfl rfl (Nat.le_of_ble_eq_true rfl) dX6_init_10 (fun H locs hP hD hS => ?_)
  have hP : va_P (dC, dI) vwCl [(h0, .inr (6, [.ref q8, .null, .null, .null, .int 0, .int 0, .int 0])), (q8, .inl (cI, 144, .inl (fun _ => 0)))] H := hP
  have hD : va_D A [(h0, .inr (6, [.ref q8, .null, .null, .null, .int 0, .int 0, .int 0])), (q8, .inl (cI, 144, .inl (fun _ => 0)))] := hD
  refine lv_aload_n hx hb dX6_init_13 rfl (lv_at hl 0 rfl) ?_
  refine lv_sipush (v := 144) hx hb dX6_init_14 (by decide) ?_
  refine cn_newa (N' := 144) hx hb (hts _ cm_4) hK hP hD hS hA (by decide) (by decide) (by decide) (Nat.le_of_ble_eq_true rfl) (Nat.le_of_ble_eq_true rfl) dX6_init_17 (fun q17 H hP hD hS => ?_)
  have hP : va_P (dC, dI) vwCl [(h0, .inr (6, [.ref q8, .null, .null, .null, .int 0, .int 0, .int 0])), (q8, .inl (cI, 144, .inl (fun _ => 0))), (q17, .inl (cI, 144, .inl (fun _ => 0)))] H := hP
  have hD : va_D A [(h0, .inr (6, [.ref q8, .null, .null, .null, .int 0, .int 0, .int 0])), (q8, .inl (cI, 144, .inl (fun _ => 0))), (q17, .inl (cI, 144, .inl (fun _ => 0)))] := hD
  refine va_putF (D := (dC, dI)) (ci := 6) (v := .ref q17) (ty := .array .int) (C := RX6) (T := TX6) (N := 7) hx hb hts ci_6 tyX6 tyX6_ok nmX6 hown hK hP hD hS 0 rfl rfl 1 (by decide) (hts _ cm_51) (fun _ h9 => h9) rfl hin rfl (by decide +kernel) rfl rfl (Nat.le_of_ble_eq_true rfl) dX6_init_19 (fun H locs hP hD hS => ?_)
  have hP : va_P (dC, dI) vwCl [(h0, .inr (6, [.ref q8, .ref q17, .null, .null, .int 0, .int 0, .int 0])), (q8, .inl (cI, 144, .inl (fun _ => 0))), (q17, .inl (cI, 144, .inl (fun _ => 0)))] H := hP
  have hD : va_D A [(h0, .inr (6, [.ref q8, .ref q17, .null, .null, .int 0, .int 0, .int 0])), (q8, .inl (cI, 144, .inl (fun _ => 0))), (q17, .inl (cI, 144, .inl (fun _ => 0)))] := hD
  refine lv_aload_n hx hb dX6_init_22 rfl (lv_at hl 0 rfl) ?_
  refine lv_bipush (v := 12) hx hb dX6_init_23 (by decide) ?_
  refine cn_newa (N' := 12) hx hb (hts _ cm_4) hK hP hD hS hA (by decide) (by decide) (by decide) (Nat.le_of_ble_eq_true rfl) (Nat.le_of_ble_eq_true rfl) dX6_init_25 (fun q25 H hP hD hS => ?_)
  have hP : va_P (dC, dI) vwCl [(h0, .inr (6, [.ref q8, .ref q17, .null, .null, .int 0, .int 0, .int 0])), (q8, .inl (cI, 144, .inl (fun _ => 0))), (q17, .inl (cI, 144, .inl (fun _ => 0))), (q25, .inl (cI, 12, .inl (fun _ => 0)))] H := hP
  have hD : va_D A [(h0, .inr (6, [.ref q8, .ref q17, .null, .null, .int 0, .int 0, .int 0])), (q8, .inl (cI, 144, .inl (fun _ => 0))), (q17, .inl (cI, 144, .inl (fun _ => 0))), (q25, .inl (cI, 12, .inl (fun _ => 0)))] := hD
  refine va_putF (D := (dC, dI)) (ci := 6) (v := .ref q25) (ty := .array .int) (C := RX6) (T := TX6) (N := 7) hx hb hts ci_6 tyX6 tyX6_ok nmX6 hown hK hP hD hS 0 rfl rfl 2 (by decide) (hts _ cm_52) (fun _ h9 => h9) rfl hin rfl (by decide +kernel) rfl rfl (Nat.le_of_ble_eq_true rfl) dX6_init_27 (fun H locs hP hD hS => ?_)
  have hP : va_P (dC, dI) vwCl [(h0, .inr (6, [.ref q8, .ref q17, .ref q25, .null, .int 0, .int 0, .int 0])), (q8, .inl (cI, 144, .inl (fun _ => 0))), (q17, .inl (cI, 144, .inl (fun _ => 0))), (q25, .inl (cI, 12, .inl (fun _ => 0)))] H := hP
  have hD : va_D A [(h0, .inr (6, [.ref q8, .ref q17, .ref q25, .null, .int 0, .int 0, .int 0])), (q8, .inl (cI, 144, .inl (fun _ => 0))), (q17, .inl (cI, 144, .inl (fun _ => 0))), (q25, .inl (cI, 12, .inl (fun _ => 0)))] := hD
  refine lv_aload_n hx hb dX6_init_30 rfl (lv_at hl 0 rfl) ?_
  refine lv_sipush (v := 4096) hx hb dX6_init_31 (by decide) ?_
  refine cn_newa (N' := 4096) hx hb (hts _ cm_4) hK hP hD hS hA (by decide) (by decide) (by decide) (Nat.le_of_ble_eq_true rfl) (Nat.le_of_ble_eq_true rfl) dX6_init_34 (fun q34 H hP hD hS => ?_)
  have hP : va_P (dC, dI) vwCl [(h0, .inr (6, [.ref q8, .ref q17, .ref q25, .null, .int 0, .int 0, .int 0])), (q8, .inl (cI, 144, .inl (fun _ => 0))), (q17, .inl (cI, 144, .inl (fun _ => 0))), (q25, .inl (cI, 12, .inl (fun _ => 0))), (q34, .inl (cI, 4096, .inl (fun _ => 0)))] H := hP
  have hD : va_D A [(h0, .inr (6, [.ref q8, .ref q17, .ref q25, .null, .int 0, .int 0, .int 0])), (q8, .inl (cI, 144, .inl (fun _ => 0))), (q17, .inl (cI, 144, .inl (fun _ => 0))), (q25, .inl (cI, 12, .inl (fun _ => 0))), (q34, .inl (cI, 4096, .inl (fun _ => 0)))] := hD
  refine va_putF (D := (dC, dI)) (ci := 6) (v := .ref q34) (ty := .array .int) (C := RX6) (T := TX6) (N := 7) hx hb hts ci_6 tyX6 tyX6_ok nmX6 hown hK hP hD hS 0 rfl rfl 3 (by decide) (hts _ cm_53) (fun _ h9 => h9) rfl hin rfl (by decide +kernel) rfl rfl (Nat.le_of_ble_eq_true rfl) dX6_init_36 (fun H locs hP hD hS => ?_)
  have hP : va_P (dC, dI) vwCl [(h0, .inr (6, [.ref q8, .ref q17, .ref q25, .ref q34, .int 0, .int 0, .int 0])), (q8, .inl (cI, 144, .inl (fun _ => 0))), (q17, .inl (cI, 144, .inl (fun _ => 0))), (q25, .inl (cI, 12, .inl (fun _ => 0))), (q34, .inl (cI, 4096, .inl (fun _ => 0)))] H := hP
  have hD : va_D A [(h0, .inr (6, [.ref q8, .ref q17, .ref q25, .ref q34, .int 0, .int 0, .int 0])), (q8, .inl (cI, 144, .inl (fun _ => 0))), (q17, .inl (cI, 144, .inl (fun _ => 0))), (q25, .inl (cI, 12, .inl (fun _ => 0))), (q34, .inl (cI, 4096, .inl (fun _ => 0)))] := hD
  refine W.widen (k := 4) (n := 4396) (Nat.le_of_ble_eq_true rfl) (Nat.le_of_ble_eq_true rfl) ?_
  exact W.vret hx hb hr (fun t ht hW => ⟨⟨(), rfl, trivial, q8, q17, q25, q34, by rw [ht]; exact hP, va_K.moved hW.alike hK, hD⟩, hS.F ht⟩) hS.2.2 dX6_init_39
set_option maxHeartbeats 4000000 in
set_option maxRecDepth 100000 in
theorem k_X7 (l : Launch) (dC : Nat → ClassId) (dI : Nat → Nat → Nat) (cI : ClassId) (h0 h1 h2 h3 : Nat) (sz : Nat) : Met l yX7_init (.code yX7_init cX7_init 4 none :: cT) ({ frames := 1, cells := 0, slots := 0, locals := 12 }) (va_Pc [.ref h0, .ref h1, .ref h2, .ref h3] (fun U => U.heap.size = sz ∧ va_P (dC, dI) vwCl [(h0, .inr (7, [.null, .null, .null]))] U.heap ∧ va_K (dC, dI) vwCl [(cI, .int)] U ∧ va_D (fun _ => True) [(h0, .inr (7, [.null, .null, .null]))])) (va_Qv (fun _ : Unit => True) (fun _ t => va_P (dC, dI) vwCl [(h0, .inr (7, [.ref h1, .ref h2, .ref h3]))] t.heap ∧ va_K (dC, dI) vwCl [(cI, .int)] t ∧ va_D (va_A [(h0, .inr (7, [.null, .null, .null]))] sz) [(h0, .inr (7, [.ref h1, .ref h2, .ref h3]))]) (va_A [(h0, .inr (7, [.null, .null, .null]))] sz)) 0 0 (va_A [(h0, .inr (7, [.null, .null, .null]))] sz) := by
  refine Met.ofW (cc := cX7_init) (maxL := 4) (ret := none) (by decide) rfl ?_
  intro p e s m args below meth c s₁ B hml hv
  obtain ⟨rfl, hsz, hP, hK, hD0⟩ := hv
  have hx := B.exec
  have hb := B.bytes
  have hr := B.returns
  have hts0 := atoms_spec (ws := .code yX7_init cX7_init 4 none :: cT) B.pre
  have hts : ∀ w ∈ cT, w.before _ s = true := fun w h => hts0 w (List.mem_cons_of_mem _ h)
  have hown : s.vm.findClass RX7 = some m.cls := findClass_of_methodNamed B.named
  have hin : meth.name = "<init>" := (name_of_methodNamed B.named B.method).1
  subst hsz
  have hD := hD0.self (sz := s.heap.size)
  generalize hAe : va_A [(h0, .inr (7, [.null, .null, .null]))] s.heap.size = A at hD ⊢
  have hA : ∀ q : Nat, s.heap.size ≤ q → A q := fun q h => by rw [← hAe]; exact Or.inr h
  have hS : va_S A s.heap s.heap [] := va_S.rf
  have hP : va_P (dC, dI) vwCl [(h0, .inr (7, [.null, .null, .null]))] s.heap := hP
  have hl := lv_entry ([.ref h0, .ref h1, .ref h2, .ref h3]) (n := 4) (Nat.le_of_ble_eq_true rfl)
  rw [lg_entry_eq]
  generalize (lg_sl ([.ref h0, .ref h1, .ref h2, .ref h3]) ++ List.replicate (4 - (lg_sl ([.ref h0, .ref h1, .ref h2, .ref h3])).length) Slot.unset).toArray = ls at hl ⊢
  have hl : lv_has ls 4 [(0, .ref h0), (1, .ref h1), (2, .ref h2), (3, .ref h3)] := hl
  refine lv_aload_n hx hb dX7_init_0 rfl (lv_at hl 0 rfl) ?_
  refine W.objInit hx hb hown (hts _ cm_55) (hts _ cm_2) (hts _ cm_3) rfl (by rw [hml]; exact hl.1) rfl dX7_init_1 (Nat.le_of_ble_eq_true rfl) (Nat.le_of_ble_eq_true rfl) ?_
  refine W.eq (g2 := F0 m 4 ls []) rfl ?_
  refine lv_aload_n hx hb dX7_init_4 rfl (lv_at hl 0 rfl) ?_
  refine lv_aload_n hx hb dX7_init_5 rfl (lv_at hl 1 rfl) ?_
  refine va_putF (D := (dC, dI)) (ci := 7) (v := .ref h1) (ty := .object "NetSchool$Plan") (C := RX7) (T := TX7) (N := 3) hx hb hts ci_7 tyX7 tyX7_ok nmX7 hown hK hP hD hS 0 rfl rfl 0 (by decide) (hts _ cm_56) (fun _ h9 => h9) rfl hin rfl (by decide +kernel) rfl rfl (Nat.le_of_ble_eq_true rfl) dX7_init_6 (fun H locs hP hD hS => ?_)
  have hP : va_P (dC, dI) vwCl [(h0, .inr (7, [.ref h1, .null, .null]))] H := hP
  have hD : va_D A [(h0, .inr (7, [.ref h1, .null, .null]))] := hD
  refine lv_aload_n hx hb dX7_init_9 rfl (lv_at hl 0 rfl) ?_
  refine lv_aload_n hx hb dX7_init_10 rfl (lv_at hl 2 rfl) ?_
  refine va_putF (D := (dC, dI)) (ci := 7) (v := .ref h2) (ty := .object "NetSchool$Post") (C := RX7) (T := TX7) (N := 3) hx hb hts ci_7 tyX7 tyX7_ok nmX7 hown hK hP hD hS 0 rfl rfl 1 (by decide) (hts _ cm_57) (fun _ h9 => h9) rfl hin rfl (by decide +kernel) rfl rfl (Nat.le_of_ble_eq_true rfl) dX7_init_11 (fun H locs hP hD hS => ?_)
  have hP : va_P (dC, dI) vwCl [(h0, .inr (7, [.ref h1, .ref h2, .null]))] H := hP
  have hD : va_D A [(h0, .inr (7, [.ref h1, .ref h2, .null]))] := hD
  refine lv_aload_n hx hb dX7_init_14 rfl (lv_at hl 0 rfl) ?_
  refine lv_aload_n hx hb dX7_init_15 rfl (lv_at hl 3 rfl) ?_
  refine va_putF (D := (dC, dI)) (ci := 7) (v := .ref h3) (ty := .object "NetSchool$Entries") (C := RX7) (T := TX7) (N := 3) hx hb hts ci_7 tyX7 tyX7_ok nmX7 hown hK hP hD hS 0 rfl rfl 2 (by decide) (hts _ cm_58) (fun _ h9 => h9) rfl hin rfl (by decide +kernel) rfl rfl (Nat.le_of_ble_eq_true rfl) dX7_init_16 (fun H locs hP hD hS => ?_)
  have hP : va_P (dC, dI) vwCl [(h0, .inr (7, [.ref h1, .ref h2, .ref h3]))] H := hP
  have hD : va_D A [(h0, .inr (7, [.ref h1, .ref h2, .ref h3]))] := hD
  refine W.widen (k := 0) (n := 0) (Nat.le_of_ble_eq_true rfl) (Nat.le_of_ble_eq_true rfl) ?_
  exact W.vret hx hb hr (fun t ht hW => ⟨⟨(), rfl, trivial, by rw [ht]; exact hP, va_K.moved hW.alike hK, hD⟩, hS.F ht⟩) hS.2.2 dX7_init_19
