/-! the law's two static methods -/
def xL1 : List Cond := [.classLink RL 13 xNS, .methodLink RL 7 (ir_m 87).1, .instanceMethod (ir_m 87).1, .selects (ir_m 87).1.cls (ir_m 87).1 (ir_m 87).1, .methodLink RL 15 (ir_m 102).1, .instanceMethod (ir_m 102).1, .selects (ir_m 102).1.cls (ir_m 102).1 (ir_m 102).1]
def xLT : List Cond := xT ++ xL1
theorem xL1_g : GoodIn lw_tbl xL1 := goodIn_sub (by decide +kernel) (by decide +kernel)
theorem xLT_good : GoodIn lw_tbl xLT := goodIn_app xT_good xL1_g
theorem xLT_T : GoodIn xLT ir_T := fun w h => ⟨List.mem_append_left _ (List.mem_append_left _ h), (ir_T_good w h).2⟩
theorem xLT_1 {w : Cond} (h : w ∈ xL1) : w ∈ xLT := List.mem_append_right _ h
abbrev xRL : Room := { frames := 60, cells := 1, slots := 6, locals := 2500 }
def xAo (ad : Nat → Nat) (o : Nat) : Nat → Prop := fun q => ir_A ad q ∨ q = o
def xPL (dC : Nat → ClassId) (dI : Nat → Nat → Nat) (ad : Nat → Nat) (cI cL : ClassId) (o sa1 sa2 : Nat) (σ : ir_S) (g : Nat → Int64) (U : State) : Prop := ir_At dC dI ad cI σ U ∧ va_P (dC, dI) vwCl [(o, .inl (cL, 1, .inr (.inl g)))] U.heap ∧ va_K (dC, dI) vwCl [(cL, .long)] U ∧ XP (xAo ad o) sa1 sa2 U U.heap
def xQL (dC : Nat → ClassId) (dI : Nat → Nat → Nat) (ad : Nat → Nat) (cI cL : ClassId) (o : Nat) (r : Int32) (σ : ir_S) (g : Nat → Int64) : Array Value → State → Outcome → State → Prop := fun _ st oc t => oc = .returned (some (.int r)) ∧ va_P (dC, dI) vwCl (ir_ws ad cI σ) t.heap ∧ va_P (dC, dI) vwCl [(o, .inl (cL, 1, .inr (.inl g)))] t.heap ∧ va_F (xAo ad o) st t
theorem ir_ws_len {ad : Nat → Nat} {cI : ClassId} {σ : ir_S} : (ir_ws ad cI σ).length = 58 := by unfold ir_ws; rw [List.length_map, List.length_range]
theorem lw_D {A : Nat → Prop} {ad : Nat → Nat} {cI : ClassId} {σ : ir_S} {o : Nat} {x : va_E} (hinj : ∀ i j, i < 58 → j < 58 → ad i = ad j → i = j) (had : ∀ i, i < 58 → A (ad i)) (ho : A o) (hno : ∀ i, i < 58 → ad i ≠ o) : va_D A (ir_ws ad cI σ ++ [(o, x)]) := by
  have key : ∀ (k : Nat) (q : Nat × va_E), (ir_ws ad cI σ ++ [(o, x)])[k]? = some q → (k < 58 ∧ q.1 = ad k) ∨ (k = 58 ∧ q.1 = o) := by
    intro k q h
    rcases Nat.lt_or_ge k 58 with hk | hk
    · rw [List.getElem?_append_left (by rw [ir_ws_len]; exact hk), ir_ws_get hk] at h
      cases h
      exact Or.inl ⟨hk, rfl⟩
    · rw [List.getElem?_append_right (by rw [ir_ws_len]; exact hk), ir_ws_len] at h
      have hz : k - 58 < 1 := (List.getElem?_eq_some_iff.mp h).1
      rw [show k - 58 = 0 by omega] at h
      cases h
      exact Or.inr ⟨by omega, rfl⟩
  refine ⟨fun i j p q hi hj e9 => ?_, fun k q h => ?_⟩
  · rcases key i p hi with ⟨a1, a2⟩ | ⟨a1, a2⟩ <;> rcases key j q hj with ⟨b1, b2⟩ | ⟨b1, b2⟩
    · exact hinj i j a1 b1 (by rw [← a2, ← b2]; exact e9)
    · exact absurd (by rw [← a2, ← b2]; exact e9) (hno i a1)
    · exact absurd (by rw [← a2, ← b2]; exact e9.symm) (hno j b1)
    · rw [a1, b1]
  · rcases key k q h with ⟨a1, a2⟩ | ⟨a1, a2⟩
    · rw [a2]; exact had k a1
    · rw [a2]; exact ho
theorem xPL_blind {dC : Nat → ClassId} {dI : Nat → Nat → Nat} {ad : Nat → Nat} {cI cL : ClassId} {o sa1 sa2 : Nat} {σ : ir_S} {g : Nat → Int64} {vs : List Value} : FrameBlind (va_Pc vs (xPL dC dI ad cI cL o sa1 sa2 σ g)) := fun a U f mk h => ⟨h.1, ⟨h.2.1.1, va_K.moved (u := U) (U := U.calling f mk a) (Vm.Alike.refl U.vm) h.2.1.2.1, fun c hc q hq hk => va_Nw.same rfl rfl (h.2.1.2.2 c hc q hq hk)⟩, h.2.2.1, va_K.moved (u := U) (U := U.calling f mk a) (Vm.Alike.refl U.vm) h.2.2.2.1, XP.same (s := U) (U := U.calling f mk a) rfl h.2.2.2.2⟩
