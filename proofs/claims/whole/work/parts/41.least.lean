theorem c65 {K C s d : Nat} {AL : Nat → Nat → Nat} {pr : Nat → Nat} {σ : ir_S} (ht : TBL σ K C AL pr) (h0 : 0 < s) (hs : s < 2 ^ C) (hM : MEM σ C (WV AL pr K C 12)) : ∃ σ', ir_ev (d + 29) 65 [.ref 25, .int (nI s)] σ = some (some (.int (nI (WV AL pr K C 12 s))), σ') ∧ (∀ c, c ≠ 29 → σ' c = σ c) ∧ MEM σ' C (WV AL pr K C 12) := by
  obtain ⟨σ', h1, h2⟩ := c66 ht 12 s 0 d σ (pop_12 s) h0 hs (by have := pop_12 s; omega) (fun _ _ => rfl) hM
  have h1 : ir_ev (d + 28) 66 [.ref 25, .int (nI s), .int 0] σ = some (some (.int (nI (WV AL pr K C 12 s))), σ') := h1
  refine ⟨σ', ?_, h2⟩
  simp only [e65, s65_0, s65_1, s65_2, s65_3, s65_6, h1, ir_k_i, ir_tl_i]
