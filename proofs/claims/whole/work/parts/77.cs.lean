/-! the law's two cases that may throw -/
theorem lw_wx : ∀ w ∈ [Cond.stringRef RX8 178 "no such look or cause", Cond.stringRef RX8 283 "no such number of the row", Cond.laysStatic Jvm.Bundle.tN "UNASSIGNED_STACK" Jvm.Bundle.steD, Cond.laysStatic Jvm.Bundle.tN "SUPPRESSED_SENTINEL" Jvm.Bundle.listD, Cond.initialized Jvm.Bundle.tN, Cond.methodLink RL 84 yL_answer, Cond.static yL_answer, Cond.methodLink RL 149 yL_row, Cond.static yL_row, Cond.initialized RL, Cond.codeWith yL_answer cL_answer 5 (some .int) [(0, 10, 13, 13)], Cond.codeWith yL_row cL_row 4 (some .int) [(0, 9, 12, 13)]], w ∈ lw_tbl := by decide +kernel
theorem lw_XP {p : Program} {s : State} {m : MethodId} {meth : Method} {c : Code} {b L : Nat} {xs : Nat → Int32} (C0 : lw_At p s m meth c b L xs) : ∃ sa1 sa2, XP (fun q : Nat => s.heap.size ≤ q) sa1 sa2 s s.heap := by
  obtain ⟨hx, hb, hr, hml, hown, hts, hX, hbl, hlocks, hgv⟩ := C0
  have hs := flat_of_before _ hgv
  have e1 : (Cond.exactly (.string RX8 178) "java/lang/String").before #[Value.ref b] s = true := hs _ (by decide +kernel)
  have e2 : (Cond.exactly (.string RX8 283) "java/lang/String").before #[Value.ref b] s = true := hs _ (by decide +kernel)
  have u1 : (Cond.isRef (.static Jvm.Bundle.tN "UNASSIGNED_STACK" Jvm.Bundle.steD)).before #[Value.ref b] s = true := hs _ (by decide +kernel)
  have u2 : (Cond.isRef (.static Jvm.Bundle.tN "SUPPRESSED_SENTINEL" Jvm.Bundle.listD)).before #[Value.ref b] s = true := hs _ (by decide +kernel)
  obtain ⟨a1, -, -, -, q1, -⟩ := Cond.exactly_spec e1
  obtain ⟨a2, -, -, -, q2, -⟩ := Cond.exactly_spec e2
  exact ⟨a1, a2, TX_of hts, vk_R.of (hts _ (lw_wx _ (by simp))) q1, vk_R.of (hts _ (lw_wx _ (by simp))) q2, vx_Zqof (hts _ (lw_wx _ (by simp))) (hts _ (lw_wx _ (by simp))) u1 (fun a h => Nat.not_le.mpr h), vx_Zqof (hts _ (lw_wx _ (by simp))) (hts _ (lw_wx _ (by simp))) u2 (fun a h => Nat.not_le.mpr h)⟩
theorem c118 {σ : ir_S} {d : Nat} : ir_ev (d + 1) 118 [.ref 33] σ = some (some (.int (σ 33 0)), σ) := by simp only [e118, s118_0, s118_1, s118_4]
