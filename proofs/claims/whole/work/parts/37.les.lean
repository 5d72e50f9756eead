theorem c18 {σ : ir_S} {d k : Nat} : ir_ev (d + 1) 18 [.ref 30, .int (nI k)] σ = some (none, ir_up (ir_up σ 30 2 (σ 30 2 ||| ((1 : Int32) <<< (nI k &&& 31)))) 30 3 (σ 30 3 + 5)) := by
  simp (disch := omega) only [e18, s18_0, s18_1i, s18_1r, s18_2, s18_5, s18_6, s18_7, s18_8, s18_9, s18_12, s18_13i, s18_13r, s18_14, s18_17, s18_18, s18_19, s18_22, u_s, upd_n]
theorem c19 {σ : ir_S} {d : Nat} : ir_ev (d + 1) 19 [.ref 30] σ = some (none, ir_up (ir_up σ 30 7 (σ 30 7 + 1)) 30 3 (σ 30 3 + 10)) := by
  simp (disch := omega) only [e19, s19_0, s19_1i, s19_1r, s19_2, s19_5, s19_6, s19_7, s19_10, s19_11i, s19_11r, s19_12, s19_15, s19_17, s19_18, s19_21, u_s, upd_n]
