/-! counts of bits -/
def ush (x : Int32) (k : Int32) : Int32 := (x.toUInt32 >>> (k.toUInt32 &&& Int32.toUInt32 31)).toInt32
def bcI (x : Int32) : Int32 :=
  let a := x - (ush x 1 &&& 1431655765)
  let b := (a &&& 858993459) + (ush a 2 &&& 858993459)
  let c := (b + ush b 4) &&& 252645135
  let e := c + ush c 8
  let f := e + ush e 16
  f &&& 63
theorem c183 {d : Nat} {σ : ir_S} {x : Int32} : ir_ev (d + 1) 183 [.int x] σ = some (some (.int (bcI x)), σ) := by
  simp only [e183, s183_0, s183_1, s183_2, s183_3, s183_4, s183_7, s183_8, s183_9, s183_10, s183_11, s183_14, s183_15, s183_16, s183_17, s183_18, s183_21, s183_22, s183_23, s183_24, s183_25, s183_26, s183_27, s183_28, s183_29, s183_32, s183_33, s183_34, s183_35, s183_36, s183_38, s183_39, s183_40, s183_41, s183_42, s183_43, s183_45, s183_46, s183_47, s183_48, s183_49, s183_51, s183_52]
  rfl
def lowB (x : Int32) : Int32 := bcI ((x &&& -x) - 1)
theorem c117 {d : Nat} {σ : ir_S} {x : Int32} : ir_ev (d + 2) 117 [.int x] σ = some (some (.int (lowB x)), σ) := by
  simp only [e117, s117_0, s117_1, s117_2, s117_3, s117_4, s117_5, s117_6, s117_9, c183, ir_k_i, ir_tl_i]
  rfl
def popN (n : Nat) : Nat := (List.range 12).countP (fun i => n.testBit i)
def lowN (n : Nat) : Nat := ((List.range 12).find? (fun i => n.testBit i)).getD 0
theorem all4096 {P : Nat → Prop} (h : ∀ a, a < 64 → ∀ b, b < 64 → P (a * 64 + b)) : ∀ n, n < 4096 → P n := fun n hn => by
  have := h (n / 64) (by omega) (n % 64) (by omega)
  rw [show n / 64 * 64 + n % 64 = n by omega] at this
  exact this
theorem bc_pop : ∀ n, n < 4096 → bcI (nI n) = nI (popN n) := all4096 (by decide +kernel)
theorem low_low : ∀ n, n < 4096 → n ≠ 0 → lowB (nI n) = nI (lowN n) := all4096 (by decide +kernel)
def nt3 (y i : Int32) : Int32 := i + ush y 1
def nt2 (y i : Int32) : Int32 := if y ≤ 4 then nt3 y i else nt3 (ush y 2) (i + 2)
def nt1 (y i : Int32) : Int32 := if y ≤ 16 then nt2 y i else nt2 (ush y 4) (i + 4)
def nt0 (y i : Int32) : Int32 := if y ≤ 256 then nt1 y i else nt1 (ush y 8) (i + 8)
def ntA (y i : Int32) : Int32 := if y ≤ 65536 then nt0 y i else nt0 (ush y 16) (i + 16)
def ntI (x : Int32) : Int32 := if 0 < (x ^^^ -1) &&& (x - 1) then ntA ((x ^^^ -1) &&& (x - 1)) 1 else ((x ^^^ -1) &&& (x - 1)) &&& 32
section NTZ
variable {E : Nat → List Value → ir_S → Option ir_R} {σ : ir_S} {y i : Int32}
theorem nt_74 : ir_run E 182 (74, [.int y, .int i], [], σ) = some (some (.int (nt3 y i)), σ) := by
  simp only [s182_74, s182_75, s182_76, s182_77, s182_78, s182_79]
  rfl
theorem nt_62 : ir_run E 182 (62, [.int y, .int i], [], σ) = some (some (.int (nt2 y i)), σ) := by
  simp only [s182_62, s182_63, s182_64, s182_67, s182_70, s182_71, s182_72, s182_73, nt_74]
  unfold nt2
  by_cases h : y ≤ 4
  · rw [if_pos h, if_pos h]
  · rw [if_neg h, if_neg h]; rfl
theorem nt_49 : ir_run E 182 (49, [.int y, .int i], [], σ) = some (some (.int (nt1 y i)), σ) := by
  simp only [s182_49, s182_50, s182_52, s182_55, s182_58, s182_59, s182_60, s182_61, nt_62]
  unfold nt1
  by_cases h : y ≤ 16
  · rw [if_pos h, if_pos h]
  · rw [if_neg h, if_neg h]; rfl
theorem nt_34 : ir_run E 182 (34, [.int y, .int i], [], σ) = some (some (.int (nt0 y i)), σ) := by
  simp only [s182_34, s182_35, s182_38, s182_41, s182_44, s182_45, s182_47, s182_48, nt_49]
  unfold nt0
  by_cases h : y ≤ 256
  · rw [if_pos h, if_pos h]
  · rw [if_neg h, if_neg h]; rfl
theorem nt_19 : ir_run E 182 (19, [.int y, .int i], [], σ) = some (some (.int (ntA y i)), σ) := by
  simp only [s182_19, s182_20, s182_23, s182_26, s182_29, s182_30, s182_32, s182_33, nt_34]
  unfold ntA
  by_cases h : y ≤ 65536
  · rw [if_pos h, if_pos h]
  · rw [if_neg h, if_neg h]; rfl
end NTZ
theorem c182 {d : Nat} {σ : ir_S} {x : Int32} : ir_ev (d + 1) 182 [.int x] σ = some (some (.int (ntI x)), σ) := by
  simp only [e182, s182_0, s182_1, s182_2, s182_3, s182_4, s182_5, s182_6, s182_7, s182_8, s182_9, s182_12, s182_13, s182_15, s182_16, s182_17, s182_18, nt_19]
  unfold ntI
  by_cases h : 0 < (x ^^^ -1) &&& (x - 1)
  · rw [if_pos h, if_pos h]
  · rw [if_neg h, if_neg h]
theorem nt_low : ∀ n, n < 4096 → n ≠ 0 → ntI (nI n) = nI (lowN n) := all4096 (by decide +kernel)
theorem low_bit : ∀ n, n < 4096 → n ≠ 0 → n.testBit (lowN n) = true ∧ lowN n < 12 := all4096 (by decide +kernel)
theorem low_lt : ∀ n, n < 4096 → n ≠ 0 → ∀ i, i < lowN n → n.testBit i = false := by
  intro n hn h0 i hi
  have hl := (low_bit n hn h0).2
  have hl12 : i < 12 := by omega
  unfold lowN at hi
  cases hf : (List.range 12).find? (fun i => n.testBit i) with
  | none => rw [hf] at hi; simp at hi
  | some j =>
    rw [hf] at hi
    have hi : i < j := hi
    obtain ⟨hb, as, bs, hab, hno⟩ := List.find?_eq_some_iff_append.mp hf
    have hj : as.length = j := by
      have h1 : (List.range 12)[as.length]? = some j := by rw [hab, List.getElem?_append_right (Nat.le_refl _), Nat.sub_self]; rfl
      have h2 : as.length < 12 := by
        have := (List.getElem?_eq_some_iff.mp h1).1
        simpa using this
      rw [List.getElem?_range h2] at h1
      exact Option.some.inj h1
    have hm : i ∈ as := by
      have h1 : as[i]? = some i := by
        have h3 : (List.range 12)[i]? = some i := List.getElem?_range hl12
        rw [hab, List.getElem?_append_left (by omega)] at h3
        exact h3
      exact List.mem_of_getElem? h1
    have := hno i hm
    simpa using this
