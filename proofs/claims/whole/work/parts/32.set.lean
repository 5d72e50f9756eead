/-! sets as numbers below 4096 -/
theorem bt_nI {n i : Nat} (hn : n < 4294967296) : bt (nI n) i = n.testBit i := by
  unfold bt nI
  show (BitVec.ofNat 32 n).getLsbD i = _
  rw [BitVec.getLsbD_ofNat]
  rcases Nat.lt_or_ge i 32 with h | h
  · simp [h]
  · have : n.testBit i = false := Nat.testBit_lt_two_pow (Nat.lt_of_lt_of_le hn (show 2 ^ 32 ≤ 2 ^ i from Nat.pow_le_pow_right (by decide) h))
    simp [this]
theorem s_and {a b : Nat} (ha : a < 4096) (hb : b < 4096) : nI a &&& nI b = nI (a &&& b) := by
  have hab : a &&& b < 4294967296 := Nat.lt_of_le_of_lt Nat.and_le_left (by omega)
  apply b_ext
  intro i hi
  rw [b_and, bt_nI (by omega), bt_nI (by omega), bt_nI hab, Nat.testBit_and]
theorem or_lt {a b : Nat} (ha : a < 4096) (hb : b < 4096) : a ||| b < 4096 := Nat.or_lt_two_pow (n := 12) ha hb
theorem s_or {a b : Nat} (ha : a < 4096) (hb : b < 4096) : nI a ||| nI b = nI (a ||| b) := by
  have hab := or_lt ha hb
  apply b_ext
  intro i hi
  rw [b_or, bt_nI (by omega), bt_nI (by omega), bt_nI (by omega), Nat.testBit_or]
theorem p2_lt {k : Nat} (hk : k < 12) : 2 ^ k < 4096 := Nat.pow_lt_pow_right (a := 2) (n := 12) (by decide) hk
theorem s_shl {k : Nat} (hk : k < 13) : (1 : Int32) <<< (nI k &&& 31) = nI (2 ^ k) := by
  have : ∀ k, k < 13 → (1 : Int32) <<< (nI k &&& 31) = nI (2 ^ k) := by decide +kernel
  exact this k hk
def sdf (r p : Nat) : Nat := r &&& (4095 ^^^ p)
theorem t4095 : ∀ i, i < 12 → Nat.testBit 4095 i = true := by decide +kernel
theorem tb_big {n i : Nat} (hn : n < 4096) (hi : 12 ≤ i) : n.testBit i = false := Nat.testBit_lt_two_pow (Nat.lt_of_lt_of_le hn (show 2 ^ 12 ≤ 2 ^ i from Nat.pow_le_pow_right (by decide) hi))
theorem sdf_lt {r p : Nat} (hr : r < 4096) : sdf r p < 4096 := Nat.lt_of_le_of_lt Nat.and_le_left hr
theorem sdf_tb {r p i : Nat} (hr : r < 4096) : (sdf r p).testBit i = (r.testBit i && !p.testBit i) := by
  unfold sdf
  rw [Nat.testBit_and, Nat.testBit_xor]
  rcases Nat.lt_or_ge i 12 with h | h
  · rw [t4095 i h]; simp
  · rw [tb_big hr h]; rfl
theorem s_clr {r p : Nat} (hr : r < 4096) (hp : p < 4096) : nI r &&& (nI p ^^^ -1) = nI (sdf r p) := by
  apply b_ext
  intro i hi
  have h1 := sdf_lt (p := p) hr
  rw [b_and, b_xor, b_m1 i hi, bt_nI (by omega), bt_nI (by omega), bt_nI (by omega), sdf_tb hr]
  simp
theorem s_bit {s k : Nat} (hs : s < 4096) (hk : k < 32) : ir_bit (nI s) k = s.testBit k := by rw [ir_bit_bt _ hk, bt_nI (by omega)]
theorem s_ext {a b : Nat} (h : ∀ i, i < 12 → a.testBit i = b.testBit i) (ha : a < 4096) (hb : b < 4096) : a = b := by
  apply Nat.eq_of_testBit_eq
  intro i
  rcases Nat.lt_or_ge i 12 with q | q
  · exact h i q
  · rw [tb_big ha q, tb_big hb q]
theorem and_lt {a b : Nat} (ha : a < 4096) : a &&& b < 4096 := Nat.lt_of_le_of_lt Nat.and_le_left ha
theorem pop_tb (n : Nat) : popN n = (List.range 12).countP (fun i => n.testBit i) := rfl
theorem pop_lt {p s : Nat} (hs : s < 4096) (hp : p < 4096) (hsub : ∀ i, p.testBit i = true → s.testBit i = true) (hne : p ≠ s) : popN p < popN s := by
  have hex : ∃ i, i < 12 ∧ s.testBit i = true ∧ p.testBit i = false := by
    apply Classical.byContradiction
    intro hn
    apply hne
    apply s_ext _ hp hs
    intro i hi
    cases h1 : p.testBit i with
    | true => exact (hsub i h1).symm
    | false =>
      cases h2 : s.testBit i with
      | false => rfl
      | true => exact absurd ⟨i, hi, h2, h1⟩ hn
  obtain ⟨i, hi, h1, h2⟩ := hex
  exact cnt_lt (l := List.range 12) (fun v _ h => hsub v h) ⟨i, List.mem_range.mpr hi, h1, h2⟩
theorem pop_le {p s : Nat} (hsub : ∀ i, p.testBit i = true → s.testBit i = true) : popN p ≤ popN s := List.countP_mono_left (fun v _ h => hsub v h)
theorem pop_12 (s : Nat) : popN s ≤ 12 := by
  have : popN s ≤ (List.range 12).length := List.countP_le_length
  rw [List.length_range] at this
  exact this
theorem pop_pos {s : Nat} (hs : s < 4096) (h0 : s ≠ 0) : 0 < popN s := List.countP_pos_iff.mpr ⟨lowN s, List.mem_range.mpr (low_bit s hs h0).2, (low_bit s hs h0).1⟩
/-! which causes answer alike: bits -/
def alN (A : Nat → Int32) (C c : Nat) : Nat := (List.range C).foldl (fun w i => if A i = A c then w ||| 2 ^ i else w) 0
theorem alN_aux (A : Nat → Int32) (c : Nat) : ∀ C, C ≤ 12 → alN A C c < 4096 ∧ ∀ i, (alN A C c).testBit i = (decide (i < C) && decide (A i = A c)) := by
  intro C
  induction C with
  | zero => intro _; exact ⟨(by show 0 < 4096; decide), fun i => by simp [alN]⟩
  | succ C ih =>
    intro hC
    obtain ⟨h1, h2⟩ := ih (by omega)
    have e : alN A (C + 1) c = if A C = A c then alN A C c ||| 2 ^ C else alN A C c := by
      unfold alN
      rw [List.range_succ, List.foldl_append]
      rfl
    rw [e]
    by_cases h : A C = A c
    · rw [if_pos h]
      refine ⟨or_lt h1 (p2_lt (by omega)), fun i => ?_⟩
      rw [Nat.testBit_or, h2 i, Nat.testBit_two_pow]
      rcases Nat.lt_trichotomy i C with q | q | q
      · have q1 : i < C + 1 := by omega
        have q2 : ¬ C = i := by omega
        simp [q, q1, q2]
      · subst q; simp [h]
      · have q1 : ¬ i < C := by omega
        have q2 : ¬ C = i := by omega
        have q3 : ¬ i < C + 1 := by omega
        simp [q1, q2, q3]
    · rw [if_neg h]
      refine ⟨h1, fun i => ?_⟩
      rw [h2 i]
      rcases Nat.lt_trichotomy i C with q | q | q
      · have q1 : i < C + 1 := by omega
        simp [q, q1]
      · subst q; simp [h]
      · have q1 : ¬ i < C := by omega
        have q3 : ¬ i < C + 1 := by omega
        simp [q1, q3]
theorem alN_lt {A : Nat → Int32} {C c : Nat} (hC : C ≤ 12) : alN A C c < 4096 := (alN_aux A c C hC).1
theorem alN_tb {A : Nat → Int32} {C c i : Nat} (hC : C ≤ 12) : (alN A C c).testBit i = (decide (i < C) && decide (A i = A c)) := (alN_aux A c C hC).2 i
