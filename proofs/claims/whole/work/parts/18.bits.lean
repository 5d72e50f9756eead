/-! bits (the first rows: pasted of kit/laws/BITS.to-paste) -/
def bt (x : Int32) (i : Nat) : Bool := x.toBitVec.getLsbD i
theorem b_ext {x y : Int32} (h : ∀ i, i < 32 → bt x i = bt y i) : x = y := Int32.toBitVec_inj.mp (BitVec.eq_of_getLsbD_eq (fun i hi => h i hi))
theorem b_or (x y : Int32) (i : Nat) : bt (x ||| y) i = (bt x i || bt y i) := by unfold bt; rw [Int32.toBitVec_or, BitVec.getLsbD_or]
theorem b_and (x y : Int32) (i : Nat) : bt (x &&& y) i = (bt x i && bt y i) := by unfold bt; rw [Int32.toBitVec_and, BitVec.getLsbD_and]
theorem b_xor (x y : Int32) (i : Nat) : bt (x ^^^ y) i = (bt x i ^^ bt y i) := by unfold bt; rw [Int32.toBitVec_xor, BitVec.getLsbD_xor]
theorem b_big {x : Int32} {i : Nat} (h : 32 ≤ i) : bt x i = false := BitVec.getLsbD_of_ge _ _ h
theorem b_m1 : ∀ i, i < 32 → bt (-1) i = true := by decide +kernel
theorem b_0 (i : Nat) : bt 0 i = false := BitVec.getLsbD_zero
theorem s_l : ∀ n, n < 32 → ((nI n &&& 31).toBitVec.smod 32).toNat = n := by decide +kernel
theorem s_u : ∀ n, n < 32 → (((nI n).toUInt32 &&& Int32.toUInt32 31).toBitVec % 32).toNat = n := by decide +kernel
theorem b_shl (n : Nat) (hn : n < 32) (x : Int32) {i : Nat} (hi : i < 32) : bt (x <<< (nI n &&& 31)) i = (decide (n ≤ i) && bt x (i - n)) := by
  unfold bt
  rw [Int32.toBitVec_shiftLeft]
  show (x.toBitVec <<< ((nI n &&& 31).toBitVec.smod 32).toNat).getLsbD i = _
  rw [s_l n hn, BitVec.getLsbD_shiftLeft]
  rcases Nat.lt_or_ge i n with h | h
  · simp [h, Nat.not_le.mpr h]
  · simp [hi, h, Nat.not_lt.mpr h]
theorem b_ushr (n : Nat) (hn : n < 32) (x : Int32) (i : Nat) : bt ((x.toUInt32 >>> ((nI n).toUInt32 &&& Int32.toUInt32 31)).toInt32) i = bt x (n + i) := by
  show (x.toUInt32 >>> ((nI n).toUInt32 &&& Int32.toUInt32 31)).toBitVec.getLsbD i = x.toUInt32.toBitVec.getLsbD (n + i)
  rw [UInt32.toBitVec_shiftRight]
  show (x.toUInt32.toBitVec >>> (((nI n).toUInt32 &&& Int32.toUInt32 31).toBitVec % 32).toNat).getLsbD i = _
  rw [s_u n hn, BitVec.getLsbD_ushiftRight]
theorem b_sshr (n : Nat) (hn : n < 32) (x : Int32) {i : Nat} (hi : i < 32) : bt (x >>> (nI n &&& 31)) i = if n + i < 32 then bt x (n + i) else bt x 31 := by
  unfold bt
  rw [Int32.toBitVec_shiftRight]
  show (x.toBitVec.sshiftRight ((nI n &&& 31).toBitVec.smod 32).toNat).getLsbD i = _
  rw [s_l n hn, BitVec.getLsbD_sshiftRight, BitVec.msb_eq_getLsbD_last]
  simp [hi]
theorem bt_and1 (y : Int32) : (y &&& 1 = 0) ↔ bt y 0 = false := by
  have key : ∀ i, i < 32 → bt 1 i = decide (i = 0) := by decide +kernel
  constructor
  · intro h
    have h2 := congrArg (fun z => bt z 0) h
    simp only [b_and, b_0, key 0 (by decide)] at h2
    simpa using h2
  · intro h
    apply b_ext
    intro i hi
    rw [b_and, b_0, key i hi]
    by_cases e : i = 0
    · rw [e, h]; rfl
    · simp [e]
theorem ir_bit_bt (x : Int32) {k : Nat} (hk : k < 32) : ir_bit x k = bt x k := by
  have h := b_sshr k hk x (i := 0) (by decide)
  rw [Nat.add_zero, if_pos hk] at h
  unfold ir_bit
  cases hb : bt x k with
  | false => rw [hb] at h; simp [(bt_and1 _).mpr h]
  | true =>
    rw [hb] at h
    have : ¬ (x >>> (nI k &&& 31)) &&& 1 = 0 := fun hh => by
      rw [(bt_and1 _).mp hh] at h
      cases h
    simp [this]
theorem bt_1 : ∀ i, i < 32 → bt 1 i = decide (i = 0) := by decide +kernel
theorem bt_sh1 {k i : Nat} (hk : k < 32) (hi : i < 32) : bt ((1 : Int32) <<< (nI k &&& 31)) i = decide (i = k) := by
  rw [b_shl k hk 1 hi]
  by_cases h : k ≤ i
  · rw [bt_1 (i - k) (by omega)]
    by_cases e : i = k
    · simp [e]
    · have : ¬ i - k = 0 := by omega
      simp [e, this]
  · have : ¬ i = k := by omega
    simp [h, this]
theorem ir_bit_or {x : Int32} {k i : Nat} (hk : k < 32) (hi : i < 32) : ir_bit (x ||| ((1 : Int32) <<< (nI k &&& 31))) i = (ir_bit x i || decide (i = k)) := by
  rw [ir_bit_bt _ hi, ir_bit_bt _ hi, b_or, bt_sh1 hk hi]
theorem ir_bit_clr {x : Int32} {k i : Nat} (hk : k < 32) (hi : i < 32) : ir_bit (x &&& (((1 : Int32) <<< (nI k &&& 31)) ^^^ (-1))) i = (ir_bit x i && !decide (i = k)) := by
  rw [ir_bit_bt _ hi, ir_bit_bt _ hi, b_and, b_xor, bt_sh1 hk hi, b_m1 i hi]
  simp
theorem ir_bit_0 {i : Nat} (hi : i < 32) : ir_bit 0 i = false := by rw [ir_bit_bt _ hi, b_0]
/-! the class's bit methods -/
theorem c116 {σ : ir_S} {d k : Nat} {x : Int32} : ir_ev (d + 1) 116 [.int x, .int (nI k)] σ = some (some (.int (ir_b (ir_bit x k))), σ) := by
  simp only [e116, s116_0, s116_1, s116_2, s116_3, s116_4, s116_5, s116_12, s116_8, s116_13z, s116_13o, s116_13b, s116_9]
  by_cases h3 : (x >>> (nI k &&& 31)) &&& 1 = 0 <;> simp [h3, ir_bit, ir_b]
