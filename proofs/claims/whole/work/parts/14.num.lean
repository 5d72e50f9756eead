/-! numbers -/
theorem n_K (k : Nat) : (OfNat.ofNat k : Int32) = nI k := rfl
theorem n_mulK (a k : Nat) : nI a * (no_index (OfNat.ofNat k) : Int32) = nI (a * k) := pk_mul a k
theorem n_addK (a k : Nat) : nI a + (no_index (OfNat.ofNat k) : Int32) = nI (a + k) := nI_add a k
theorem n_ltK {a k : Nat} (ha : a < 2147483648) (hk : k < 2147483648) : (nI a < (no_index (OfNat.ofNat k) : Int32)) = (a < k) := propext (nI_ltI ha hk)
theorem n_leK {a k : Nat} (ha : a < 2147483648) (hk : k < 2147483648) : (nI a ≤ (no_index (OfNat.ofNat k) : Int32)) = (a ≤ k) := propext (nI_leI ha hk)
theorem n_Klt {a k : Nat} (ha : a < 2147483648) (hk : k < 2147483648) : ((no_index (OfNat.ofNat k) : Int32) < nI a) = (k < a) := propext (nI_ltI hk ha)
theorem n_Kle {a k : Nat} (ha : a < 2147483648) (hk : k < 2147483648) : ((no_index (OfNat.ofNat k) : Int32) ≤ nI a) = (k ≤ a) := propext (nI_leI hk ha)
theorem n_eqK {a k : Nat} (ha : a < 2147483648) (hk : k < 2147483648) : (nI a = (no_index (OfNat.ofNat k) : Int32)) = (a = k) := propext (nI_eq ha hk)
theorem n_lt_0 {a : Nat} (ha : a < 2147483648) : (nI a < (0 : Int32)) = (a < 0) := n_ltK ha (by decide)
theorem n_le_0 {a : Nat} (ha : a < 2147483648) : (nI a ≤ (0 : Int32)) = (a ≤ 0) := n_leK ha (by decide)
theorem n_tl_0 {a : Nat} (ha : a < 2147483648) : ((0 : Int32) < nI a) = (0 < a) := n_Klt ha (by decide)
theorem n_el_0 {a : Nat} (ha : a < 2147483648) : ((0 : Int32) ≤ nI a) = (0 ≤ a) := n_Kle ha (by decide)
theorem n_eq_0 {a : Nat} (ha : a < 2147483648) : (nI a = (0 : Int32)) = (a = 0) := n_eqK ha (by decide)
theorem n_ad_0 (a : Nat) : nI a + (0 : Int32) = nI (a + 0) := n_addK a 0
theorem n_lt_1 {a : Nat} (ha : a < 2147483648) : (nI a < (1 : Int32)) = (a < 1) := n_ltK ha (by decide)
theorem n_le_1 {a : Nat} (ha : a < 2147483648) : (nI a ≤ (1 : Int32)) = (a ≤ 1) := n_leK ha (by decide)
theorem n_tl_1 {a : Nat} (ha : a < 2147483648) : ((1 : Int32) < nI a) = (1 < a) := n_Klt ha (by decide)
theorem n_el_1 {a : Nat} (ha : a < 2147483648) : ((1 : Int32) ≤ nI a) = (1 ≤ a) := n_Kle ha (by decide)
theorem n_eq_1 {a : Nat} (ha : a < 2147483648) : (nI a = (1 : Int32)) = (a = 1) := n_eqK ha (by decide)
theorem n_ad_1 (a : Nat) : nI a + (1 : Int32) = nI (a + 1) := n_addK a 1
theorem n_lt_2 {a : Nat} (ha : a < 2147483648) : (nI a < (2 : Int32)) = (a < 2) := n_ltK ha (by decide)
theorem n_le_2 {a : Nat} (ha : a < 2147483648) : (nI a ≤ (2 : Int32)) = (a ≤ 2) := n_leK ha (by decide)
theorem n_tl_2 {a : Nat} (ha : a < 2147483648) : ((2 : Int32) < nI a) = (2 < a) := n_Klt ha (by decide)
theorem n_el_2 {a : Nat} (ha : a < 2147483648) : ((2 : Int32) ≤ nI a) = (2 ≤ a) := n_Kle ha (by decide)
theorem n_eq_2 {a : Nat} (ha : a < 2147483648) : (nI a = (2 : Int32)) = (a = 2) := n_eqK ha (by decide)
theorem n_ad_2 (a : Nat) : nI a + (2 : Int32) = nI (a + 2) := n_addK a 2
theorem n_lt_3 {a : Nat} (ha : a < 2147483648) : (nI a < (3 : Int32)) = (a < 3) := n_ltK ha (by decide)
theorem n_le_3 {a : Nat} (ha : a < 2147483648) : (nI a ≤ (3 : Int32)) = (a ≤ 3) := n_leK ha (by decide)
theorem n_tl_3 {a : Nat} (ha : a < 2147483648) : ((3 : Int32) < nI a) = (3 < a) := n_Klt ha (by decide)
theorem n_el_3 {a : Nat} (ha : a < 2147483648) : ((3 : Int32) ≤ nI a) = (3 ≤ a) := n_Kle ha (by decide)
theorem n_eq_3 {a : Nat} (ha : a < 2147483648) : (nI a = (3 : Int32)) = (a = 3) := n_eqK ha (by decide)
theorem n_ad_3 (a : Nat) : nI a + (3 : Int32) = nI (a + 3) := n_addK a 3
theorem n_lt_4 {a : Nat} (ha : a < 2147483648) : (nI a < (4 : Int32)) = (a < 4) := n_ltK ha (by decide)
theorem n_le_4 {a : Nat} (ha : a < 2147483648) : (nI a ≤ (4 : Int32)) = (a ≤ 4) := n_leK ha (by decide)
theorem n_tl_4 {a : Nat} (ha : a < 2147483648) : ((4 : Int32) < nI a) = (4 < a) := n_Klt ha (by decide)
theorem n_el_4 {a : Nat} (ha : a < 2147483648) : ((4 : Int32) ≤ nI a) = (4 ≤ a) := n_Kle ha (by decide)
theorem n_eq_4 {a : Nat} (ha : a < 2147483648) : (nI a = (4 : Int32)) = (a = 4) := n_eqK ha (by decide)
theorem n_ad_4 (a : Nat) : nI a + (4 : Int32) = nI (a + 4) := n_addK a 4
theorem n_lt_5 {a : Nat} (ha : a < 2147483648) : (nI a < (5 : Int32)) = (a < 5) := n_ltK ha (by decide)
theorem n_le_5 {a : Nat} (ha : a < 2147483648) : (nI a ≤ (5 : Int32)) = (a ≤ 5) := n_leK ha (by decide)
theorem n_tl_5 {a : Nat} (ha : a < 2147483648) : ((5 : Int32) < nI a) = (5 < a) := n_Klt ha (by decide)
theorem n_el_5 {a : Nat} (ha : a < 2147483648) : ((5 : Int32) ≤ nI a) = (5 ≤ a) := n_Kle ha (by decide)
theorem n_eq_5 {a : Nat} (ha : a < 2147483648) : (nI a = (5 : Int32)) = (a = 5) := n_eqK ha (by decide)
theorem n_ad_5 (a : Nat) : nI a + (5 : Int32) = nI (a + 5) := n_addK a 5
theorem n_lt_6 {a : Nat} (ha : a < 2147483648) : (nI a < (6 : Int32)) = (a < 6) := n_ltK ha (by decide)
theorem n_le_6 {a : Nat} (ha : a < 2147483648) : (nI a ≤ (6 : Int32)) = (a ≤ 6) := n_leK ha (by decide)
theorem n_tl_6 {a : Nat} (ha : a < 2147483648) : ((6 : Int32) < nI a) = (6 < a) := n_Klt ha (by decide)
theorem n_el_6 {a : Nat} (ha : a < 2147483648) : ((6 : Int32) ≤ nI a) = (6 ≤ a) := n_Kle ha (by decide)
theorem n_eq_6 {a : Nat} (ha : a < 2147483648) : (nI a = (6 : Int32)) = (a = 6) := n_eqK ha (by decide)
theorem n_ad_6 (a : Nat) : nI a + (6 : Int32) = nI (a + 6) := n_addK a 6
theorem n_lt_10 {a : Nat} (ha : a < 2147483648) : (nI a < (10 : Int32)) = (a < 10) := n_ltK ha (by decide)
theorem n_le_10 {a : Nat} (ha : a < 2147483648) : (nI a ≤ (10 : Int32)) = (a ≤ 10) := n_leK ha (by decide)
theorem n_tl_10 {a : Nat} (ha : a < 2147483648) : ((10 : Int32) < nI a) = (10 < a) := n_Klt ha (by decide)
theorem n_el_10 {a : Nat} (ha : a < 2147483648) : ((10 : Int32) ≤ nI a) = (10 ≤ a) := n_Kle ha (by decide)
theorem n_eq_10 {a : Nat} (ha : a < 2147483648) : (nI a = (10 : Int32)) = (a = 10) := n_eqK ha (by decide)
theorem n_ad_10 (a : Nat) : nI a + (10 : Int32) = nI (a + 10) := n_addK a 10
theorem n_lt_11 {a : Nat} (ha : a < 2147483648) : (nI a < (11 : Int32)) = (a < 11) := n_ltK ha (by decide)
theorem n_le_11 {a : Nat} (ha : a < 2147483648) : (nI a ≤ (11 : Int32)) = (a ≤ 11) := n_leK ha (by decide)
theorem n_tl_11 {a : Nat} (ha : a < 2147483648) : ((11 : Int32) < nI a) = (11 < a) := n_Klt ha (by decide)
theorem n_el_11 {a : Nat} (ha : a < 2147483648) : ((11 : Int32) ≤ nI a) = (11 ≤ a) := n_Kle ha (by decide)
theorem n_eq_11 {a : Nat} (ha : a < 2147483648) : (nI a = (11 : Int32)) = (a = 11) := n_eqK ha (by decide)
theorem n_ad_11 (a : Nat) : nI a + (11 : Int32) = nI (a + 11) := n_addK a 11
theorem n_lt_12 {a : Nat} (ha : a < 2147483648) : (nI a < (12 : Int32)) = (a < 12) := n_ltK ha (by decide)
theorem n_le_12 {a : Nat} (ha : a < 2147483648) : (nI a ≤ (12 : Int32)) = (a ≤ 12) := n_leK ha (by decide)
theorem n_tl_12 {a : Nat} (ha : a < 2147483648) : ((12 : Int32) < nI a) = (12 < a) := n_Klt ha (by decide)
theorem n_el_12 {a : Nat} (ha : a < 2147483648) : ((12 : Int32) ≤ nI a) = (12 ≤ a) := n_Kle ha (by decide)
theorem n_eq_12 {a : Nat} (ha : a < 2147483648) : (nI a = (12 : Int32)) = (a = 12) := n_eqK ha (by decide)
theorem n_ad_12 (a : Nat) : nI a + (12 : Int32) = nI (a + 12) := n_addK a 12
theorem n_lt_13 {a : Nat} (ha : a < 2147483648) : (nI a < (13 : Int32)) = (a < 13) := n_ltK ha (by decide)
theorem n_le_13 {a : Nat} (ha : a < 2147483648) : (nI a ≤ (13 : Int32)) = (a ≤ 13) := n_leK ha (by decide)
theorem n_tl_13 {a : Nat} (ha : a < 2147483648) : ((13 : Int32) < nI a) = (13 < a) := n_Klt ha (by decide)
theorem n_el_13 {a : Nat} (ha : a < 2147483648) : ((13 : Int32) ≤ nI a) = (13 ≤ a) := n_Kle ha (by decide)
theorem n_eq_13 {a : Nat} (ha : a < 2147483648) : (nI a = (13 : Int32)) = (a = 13) := n_eqK ha (by decide)
theorem n_ad_13 (a : Nat) : nI a + (13 : Int32) = nI (a + 13) := n_addK a 13
theorem n_lt_15 {a : Nat} (ha : a < 2147483648) : (nI a < (15 : Int32)) = (a < 15) := n_ltK ha (by decide)
theorem n_le_15 {a : Nat} (ha : a < 2147483648) : (nI a ≤ (15 : Int32)) = (a ≤ 15) := n_leK ha (by decide)
theorem n_tl_15 {a : Nat} (ha : a < 2147483648) : ((15 : Int32) < nI a) = (15 < a) := n_Klt ha (by decide)
theorem n_el_15 {a : Nat} (ha : a < 2147483648) : ((15 : Int32) ≤ nI a) = (15 ≤ a) := n_Kle ha (by decide)
theorem n_eq_15 {a : Nat} (ha : a < 2147483648) : (nI a = (15 : Int32)) = (a = 15) := n_eqK ha (by decide)
theorem n_ad_15 (a : Nat) : nI a + (15 : Int32) = nI (a + 15) := n_addK a 15
theorem n_lt_20 {a : Nat} (ha : a < 2147483648) : (nI a < (20 : Int32)) = (a < 20) := n_ltK ha (by decide)
theorem n_le_20 {a : Nat} (ha : a < 2147483648) : (nI a ≤ (20 : Int32)) = (a ≤ 20) := n_leK ha (by decide)
theorem n_tl_20 {a : Nat} (ha : a < 2147483648) : ((20 : Int32) < nI a) = (20 < a) := n_Klt ha (by decide)
theorem n_el_20 {a : Nat} (ha : a < 2147483648) : ((20 : Int32) ≤ nI a) = (20 ≤ a) := n_Kle ha (by decide)
theorem n_eq_20 {a : Nat} (ha : a < 2147483648) : (nI a = (20 : Int32)) = (a = 20) := n_eqK ha (by decide)
theorem n_ad_20 (a : Nat) : nI a + (20 : Int32) = nI (a + 20) := n_addK a 20
theorem n_lt_30 {a : Nat} (ha : a < 2147483648) : (nI a < (30 : Int32)) = (a < 30) := n_ltK ha (by decide)
theorem n_le_30 {a : Nat} (ha : a < 2147483648) : (nI a ≤ (30 : Int32)) = (a ≤ 30) := n_leK ha (by decide)
theorem n_tl_30 {a : Nat} (ha : a < 2147483648) : ((30 : Int32) < nI a) = (30 < a) := n_Klt ha (by decide)
theorem n_el_30 {a : Nat} (ha : a < 2147483648) : ((30 : Int32) ≤ nI a) = (30 ≤ a) := n_Kle ha (by decide)
theorem n_eq_30 {a : Nat} (ha : a < 2147483648) : (nI a = (30 : Int32)) = (a = 30) := n_eqK ha (by decide)
theorem n_ad_30 (a : Nat) : nI a + (30 : Int32) = nI (a + 30) := n_addK a 30
theorem n_lt_31 {a : Nat} (ha : a < 2147483648) : (nI a < (31 : Int32)) = (a < 31) := n_ltK ha (by decide)
theorem n_le_31 {a : Nat} (ha : a < 2147483648) : (nI a ≤ (31 : Int32)) = (a ≤ 31) := n_leK ha (by decide)
theorem n_tl_31 {a : Nat} (ha : a < 2147483648) : ((31 : Int32) < nI a) = (31 < a) := n_Klt ha (by decide)
theorem n_el_31 {a : Nat} (ha : a < 2147483648) : ((31 : Int32) ≤ nI a) = (31 ≤ a) := n_Kle ha (by decide)
theorem n_eq_31 {a : Nat} (ha : a < 2147483648) : (nI a = (31 : Int32)) = (a = 31) := n_eqK ha (by decide)
theorem n_ad_31 (a : Nat) : nI a + (31 : Int32) = nI (a + 31) := n_addK a 31
theorem n_lt_32 {a : Nat} (ha : a < 2147483648) : (nI a < (32 : Int32)) = (a < 32) := n_ltK ha (by decide)
theorem n_le_32 {a : Nat} (ha : a < 2147483648) : (nI a ≤ (32 : Int32)) = (a ≤ 32) := n_leK ha (by decide)
theorem n_tl_32 {a : Nat} (ha : a < 2147483648) : ((32 : Int32) < nI a) = (32 < a) := n_Klt ha (by decide)
theorem n_el_32 {a : Nat} (ha : a < 2147483648) : ((32 : Int32) ≤ nI a) = (32 ≤ a) := n_Kle ha (by decide)
theorem n_eq_32 {a : Nat} (ha : a < 2147483648) : (nI a = (32 : Int32)) = (a = 32) := n_eqK ha (by decide)
theorem n_ad_32 (a : Nat) : nI a + (32 : Int32) = nI (a + 32) := n_addK a 32
theorem n_lt_60 {a : Nat} (ha : a < 2147483648) : (nI a < (60 : Int32)) = (a < 60) := n_ltK ha (by decide)
theorem n_le_60 {a : Nat} (ha : a < 2147483648) : (nI a ≤ (60 : Int32)) = (a ≤ 60) := n_leK ha (by decide)
theorem n_tl_60 {a : Nat} (ha : a < 2147483648) : ((60 : Int32) < nI a) = (60 < a) := n_Klt ha (by decide)
theorem n_el_60 {a : Nat} (ha : a < 2147483648) : ((60 : Int32) ≤ nI a) = (60 ≤ a) := n_Kle ha (by decide)
theorem n_eq_60 {a : Nat} (ha : a < 2147483648) : (nI a = (60 : Int32)) = (a = 60) := n_eqK ha (by decide)
theorem n_ad_60 (a : Nat) : nI a + (60 : Int32) = nI (a + 60) := n_addK a 60
theorem n_lt_99 {a : Nat} (ha : a < 2147483648) : (nI a < (99 : Int32)) = (a < 99) := n_ltK ha (by decide)
theorem n_le_99 {a : Nat} (ha : a < 2147483648) : (nI a ≤ (99 : Int32)) = (a ≤ 99) := n_leK ha (by decide)
theorem n_tl_99 {a : Nat} (ha : a < 2147483648) : ((99 : Int32) < nI a) = (99 < a) := n_Klt ha (by decide)
theorem n_el_99 {a : Nat} (ha : a < 2147483648) : ((99 : Int32) ≤ nI a) = (99 ≤ a) := n_Kle ha (by decide)
theorem n_eq_99 {a : Nat} (ha : a < 2147483648) : (nI a = (99 : Int32)) = (a = 99) := n_eqK ha (by decide)
theorem n_ad_99 (a : Nat) : nI a + (99 : Int32) = nI (a + 99) := n_addK a 99
theorem n_lt_100 {a : Nat} (ha : a < 2147483648) : (nI a < (100 : Int32)) = (a < 100) := n_ltK ha (by decide)
theorem n_le_100 {a : Nat} (ha : a < 2147483648) : (nI a ≤ (100 : Int32)) = (a ≤ 100) := n_leK ha (by decide)
theorem n_tl_100 {a : Nat} (ha : a < 2147483648) : ((100 : Int32) < nI a) = (100 < a) := n_Klt ha (by decide)
theorem n_el_100 {a : Nat} (ha : a < 2147483648) : ((100 : Int32) ≤ nI a) = (100 ≤ a) := n_Kle ha (by decide)
theorem n_eq_100 {a : Nat} (ha : a < 2147483648) : (nI a = (100 : Int32)) = (a = 100) := n_eqK ha (by decide)
theorem n_ad_100 (a : Nat) : nI a + (100 : Int32) = nI (a + 100) := n_addK a 100
theorem n_lt_144 {a : Nat} (ha : a < 2147483648) : (nI a < (144 : Int32)) = (a < 144) := n_ltK ha (by decide)
theorem n_le_144 {a : Nat} (ha : a < 2147483648) : (nI a ≤ (144 : Int32)) = (a ≤ 144) := n_leK ha (by decide)
theorem n_tl_144 {a : Nat} (ha : a < 2147483648) : ((144 : Int32) < nI a) = (144 < a) := n_Klt ha (by decide)
theorem n_el_144 {a : Nat} (ha : a < 2147483648) : ((144 : Int32) ≤ nI a) = (144 ≤ a) := n_Kle ha (by decide)
theorem n_eq_144 {a : Nat} (ha : a < 2147483648) : (nI a = (144 : Int32)) = (a = 144) := n_eqK ha (by decide)
theorem n_ad_144 (a : Nat) : nI a + (144 : Int32) = nI (a + 144) := n_addK a 144
theorem n_lt_4096 {a : Nat} (ha : a < 2147483648) : (nI a < (4096 : Int32)) = (a < 4096) := n_ltK ha (by decide)
theorem n_le_4096 {a : Nat} (ha : a < 2147483648) : (nI a ≤ (4096 : Int32)) = (a ≤ 4096) := n_leK ha (by decide)
theorem n_tl_4096 {a : Nat} (ha : a < 2147483648) : ((4096 : Int32) < nI a) = (4096 < a) := n_Klt ha (by decide)
theorem n_el_4096 {a : Nat} (ha : a < 2147483648) : ((4096 : Int32) ≤ nI a) = (4096 ≤ a) := n_Kle ha (by decide)
theorem n_eq_4096 {a : Nat} (ha : a < 2147483648) : (nI a = (4096 : Int32)) = (a = 4096) := n_eqK ha (by decide)
theorem n_ad_4096 (a : Nat) : nI a + (4096 : Int32) = nI (a + 4096) := n_addK a 4096
theorem n_lt {a b : Nat} (ha : a < 2147483648) (hb : b < 2147483648) : (nI a < nI b) = (a < b) := propext (nI_ltI ha hb)
theorem n_le {a b : Nat} (ha : a < 2147483648) (hb : b < 2147483648) : (nI a ≤ nI b) = (a ≤ b) := propext (nI_leI ha hb)
theorem n_eq {a b : Nat} (ha : a < 2147483648) (hb : b < 2147483648) : (nI a = nI b) = (a = b) := propext (nI_eq ha hb)
theorem n_eqM {a : Nat} (ha : a < 2147483648) : (nI a = -1) = False := by
  refine eq_false (fun h => ?_)
  have := congrArg Int32.toInt h
  rw [nI_toInt ha] at this
  have e : (-1 : Int32).toInt = -1 := by decide
  omega
theorem n_cl {a : Nat} (ha : a < 2147483648) : (nI a).toNatClampNeg = a := nI_clamp ha
theorem n_ix {a n : Nat} (ha : a < 2147483648) : ir_ixb (nI a) n = decide (a < n) := by
  unfold ir_ixb
  rw [nI_toInt ha]
  simp
theorem n_ti {a : Nat} (ha : a < 2147483648) : (nI a).toInt = (a : Int) := nI_toInt ha
/-- an index that the tests let through -/
theorem n_ixb {j k : Int32} {n : Nat} (h0 : ¬ j < 0) (h1 : ¬ k ≤ j) (hk : k.toInt ≤ n) : ir_ixb j n = true := by
  have a1 : 0 ≤ j.toInt := by
    have := Int32.not_lt.mp h0
    simpa using Int32.le_iff_toInt_le.mp this
  have a2 : j.toInt < k.toInt := Int32.lt_iff_toInt_lt.mp (Int32.not_le.mp h1)
  unfold ir_ixb
  rw [Bool.and_eq_true, decide_eq_true_iff, decide_eq_true_iff]
  omega
theorem ir_b_t : ir_b true = 1 := rfl
theorem ir_b_f : ir_b false = 0 := rfl
theorem u_s (σ : ir_S) (a k : Nat) (v : Int32) : ir_up σ a k v a = upd (σ a) k v := ir_row_self σ a _
theorem u_n (σ : ir_S) {a b : Nat} (k : Nat) (v : Int32) (h : b ≠ a) : ir_up σ a k v b = σ b := ir_row_ne σ _ h
theorem upd_s (f : Nat → Int32) (k : Nat) (v : Int32) : upd f k v k = v := pk_us
theorem upd_n (f : Nat → Int32) {k j : Nat} (v : Int32) (h : j ≠ k) : upd f k v j = f j := pk_un h
/-! Plan: the questions -/
def isN (σ : ir_S) (n : Int32) : Bool := decide (¬ n < 0) && decide (¬ σ 1 4 ≤ n)
def isHo (σ : ir_S) (n : Int32) : Bool := isN σ n && decide (σ 2 n.toNatClampNeg = 0)
def isWa (σ : ir_S) (n : Int32) : Bool := isN σ n && decide (σ 2 n.toNatClampNeg = 3)
def isGa (σ : ir_S) (n : Int32) : Bool := isN σ n && decide (2 ≤ σ 2 n.toNatClampNeg)
theorem c23 {σ : ir_S} {d : Nat} {n : Int32} : ir_ev (d + 1) 23 [.ref 1, .int n] σ = some (some (.int (ir_b (isN σ n))), σ) := by
  simp only [e23, s23_0, s23_1, s23_16, s23_4, s23_17z, s23_17o, s23_17b, s23_5, s23_6, s23_9, s23_12, s23_13]
  by_cases h1 : n < 0 <;> by_cases h2 : σ 1 4 ≤ n <;> simp [h1, h2, isN, ir_b]
theorem c24 {σ : ir_S} {d : Nat} {n : Int32} (h : (σ 1 4).toInt ≤ 12) : ir_ev (d + 1) 24 [.ref 1, .int n] σ = some (some (.int (ir_b (isHo σ n))), σ) := by
  simp only [e24, s24_0, s24_1, s24_25, s24_4, s24_26z, s24_26o, s24_26b, s24_5, s24_6, s24_9, s24_12, s24_13, s24_16, s24_17, s24_18, s24_21, s24_22, xa2]
  by_cases h1 : n < 0
  · simp [h1, isN, isHo, ir_b]
  by_cases h2 : σ 1 4 ≤ n
  · simp [h1, h2, isN, isHo, ir_b]
  by_cases h3 : σ 2 n.toNatClampNeg = 0 <;> simp [h1, h2, h3, isN, isHo, ir_b, n_ixb h1 h2 h]
/-! Setting -/
theorem c45 {σ : ir_S} {d a b : Nat} {v : Int32} (ha : a < 12) (hb : b < 12) : ir_ev (d + 1) 45 [.ref 6, .int (nI a), .int (nI b), .int v] σ = some (none, ir_up σ 7 (a * 12 + b) v) := by
  simp (disch := omega) only [e45, s45_0, s45_1, s45_3, s45_4, s45_5, s45_6, s45_8, s45_10, s45_31, s45_13, s45_15, s45_16_6, s45_16_11, s45_19, s45_20, s45_23, s45_24_6, s45_24_11, s45_27, s45_29, s45_30, xA7, xL7, xa7, n_lt_0, n_le_0, n_tl_0, n_el_0, n_eq_0, n_ad_0, n_lt_1, n_le_1, n_tl_1, n_el_1, n_eq_1, n_ad_1, n_lt_2, n_le_2, n_tl_2, n_el_2, n_eq_2, n_ad_2, n_lt_3, n_le_3, n_tl_3, n_el_3, n_eq_3, n_ad_3, n_lt_4, n_le_4, n_tl_4, n_el_4, n_eq_4, n_ad_4, n_lt_5, n_le_5, n_tl_5, n_el_5, n_eq_5, n_ad_5, n_lt_6, n_le_6, n_tl_6, n_el_6, n_eq_6, n_ad_6, n_lt_10, n_le_10, n_tl_10, n_el_10, n_eq_10, n_ad_10, n_lt_11, n_le_11, n_tl_11, n_el_11, n_eq_11, n_ad_11, n_lt_12, n_le_12, n_tl_12, n_el_12, n_eq_12, n_ad_12, n_lt_13, n_le_13, n_tl_13, n_el_13, n_eq_13, n_ad_13, n_lt_15, n_le_15, n_tl_15, n_el_15, n_eq_15, n_ad_15, n_lt_20, n_le_20, n_tl_20, n_el_20, n_eq_20, n_ad_20, n_lt_30, n_le_30, n_tl_30, n_el_30, n_eq_30, n_ad_30, n_lt_31, n_le_31, n_tl_31, n_el_31, n_eq_31, n_ad_31, n_lt_32, n_le_32, n_tl_32, n_el_32, n_eq_32, n_ad_32, n_lt_60, n_le_60, n_tl_60, n_el_60, n_eq_60, n_ad_60, n_lt_99, n_le_99, n_tl_99, n_el_99, n_eq_99, n_ad_99, n_lt_100, n_le_100, n_tl_100, n_el_100, n_eq_100, n_ad_100, n_lt_144, n_le_144, n_tl_144, n_el_144, n_eq_144, n_ad_144, n_lt_4096, n_le_4096, n_tl_4096, n_el_4096, n_eq_4096, n_ad_4096, n_mulK, nI_add, pk_mul, n_lt, n_le, n_eq, n_eqM, n_ix, n_cl]
  have h1 : ¬ 144 ≤ a * 12 + b := by omega
  have h2 : a * 12 + b < 144 := by omega
  simp [h1, h2]
