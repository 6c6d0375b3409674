/-! bits: the family of lN to 2^64 (pasted), then bytes and cut writes -/
theorem wb_tb (n : Nat) : (lN n).toBitVec = BitVec.ofNat 64 n := rfl
theorem wb_inj {a b : Int64} (h : a.toBitVec = b.toBitVec) : a = b := Int64.toBitVec_inj.mp h
theorem wb_tn {n : Nat} (h : n < 2 ^ 64) : (lN n).toBitVec.toNat = n := by rw [wb_tb, BitVec.toNat_ofNat, Nat.mod_eq_of_lt h]
theorem wb_of (x : Int64) : ∃ n, n < 2 ^ 64 ∧ x = lN n := ⟨x.toBitVec.toNat, x.toBitVec.isLt, wb_inj (by rw [wb_tb]; simp)⟩
theorem wb_of32 (x : Int32) : ∃ n, n < 2 ^ 32 ∧ x = nI n := ⟨x.toBitVec.toNat, x.toBitVec.isLt, Int32.toBitVec_inj.mp (by show _ = BitVec.ofNat 32 _; simp)⟩
theorem wb_c : ∀ k, k < 64 → ((nI k).toInt64 &&& 63) = lN k := by decide +kernel
theorem wb_cu : ∀ k, k < 64 → ((nI k).toInt64.toUInt64 &&& Int64.toUInt64 63) = UInt64.ofNat k := by decide +kernel
theorem wb_sm : ∀ k, k < 64 → (BitVec.ofNat 64 k).smod 64 = BitVec.ofNat 64 k := by decide +kernel
theorem wb_pw {a b : Nat} (h : a ≤ b) : 2 ^ b = 2 ^ a * 2 ^ (b - a) := by rw [← Nat.pow_add]; congr 1; omega
theorem wb_lt2 {a b : Nat} (h : a < b) : 2 ^ a < 2 ^ b := Nat.pow_lt_pow_right (by decide) h
theorem wb_mod (n : Nat) : lN n = lN (n % 2 ^ 64) := wb_inj (by rw [wb_tb, wb_tb]; apply BitVec.eq_of_toNat_eq; rw [BitVec.toNat_ofNat, BitVec.toNat_ofNat, Nat.mod_mod])
theorem wb_shr {n k : Nat} (hn : n < 2 ^ 64) (hk : k < 64) : ((lN n).toUInt64 >>> ((nI k).toInt64.toUInt64 &&& Int64.toUInt64 63)).toInt64 = lN (n / 2 ^ k) := by
  rw [wb_cu k hk]
  apply wb_inj
  apply BitVec.eq_of_toNat_eq
  show ((lN n).toUInt64 >>> UInt64.ofNat k).toNat = (BitVec.ofNat 64 _).toNat
  have h1 : (UInt64.ofNat k).toNat = k := by
    show (BitVec.ofNat 64 k).toNat = k
    rw [BitVec.toNat_ofNat, Nat.mod_eq_of_lt (by omega)]
  have h2 : (lN n).toUInt64.toNat = n := wb_tn hn
  rw [UInt64.toNat_shiftRight, h1, h2, Nat.mod_eq_of_lt hk, Nat.shiftRight_eq_div_pow, BitVec.toNat_ofNat, Nat.mod_eq_of_lt (Nat.lt_of_le_of_lt (Nat.div_le_self _ _) hn)]
theorem wb_shl (n : Nat) {k : Nat} (hk : k < 64) : lN n <<< ((nI k).toInt64 &&& 63) = lN (n * 2 ^ k) := by
  rw [wb_c k hk]
  apply wb_inj
  rw [Int64.toBitVec_shiftLeft, wb_tb, wb_tb, wb_tb, wb_sm k hk]
  apply BitVec.eq_of_toNat_eq
  rw [BitVec.shiftLeft_eq', BitVec.toNat_shiftLeft, BitVec.toNat_ofNat, BitVec.toNat_ofNat, BitVec.toNat_ofNat, Nat.mod_eq_of_lt (show k < 2 ^ 64 by omega), Nat.shiftLeft_eq, Nat.mul_mod, Nat.mod_mod, ← Nat.mul_mod]
theorem wb_and {a b : Nat} (ha : a < 2 ^ 64) (hb : b < 2 ^ 64) : lN a &&& lN b = lN (a &&& b) := by
  apply wb_inj
  rw [Int64.toBitVec_and, wb_tb, wb_tb, wb_tb]
  apply BitVec.eq_of_toNat_eq
  rw [BitVec.toNat_and, BitVec.toNat_ofNat, BitVec.toNat_ofNat, BitVec.toNat_ofNat, Nat.mod_eq_of_lt ha, Nat.mod_eq_of_lt hb, Nat.mod_eq_of_lt (Nat.and_lt_two_pow _ hb)]
theorem wb_or {a b : Nat} (ha : a < 2 ^ 64) (hb : b < 2 ^ 64) : lN a ||| lN b = lN (a ||| b) := by
  apply wb_inj
  rw [Int64.toBitVec_or, wb_tb, wb_tb, wb_tb]
  apply BitVec.eq_of_toNat_eq
  rw [BitVec.toNat_or, BitVec.toNat_ofNat, BitVec.toNat_ofNat, BitVec.toNat_ofNat, Nat.mod_eq_of_lt ha, Nat.mod_eq_of_lt hb, Nat.mod_eq_of_lt (Nat.or_lt_two_pow ha hb)]
theorem wb_mask {n k : Nat} (hn : n < 2 ^ 64) (hk : k < 64) : lN n &&& lN (2 ^ k - 1) = lN (n % 2 ^ k) := by
  rw [wb_and hn (by have := wb_lt2 hk; omega), Nat.and_two_pow_sub_one_eq_mod]
theorem wb_a1 {n : Nat} (hn : n < 2 ^ 64) : lN n &&& 1 = lN (n % 2) := wb_mask (k := 1) hn (by decide)
theorem wb_bit {n k : Nat} (hn : n < 2 ^ 64) (hk : k < 64) : ((lN n).toUInt64 >>> ((nI k).toInt64.toUInt64 &&& Int64.toUInt64 63)).toInt64 &&& 1 = lN (n / 2 ^ k % 2) := by
  rw [wb_shr hn hk, wb_a1 (Nat.lt_of_le_of_lt (Nat.div_le_self _ _) hn)]
def pz_mask (r : Nat) : Int64 := lN (2 ^ (64 - 8 * r) - 1)
def pz_mix (r : Nat) (x y : Int64) : Int64 := (x &&& (pz_mask r ^^^ (-1))) ||| (y &&& pz_mask r)
/-- long j of a row of which b bytes came through: x the new, y the old -/
def pz_cut (b j : Nat) (x y : Int64) : Int64 := if 8 * j + 8 ≤ b then x else if b ≤ 8 * j then y else pz_mix (b - 8 * j) x y
abbrev pz_bt (x : Int64) (i : Nat) : Bool := x.toBitVec.getLsbD i
theorem pz_ext {x y : Int64} (h : ∀ i, i < 64 → pz_bt x i = pz_bt y i) : x = y := Int64.toBitVec_inj.1 (BitVec.eq_of_getLsbD_eq h)
theorem pz_b_and (x y : Int64) (i : Nat) : pz_bt (x &&& y) i = (pz_bt x i && pz_bt y i) := by
  unfold pz_bt; rw [Int64.toBitVec_and, BitVec.getLsbD_and]
theorem pz_b_or (x y : Int64) (i : Nat) : pz_bt (x ||| y) i = (pz_bt x i || pz_bt y i) := by
  unfold pz_bt; rw [Int64.toBitVec_or, BitVec.getLsbD_or]
theorem pz_b_xor (x y : Int64) (i : Nat) : pz_bt (x ^^^ y) i = (pz_bt x i ^^ pz_bt y i) := by
  unfold pz_bt; rw [Int64.toBitVec_xor, BitVec.getLsbD_xor]
theorem pz_b_not (x : Int64) {i : Nat} (h : i < 64) : pz_bt (x ^^^ (-1)) i = !(pz_bt x i) := by
  rw [Int64.xor_neg_one]; unfold pz_bt; rw [Int64.toBitVec_not, BitVec.getLsbD_not]; simp [h]
theorem pz_b_lN (n i : Nat) : pz_bt (lN n) i = (decide (i < 64) && n.testBit i) := by
  unfold pz_bt; rw [wb_tb, BitVec.getLsbD_ofNat]
theorem pz_b_hi (x : Int64) {i : Nat} (h : 64 ≤ i) : pz_bt x i = false := BitVec.getLsbD_of_ge _ _ h
theorem pz_b_N (x : Int64) (i : Nat) : x.toBitVec.toNat.testBit i = pz_bt x i := BitVec.testBit_toNat _
theorem pz_mask_b (r : Nat) {i : Nat} (h : i < 64) : pz_bt (pz_mask r) i = decide (i < 64 - 8 * r) := by
  unfold pz_mask; rw [pz_b_lN, Nat.testBit_two_pow_sub_one]; simp [h]
theorem pz_mix_b (r : Nat) (x y : Int64) {i : Nat} (h : i < 64) : pz_bt (pz_mix r x y) i = if i < 64 - 8 * r then pz_bt y i else pz_bt x i := by
  unfold pz_mix
  rw [pz_b_or, pz_b_and, pz_b_and, pz_b_not _ h, pz_mask_b r h]
  by_cases g : i < 64 - 8 * r
  · simp [g]
  · simp [g]
theorem pz_cut_b (b j : Nat) (x y : Int64) {i : Nat} (h : i < 64) : pz_bt (pz_cut b j x y) i = if i + 8 * b < 64 + 64 * j then pz_bt y i else pz_bt x i := by
  unfold pz_cut
  by_cases h1 : 8 * j + 8 ≤ b
  · rw [if_pos h1, if_neg (by omega)]
  · rw [if_neg h1]
    by_cases h2 : b ≤ 8 * j
    · rw [if_pos h2, if_pos (by omega)]
    · rw [if_neg h2, pz_mix_b _ _ _ h]
      by_cases h3 : i + 8 * b < 64 + 64 * j
      · rw [if_pos h3, if_pos (by omega)]
      · rw [if_neg h3, if_neg (by omega)]
theorem pz_cut_self (b j : Nat) (x : Int64) : pz_cut b j x x = x := pz_ext fun i h => by rw [pz_cut_b b j x x h]; split <;> rfl
theorem pz_cut_xor (b j : Nat) (x y z : Int64) : pz_cut b j (x ^^^ z) (y ^^^ z) = pz_cut b j x y ^^^ z := pz_ext fun i h => by
  rw [pz_b_xor, pz_cut_b b j _ _ h, pz_cut_b b j _ _ h, pz_b_xor, pz_b_xor]; split <;> rfl
theorem pz_cut_128 {b j : Nat} (hj : j < 16) (hb : 128 ≤ b) (x y : Int64) : pz_cut b j x y = x := by unfold pz_cut; rw [if_pos (by omega)]
theorem pz_cut_0 (j : Nat) (x y : Int64) : pz_cut 0 j x y = y := by unfold pz_cut; rw [if_neg (by omega), if_pos (by omega)]
/-- byte k of a long, the highest first, as the reference keeps it -/
def pz_by (x : Int64) (k : Nat) : Int32 := (x >>> ((nI (56 - 8 * k)).toInt64 &&& 63)).toInt32.toInt8.toInt32
theorem pz_sb (x : Int64) {c i : Nat} (hc : c + i < 64) : pz_bt (x >>> ((nI c).toInt64 &&& 63)) i = pz_bt x (c + i) := by
  unfold pz_bt
  rw [wb_c c (by omega), Int64.toBitVec_shiftRight, wb_tb, wb_sm c (by omega), BitVec.sshiftRight_eq', BitVec.getLsbD_sshiftRight]
  have h1 : (BitVec.ofNat 64 c).toNat = c := by rw [BitVec.toNat_ofNat]; exact Nat.mod_eq_of_lt (by omega)
  rw [h1]
  simp [hc]
  omega
theorem pz_by8 (x : Int64) {k i : Nat} (hk : k < 8) (hi : i < 8) : ((x >>> ((nI (56 - 8 * k)).toInt64 &&& 63)).toInt32.toInt8).toBitVec.getLsbD i = pz_bt x (56 - 8 * k + i) := by
  rw [← pz_sb x (show 56 - 8 * k + i < 64 by omega)]
  unfold pz_bt
  generalize x >>> ((nI (56 - 8 * k)).toInt64 &&& 63) = z
  show ((z.toBitVec.signExtend 32).signExtend 8).getLsbD i = _
  rw [BitVec.getLsbD_signExtend, BitVec.getLsbD_signExtend]
  simp [hi, show i < 32 by omega, show i < 64 by omega]
theorem pz_by_congr {x y : Int64} {k : Nat} (hk : k < 8) (h : ∀ i, i < 8 → pz_bt x (56 - 8 * k + i) = pz_bt y (56 - 8 * k + i)) : pz_by x k = pz_by y k := by
  unfold pz_by
  have e : (x >>> ((nI (56 - 8 * k)).toInt64 &&& 63)).toInt32.toInt8 = (y >>> ((nI (56 - 8 * k)).toInt64 &&& 63)).toInt32.toInt8 := by
    apply Int8.toBitVec_inj.1
    apply BitVec.eq_of_getLsbD_eq
    intro i hi
    rw [pz_by8 x hk hi, pz_by8 y hk hi, h i hi]
  rw [e]
theorem pz_by_cut (b j : Nat) (x y : Int64) {k : Nat} (hk : k < 8) : pz_by (pz_cut b j x y) k = if 8 * j + k < b then pz_by x k else pz_by y k := by
  by_cases h : 8 * j + k < b
  · rw [if_pos h]
    refine pz_by_congr hk fun i hi => ?_
    rw [pz_cut_b b j x y (by omega), if_neg (by omega)]
  · rw [if_neg h]
    refine pz_by_congr hk fun i hi => ?_
    rw [pz_cut_b b j x y (by omega), if_pos (by omega)]
/-- the first k bytes of a long, read as a number -/
def pz_pre (x : Int64) (k : Nat) : Int64 := lN (x.toBitVec.toNat / 2 ^ (64 - 8 * k))
theorem pz_pre_b (x : Int64) (k : Nat) {i : Nat} (hi : i < 64) : pz_bt (pz_pre x k) i = pz_bt x (64 - 8 * k + i) := by
  unfold pz_pre
  rw [pz_b_lN, Nat.testBit_div_two_pow, pz_b_N, Nat.add_comm i]
  simp [hi]
theorem pz_pre_0 (x : Int64) : pz_pre x 0 = 0 := pz_ext fun i hi => by
  rw [pz_pre_b x 0 hi, pz_b_hi x (by omega), show (0 : Int64) = lN 0 from rfl, pz_b_lN, Nat.zero_testBit]
  simp
theorem pz_pre_8 (x : Int64) : pz_pre x 8 = x := pz_ext fun i hi => by
  rw [pz_pre_b x 8 hi]
  congr 1
  omega
theorem pz_by_255 (x : Int64) {k i : Nat} (hk : k < 8) (hi : i < 64) : pz_bt ((pz_by x k &&& 255).toInt64) i = (decide (i < 8) && pz_bt x (56 - 8 * k + i)) := by
  have h255 : ∀ t, t < 32 → (255 : Int32).toBitVec.getLsbD t = decide (t < 8) := by decide
  have hb : ∀ t, t < 32 → (pz_by x k &&& 255).toBitVec.getLsbD t = (decide (t < 8) && pz_bt x (56 - 8 * k + t)) := by
    intro t ht
    rw [Int32.toBitVec_and, BitVec.getLsbD_and, h255 t ht]
    by_cases g : t < 8
    · rw [← pz_by8 x hk g]
      unfold pz_by
      generalize (x >>> ((nI (56 - 8 * k)).toInt64 &&& 63)).toInt32.toInt8 = z
      show ((z.toBitVec.signExtend 32).getLsbD t && decide (t < 8)) = _
      rw [BitVec.getLsbD_signExtend]
      simp [g, ht]
    · simp [g]
  unfold pz_bt
  show ((pz_by x k &&& 255).toBitVec.signExtend 64).getLsbD i = _
  rw [BitVec.getLsbD_signExtend]
  by_cases g : i < 32
  · rw [if_pos g, hb i g]; simp [hi]
  · rw [if_neg g, BitVec.msb_eq_getLsbD_last, hb (32 - 1) (by omega)]
    simp [show ¬ i < 8 by omega]
theorem pz_rd (x : Int64) {k : Nat} (hk : k < 8) : (pz_pre x k <<< ((nI 8).toInt64 &&& 63)) ||| (pz_by x k &&& 255).toInt64 = pz_pre x (k + 1) := pz_ext fun i hi => by
  rw [pz_b_or, pz_by_255 x hk hi, pz_pre_b x (k + 1) hi]
  have h1 : pz_bt (pz_pre x k <<< ((nI 8).toInt64 &&& 63)) i = (decide (8 ≤ i) && pz_bt (pz_pre x k) (i - 8)) := by
    unfold pz_pre
    rw [wb_shl _ (by omega), pz_b_lN, pz_b_lN, Nat.testBit_mul_two_pow]
    by_cases g : 8 ≤ i
    · simp [g, hi, show i - 8 < 64 by omega]
    · simp [g]
  rw [h1]
  by_cases g : 8 ≤ i
  · rw [pz_pre_b x k (show i - 8 < 64 by omega)]
    simp [g, show ¬ i < 8 by omega]
    congr 1
    omega
  · simp [g, show i < 8 by omega]
    congr 1
    omega
