section
/-! bits: the family of lN to 2^64 (pasted), then bytes and cut writes -/
theorem wb_tb (n : Nat) : (lN n).toBitVec = BitVec.ofNat 64 n := rfl
theorem wb_inj {a b : Int64} (h : a.toBitVec = b.toBitVec) : a = b := Int64.toBitVec_inj.mp h
theorem wb_tn {n : Nat} (h : n < 2 ^ 64) : (lN n).toBitVec.toNat = n := by rw [wb_tb, BitVec.toNat_ofNat, Nat.mod_eq_of_lt h]
theorem wb_of (x : Int64) : ∃ n, n < 2 ^ 64 ∧ x = lN n := ⟨x.toBitVec.toNat, x.toBitVec.isLt, wb_inj (by rw [wb_tb]; simp)⟩
theorem wb_of32 (x : Int32) : ∃ n, n < 2 ^ 32 ∧ x = nI n := ⟨x.toBitVec.toNat, x.toBitVec.isLt, Int32.toBitVec_inj.mp (by show _ = BitVec.ofNat 32 _; simp)⟩
theorem wb_c : ∀ k, k < 64 → ((nI k).toInt64 &&& 63) = lN k := by decide +kernel
theorem wb_cu : ∀ k, k < 64 → ((nI k).toInt64.toUInt64 &&& Int64.toUInt64 63) = UInt64.ofNat k := by decide +kernel
theorem wb_sm : ∀ k, k < 64 → (BitVec.ofNat 64 k).smod 64 = BitVec.ofNat 64 k := by decide +kernel
theorem wb_pw {a b : Nat} (h : a ≤ b) : 2 ^ b = 2 ^ a * 2 ^ (b - a) := by rw [← Nat.pow_add]; congr 1; omega
theorem wb_lt2 {a b : Nat} (h : a < b) : 2 ^ a < 2 ^ b := Nat.pow_lt_pow_right (by decide) h
theorem wb_mod (n : Nat) : lN n = lN (n % 2 ^ 64) := wb_inj (by rw [wb_tb, wb_tb]; apply BitVec.eq_of_toNat_eq; rw [BitVec.toNat_ofNat, BitVec.toNat_ofNat, Nat.mod_mod])
theorem wb_shr {n k : Nat} (hn : n < 2 ^ 64) (hk : k < 64) : ((lN n).toUInt64 >>> ((nI k).toInt64.toUInt64 &&& Int64.toUInt64 63)).toInt64 = lN (n / 2 ^ k) := by
  rw [wb_cu k hk]
  apply wb_inj
  apply BitVec.eq_of_toNat_eq
  show ((lN n).toUInt64 >>> UInt64.ofNat k).toNat = (BitVec.ofNat 64 _).toNat
  have h1 : (UInt64.ofNat k).toNat = k := by
    show (BitVec.ofNat 64 k).toNat = k
    rw [BitVec.toNat_ofNat, Nat.mod_eq_of_lt (by omega)]
  have h2 : (lN n).toUInt64.toNat = n := wb_tn hn
  rw [UInt64.toNat_shiftRight, h1, h2, Nat.mod_eq_of_lt hk, Nat.shiftRight_eq_div_pow, BitVec.toNat_ofNat, Nat.mod_eq_of_lt (Nat.lt_of_le_of_lt (Nat.div_le_self _ _) hn)]
theorem wb_shl (n : Nat) {k : Nat} (hk : k < 64) : lN n <<< ((nI k).toInt64 &&& 63) = lN (n * 2 ^ k) := by
  rw [wb_c k hk]
  apply wb_inj
  rw [Int64.toBitVec_shiftLeft, wb_tb, wb_tb, wb_tb, wb_sm k hk]
  apply BitVec.eq_of_toNat_eq
  rw [BitVec.shiftLeft_eq', BitVec.toNat_shiftLeft, BitVec.toNat_ofNat, BitVec.toNat_ofNat, BitVec.toNat_ofNat, Nat.mod_eq_of_lt (show k < 2 ^ 64 by omega), Nat.shiftLeft_eq, Nat.mul_mod, Nat.mod_mod, ← Nat.mul_mod]
theorem wb_and {a b : Nat} (ha : a < 2 ^ 64) (hb : b < 2 ^ 64) : lN a &&& lN b = lN (a &&& b) := by
  apply wb_inj
  rw [Int64.toBitVec_and, wb_tb, wb_tb, wb_tb]
  apply BitVec.eq_of_toNat_eq
  rw [BitVec.toNat_and, BitVec.toNat_ofNat, BitVec.toNat_ofNat, BitVec.toNat_ofNat, Nat.mod_eq_of_lt ha, Nat.mod_eq_of_lt hb, Nat.mod_eq_of_lt (Nat.and_lt_two_pow _ hb)]
theorem wb_or {a b : Nat} (ha : a < 2 ^ 64) (hb : b < 2 ^ 64) : lN a ||| lN b = lN (a ||| b) := by
  apply wb_inj
  rw [Int64.toBitVec_or, wb_tb, wb_tb, wb_tb]
  apply BitVec.eq_of_toNat_eq
  rw [BitVec.toNat_or, BitVec.toNat_ofNat, BitVec.toNat_ofNat, BitVec.toNat_ofNat, Nat.mod_eq_of_lt ha, Nat.mod_eq_of_lt hb, Nat.mod_eq_of_lt (Nat.or_lt_two_pow ha hb)]
theorem wb_mask {n k : Nat} (hn : n < 2 ^ 64) (hk : k < 64) : lN n &&& lN (2 ^ k - 1) = lN (n % 2 ^ k) := by
  rw [wb_and hn (by have := wb_lt2 hk; omega), Nat.and_two_pow_sub_one_eq_mod]
theorem wb_a1 {n : Nat} (hn : n < 2 ^ 64) : lN n &&& 1 = lN (n % 2) := wb_mask (k := 1) hn (by decide)
theorem wb_bit {n k : Nat} (hn : n < 2 ^ 64) (hk : k < 64) : ((lN n).toUInt64 >>> ((nI k).toInt64.toUInt64 &&& Int64.toUInt64 63)).toInt64 &&& 1 = lN (n / 2 ^ k % 2) := by
  rw [wb_shr hn hk, wb_a1 (Nat.lt_of_le_of_lt (Nat.div_le_self _ _) hn)]
def pz_mask (r : Nat) : Int64 := lN (2 ^ (64 - 8 * r) - 1)
def pz_mix (r : Nat) (x y : Int64) : Int64 := (x &&& (pz_mask r ^^^ (-1))) ||| (y &&& pz_mask r)
/-- long j of a row of which b bytes came through: x the new, y the old -/
def pz_cut (b j : Nat) (x y : Int64) : Int64 := if 8 * j + 8 ≤ b then x else if b ≤ 8 * j then y else pz_mix (b - 8 * j) x y
abbrev pz_bt (x : Int64) (i : Nat) : Bool := x.toBitVec.getLsbD i
theorem pz_ext {x y : Int64} (h : ∀ i, i < 64 → pz_bt x i = pz_bt y i) : x = y := Int64.toBitVec_inj.1 (BitVec.eq_of_getLsbD_eq h)
theorem pz_b_and (x y : Int64) (i : Nat) : pz_bt (x &&& y) i = (pz_bt x i && pz_bt y i) := by
  unfold pz_bt; rw [Int64.toBitVec_and, BitVec.getLsbD_and]
theorem pz_b_or (x y : Int64) (i : Nat) : pz_bt (x ||| y) i = (pz_bt x i || pz_bt y i) := by
  unfold pz_bt; rw [Int64.toBitVec_or, BitVec.getLsbD_or]
theorem pz_b_xor (x y : Int64) (i : Nat) : pz_bt (x ^^^ y) i = (pz_bt x i ^^ pz_bt y i) := by
  unfold pz_bt; rw [Int64.toBitVec_xor, BitVec.getLsbD_xor]
theorem pz_b_not (x : Int64) {i : Nat} (h : i < 64) : pz_bt (x ^^^ (-1)) i = !(pz_bt x i) := by
  rw [Int64.xor_neg_one]; unfold pz_bt; rw [Int64.toBitVec_not, BitVec.getLsbD_not]; simp [h]
theorem pz_b_lN (n i : Nat) : pz_bt (lN n) i = (decide (i < 64) && n.testBit i) := by
  unfold pz_bt; rw [wb_tb, BitVec.getLsbD_ofNat]
theorem pz_b_hi (x : Int64) {i : Nat} (h : 64 ≤ i) : pz_bt x i = false := BitVec.getLsbD_of_ge _ _ h
theorem pz_b_N (x : Int64) (i : Nat) : x.toBitVec.toNat.testBit i = pz_bt x i := BitVec.testBit_toNat _
theorem pz_mask_b (r : Nat) {i : Nat} (h : i < 64) : pz_bt (pz_mask r) i = decide (i < 64 - 8 * r) := by
  unfold pz_mask; rw [pz_b_lN, Nat.testBit_two_pow_sub_one]; simp [h]
theorem pz_mix_b (r : Nat) (x y : Int64) {i : Nat} (h : i < 64) : pz_bt (pz_mix r x y) i = if i < 64 - 8 * r then pz_bt y i else pz_bt x i := by
  unfold pz_mix
  rw [pz_b_or, pz_b_and, pz_b_and, pz_b_not _ h, pz_mask_b r h]
  by_cases g : i < 64 - 8 * r
  · simp [g]
  · simp [g]
theorem pz_cut_b (b j : Nat) (x y : Int64) {i : Nat} (h : i < 64) : pz_bt (pz_cut b j x y) i = if i + 8 * b < 64 + 64 * j then pz_bt y i else pz_bt x i := by
  unfold pz_cut
  by_cases h1 : 8 * j + 8 ≤ b
  · rw [if_pos h1, if_neg (by omega)]
  · rw [if_neg h1]
    by_cases h2 : b ≤ 8 * j
    · rw [if_pos h2, if_pos (by omega)]
    · rw [if_neg h2, pz_mix_b _ _ _ h]
      by_cases h3 : i + 8 * b < 64 + 64 * j
      · rw [if_pos h3, if_pos (by omega)]
      · rw [if_neg h3, if_neg (by omega)]
theorem pz_cut_self (b j : Nat) (x : Int64) : pz_cut b j x x = x := pz_ext fun i h => by rw [pz_cut_b b j x x h]; split <;> rfl
theorem pz_cut_xor (b j : Nat) (x y z : Int64) : pz_cut b j (x ^^^ z) (y ^^^ z) = pz_cut b j x y ^^^ z := pz_ext fun i h => by
  rw [pz_b_xor, pz_cut_b b j _ _ h, pz_cut_b b j _ _ h, pz_b_xor, pz_b_xor]; split <;> rfl
theorem pz_cut_128 {b j : Nat} (hj : j < 16) (hb : 128 ≤ b) (x y : Int64) : pz_cut b j x y = x := by unfold pz_cut; rw [if_pos (by omega)]
theorem pz_cut_0 (j : Nat) (x y : Int64) : pz_cut 0 j x y = y := by unfold pz_cut; rw [if_neg (by omega), if_pos (by omega)]
/-- byte k of a long, the highest first, as the reference keeps it -/
def pz_by (x : Int64) (k : Nat) : Int32 := (x >>> ((nI (56 - 8 * k)).toInt64 &&& 63)).toInt32.toInt8.toInt32
theorem pz_sb (x : Int64) {c i : Nat} (hc : c + i < 64) : pz_bt (x >>> ((nI c).toInt64 &&& 63)) i = pz_bt x (c + i) := by
  unfold pz_bt
  rw [wb_c c (by omega), Int64.toBitVec_shiftRight, wb_tb, wb_sm c (by omega), BitVec.sshiftRight_eq', BitVec.getLsbD_sshiftRight]
  have h1 : (BitVec.ofNat 64 c).toNat = c := by rw [BitVec.toNat_ofNat]; exact Nat.mod_eq_of_lt (by omega)
  rw [h1]
  simp [hc]
  omega
theorem pz_by8 (x : Int64) {k i : Nat} (hk : k < 8) (hi : i < 8) : ((x >>> ((nI (56 - 8 * k)).toInt64 &&& 63)).toInt32.toInt8).toBitVec.getLsbD i = pz_bt x (56 - 8 * k + i) := by
  rw [← pz_sb x (show 56 - 8 * k + i < 64 by omega)]
  unfold pz_bt
  generalize x >>> ((nI (56 - 8 * k)).toInt64 &&& 63) = z
  show ((z.toBitVec.signExtend 32).signExtend 8).getLsbD i = _
  rw [BitVec.getLsbD_signExtend, BitVec.getLsbD_signExtend]
  simp [hi, show i < 32 by omega, show i < 64 by omega]
theorem pz_by_congr {x y : Int64} {k : Nat} (hk : k < 8) (h : ∀ i, i < 8 → pz_bt x (56 - 8 * k + i) = pz_bt y (56 - 8 * k + i)) : pz_by x k = pz_by y k := by
  unfold pz_by
  have e : (x >>> ((nI (56 - 8 * k)).toInt64 &&& 63)).toInt32.toInt8 = (y >>> ((nI (56 - 8 * k)).toInt64 &&& 63)).toInt32.toInt8 := by
    apply Int8.toBitVec_inj.1
    apply BitVec.eq_of_getLsbD_eq
    intro i hi
    rw [pz_by8 x hk hi, pz_by8 y hk hi, h i hi]
  rw [e]
theorem pz_by_cut (b j : Nat) (x y : Int64) {k : Nat} (hk : k < 8) : pz_by (pz_cut b j x y) k = if 8 * j + k < b then pz_by x k else pz_by y k := by
  by_cases h : 8 * j + k < b
  · rw [if_pos h]
    refine pz_by_congr hk fun i hi => ?_
    rw [pz_cut_b b j x y (by omega), if_neg (by omega)]
  · rw [if_neg h]
    refine pz_by_congr hk fun i hi => ?_
    rw [pz_cut_b b j x y (by omega), if_pos (by omega)]
/-- the first k bytes of a long, read as a number -/
def pz_pre (x : Int64) (k : Nat) : Int64 := lN (x.toBitVec.toNat / 2 ^ (64 - 8 * k))
theorem pz_pre_b (x : Int64) (k : Nat) {i : Nat} (hi : i < 64) : pz_bt (pz_pre x k) i = pz_bt x (64 - 8 * k + i) := by
  unfold pz_pre
  rw [pz_b_lN, Nat.testBit_div_two_pow, pz_b_N, Nat.add_comm i]
  simp [hi]
theorem pz_pre_0 (x : Int64) : pz_pre x 0 = 0 := pz_ext fun i hi => by
  rw [pz_pre_b x 0 hi, pz_b_hi x (by omega), show (0 : Int64) = lN 0 from rfl, pz_b_lN, Nat.zero_testBit]
  simp
theorem pz_pre_8 (x : Int64) : pz_pre x 8 = x := pz_ext fun i hi => by
  rw [pz_pre_b x 8 hi]
  congr 1
  omega
theorem pz_by_255 (x : Int64) {k i : Nat} (hk : k < 8) (hi : i < 64) : pz_bt ((pz_by x k &&& 255).toInt64) i = (decide (i < 8) && pz_bt x (56 - 8 * k + i)) := by
  have h255 : ∀ t, t < 32 → (255 : Int32).toBitVec.getLsbD t = decide (t < 8) := by decide
  have hb : ∀ t, t < 32 → (pz_by x k &&& 255).toBitVec.getLsbD t = (decide (t < 8) && pz_bt x (56 - 8 * k + t)) := by
    intro t ht
    rw [Int32.toBitVec_and, BitVec.getLsbD_and, h255 t ht]
    by_cases g : t < 8
    · rw [← pz_by8 x hk g]
      unfold pz_by
      generalize (x >>> ((nI (56 - 8 * k)).toInt64 &&& 63)).toInt32.toInt8 = z
      show ((z.toBitVec.signExtend 32).getLsbD t && decide (t < 8)) = _
      rw [BitVec.getLsbD_signExtend]
      simp [g, ht]
    · simp [g]
  unfold pz_bt
  show ((pz_by x k &&& 255).toBitVec.signExtend 64).getLsbD i = _
  rw [BitVec.getLsbD_signExtend]
  by_cases g : i < 32
  · rw [if_pos g, hb i g]; simp [hi]
  · rw [if_neg g, BitVec.msb_eq_getLsbD_last, hb (32 - 1) (by omega)]
    simp [show ¬ i < 8 by omega]
theorem pz_rd (x : Int64) {k : Nat} (hk : k < 8) : (pz_pre x k <<< ((nI 8).toInt64 &&& 63)) ||| (pz_by x k &&& 255).toInt64 = pz_pre x (k + 1) := pz_ext fun i hi => by
  rw [pz_b_or, pz_by_255 x hk hi, pz_pre_b x (k + 1) hi]
  have h1 : pz_bt (pz_pre x k <<< ((nI 8).toInt64 &&& 63)) i = (decide (8 ≤ i) && pz_bt (pz_pre x k) (i - 8)) := by
    unfold pz_pre
    rw [wb_shl _ (by omega), pz_b_lN, pz_b_lN, Nat.testBit_mul_two_pow]
    by_cases g : 8 ≤ i
    · simp [g, hi, show i - 8 < 64 by omega]
    · simp [g]
  rw [h1]
  by_cases g : 8 ≤ i
  · rw [pz_pre_b x k (show i - 8 < 64 by omega)]
    simp [g, show ¬ i < 8 by omega]
    congr 1
    omega
  · simp [g, show i < 8 by omega]
    congr 1
    omega
end
section
/-! the state in numbers; what is right on a disk (pz_C); the invariant -/
abbrev pz_Dk : Type := (Nat → Int64) × (Nat → Int64) × Option Nat × Bool × Nat
abbrev pz_Su : Type := Bool × Bool × Bool × Nat × Nat × Bool × Nat
def pz_b (b : Bool) : Int32 := match b with
  | true => 1
  | false => 0
def pz_o (o : Option Nat) : Int32 := match o with
  | none => -1
  | some n => nI n
abbrev pz_R (x : pz_Dk) : Nat → Int64 := x.1
abbrev pz_rc (x : pz_Dk) : Nat → Int64 := x.2.1
abbrev pz_rb (x : pz_Dk) : Option Nat := x.2.2.1
abbrev pz_dd (x : pz_Dk) : Bool := x.2.2.2.1
abbrev pz_th (x : pz_Dk) : Nat := x.2.2.2.2
abbrev pz_on (x : pz_Su) : Bool := x.1
abbrev pz_pl (x : pz_Su) : Bool := x.2.1
abbrev pz_pr (x : pz_Su) : Bool := x.2.2.1
abbrev pz_cw (x : pz_Su) : Nat := x.2.2.2.1
abbrev pz_cb (x : pz_Su) : Nat := x.2.2.2.2.1
abbrev pz_fa (x : pz_Su) : Bool := x.2.2.2.2.2.1
abbrev pz_wc (x : pz_Su) : Nat := x.2.2.2.2.2.2
def pz_beg (r : Bool) (x : pz_Su) : pz_Su := (x.1, x.2.1, x.2.2.1, x.2.2.2.1, x.2.2.2.2.1, x.2.1 && (x.2.2.1 == r), 0)
/-- how many bytes of k come through, and the supply behind it -/
def pz_let (k : Nat) (x : pz_Su) : Nat × pz_Su :=
  if pz_on x = false then (0, x) else if pz_fa x = true ∧ pz_wc x = pz_cw x then (min (pz_cb x) k, (false, x.2)) else (k, (x.1, x.2.1, x.2.2.1, x.2.2.2.1, x.2.2.2.2.1, x.2.2.2.2.2.1, x.2.2.2.2.2.2 + 1))
def pz_end (x : pz_Su) : pz_Su := if pz_fa x = true then (false, false, x.2.2.1, x.2.2.2.1, x.2.2.2.2.1, false, x.2.2.2.2.2.2) else x
def pz_fgt (x : pz_Su) : pz_Su := (x.1, false, x.2.2)
/-- a row written up to byte b -/
def pz_wr (f : Nat → Int64) (s : Nat) (row : Nat → Int64) (b : Nat) : Nat → Int64 := fun j => if 16 * s ≤ j ∧ j < 16 * s + 16 then pz_cut b (j - 16 * s) (row (j - 16 * s)) (f j) else f j
theorem pz_wr_congr {f : Nat → Int64} {s b : Nat} {r r' : Nat → Int64} (h : ∀ j, j < 16 → r j = r' j) : pz_wr f s r b = pz_wr f s r' b := by
  funext j
  unfold pz_wr
  by_cases g : 16 * s ≤ j ∧ j < 16 * s + 16
  · rw [if_pos g, if_pos g, h _ (by omega)]
  · rw [if_neg g, if_neg g]
theorem pz_wr_in (f : Nat → Int64) (s : Nat) (row : Nat → Int64) (b : Nat) {j : Nat} (hj : j < 16) : pz_wr f s row b (16 * s + j) = pz_cut b j (row j) (f (16 * s + j)) := by
  unfold pz_wr
  rw [if_pos ⟨by omega, by omega⟩, show 16 * s + j - 16 * s = j by omega]
theorem pz_wr_out (f : Nat → Int64) {s t : Nat} (row : Nat → Int64) (b : Nat) {j : Nat} (hj : j < 16) (h : t ≠ s) : pz_wr f s row b (16 * t + j) = f (16 * t + j) := by
  unfold pz_wr
  rw [if_neg (by omega)]
def pz_dwr (x : pz_Dk) (s : Nat) (row : Nat → Int64) (b : Nat) : pz_Dk := (pz_wr x.1 s row b, x.2)
theorem pz_R_dwr (x : pz_Dk) (s : Nat) (row : Nat → Int64) (b : Nat) : pz_R (pz_dwr x s row b) = pz_wr (pz_R x) s row b := rfl
theorem pz_rb_dwr (x : pz_Dk) (s : Nat) (row : Nat → Int64) (b : Nat) : pz_rb (pz_dwr x s row b) = pz_rb x := rfl
theorem pz_rc_dwr (x : pz_Dk) (s : Nat) (row : Nat → Int64) (b : Nat) : pz_rc (pz_dwr x s row b) = pz_rc x := rfl
theorem pz_th_dwr (x : pz_Dk) (s : Nat) (row : Nat → Int64) (b : Nat) : pz_th (pz_dwr x s row b) = pz_th x := rfl
theorem pz_dd_dwr (x : pz_Dk) (s : Nat) (row : Nat → Int64) (b : Nat) : pz_dd (pz_dwr x s row b) = pz_dd x := rfl
def pz_drec (x : pz_Dk) (n : Nat) (pt : Nat → Int64) (b : Nat) : pz_Dk := if b < 136 then (x.1, x.2.1, none, x.2.2.2) else (x.1, va_cpy pt x.2.1 0 0 16, some n, x.2.2.2)
def pz_dn (n : Nat) : Nat := if n % 4 < n / 4 % 5 then n % 4 else n % 4 + 1
/-- together of the disks below k but d -/
def pz_oth (f : Nat → Int64) (d : Nat) : Nat → Int64
  | 0 => 0
  | k + 1 => if k = d then pz_oth f d k else pz_oth f d k ^^^ f k
theorem pz_bt_0 (i : Nat) : pz_bt 0 i = false := by rw [show (0 : Int64) = lN 0 from rfl, pz_b_lN, Nat.zero_testBit]; simp
theorem pz_oth_5 {f : Nat → Int64} (h : f 0 ^^^ f 1 ^^^ f 2 ^^^ f 3 ^^^ f 4 = 0) {d : Nat} (hd : d < 5) : pz_oth f d 5 = f d := by
  refine pz_ext fun i hi => ?_
  have hb := congrArg (fun z => pz_bt z i) h
  simp only [pz_b_xor, pz_bt_0] at hb
  have hc : d = 0 ∨ d = 1 ∨ d = 2 ∨ d = 3 ∨ d = 4 := by omega
  rcases hc with rfl | rfl | rfl | rfl | rfl <;> simp only [pz_oth, pz_b_xor, pz_bt_0, if_pos, if_neg, reduceIte, Nat.reduceEqDiff, reduceCtorEq] <;> revert hb <;> generalize pz_bt (f 0) i = a0 <;> generalize pz_bt (f 1) i = a1 <;> generalize pz_bt (f 2) i = a2 <;> generalize pz_bt (f 3) i = a3 <;> generalize pz_bt (f 4) i = a4 <;> revert a0 a1 a2 a3 a4 <;> decide
/-- what is right on disk d, stripe s, long j, where M is what the blocks hold -/
def pz_C (M : Nat → Int64) (d s j : Nat) : Int64 :=
  if d = s % 5 then M (64 * s + j) ^^^ M (64 * s + 16 + j) ^^^ M (64 * s + 32 + j) ^^^ M (64 * s + 48 + j) else M (64 * s + 16 * (if d < s % 5 then d else d - 1) + j)
theorem pz_C_sum (M : Nat → Int64) (s j : Nat) : pz_C M 0 s j ^^^ pz_C M 1 s j ^^^ pz_C M 2 s j ^^^ pz_C M 3 s j ^^^ pz_C M 4 s j = 0 := by
  refine pz_ext fun i hi => ?_
  have hc : s % 5 = 0 ∨ s % 5 = 1 ∨ s % 5 = 2 ∨ s % 5 = 3 ∨ s % 5 = 4 := by omega
  rcases hc with h | h | h | h | h <;> simp (decide := true) only [pz_C, h, pz_b_xor, pz_bt_0, reduceIte, if_true, if_false, Nat.reduceSub, Nat.reduceMul, Nat.add_zero, Nat.mul_zero] <;> generalize pz_bt (M (64 * s + j)) i = a0 <;> generalize pz_bt (M (64 * s + 16 + j)) i = a1 <;> generalize pz_bt (M (64 * s + 32 + j)) i = a2 <;> generalize pz_bt (M (64 * s + 48 + j)) i = a3 <;> revert a0 a1 a2 a3 <;> decide
theorem pz_C_oth (M : Nat → Int64) (s j : Nat) {d : Nat} (hd : d < 5) : pz_oth (fun e => pz_C M e s j) d 5 = pz_C M d s j := by
  have h := pz_C_sum M s j
  exact pz_oth_5 (f := fun e => pz_C M e s j) h hd
theorem pz_oth_congr {f g : Nat → Int64} {d : Nat} : ∀ k, (∀ e, e < k → e ≠ d → f e = g e) → pz_oth f d k = pz_oth g d k
  | 0, _ => rfl
  | k + 1, h => by
    unfold pz_oth
    by_cases c : k = d
    · rw [if_pos c, if_pos c, pz_oth_congr k fun e he => h e (by omega)]
    · rw [if_neg c, if_neg c, pz_oth_congr k fun e he => h e (by omega), h k (by omega) c]
theorem pz_dn_lt (n : Nat) : pz_dn n < 5 := by unfold pz_dn; split <;> omega
theorem pz_dn_ne (n : Nat) : pz_dn n ≠ n / 4 % 5 := by unfold pz_dn; split <;> omega
theorem pz_C_blk (M : Nat → Int64) (n j : Nat) : pz_C M (pz_dn n) (n / 4) j = M (16 * n + j) := by
  unfold pz_C
  rw [if_neg (pz_dn_ne n)]
  congr 1
  unfold pz_dn
  by_cases h : n % 4 < n / 4 % 5
  · rw [if_pos h, if_pos h]; omega
  · rw [if_neg h, if_neg (by omega)]; omega
/-- two contents that differ in block n alone -/
def pz_Same (M M' : Nat → Int64) (n : Nat) : Prop := ∀ k, (k < 16 * n ∨ 16 * n + 16 ≤ k) → M' k = M k
theorem pz_C_far {M M' : Nat → Int64} {n : Nat} (h : pz_Same M M' n) {d s j : Nat} (hd : d < 5) (hj : j < 16) (hne : s ≠ n / 4 ∨ (d ≠ s % 5 ∧ d ≠ pz_dn n)) : pz_C M' d s j = pz_C M d s j := by
  unfold pz_C
  by_cases c : d = s % 5
  · have hs : s ≠ n / 4 := by
      rcases hne with h1 | h1
      · exact h1
      · exact absurd c h1.1
    rw [if_pos c, if_pos c, h _ (by omega), h _ (by omega), h _ (by omega), h _ (by omega)]
  · rw [if_neg c, if_neg c]
    by_cases hs : s = n / 4
    · have hdn : d ≠ pz_dn n := by
        rcases hne with h1 | h1
        · exact absurd hs h1
        · exact h1.2
      refine h _ ?_
      subst hs
      unfold pz_dn at hdn
      by_cases g : n % 4 < n / 4 % 5
      · rw [if_pos g] at hdn
        by_cases g2 : d < n / 4 % 5
        · rw [if_pos g2]; omega
        · rw [if_neg g2]; omega
      · rw [if_neg g] at hdn
        by_cases g2 : d < n / 4 % 5
        · rw [if_pos g2]; omega
        · rw [if_neg g2]; omega
    · refine h _ ?_
      by_cases g2 : d < s % 5
      · rw [if_pos g2]; omega
      · rw [if_neg g2]; omega
theorem pz_C_par {M M' : Nat → Int64} {n : Nat} (h : pz_Same M M' n) {j : Nat} (hj : j < 16) : pz_C M' (n / 4 % 5) (n / 4) j = pz_C M (n / 4 % 5) (n / 4) j ^^^ M (16 * n + j) ^^^ M' (16 * n + j) := by
  unfold pz_C
  rw [if_pos rfl, if_pos rfl]
  refine pz_ext fun i hi => ?_
  have hc : n % 4 = 0 ∨ n % 4 = 1 ∨ n % 4 = 2 ∨ n % 4 = 3 := by omega
  rcases hc with c | c | c | c
  · rw [h (64 * (n / 4) + 16 + j) (by omega), h (64 * (n / 4) + 32 + j) (by omega), h (64 * (n / 4) + 48 + j) (by omega), show 64 * (n / 4) + j = 16 * n + j by omega]
    simp only [pz_b_xor]
    generalize pz_bt (M (16 * n + j)) i = a0
    generalize pz_bt (M' (16 * n + j)) i = a1
    generalize pz_bt (M (64 * (n / 4) + 16 + j)) i = a2
    generalize pz_bt (M (64 * (n / 4) + 32 + j)) i = a3
    generalize pz_bt (M (64 * (n / 4) + 48 + j)) i = a4
    revert a0 a1 a2 a3 a4; decide
  · rw [h (64 * (n / 4) + j) (by omega), h (64 * (n / 4) + 32 + j) (by omega), h (64 * (n / 4) + 48 + j) (by omega), show 64 * (n / 4) + 16 + j = 16 * n + j by omega]
    simp only [pz_b_xor]
    generalize pz_bt (M (16 * n + j)) i = a0
    generalize pz_bt (M' (16 * n + j)) i = a1
    generalize pz_bt (M (64 * (n / 4) + j)) i = a2
    generalize pz_bt (M (64 * (n / 4) + 32 + j)) i = a3
    generalize pz_bt (M (64 * (n / 4) + 48 + j)) i = a4
    revert a0 a1 a2 a3 a4; decide
  · rw [h (64 * (n / 4) + j) (by omega), h (64 * (n / 4) + 16 + j) (by omega), h (64 * (n / 4) + 48 + j) (by omega), show 64 * (n / 4) + 32 + j = 16 * n + j by omega]
    simp only [pz_b_xor]
    generalize pz_bt (M (16 * n + j)) i = a0
    generalize pz_bt (M' (16 * n + j)) i = a1
    generalize pz_bt (M (64 * (n / 4) + j)) i = a2
    generalize pz_bt (M (64 * (n / 4) + 16 + j)) i = a3
    generalize pz_bt (M (64 * (n / 4) + 48 + j)) i = a4
    revert a0 a1 a2 a3 a4; decide
  · rw [h (64 * (n / 4) + j) (by omega), h (64 * (n / 4) + 16 + j) (by omega), h (64 * (n / 4) + 32 + j) (by omega), show 64 * (n / 4) + 48 + j = 16 * n + j by omega]
    simp only [pz_b_xor]
    generalize pz_bt (M (16 * n + j)) i = a0
    generalize pz_bt (M' (16 * n + j)) i = a1
    generalize pz_bt (M (64 * (n / 4) + j)) i = a2
    generalize pz_bt (M (64 * (n / 4) + 16 + j)) i = a3
    generalize pz_bt (M (64 * (n / 4) + 32 + j)) i = a4
    revert a0 a1 a2 a3 a4; decide
end
section
/-! the invariant of the contents, and that writes keep it; ex d: disk d's parity may be wrong where its record mends it -/
def pz_IC (dk : Nat → pz_Dk) (M : Nat → Int64) (ex : Nat → Prop) : Prop :=
  (∀ d s, d < 5 → s < 150 → s < pz_th (dk d) → (∀ j, j < 16 → pz_R (dk d) (16 * s + j) = pz_C M d s j) ∨ (ex d ∧ s % 5 = d ∧ ∃ n, n / 4 = s ∧ pz_rb (dk d) = some n ∧ s < pz_th (dk (pz_dn n)))) ∧
  ∀ d n, d < 5 → pz_rb (dk d) = some n → n < 600 ∧ n / 4 % 5 = d ∧ n / 4 < pz_th (dk d) ∧ ∀ j, j < 16 → pz_rc (dk d) j = pz_C M d (n / 4) j ^^^ M (16 * n + j)
theorem pz_IC.ex {dk : Nat → pz_Dk} {M : Nat → Int64} {e1 e2 : Nat → Prop} (h : pz_IC dk M e1) (hh : ∀ d, d < 5 → e1 d → e2 d) : pz_IC dk M e2 := by
  refine ⟨fun d s hd hs ht => ?_, h.2⟩
  rcases h.1 d s hd hs ht with g | ⟨g1, g2⟩
  · exact Or.inl g
  · exact Or.inr ⟨hh d hd g1, g2⟩
/-- a row that is THERE and not its stripe's parity, or with no exception at hand, is right -/
theorem pz_IC.row {dk : Nat → pz_Dk} {M : Nat → Int64} {ex : Nat → Prop} (h : pz_IC dk M ex) {d s j : Nat} (hd : d < 5) (hs : s < 150) (ht : s < pz_th (dk d)) (hj : j < 16) (hn : ¬ ex d ∨ s % 5 ≠ d) : pz_R (dk d) (16 * s + j) = pz_C M d s j := by
  rcases h.1 d s hd hs ht with g | ⟨g1, g2, _⟩
  · exact g j hj
  · rcases hn with k | k
    · exact absurd g1 k
    · exact absurd g2 k
/-- all but d THERE, no exception: the others together give what is right on d -/
theorem pz_IC.oth {dk : Nat → pz_Dk} {M : Nat → Int64} (h : pz_IC dk M (fun _ => False)) {d s j : Nat} (hd : d < 5) (hs : s < 150) (hj : j < 16) (ht : ∀ e, e < 5 → e ≠ d → s < pz_th (dk e)) : pz_oth (fun e => pz_R (dk e) (16 * s + j)) d 5 = pz_C M d s j := by
  rw [← pz_C_oth M s j hd]
  exact pz_oth_congr 5 fun e he hne => h.row he hs (ht e he hne) hj (Or.inl fun k => k)
/-- writes of a set: p its parity's disk, q its block's -/
theorem pz_IC.set {dk dk' : Nat → pz_Dk} {M M' : Nat → Int64} {ex : Nat → Prop} {n : Nat} (h : pz_IC dk M (fun _ => False)) (hn : n < 600) (hM : pz_Same M M' n)
    (ho : ∀ d, d < 5 → d ≠ n / 4 % 5 → d ≠ pz_dn n → dk' d = dk d) (hth : ∀ d, d < 5 → pz_th (dk' d) = pz_th (dk d))
    (hqo : ∀ t j, t < 150 → j < 16 → t ≠ n / 4 → pz_R (dk' (pz_dn n)) (16 * t + j) = pz_R (dk (pz_dn n)) (16 * t + j)) (hqi : n / 4 < pz_th (dk (pz_dn n)) → ∀ j, j < 16 → pz_R (dk' (pz_dn n)) (16 * (n / 4) + j) = M' (16 * n + j))
    (hqr : pz_rb (dk' (pz_dn n)) = pz_rb (dk (pz_dn n)) ∧ pz_rc (dk' (pz_dn n)) = pz_rc (dk (pz_dn n)))
    (hpo : ∀ t j, t < 150 → j < 16 → t ≠ n / 4 → pz_R (dk' (n / 4 % 5)) (16 * t + j) = pz_R (dk (n / 4 % 5)) (16 * t + j))
    (hpi : n / 4 < pz_th (dk (n / 4 % 5)) → (∀ j, j < 16 → pz_R (dk' (n / 4 % 5)) (16 * (n / 4) + j) = pz_C M' (n / 4 % 5) (n / 4) j) ∨ (ex (n / 4 % 5) ∧ pz_rb (dk' (n / 4 % 5)) = some n ∧ n / 4 < pz_th (dk (pz_dn n))))
    (hpr : (pz_rb (dk' (n / 4 % 5)) = none) ∨ (n / 4 < pz_th (dk (n / 4 % 5)) ∧ pz_rb (dk' (n / 4 % 5)) = some n ∧ ∀ j, j < 16 → pz_rc (dk' (n / 4 % 5)) j = pz_C M (n / 4 % 5) (n / 4) j ^^^ M (16 * n + j)) ∨ (¬ n / 4 < pz_th (dk (n / 4 % 5)) ∧ pz_rb (dk' (n / 4 % 5)) = pz_rb (dk (n / 4 % 5)) ∧ pz_rc (dk' (n / 4 % 5)) = pz_rc (dk (n / 4 % 5)))) : pz_IC dk' M' ex := by
  have hs : n / 4 < 150 := by omega
  have hp5 : n / 4 % 5 < 5 := by omega
  have hq5 := pz_dn_lt n
  have hqp := pz_dn_ne n
  have keep : ∀ d r, d < 5 → r < 600 → r / 4 % 5 = d → r / 4 ≠ n / 4 → (∀ j, j < 16 → pz_rc (dk d) j = pz_C M d (r / 4) j ^^^ M (16 * r + j)) → ∀ j, j < 16 → pz_rc (dk d) j = pz_C M' d (r / 4) j ^^^ M' (16 * r + j) := by
    intro d r hd hr hrd hrs g j hj
    rw [g j hj, pz_C_far hM hd hj (Or.inl hrs), hM (16 * r + j) (by omega)]
  constructor
  · intro d s hd hsl ht
    rw [hth d hd] at ht
    by_cases c1 : d = pz_dn n
    · subst c1
      left
      intro j hj
      by_cases c2 : s = n / 4
      · subst c2
        rw [hqi ht j hj, pz_C_blk]
      · rw [hqo s j hsl hj c2, pz_C_far hM hd hj (Or.inl c2)]
        exact h.row hd hsl ht hj (Or.inl fun k => k)
    · by_cases c2 : d = n / 4 % 5
      · subst c2
        by_cases c3 : s = n / 4
        · subst c3
          rcases hpi ht with g | ⟨g1, g2, g3⟩
          · exact Or.inl g
          · exact Or.inr ⟨g1, rfl, n, rfl, g2, by rw [hth _ hq5]; exact g3⟩
        · left
          intro j hj
          rw [hpo s j hsl hj c3, pz_C_far hM hd hj (Or.inl c3)]
          exact h.row hd hsl ht hj (Or.inl fun k => k)
      · left
        intro j hj
        rw [ho d hd c2 c1]
        by_cases c3 : s = n / 4
        · rw [pz_C_far hM hd hj (Or.inr ⟨by rw [c3]; exact c2, c1⟩)]
          exact h.row hd hsl ht hj (Or.inl fun k => k)
        · rw [pz_C_far hM hd hj (Or.inl c3)]
          exact h.row hd hsl ht hj (Or.inl fun k => k)
  · intro d r hd hrb
    rw [hth d hd]
    by_cases c2 : d = n / 4 % 5
    · subst c2
      rcases hpr with g | ⟨g1, g2, g3⟩ | ⟨g1, g2, g3⟩
      · rw [g] at hrb; cases hrb
      · rw [g2] at hrb
        cases hrb
        refine ⟨hn, rfl, g1, fun j hj => ?_⟩
        rw [g3 j hj, pz_C_par hM hj]
        refine pz_ext fun i hi => ?_
        simp only [pz_b_xor]
        generalize pz_bt (M (16 * n + j)) i = a0
        generalize pz_bt (M' (16 * n + j)) i = a1
        generalize pz_bt (pz_C M (n / 4 % 5) (n / 4) j) i = a2
        revert a0 a1 a2; decide
      · rw [g2] at hrb
        obtain ⟨k1, k2, k3, k4⟩ := h.2 _ r hd hrb
        refine ⟨k1, k2, k3, ?_⟩
        rw [g3]
        exact keep _ r hd k1 k2 (fun e => g1 (by omega)) k4
    · have hne : ∀ k, k / 4 % 5 = d → k / 4 ≠ n / 4 := fun k e1 e2 => c2 (by rw [← e1, e2])
      by_cases c1 : d = pz_dn n
      · subst c1
        rw [hqr.1] at hrb
        obtain ⟨k1, k2, k3, k4⟩ := h.2 _ r hd hrb
        refine ⟨k1, k2, k3, ?_⟩
        rw [hqr.2]
        exact keep _ r hd k1 k2 (hne r k2) k4
      · rw [ho d hd c2 c1] at hrb
        obtain ⟨k1, k2, k3, k4⟩ := h.2 _ r hd hrb
        refine ⟨k1, k2, k3, ?_⟩
        rw [ho d hd c2 c1]
        exact keep _ r hd k1 k2 (hne r k2) k4
/-- a parity mended up to byte b -/
theorem pz_IC.mend {dk : Nat → pz_Dk} {M : Nat → Int64} {ex : Nat → Prop} (h : pz_IC dk M ex) {d n b : Nat} (hd : d < 5) (hr : pz_rb (dk d) = some n) (ht : n / 4 < pz_th (dk (pz_dn n))) :
    pz_IC (va_up dk d (pz_dwr (dk d) (n / 4) (fun j => pz_rc (dk d) j ^^^ pz_R (dk (pz_dn n)) (16 * (n / 4) + j)) b)) M ex ∧ (128 ≤ b → pz_IC (va_up dk d (pz_dwr (dk d) (n / 4) (fun j => pz_rc (dk d) j ^^^ pz_R (dk (pz_dn n)) (16 * (n / 4) + j)) b)) M (fun e => ex e ∧ e ≠ d)) := by
  obtain ⟨k1, k2, k3, k4⟩ := h.2 d n hd hr
  have hs : n / 4 < 150 := by omega
  have hrow : ∀ j, j < 16 → pz_rc (dk d) j ^^^ pz_R (dk (pz_dn n)) (16 * (n / 4) + j) = pz_C M d (n / 4) j := by
    intro j hj
    rw [h.row (pz_dn_lt n) hs ht hj (Or.inr (fun e => pz_dn_ne n e.symm)), k4 j hj, pz_C_blk, Int64.xor_assoc, Int64.xor_self, Int64.xor_zero]
  have eu : ∀ e, e ≠ d → va_up dk d (pz_dwr (dk d) (n / 4) (fun j => pz_rc (dk d) j ^^^ pz_R (dk (pz_dn n)) (16 * (n / 4) + j)) b) e = dk e := fun e he => by unfold va_up; rw [if_neg he]
  have es : va_up dk d (pz_dwr (dk d) (n / 4) (fun j => pz_rc (dk d) j ^^^ pz_R (dk (pz_dn n)) (16 * (n / 4) + j)) b) d = pz_dwr (dk d) (n / 4) (fun j => pz_rc (dk d) j ^^^ pz_R (dk (pz_dn n)) (16 * (n / 4) + j)) b := by unfold va_up; rw [if_pos rfl]
  have eth : ∀ e, pz_th (va_up dk d (pz_dwr (dk d) (n / 4) (fun j => pz_rc (dk d) j ^^^ pz_R (dk (pz_dn n)) (16 * (n / 4) + j)) b) e) = pz_th (dk e) := by
    intro e
    by_cases c : e = d
    · subst c; rw [es, pz_th_dwr]
    · rw [eu e c]
  generalize va_up dk d (pz_dwr (dk d) (n / 4) (fun j => pz_rc (dk d) j ^^^ pz_R (dk (pz_dn n)) (16 * (n / 4) + j)) b) = dk' at eu es eth
  have hrec : ∀ e r, e < 5 → pz_rb (dk' e) = some r → r < 600 ∧ r / 4 % 5 = e ∧ r / 4 < pz_th (dk' e) ∧ ∀ j, j < 16 → pz_rc (dk' e) j = pz_C M e (r / 4) j ^^^ M (16 * r + j) := by
    intro e r he hrb
    rw [eth]
    by_cases c : e = d
    · subst c
      rw [es, pz_rb_dwr] at hrb
      rw [es, pz_rc_dwr]
      exact h.2 e r he hrb
    · rw [eu e c] at hrb ⊢
      exact h.2 e r he hrb
  have hrbd : pz_rb (dk' d) = some n := by rw [es, pz_rb_dwr]; exact hr
  refine ⟨⟨fun e s he hsl hte => ?_, hrec⟩, fun hb => ⟨fun e s he hsl hte => ?_, hrec⟩⟩
  · rw [eth] at hte
    by_cases c : e = d
    · subst c
      by_cases c2 : s = n / 4
      · rcases h.1 e s he hsl hte with g | ⟨g1, g2, g3⟩
        · left
          intro j hj
          subst c2
          rw [es]
          rw [pz_R_dwr]
          rw [pz_wr_in _ _ _ _ hj, hrow j hj]
          rw [g j hj, pz_cut_self]
        · right
          refine ⟨g1, g2, n, c2.symm, hrbd, ?_⟩
          rw [eth, c2]; exact ht
      · rcases h.1 e s he hsl hte with g | ⟨g1, g2, r, g3, g4, g5⟩
        · left
          intro j hj
          rw [es]
          rw [pz_R_dwr]
          rw [pz_wr_out _ _ _ hj c2]
          exact g j hj
        · exact absurd (by rw [hr] at g4; cases g4; exact g3.symm) c2
    · rw [eu e c]
      rcases h.1 e s he hsl hte with g | ⟨g1, g2, r, g3, g4, g5⟩
      · exact Or.inl g
      · exact Or.inr ⟨g1, g2, r, g3, g4, by rw [eth]; exact g5⟩
  · rw [eth] at hte
    by_cases c : e = d
    · subst c
      left
      intro j hj
      rw [es]
      rw [pz_R_dwr]
      by_cases c2 : s = n / 4
      · subst c2
        rw [pz_wr_in _ _ _ _ hj, hrow j hj, pz_cut_128 hj hb]
      · rw [pz_wr_out _ _ _ hj c2]
        rcases h.1 e s he hsl hte with g | ⟨g1, g2, r, g3, g4, g5⟩
        · exact g j hj
        · exact absurd (by rw [hr] at g4; cases g4; exact g3.symm) c2
    · rw [eu e c]
      rcases h.1 e s he hsl hte with g | ⟨g1, g2, r, g3, g4, g5⟩
      · exact Or.inl g
      · exact Or.inr ⟨⟨g1, c⟩, g2, r, g3, g4, by rw [eth]; exact g5⟩
/-- where nothing is to be mended -/
theorem pz_IC.skip {dk : Nat → pz_Dk} {M : Nat → Int64} {ex : Nat → Prop} (h : pz_IC dk M ex) {d : Nat} (hn : ∀ n, pz_rb (dk d) = some n → ¬ n / 4 < pz_th (dk (pz_dn n))) : pz_IC dk M (fun e => ex e ∧ e ≠ d) := by
  refine ⟨fun e s he hsl hte => ?_, h.2⟩
  rcases h.1 e s he hsl hte with g | ⟨g1, g2, r, g3, g4, g5⟩
  · exact Or.inl g
  · refine Or.inr ⟨⟨g1, fun c => ?_⟩, g2, r, g3, g4, g5⟩
    subst c
    exact hn r g4 (by rw [g3]; exact g5)
/-- disk d lost, all WELL before -/
theorem pz_IC.die {dk : Nat → pz_Dk} {M : Nat → Int64} (h : pz_IC dk M (fun _ => False)) {d : Nat} {f : Nat → Int64} {r : Nat → Int64} {b : Bool} : pz_IC (va_up dk d (f, r, none, b, 0)) M (fun _ => False) := by
  have eu : ∀ e, e ≠ d → va_up dk d (f, r, none, b, 0) e = dk e := fun e he => by unfold va_up; rw [if_neg he]
  have es : va_up dk d (f, r, none, b, 0) d = (f, r, none, b, 0) := by unfold va_up; rw [if_pos rfl]
  refine ⟨fun e s he hsl hte => ?_, fun e n he hrb => ?_⟩
  · by_cases c : e = d
    · subst c; rw [es] at hte; exact absurd hte (Nat.not_lt_zero _)
    · rw [eu e c] at hte ⊢
      exact Or.inl fun j hj => h.row he hsl hte hj (Or.inl fun k => k)
  · by_cases c : e = d
    · subst c; rw [es] at hrb; cases hrb
    · rw [eu e c] at hrb ⊢
      exact h.2 e n he hrb
/-- the next row of disk d rebuilt -/
theorem pz_IC.reb {dk : Nat → pz_Dk} {M : Nat → Int64} (h : pz_IC dk M (fun _ => False)) {d : Nat} (hd : d < 5) (hs : pz_th (dk d) < 150) (ho : ∀ e, e < 5 → e ≠ d → pz_th (dk e) = 150) {row : Nat → Int64} (hrow : ∀ j, j < 16 → row j = pz_C M d (pz_th (dk d)) j) {x : pz_Dk} (hx : x = (pz_wr (pz_R (dk d)) (pz_th (dk d)) row 128, (dk d).2.1, (dk d).2.2.1, (dk d).2.2.2.1, pz_th (dk d) + 1)) : pz_IC (va_up dk d x) M (fun _ => False) := by
  have eu : ∀ e, e ≠ d → va_up dk d x e = dk e := fun e he => by unfold va_up; rw [if_neg he]
  have es : va_up dk d x d = x := by unfold va_up; rw [if_pos rfl]
  have hr : pz_R x = pz_wr (pz_R (dk d)) (pz_th (dk d)) row 128 := by rw [hx]
  have ht : pz_th x = pz_th (dk d) + 1 := by rw [hx]
  have hrb9 : pz_rb x = pz_rb (dk d) := by rw [hx]
  have hrc9 : pz_rc x = pz_rc (dk d) := by rw [hx]
  refine ⟨fun e s he hsl hte => ?_, fun e n he hrb => ?_⟩
  · left
    intro j hj
    by_cases c : e = d
    · subst c
      rw [es, ht] at hte
      rw [es, hr]
      by_cases c2 : s = pz_th (dk e)
      · subst c2
        rw [pz_wr_in _ _ _ _ hj, hrow j hj, pz_cut_128 hj (Nat.le_refl _)]
      · rw [pz_wr_out _ _ _ hj c2]
        exact h.row he hsl (by omega) hj (Or.inl fun k => k)
    · rw [eu e c] at hte ⊢
      exact h.row he hsl hte hj (Or.inl fun k => k)
  · by_cases c : e = d
    · subst c
      rw [es, hrb9] at hrb
      rw [es, ht, hrc9]
      obtain ⟨k1, k2, k3, k4⟩ := h.2 e n he hrb
      exact ⟨k1, k2, by omega, k4⟩
    · rw [eu e c] at hrb ⊢
      exact h.2 e n he hrb
end
section
/-! the reference in numbers, the whole invariant, and what each call does to it -/
abbrev pz_Mu : Type := (Nat → Int64) × Bool × Option Nat × Bool × Nat × Nat × Nat × Nat
abbrev pz_mM (x : pz_Mu) : Nat → Int64 := x.1
abbrev pz_mo (x : pz_Mu) : Bool := x.2.1
abbrev pz_ms (x : pz_Mu) : Option Nat := x.2.2.1
abbrev pz_mf (x : pz_Mu) : Bool := x.2.2.2.1
abbrev pz_mr (x : pz_Mu) : Nat := x.2.2.2.2.1
abbrev pz_mF (x : pz_Mu) : Nat := x.2.2.2.2.2.1
abbrev pz_mw (x : pz_Mu) : Nat := x.2.2.2.2.2.2.1
abbrev pz_mc (x : pz_Mu) : Nat := x.2.2.2.2.2.2.2
def pz_IS (dk : Nat → pz_Dk) (sick : Option Nat) (fresh : Bool) (reb : Nat) : Prop :=
  (∀ d, d < 5 → sick ≠ some d → pz_th (dk d) = 150 ∧ pz_dd (dk d) = false) ∧ (∀ d, sick = some d → d < 5 ∧ reb < 150 ∧ pz_th (dk d) = reb ∧ pz_dd (dk d) = !fresh ∧ (fresh = false → reb = 0)) ∧ (sick = none → fresh = false ∧ reb = 0)
def pz_IP (su : pz_Su) (on : Bool) (fails wr ct : Nat) : Prop :=
  pz_on su = on ∧ fails = (if pz_pl su = true then (if pz_pr su = true then 2 else 1) else 0) ∧ pz_cw su = wr ∧ pz_cb su = ct ∧ wr ≤ 10 ∧ ct ≤ 200
def pz_Inv (dk : Nat → pz_Dk) (su : pz_Su) (x : pz_Mu) : Prop :=
  pz_IC dk (pz_mM x) (fun _ => pz_mo x = false) ∧ pz_IS dk (pz_ms x) (pz_mf x) (pz_mr x) ∧ pz_IP su (pz_mo x) (pz_mF x) (pz_mw x) (pz_mc x)
theorem pz_IS.th {dk : Nat → pz_Dk} {sick : Option Nat} {fresh : Bool} {reb : Nat} (h : pz_IS dk sick fresh reb) {d : Nat} (hd : d < 5) : pz_th (dk d) ≤ 150 := by
  by_cases c : sick = some d
  · have := h.2.1 d c; omega
  · have := (h.1 d hd c).1; omega
theorem pz_IS.one {dk : Nat → pz_Dk} {sick : Option Nat} {fresh : Bool} {reb : Nat} (h : pz_IS dk sick fresh reb) {d e : Nat} (hd : d < 5) (he : e < 5) (hne : e ≠ d) (hs : pz_th (dk d) < 150) : pz_th (dk e) = 150 := by
  by_cases c : sick = some e
  · by_cases c2 : sick = some d
    · rw [c] at c2; cases c2; exact absurd rfl hne
    · have := (h.1 d hd c2).1; omega
  · exact (h.1 e he c).1
theorem pz_IS.there {dk : Nat → pz_Dk} {sick : Option Nat} {fresh : Bool} {reb : Nat} (h : pz_IS dk sick fresh reb) {d s : Nat} (hd : d < 5) (hs : s < 150) : (sick ≠ some d ∨ (fresh = true ∧ s < reb)) ↔ s < pz_th (dk d) := by
  by_cases c : sick = some d
  · obtain ⟨_, h2, h3, h4, h5⟩ := h.2.1 d c
    rw [h3]
    constructor
    · rintro (g | g)
      · exact absurd c g
      · exact g.2
    · intro g
      right
      refine ⟨?_, g⟩
      cases hf : fresh
      · have := h5 hf; omega
      · rfl
  · have := (h.1 d hd c).1
    exact ⟨fun _ => by omega, fun _ => Or.inl c⟩
theorem pz_Inv.IC {dk : Nat → pz_Dk} {su : pz_Su} {x : pz_Mu} (h : pz_Inv dk su x) (hon : pz_mo x = true) : pz_IC dk (pz_mM x) (fun _ => False) := h.1.ex fun d _ g => by rw [hon] at g; cases g
/-- what a read answers -/
def pz_rl (dk : Nat → pz_Dk) (n j : Nat) : Int64 := if n / 4 < pz_th (dk (pz_dn n)) then pz_R (dk (pz_dn n)) (16 * (n / 4) + j) else pz_oth (fun e => pz_R (dk e) (16 * (n / 4) + j)) (pz_dn n) 5
theorem pz_Inv.rl {dk : Nat → pz_Dk} {su : pz_Su} {x : pz_Mu} (h : pz_Inv dk su x) (hon : pz_mo x = true) {n j : Nat} (hn : n < 600) (hj : j < 16) : pz_rl dk n j = pz_mM x (16 * n + j) := by
  unfold pz_rl
  rw [← pz_C_blk (pz_mM x) n j]
  by_cases c : n / 4 < pz_th (dk (pz_dn n))
  · rw [if_pos c]
    exact (h.IC hon).row (pz_dn_lt n) (by omega) c hj (Or.inl fun k => k)
  · rw [if_neg c]
    exact (h.IC hon).oth (pz_dn_lt n) (by omega) hj fun e he hne => by
      rw [h.2.1.one (pz_dn_lt n) he hne (by omega)]; omega
/-! set -/
def pz_l1 (a : Bool) (su : pz_Su) : Nat × pz_Su := if a = true then pz_let 136 su else (0, su)
def pz_l2 (a b : Bool) (su : pz_Su) : Nat × pz_Su := if b = true then pz_let 128 (pz_l1 a su).2 else (0, (pz_l1 a su).2)
def pz_l3 (a b : Bool) (su : pz_Su) : Nat × pz_Su := if a = true then pz_let 128 (pz_l2 a b su).2 else (0, (pz_l2 a b su).2)
def pz_nw (a : Bool) (wr ct : Nat) : Nat := if wr < (if a = true then 1 else 0) then 0 else if (if a = true then 1 else 0) < wr then 128 else min ct 128
theorem pz_amt {su : pz_Su} {fails wr ct : Nat} (h : pz_IP su true fails wr ct) (a b : Bool) (N : Nat) (hN : N = if fails = 1 then pz_nw a wr ct else 128) :
    (b = true → (pz_l2 a b (pz_beg false su)).1 = N) ∧ (a = true → b = false → (pz_l3 a b (pz_beg false su)).1 = N) ∧ (a = true → b = true → (pz_l3 a b (pz_beg false su)).1 = N ∨ (fails = 1 ∧ 136 ≤ (pz_l1 a (pz_beg false su)).1)) ∧
    pz_IP (pz_end (pz_l3 a b (pz_beg false su)).2) (decide (fails ≠ 1)) (if fails = 1 then 0 else fails) wr ct := by
  obtain ⟨on, pl, pr, cw, cb, fa, wc⟩ := su
  obtain ⟨h1, h2, h3, h4, h5, h6⟩ := h
  simp only [pz_on, pz_pl, pz_pr, pz_cw, pz_cb] at h1 h2 h3 h4
  subst h1 h3 h4 hN
  cases pl <;> cases pr <;> simp only [if_true, if_false, Bool.false_eq_true, reduceIte] at h2 <;> subst h2
  all_goals
    by_cases c0 : cw = 0
    · subst c0
      cases a <;> cases b <;> simp [pz_l1, pz_l2, pz_l3, pz_let, pz_beg, pz_nw, pz_end, pz_IP, pz_on, pz_pl, pz_pr, pz_cw, pz_cb, pz_fa, pz_wc] <;> omega
    · by_cases c1 : cw = 1
      · subst c1
        cases a <;> cases b <;> simp [pz_l1, pz_l2, pz_l3, pz_let, pz_beg, pz_nw, pz_end, pz_IP, pz_on, pz_pl, pz_pr, pz_cw, pz_cb, pz_fa, pz_wc] <;> omega
      · by_cases c2 : cw = 2
        · subst c2
          cases a <;> cases b <;> simp [pz_l1, pz_l2, pz_l3, pz_let, pz_beg, pz_nw, pz_end, pz_IP, pz_on, pz_pl, pz_pr, pz_cw, pz_cb, pz_fa, pz_wc] <;> omega
        · have d0 : ¬ 0 = cw := fun e => c0 e.symm
          have d1 : ¬ 1 = cw := fun e => c1 e.symm
          have d2 : ¬ 2 = cw := fun e => c2 e.symm
          have d3 : 1 < cw := by omega
          have d4 : 0 < cw := by omega
          cases a <;> cases b <;> simp [pz_l1, pz_l2, pz_l3, pz_let, pz_beg, pz_nw, pz_end, pz_IP, pz_on, pz_pl, pz_pr, pz_cw, pz_cb, pz_fa, pz_wc, c0, c1, c2, d0, d1, d2, d3, d4] <;> omega
/-- the three writes -/
def pz_w1 (dk : Nat → pz_Dk) (su : pz_Su) (pt : Nat → Int64) (n : Nat) : (Nat → pz_Dk) × pz_Su :=
  if n / 4 < pz_th (dk (n / 4 % 5)) then (va_up dk (n / 4 % 5) (pz_drec (dk (n / 4 % 5)) n pt (pz_let 136 su).1), (pz_let 136 su).2) else (dk, su)
def pz_w2 (x : (Nat → pz_Dk) × pz_Su) (bl : Nat → Int64) (n : Nat) : (Nat → pz_Dk) × pz_Su :=
  if n / 4 < pz_th (x.1 (pz_dn n)) then (va_up x.1 (pz_dn n) (pz_dwr (x.1 (pz_dn n)) (n / 4) bl (pz_let 128 x.2).1), (pz_let 128 x.2).2) else x
def pz_w3 (x : (Nat → pz_Dk) × pz_Su) (py : Nat → Int64) (n : Nat) : (Nat → pz_Dk) × pz_Su :=
  if n / 4 < pz_th (x.1 (n / 4 % 5)) then (va_up x.1 (n / 4 % 5) (pz_dwr (x.1 (n / 4 % 5)) (n / 4) py (pz_let 128 x.2).1), (pz_let 128 x.2).2) else x
def pz_wrs (dk : Nat → pz_Dk) (su : pz_Su) (bl pt py : Nat → Int64) (n : Nat) : (Nat → pz_Dk) × pz_Su := pz_w3 (pz_w2 (pz_w1 dk su pt n) bl n) py n
theorem pz_up_s {α : Type} (f : Nat → α) (k : Nat) (v : α) : va_up f k v k = v := by unfold va_up; rw [if_pos rfl]
theorem pz_up_n {α : Type} (f : Nat → α) {k j : Nat} (v : α) (h : j ≠ k) : va_up f k v j = f j := by unfold va_up; rw [if_neg h]
theorem pz_drec_th (x : pz_Dk) (n : Nat) (pt : Nat → Int64) (b : Nat) : pz_th (pz_drec x n pt b) = pz_th x := by unfold pz_drec; split <;> rfl
theorem pz_drec_dd (x : pz_Dk) (n : Nat) (pt : Nat → Int64) (b : Nat) : pz_dd (pz_drec x n pt b) = pz_dd x := by unfold pz_drec; split <;> rfl
theorem pz_drec_R (x : pz_Dk) (n : Nat) (pt : Nat → Int64) (b : Nat) : pz_R (pz_drec x n pt b) = pz_R x := by unfold pz_drec; split <;> rfl
/-- the three writes, disk by disk -/
theorem pz_wrs_at (dk : Nat → pz_Dk) (su : pz_Su) (bl pt py : Nat → Int64) (n : Nat) (a b : Bool) (ha : a = decide (n / 4 < pz_th (dk (n / 4 % 5)))) (hb : b = decide (n / 4 < pz_th (dk (pz_dn n)))) :
    (pz_wrs dk su bl pt py n).2 = (pz_l3 a b su).2 ∧ (∀ d, d ≠ n / 4 % 5 → d ≠ pz_dn n → (pz_wrs dk su bl pt py n).1 d = dk d) ∧
    (pz_wrs dk su bl pt py n).1 (n / 4 % 5) = (if a = true then pz_dwr (pz_drec (dk (n / 4 % 5)) n pt (pz_l1 a su).1) (n / 4) py (pz_l3 a b su).1 else dk (n / 4 % 5)) ∧
    (pz_wrs dk su bl pt py n).1 (pz_dn n) = (if b = true then pz_dwr (dk (pz_dn n)) (n / 4) bl (pz_l2 a b su).1 else dk (pz_dn n)) := by
  have hqp := pz_dn_ne n
  have hpq : n / 4 % 5 ≠ pz_dn n := fun e => hqp e.symm
  by_cases c1 : n / 4 < pz_th (dk (n / 4 % 5)) <;> by_cases c2 : n / 4 < pz_th (dk (pz_dn n)) <;> simp only [c1, c2, decide_true, decide_false] at ha hb <;> subst ha hb
  · have e1 : pz_w1 dk su pt n = (va_up dk (n / 4 % 5) (pz_drec (dk (n / 4 % 5)) n pt (pz_let 136 su).1), (pz_let 136 su).2) := by unfold pz_w1; rw [if_pos c1]
    have e2 : pz_w2 (pz_w1 dk su pt n) bl n = (va_up (va_up dk (n / 4 % 5) (pz_drec (dk (n / 4 % 5)) n pt (pz_let 136 su).1)) (pz_dn n) (pz_dwr (dk (pz_dn n)) (n / 4) bl (pz_let 128 (pz_let 136 su).2).1), (pz_let 128 (pz_let 136 su).2).2) := by
      rw [e1]; unfold pz_w2; simp only [pz_up_n _ _ hqp]; rw [if_pos c2]
    have e3 : pz_wrs dk su bl pt py n = (va_up (va_up (va_up dk (n / 4 % 5) (pz_drec (dk (n / 4 % 5)) n pt (pz_let 136 su).1)) (pz_dn n) (pz_dwr (dk (pz_dn n)) (n / 4) bl (pz_let 128 (pz_let 136 su).2).1)) (n / 4 % 5) (pz_dwr (pz_drec (dk (n / 4 % 5)) n pt (pz_let 136 su).1) (n / 4) py (pz_let 128 (pz_let 128 (pz_let 136 su).2).2).1), (pz_let 128 (pz_let 128 (pz_let 136 su).2).2).2) := by
      unfold pz_wrs; rw [e2]; unfold pz_w3; simp only [pz_up_n _ _ hpq, pz_up_s, pz_drec_th]; rw [if_pos c1]
    rw [e3]
    refine ⟨rfl, fun d h1 h2 => ?_, ?_, ?_⟩
    · simp only [pz_up_n _ _ h1, pz_up_n _ _ h2]
    · simp only [pz_up_s]; rfl
    · simp only [pz_up_n _ _ hqp, pz_up_s]; rfl
  · have e1 : pz_w1 dk su pt n = (va_up dk (n / 4 % 5) (pz_drec (dk (n / 4 % 5)) n pt (pz_let 136 su).1), (pz_let 136 su).2) := by unfold pz_w1; rw [if_pos c1]
    have e2 : pz_w2 (pz_w1 dk su pt n) bl n = (va_up dk (n / 4 % 5) (pz_drec (dk (n / 4 % 5)) n pt (pz_let 136 su).1), (pz_let 136 su).2) := by
      rw [e1]; unfold pz_w2; simp only [pz_up_n _ _ hqp]; rw [if_neg c2]
    have e3 : pz_wrs dk su bl pt py n = (va_up (va_up dk (n / 4 % 5) (pz_drec (dk (n / 4 % 5)) n pt (pz_let 136 su).1)) (n / 4 % 5) (pz_dwr (pz_drec (dk (n / 4 % 5)) n pt (pz_let 136 su).1) (n / 4) py (pz_let 128 (pz_let 136 su).2).1), (pz_let 128 (pz_let 136 su).2).2) := by
      unfold pz_wrs; rw [e2]; unfold pz_w3; simp only [pz_up_s, pz_drec_th]; rw [if_pos c1]
    rw [e3]
    refine ⟨rfl, fun d h1 h2 => ?_, ?_, ?_⟩
    · simp only [pz_up_n _ _ h1]
    · simp only [pz_up_s]; rfl
    · simp only [pz_up_n _ _ hqp]; rfl
  · have e1 : pz_w1 dk su pt n = (dk, su) := by unfold pz_w1; rw [if_neg c1]
    have e2 : pz_w2 (pz_w1 dk su pt n) bl n = (va_up dk (pz_dn n) (pz_dwr (dk (pz_dn n)) (n / 4) bl (pz_let 128 su).1), (pz_let 128 su).2) := by
      rw [e1]; unfold pz_w2; rw [if_pos c2]
    have e3 : pz_wrs dk su bl pt py n = (va_up dk (pz_dn n) (pz_dwr (dk (pz_dn n)) (n / 4) bl (pz_let 128 su).1), (pz_let 128 su).2) := by
      unfold pz_wrs; rw [e2]; unfold pz_w3; simp only [pz_up_n _ _ hpq]; rw [if_neg c1]
    rw [e3]
    refine ⟨rfl, fun d h1 h2 => ?_, ?_, ?_⟩
    · simp only [pz_up_n _ _ h2]
    · simp only [pz_up_n _ _ hpq]; rfl
    · simp only [pz_up_s]; rfl
  · have e1 : pz_w1 dk su pt n = (dk, su) := by unfold pz_w1; rw [if_neg c1]
    have e2 : pz_w2 (pz_w1 dk su pt n) bl n = (dk, su) := by
      rw [e1]; unfold pz_w2; rw [if_neg c2]
    have e3 : pz_wrs dk su bl pt py n = (dk, su) := by
      unfold pz_wrs; rw [e2]; unfold pz_w3; rw [if_neg c1]
    rw [e3]
    refine ⟨rfl, fun d h1 h2 => rfl, ?_, ?_⟩ <;> rfl
def pz_now (x : pz_Mu) (n : Nat) : Nat := pz_nw (decide (pz_ms x ≠ some (n / 4 % 5) ∨ (pz_mf x = true ∧ n / 4 < pz_mr x))) (pz_mw x) (pz_mc x)
def pz_mset (x : pz_Mu) (n i : Nat) (w : Int64) : pz_Mu :=
  (vp_updL (pz_mM x) (16 * n + i) (pz_cut (if pz_mF x = 1 then pz_now x n else 128) i w (pz_mM x (16 * n + i))), decide (pz_mF x ≠ 1), pz_ms x, pz_mf x, pz_mr x, (if pz_mF x = 1 then 0 else pz_mF x), pz_mw x, pz_mc x)
theorem pz_Inv.set {dk : Nat → pz_Dk} {su : pz_Su} {x : pz_Mu} (h : pz_Inv dk su x) (hon : pz_mo x = true) {n i : Nat} (hn : n < 600) (hi : i < 16) {w : Int64} {bl pt py : Nat → Int64}
    (hbl : ∀ j, j < 16 → bl j = if j = i then w else pz_mM x (16 * n + j)) (hpt : ∀ j, j < 16 → pt j = pz_R (dk (n / 4 % 5)) (16 * (n / 4) + j) ^^^ pz_mM x (16 * n + j)) (hpy : ∀ j, j < 16 → py j = pt j ^^^ bl j) :
    pz_Inv (pz_wrs dk (pz_beg false su) bl pt py n).1 (pz_end (pz_wrs dk (pz_beg false su) bl pt py n).2) (pz_mset x n i w) := by
  have hs : n / 4 < 150 := by omega
  have hp5 : n / 4 % 5 < 5 := by omega
  have hq5 := pz_dn_lt n
  have hqp := pz_dn_ne n
  have hIC := h.IC hon
  obtain ⟨e1, e2, e3, e4⟩ := pz_wrs_at dk (pz_beg false su) bl pt py n _ _ rfl rfl
  have hthere := h.2.1.there hp5 hs
  have hIP : pz_IP su true (pz_mF x) (pz_mw x) (pz_mc x) := by rw [← hon]; exact h.2.2
  obtain ⟨a1, a2, a3, a4⟩ := pz_amt hIP (decide (n / 4 < pz_th (dk (n / 4 % 5)))) (decide (n / 4 < pz_th (dk (pz_dn n)))) (if pz_mF x = 1 then pz_now x n else 128) (by
    unfold pz_now; rw [decide_eq_decide.mpr hthere])
  generalize hN : (if pz_mF x = 1 then pz_now x n else 128) = N at a1 a2 a3
  generalize pz_wrs dk (pz_beg false su) bl pt py n = r at e1 e2 e3 e4 ⊢
  generalize pz_l1 (decide (n / 4 < pz_th (dk (n / 4 % 5)))) (pz_beg false su) = l1 at e3 a3
  generalize pz_l2 (decide (n / 4 < pz_th (dk (n / 4 % 5)))) (decide (n / 4 < pz_th (dk (pz_dn n)))) (pz_beg false su) = l2 at e4 a1
  generalize pz_l3 (decide (n / 4 < pz_th (dk (n / 4 % 5)))) (decide (n / 4 < pz_th (dk (pz_dn n)))) (pz_beg false su) = l3 at e1 e3 a2 a3 a4
  have hth : ∀ d, d < 5 → pz_th (r.1 d) = pz_th (dk d) ∧ pz_dd (r.1 d) = pz_dd (dk d) := by
    intro d hd
    by_cases c1 : d = n / 4 % 5
    · subst c1
      rw [e3]
      split
      · rw [pz_th_dwr, pz_dd_dwr]; exact ⟨pz_drec_th _ _ _ _, pz_drec_dd _ _ _ _⟩
      · exact ⟨rfl, rfl⟩
    · by_cases c2 : d = pz_dn n
      · subst c2
        rw [e4]
        split
        · exact ⟨rfl, rfl⟩
        · exact ⟨rfl, rfl⟩
      · rw [e2 d c1 c2]; exact ⟨rfl, rfl⟩
  have hsame : pz_Same (pz_mM x) (vp_updL (pz_mM x) (16 * n + i) (pz_cut N i w (pz_mM x (16 * n + i)))) n := by
    intro k hk
    exact pk_uLn (by omega)
  have hM' : ∀ j, j < 16 → vp_updL (pz_mM x) (16 * n + i) (pz_cut N i w (pz_mM x (16 * n + i))) (16 * n + j) = pz_cut N j (bl j) (pz_mM x (16 * n + j)) := by
    intro j hj
    rw [hbl j hj]
    by_cases c : j = i
    · subst c; rw [if_pos rfl, pk_uLs]
    · rw [if_neg c, pz_cut_self, pk_uLn (by omega)]
  refine ⟨?_, ?_, ?_⟩
  · show pz_IC r.1 (vp_updL (pz_mM x) (16 * n + i) (pz_cut (if pz_mF x = 1 then pz_now x n else 128) i w (pz_mM x (16 * n + i)))) (fun _ => decide (pz_mF x ≠ 1) = false)
    rw [hN]
    refine hIC.set hn hsame (fun d _ h1 h2 => e2 d h1 h2) (fun d hd => (hth d hd).1) ?_ ?_ ?_ ?_ ?_ ?_
    · intro t j ht hj hne
      rw [e4]
      split
      · rw [pz_R_dwr]; exact pz_wr_out _ _ _ hj hne
      · rfl
    · intro hb j hj
      rw [e4, if_pos (decide_eq_true hb), hM' j hj]
      rw [pz_R_dwr]
      rw [pz_wr_in _ _ _ _ hj, a1 (decide_eq_true hb)]
      congr 1
      rw [← pz_C_blk (pz_mM x) n j]
      exact hIC.row hq5 hs hb hj (Or.inl fun k => k)
    · rw [e4]
      split <;> exact ⟨rfl, rfl⟩
    · intro t j ht hj hne
      rw [e3]
      split
      · rw [pz_R_dwr]
        rw [pz_wr_out _ _ _ hj hne, pz_drec_R]
      · rfl
    · intro ha
      rw [e3, if_pos (decide_eq_true ha)]
      have hCp : ∀ j, j < 16 → pz_R (dk (n / 4 % 5)) (16 * (n / 4) + j) = pz_C (pz_mM x) (n / 4 % 5) (n / 4) j := fun j hj => hIC.row hp5 hs ha hj (Or.inl fun k => k)
      have hrow : l3.1 = N → ∀ j, j < 16 → pz_R (pz_dwr (pz_drec (dk (n / 4 % 5)) n pt l1.1) (n / 4) py l3.1) (16 * (n / 4) + j) = pz_C (vp_updL (pz_mM x) (16 * n + i) (pz_cut N i w (pz_mM x (16 * n + i)))) (n / 4 % 5) (n / 4) j := by
        intro h3 j hj
        rw [pz_R_dwr]
        rw [pz_wr_in _ _ _ _ hj, h3, hpy j hj, hpt j hj, pz_C_par hsame hj, hM' j hj]
        rw [pz_drec_R, hCp j hj]
        generalize pz_C (pz_mM x) (n / 4 % 5) (n / 4) j = u
        generalize pz_mM x (16 * n + j) = v
        rw [show u ^^^ v ^^^ bl j = bl j ^^^ (u ^^^ v) from Int64.xor_comm _ _, ← Int64.xor_comm (pz_cut N j (bl j) v), ← pz_cut_xor]
        congr 1
        rw [Int64.xor_comm u v, ← Int64.xor_assoc, Int64.xor_self, Int64.xor_comm, Int64.xor_zero]
      by_cases hb : n / 4 < pz_th (dk (pz_dn n))
      · rcases a3 (decide_eq_true ha) (decide_eq_true hb) with g | ⟨g1, g2⟩
        · exact Or.inl (hrow g)
        · right
          refine ⟨by simp [g1], ?_, hb⟩
          rw [pz_rb_dwr]
          unfold pz_drec
          rw [if_neg (by omega)]
      · exact Or.inl (hrow (a2 (decide_eq_true ha) (decide_eq_false hb)))
    · rw [e3]
      by_cases ha : n / 4 < pz_th (dk (n / 4 % 5))
      · rw [if_pos (decide_eq_true ha)]
        by_cases g : l1.1 < 136
        · left
          rw [pz_rb_dwr]
          unfold pz_drec
          rw [if_pos g]
        · right; left
          refine ⟨ha, ?_, fun j hj => ?_⟩
          · rw [pz_rb_dwr]
            unfold pz_drec
            rw [if_neg g]
          · rw [pz_rc_dwr]
            unfold pz_drec
            rw [if_neg g]
            show va_cpy pt _ 0 0 16 j = _
            rw [pk_cpy_in (Nat.zero_le _) (by omega), show 0 + (j - 0) = j by omega, hpt j hj]
            congr 1
            exact hIC.row hp5 hs ha hj (Or.inl fun k => k)
      · right; right
        rw [if_neg (by simp [ha])]
        exact ⟨ha, rfl, rfl⟩
  · obtain ⟨s1, s2, s3⟩ := h.2.1
    refine ⟨fun d hd hne => ?_, fun d hd => ?_, s3⟩
    · rw [(hth d hd).1, (hth d hd).2]; exact s1 d hd hne
    · have h5 := (s2 d hd).1
      rw [(hth d h5).1, (hth d h5).2]; exact s2 d hd
  · rw [e1]; exact a4
end
section
/-! recover, die, replace, rebuild, power, check -/
def pz_mend (x : (Nat → pz_Dk) × pz_Su) (d : Nat) : (Nat → pz_Dk) × pz_Su := match pz_rb (x.1 d) with
  | none => x
  | some n => if n / 4 < pz_th (x.1 (pz_dn n)) then (va_up x.1 d (pz_dwr (x.1 d) (n / 4) (fun j => pz_rc (x.1 d) j ^^^ pz_R (x.1 (pz_dn n)) (16 * (n / 4) + j)) (pz_let 128 x.2).1), (pz_let 128 x.2).2) else x
def pz_rcv (x : (Nat → pz_Dk) × pz_Su) : Nat → (Nat → pz_Dk) × pz_Su
  | 0 => x
  | k + 1 => pz_mend (pz_rcv x k) k
theorem pz_rcv_s (x : (Nat → pz_Dk) × pz_Su) (k : Nat) : pz_rcv x (k + 1) = pz_mend (pz_rcv x k) k := rfl
theorem pz_let_keep (k : Nat) (x : pz_Su) : pz_pl (pz_let k x).2 = pz_pl x ∧ pz_pr (pz_let k x).2 = pz_pr x ∧ pz_cw (pz_let k x).2 = pz_cw x ∧ pz_cb (pz_let k x).2 = pz_cb x ∧ pz_fa (pz_let k x).2 = pz_fa x := by
  unfold pz_let
  split
  · exact ⟨rfl, rfl, rfl, rfl, rfl⟩
  · split <;> exact ⟨rfl, rfl, rfl, rfl, rfl⟩
theorem pz_let_nf (k : Nat) (x : pz_Su) (h1 : pz_fa x = false) (h2 : pz_on x = true) : (pz_let k x).1 = k ∧ pz_on (pz_let k x).2 = true := by
  unfold pz_let
  rw [if_neg (by rw [h2]; simp), if_neg (by rw [h1]; simp)]
  exact ⟨rfl, h2⟩
theorem pz_rcv_ok {x : (Nat → pz_Dk) × pz_Su} {M : Nat → Int64} {ex : Nat → Prop} (h : pz_IC x.1 M ex) : ∀ k, k ≤ 5 → pz_IC (pz_rcv x k).1 M (fun _ => True) ∧ (∀ d, pz_th ((pz_rcv x k).1 d) = pz_th (x.1 d) ∧ pz_dd ((pz_rcv x k).1 d) = pz_dd (x.1 d)) ∧
    (pz_pl (pz_rcv x k).2 = pz_pl x.2 ∧ pz_pr (pz_rcv x k).2 = pz_pr x.2 ∧ pz_cw (pz_rcv x k).2 = pz_cw x.2 ∧ pz_cb (pz_rcv x k).2 = pz_cb x.2 ∧ pz_fa (pz_rcv x k).2 = pz_fa x.2) ∧
    (pz_fa x.2 = false → pz_on x.2 = true → pz_on (pz_rcv x k).2 = true ∧ pz_IC (pz_rcv x k).1 M (fun e => k ≤ e))
  | 0, _ => ⟨h.ex fun _ _ _ => trivial, fun _ => ⟨rfl, rfl⟩, ⟨rfl, rfl, rfl, rfl, rfl⟩, fun _ h2 => ⟨h2, h.ex fun _ _ _ => Nat.zero_le _⟩⟩
  | k + 1, hk => by
    obtain ⟨i1, i2, i3, i4⟩ := pz_rcv_ok h k (by omega)
    rw [pz_rcv_s]
    generalize pz_rcv x k = r at i1 i2 i3 i4
    unfold pz_mend
    cases hr : pz_rb (r.1 k) with
    | none =>
      refine ⟨i1, i2, i3, fun g1 g2 => ?_⟩
      obtain ⟨j1, j2⟩ := i4 g1 g2
      refine ⟨j1, (j2.skip (d := k) fun n hn => ?_).ex fun e _ g => by omega⟩
      rw [hr] at hn; cases hn
    | some n =>
      by_cases c : n / 4 < pz_th (r.1 (pz_dn n))
      · simp only [if_pos c]
        have kp := pz_let_keep 128 r.2
        refine ⟨(i1.mend (by omega) hr c).1, fun d => ?_, ⟨kp.1.trans i3.1, kp.2.1.trans i3.2.1, kp.2.2.1.trans i3.2.2.1, kp.2.2.2.1.trans i3.2.2.2.1, kp.2.2.2.2.trans i3.2.2.2.2⟩, fun g1 g2 => ?_⟩
        · by_cases e : d = k
          · subst e; rw [pz_up_s]; exact i2 d
          · rw [pz_up_n _ _ e]; exact i2 d
        · obtain ⟨j1, j2⟩ := i4 g1 g2
          have nf := pz_let_nf 128 r.2 (i3.2.2.2.2.trans g1) j1
          refine ⟨nf.2, ((j2.mend (b := (pz_let 128 r.2).1) (by omega) hr c).2 (by rw [nf.1]; omega)).ex fun e _ g => by omega⟩
      · simp only [if_neg c]
        refine ⟨i1, i2, i3, fun g1 g2 => ?_⟩
        obtain ⟨j1, j2⟩ := i4 g1 g2
        refine ⟨j1, (j2.skip (d := k) fun m hm => ?_).ex fun e _ g => by omega⟩
        rw [hr] at hm; cases hm; exact c
def pz_mrec (x : pz_Mu) : pz_Mu := (pz_mM x, decide (pz_mF x ≠ 2), pz_ms x, pz_mf x, pz_mr x, 0, pz_mw x, pz_mc x)
theorem pz_Inv.rec {dk : Nat → pz_Dk} {su : pz_Su} {x : pz_Mu} (h : pz_Inv dk su x) : pz_Inv (pz_rcv (dk, pz_beg true (true, su.2)) 5).1 (pz_fgt (pz_end (pz_rcv (dk, pz_beg true (true, su.2)) 5).2)) (pz_mrec x) := by
  obtain ⟨h1, ⟨s1, s2, s3⟩, p1, p2, p3, p4, p5, p6⟩ := h
  obtain ⟨i1, i2, i3, i4⟩ := pz_rcv_ok (x := (dk, pz_beg true (true, su.2))) h1 5 (Nat.le_refl _)
  generalize pz_rcv (dk, pz_beg true (true, su.2)) 5 = r at i1 i2 i3 i4 ⊢
  have hfa : pz_fa r.2 = decide (pz_mF x = 2) := by
    rw [i3.2.2.2.2, p2]
    show (pz_pl su && (pz_pr su == true)) = _
    cases pz_pl su <;> cases pz_pr su <;> simp
  refine ⟨?_, ⟨fun d hd hne => ?_, fun d hd => ?_, s3⟩, ?_⟩
  · by_cases c : pz_mF x = 2
    · exact i1.ex fun _ _ _ => by simp [pz_mrec, c]
    · have f0 : pz_fa (pz_beg true (true, su.2)) = false := by rw [← i3.2.2.2.2, hfa]; simp [c]
      exact (i4 f0 rfl).2.ex fun e he g => by omega
  · rw [(i2 d).1, (i2 d).2]; exact s1 d hd hne
  · rw [(i2 d).1, (i2 d).2]; exact s2 d hd
  · by_cases c : pz_mF x = 2
    · have e : pz_end r.2 = (false, false, r.2.2.2.1, r.2.2.2.2.1, r.2.2.2.2.2.1, false, r.2.2.2.2.2.2.2) := by unfold pz_end; rw [if_pos (by rw [hfa]; simp [c])]
      rw [e]
      exact ⟨by simp [pz_mrec, c, pz_fgt], rfl, i3.2.2.1.trans p3, i3.2.2.2.1.trans p4, p5, p6⟩
    · have e : pz_end r.2 = r.2 := by unfold pz_end; rw [if_neg (by rw [hfa]; simp [c])]
      have f0 : pz_fa (pz_beg true (true, su.2)) = false := by rw [← i3.2.2.2.2, hfa]; simp [c]
      rw [e]
      exact ⟨((i4 f0 rfl).1).trans (by simp [pz_mrec, c]), rfl, i3.2.2.1.trans p3, i3.2.2.2.1.trans p4, p5, p6⟩
def pz_mdie (x : pz_Mu) (d : Nat) : pz_Mu := (pz_mM x, pz_mo x, some d, false, 0, x.2.2.2.2.2)
theorem pz_Inv.die {dk : Nat → pz_Dk} {su : pz_Su} {x : pz_Mu} (h : pz_Inv dk su x) (hon : pz_mo x = true) (hs : pz_ms x = none) {d : Nat} (hd : d < 5) {r : Nat → Int64} : pz_Inv (va_up dk d (fun _ => 0, r, none, true, 0)) su (pz_mdie x d) := by
  have hIC := h.IC hon
  obtain ⟨h1, ⟨s1, s2, s3⟩, hp⟩ := h
  refine ⟨hIC.die.ex fun _ _ g => g.elim, ⟨fun e he hne => ?_, fun e he => ?_, fun g => by cases g⟩, hp⟩
  · have c : e ≠ d := fun c => hne (by rw [c]; rfl)
    rw [pz_up_n _ _ c]
    exact s1 e he (by rw [hs]; exact fun g => by cases g)
  · have c : d = e := Option.some.inj he
    subst c
    rw [pz_up_s]
    exact ⟨hd, by show 0 < 150; omega, rfl, rfl, fun _ => rfl⟩
def pz_mrep (x : pz_Mu) : pz_Mu := (pz_mM x, pz_mo x, pz_ms x, true, x.2.2.2.2)
theorem pz_Inv.rep {dk : Nat → pz_Dk} {su : pz_Su} {x : pz_Mu} (h : pz_Inv dk su x) {d : Nat} (hs : pz_ms x = some d) : pz_Inv (va_up dk d (pz_R (dk d), pz_rc (dk d), pz_rb (dk d), false, pz_th (dk d))) su (pz_mrep x) := by
  obtain ⟨h1, ⟨s1, s2, s3⟩, hp⟩ := h
  have key : ∀ e, pz_R (va_up dk d (pz_R (dk d), pz_rc (dk d), pz_rb (dk d), false, pz_th (dk d)) e) = pz_R (dk e) ∧ pz_rc (va_up dk d (pz_R (dk d), pz_rc (dk d), pz_rb (dk d), false, pz_th (dk d)) e) = pz_rc (dk e) ∧ pz_rb (va_up dk d (pz_R (dk d), pz_rc (dk d), pz_rb (dk d), false, pz_th (dk d)) e) = pz_rb (dk e) ∧ pz_th (va_up dk d (pz_R (dk d), pz_rc (dk d), pz_rb (dk d), false, pz_th (dk d)) e) = pz_th (dk e) := by
    intro e
    by_cases c : e = d
    · subst c; rw [pz_up_s]; exact ⟨rfl, rfl, rfl, rfl⟩
    · rw [pz_up_n _ _ c]; exact ⟨rfl, rfl, rfl, rfl⟩
  refine ⟨⟨fun e s he hsl hte => ?_, fun e n he hrb => ?_⟩, ⟨fun e he hne => ?_, fun e he => ?_, fun g => ?_⟩, hp⟩
  · rw [(key e).1, (key e).2.2.1]
    rw [(key e).2.2.2] at hte
    rcases h1.1 e s he hsl hte with g | ⟨g1, g2, n, g3, g4, g5⟩
    · exact Or.inl g
    · exact Or.inr ⟨g1, g2, n, g3, g4, by rw [(key _).2.2.2]; exact g5⟩
  · rw [(key e).2.2.1] at hrb
    rw [(key e).2.1, (key e).2.2.2]
    exact h1.2 e n he hrb
  · have c : e ≠ d := fun c => hne (by rw [c]; exact hs)
    rw [pz_up_n _ _ c]
    exact s1 e he hne
  · have c : d = e := Option.some.inj (hs.symm.trans he)
    subst c
    rw [pz_up_s]
    obtain ⟨k1, k2, k3, k4, k5⟩ := s2 d hs
    exact ⟨k1, k2, k3, rfl, fun g => by cases g⟩
  · rw [show pz_ms (pz_mrep x) = pz_ms x from rfl, hs] at g; cases g
def pz_mreb (x : pz_Mu) : pz_Mu := if pz_mr x + 1 = 150 then (pz_mM x, pz_mo x, none, false, 0, x.2.2.2.2.2) else (pz_mM x, pz_mo x, pz_ms x, pz_mf x, pz_mr x + 1, x.2.2.2.2.2)
theorem pz_Inv.reb {dk : Nat → pz_Dk} {su : pz_Su} {x : pz_Mu} (h : pz_Inv dk su x) (hon : pz_mo x = true) {d : Nat} (hs : pz_ms x = some d) (hf : pz_mf x = true) {row : Nat → Int64} (hrow : ∀ j, j < 16 → row j = pz_oth (fun e => pz_R (dk e) (16 * pz_th (dk d) + j)) d 5) :
    pz_Inv (va_up dk d (pz_wr (pz_R (dk d)) (pz_th (dk d)) row 128, (dk d).2.1, (dk d).2.2.1, (dk d).2.2.2.1, pz_th (dk d) + 1)) su (pz_mreb x) := by
  have hIC := h.IC hon
  obtain ⟨h1, ⟨s1, s2, s3⟩, hp⟩ := h
  obtain ⟨k1, k2, k3, k4, k5⟩ := s2 d hs
  have ho : ∀ e, e < 5 → e ≠ d → pz_th (dk e) = 150 := fun e he hne => (s1 e he (fun g => hne (Option.some.inj (g.symm.trans hs)))).1
  have hIC2 := hIC.reb (x := (pz_wr (pz_R (dk d)) (pz_th (dk d)) row 128, (dk d).2.1, (dk d).2.2.1, (dk d).2.2.2.1, pz_th (dk d) + 1)) k1 (by omega) ho (row := row) (fun j hj => by
    rw [hrow j hj]
    exact hIC.oth k1 (by omega) hj fun e he hne => by rw [ho e he hne]; omega) rfl
  have hdd : pz_dd (dk d) = false := by rw [k4, hf]; rfl
  unfold pz_mreb
  by_cases c : pz_mr x + 1 = 150
  · rw [if_pos c]
    refine ⟨hIC2.ex fun _ _ g => g.elim, ⟨fun e he hne => ?_, fun e he => (by cases he), fun _ => ⟨rfl, rfl⟩⟩, hp⟩
    by_cases ce : e = d
    · subst ce; rw [pz_up_s]; exact ⟨by show pz_th (dk e) + 1 = 150; omega, hdd⟩
    · rw [pz_up_n _ _ ce]; exact s1 e he (fun g => ce (Option.some.inj (g.symm.trans hs)))
  · rw [if_neg c]
    refine ⟨hIC2.ex fun _ _ g => g.elim, ⟨fun e he hne => ?_, fun e he => ?_, fun g => ?_⟩, hp⟩
    · have ce : e ≠ d := fun ce => hne (by rw [ce]; exact hs)
      rw [pz_up_n _ _ ce]; exact s1 e he hne
    · have ce : d = e := Option.some.inj (hs.symm.trans he)
      subst ce
      rw [pz_up_s]
      exact ⟨k1, by show pz_mr x + 1 < 150; omega, by show pz_th (dk d) + 1 = pz_mr x + 1; omega, k4, fun g => by rw [show pz_mf x = true from hf] at g; cases g⟩
    · rw [show pz_ms x = none from g] at hs; cases hs
def pz_mpow (x : pz_Mu) (k b : Nat) (r : Bool) : pz_Mu := (pz_mM x, pz_mo x, pz_ms x, pz_mf x, pz_mr x, (if r = true then 2 else 1), k, b)
theorem pz_Inv.pow {dk : Nat → pz_Dk} {su : pz_Su} {x : pz_Mu} (h : pz_Inv dk su x) {k b : Nat} (hk : k ≤ 10) (hb : b ≤ 200) (r : Bool) : pz_Inv dk (pz_on su, true, r, k, b, pz_fa su, pz_wc su) (pz_mpow x k b r) := by
  obtain ⟨h1, h2, p1, _⟩ := h
  exact ⟨h1, h2, p1, by cases r <;> rfl, rfl, rfl, hk, hb⟩
theorem pz_Inv.chk {dk : Nat → pz_Dk} {su : pz_Su} {x : pz_Mu} (h : pz_Inv dk su x) (hon : pz_mo x = true) (hs : pz_ms x = none) {s j : Nat} (hsl : s < 150) (hj : j < 16) : pz_R (dk (s % 5)) (16 * s + j) = pz_oth (fun e => pz_R (dk e) (16 * s + j)) (s % 5) 5 := by
  have hIC := h.IC hon
  have ho : ∀ e, e < 5 → s < pz_th (dk e) := fun e he => by
    rw [(h.2.1.1 e he (by rw [hs]; exact fun g => by cases g)).1]; omega
  rw [hIC.oth (by omega) hsl hj fun e he _ => ho e he]
  exact hIC.row (by omega) hsl (ho _ (by omega)) hj (Or.inl fun k => k)
/-- the start -/
theorem pz_Inv.new {dk : Nat → pz_Dk} (h : ∀ d, d < 5 → dk d = (fun _ => 0, fun _ => 0, none, false, 150)) : pz_Inv dk (true, false, false, 0, 0, false, 0) (fun _ => 0, true, none, false, 0, 0, 0, 0) := by
  refine ⟨⟨fun d s hd hsl _ => ?_, fun d n hd hrb => ?_⟩, ⟨fun d hd _ => ?_, fun d hd => (by cases hd), fun _ => ⟨rfl, rfl⟩⟩, ⟨rfl, rfl, rfl, rfl, Nat.zero_le _, Nat.zero_le _⟩⟩
  · left
    intro j hj
    rw [h d hd]
    show (0 : Int64) = pz_C (fun _ => 0) d s j
    unfold pz_C
    split
    · show (0 : Int64) = 0 ^^^ 0 ^^^ 0 ^^^ 0
      decide
    · rfl
  · rw [h d hd] at hrb; cases hrb
  · rw [h d hd]; exact ⟨rfl, rfl⟩
end
section
/-! numbers of the reference -/
def pz_isL (n i : Int32) : Bool := decide (0 ≤ n ∧ n < nI 600 ∧ 0 ≤ i ∧ i < nI 16)
def pz_By (f : Nat → Int32) (M : Nat → Int64) : Prop := ∀ q k, q < 9600 → k < 8 → f (8 * q + k) = pz_by (M q) k
theorem pz_om1 {o : Option Nat} (h : ∀ e, o = some e → e < 600) : pz_o o = -1 ↔ o = none := by
  cases o with
  | none => exact ⟨fun _ => rfl, fun _ => rfl⟩
  | some e =>
    constructor
    · intro h1
      have h2 : (nI e).toInt = (-1 : Int32).toInt := congrArg Int32.toInt h1
      have h3 := h e rfl
      rw [nI_toInt (by omega), show (-1 : Int32).toInt = -1 from by decide] at h2
      omega
    · intro h1; cases h1
theorem pz_oeq {o : Option Nat} {d : Nat} (hd : d < 600) (h : ∀ e, o = some e → e < 600) : pz_o o = nI d ↔ o = some d := by
  cases o with
  | none =>
    constructor
    · intro h1
      have h2 : (-1 : Int32).toInt = (nI d).toInt := congrArg Int32.toInt h1
      rw [nI_toInt (by omega), show (-1 : Int32).toInt = -1 from by decide] at h2
      omega
    · intro h1; cases h1
  | some e =>
    have h3 := h e rfl
    constructor
    · intro h1
      rw [(nI_eq (by omega) (by omega)).mp h1]
    · intro h1; cases h1; rfl
theorem pz_isL_of {n i : Int32} (h : pz_isL n i = true) : ∃ n0 i0 : Nat, n0 < 600 ∧ i0 < 16 ∧ n = nI n0 ∧ i = nI i0 := by
  obtain ⟨h1, h2, h3, h4⟩ := of_decide_eq_true h
  rcases pk_ix n (show 600 < 2 ^ 31 by decide) with a | a | ⟨n0, a1, a2⟩
  · exact absurd h1 (Int32.not_le.mpr a)
  · exact absurd h2 (Int32.not_lt.mpr a)
  · rcases pk_ix i (show 16 < 2 ^ 31 by decide) with b | b | ⟨i0, b1, b2⟩
    · exact absurd h3 (Int32.not_le.mpr b)
    · exact absurd h4 (Int32.not_lt.mpr b)
    · exact ⟨n0, i0, a1, b1, a2, b2⟩
theorem pz_isL_nI {n0 i0 : Nat} (h1 : n0 < 600) (h2 : i0 < 16) : pz_isL (nI n0) (nI i0) = true := decide_eq_true ⟨nI_pos' (by omega), nI_lt h1 (by decide), nI_pos' (by omega), nI_lt h2 (by decide)⟩
/-- the bytes that a set of the reference leaves, k of the long's eight done -/
def pz_Bk (f : Nat → Int32) (M : Nat → Int64) (Q now i : Nat) (w : Int64) (k : Nat) : Prop := ∀ q t, q < 9600 → t < 8 → f (8 * q + t) = if q = Q ∧ t < k ∧ 8 * i + t < now then pz_by w t else pz_by (M q) t
theorem pz_Bk_0 {f : Nat → Int32} {M : Nat → Int64} (h : pz_By f M) (Q now i : Nat) (w : Int64) : pz_Bk f M Q now i w 0 := fun q t hq ht => by
  rw [if_neg (by omega)]; exact h q t hq ht
theorem pz_Bk_8 {f : Nat → Int32} {M : Nat → Int64} {Q now i : Nat} {w : Int64} (h : pz_Bk f M Q now i w 8) : pz_By f (vp_updL M Q (pz_cut now i w (M Q))) := fun q t hq ht => by
  rw [h q t hq ht]
  by_cases e : q = Q
  · subst e
    rw [pk_uLs, pz_by_cut now i w _ ht]
    by_cases g : 8 * i + t < now
    · rw [if_pos g, if_pos ⟨rfl, ht, g⟩]
    · rw [if_neg g, if_neg (by omega)]
  · rw [pk_uLn e, if_neg (by omega)]
theorem pz_Bk_put {f : Nat → Int32} {M : Nat → Int64} {Q now i : Nat} {w : Int64} {k : Nat} (h : pz_Bk f M Q now i w k) (hk : k < 8) (g : 8 * i + k < now) : pz_Bk (upd f (8 * Q + k) (pz_by w k)) M Q now i w (k + 1) := fun q t hq ht => by
  by_cases e : 8 * q + t = 8 * Q + k
  · have e1 : q = Q := by omega
    have e2 : t = k := by omega
    subst e1 e2
    rw [pk_us, if_pos ⟨rfl, by omega, g⟩]
  · rw [pk_un e, h q t hq ht]
    by_cases c : q = Q ∧ t < k ∧ 8 * i + t < now
    · rw [if_pos c, if_pos ⟨c.1, by omega, c.2.2⟩]
    · rw [if_neg c, if_neg (by omega)]
theorem pz_Bk_skip {f : Nat → Int32} {M : Nat → Int64} {Q now i : Nat} {w : Int64} {k : Nat} (h : pz_Bk f M Q now i w k) (g : ¬ 8 * i + k < now) : pz_Bk f M Q now i w (k + 1) := fun q t hq ht => by
  rw [h q t hq ht]
  by_cases c : q = Q ∧ t < k ∧ 8 * i + t < now
  · rw [if_pos c, if_pos ⟨c.1, by omega, c.2.2⟩]
  · rw [if_neg c, if_neg]
    intro h9
    exact c ⟨h9.1, Classical.byContradiction fun h8 => g (by rw [show k = t by omega]; exact h9.2.2), h9.2.2⟩
end
section
-- ===== PART A: goes FIRST, ahead of the names: the tables' words, and 'selects' of the private methods out of them =====
/-- a private method of a class that the tables say can be made, by its rows of tables_1 -/
def lw_okq (q : MethodName × Nat) : Prop := (q.1.cls ≠ "java/lang/invoke/MethodHandle" ∧ q.1.cls ≠ "java/lang/invoke/VarHandle") ∧ Cond.instantiable q.1.cls q.2 ∈ tables_1 ∧ Cond.privateMethod q.1 ∈ tables_1 ∧ Cond.instanceMethod q.1 ∈ tables_1
theorem lw_p0 : lw_okq (⟨"java/lang/Throwable", "fillInStackTrace", "(I)Ljava/lang/Throwable;"⟩, 6) := ⟨⟨by decide +kernel, by decide +kernel⟩, List.mem_of_getElem? (i := 146) (by decide +kernel), List.mem_of_getElem? (i := 144) (by decide +kernel), List.mem_of_getElem? (i := 145) (by decide +kernel)⟩
theorem lw_p1 : lw_okq (⟨"ParityArray", "readLong", "(II)J"⟩, 5) := ⟨⟨by decide +kernel, by decide +kernel⟩, List.mem_of_getElem? (i := 16) (by decide +kernel), List.mem_of_getElem? (i := 195) (by decide +kernel), List.mem_of_getElem? (i := 196) (by decide +kernel)⟩
theorem lw_p2 : lw_okq (⟨"ParityArray", "othersTogether", "(III)J"⟩, 5) := ⟨⟨by decide +kernel, by decide +kernel⟩, List.mem_of_getElem? (i := 16) (by decide +kernel), List.mem_of_getElem? (i := 216) (by decide +kernel), List.mem_of_getElem? (i := 217) (by decide +kernel)⟩
theorem lw_p3 : lw_okq (⟨"ParityArray", "prepareRows", "(IIJ)V"⟩, 5) := ⟨⟨by decide +kernel, by decide +kernel⟩, List.mem_of_getElem? (i := 16) (by decide +kernel), List.mem_of_getElem? (i := 220) (by decide +kernel), List.mem_of_getElem? (i := 221) (by decide +kernel)⟩
theorem lw_p4 : lw_okq (⟨"ParityArray", "writeRows", "(I)V"⟩, 5) := ⟨⟨by decide +kernel, by decide +kernel⟩, List.mem_of_getElem? (i := 16) (by decide +kernel), List.mem_of_getElem? (i := 228) (by decide +kernel), List.mem_of_getElem? (i := 229) (by decide +kernel)⟩
theorem lw_p5 : lw_okq (⟨"ParityArray", "unwellDisk", "()I"⟩, 5) := ⟨⟨by decide +kernel, by decide +kernel⟩, List.mem_of_getElem? (i := 16) (by decide +kernel), List.mem_of_getElem? (i := 286) (by decide +kernel), List.mem_of_getElem? (i := 287) (by decide +kernel)⟩
theorem lw_p6 : lw_okq (⟨"ParityArray", "rebuildStripe", "(II)V"⟩, 5) := ⟨⟨by decide +kernel, by decide +kernel⟩, List.mem_of_getElem? (i := 16) (by decide +kernel), List.mem_of_getElem? (i := 318) (by decide +kernel), List.mem_of_getElem? (i := 319) (by decide +kernel)⟩
theorem lw_p7 : lw_okq (⟨"ParityArray", "mendParity", "(LParityArray$Disk;)V"⟩, 5) := ⟨⟨by decide +kernel, by decide +kernel⟩, List.mem_of_getElem? (i := 16) (by decide +kernel), List.mem_of_getElem? (i := 358) (by decide +kernel), List.mem_of_getElem? (i := 359) (by decide +kernel)⟩
theorem lw_p8 : lw_okq (⟨"ParityArray", "isParityRight", "(I)Z"⟩, 5) := ⟨⟨by decide +kernel, by decide +kernel⟩, List.mem_of_getElem? (i := 16) (by decide +kernel), List.mem_of_getElem? (i := 381) (by decide +kernel), List.mem_of_getElem? (i := 382) (by decide +kernel)⟩
theorem lw_p9 : lw_okq (⟨"ParityArrayModel", "fails", "(I)I"⟩, 9) := ⟨⟨by decide +kernel, by decide +kernel⟩, List.mem_of_getElem? (i := 385) (by decide +kernel), List.mem_of_getElem? (i := 428) (by decide +kernel), List.mem_of_getElem? (i := 429) (by decide +kernel)⟩
theorem lw_p10 : lw_okq (⟨"ParityArrayModel", "read", "(I)J"⟩, 9) := ⟨⟨by decide +kernel, by decide +kernel⟩, List.mem_of_getElem? (i := 385) (by decide +kernel), List.mem_of_getElem? (i := 432) (by decide +kernel), List.mem_of_getElem? (i := 433) (by decide +kernel)⟩
theorem lw_p11 : lw_okq (⟨"ParityArrayModel", "fresh", "(I)I"⟩, 9) := ⟨⟨by decide +kernel, by decide +kernel⟩, List.mem_of_getElem? (i := 385) (by decide +kernel), List.mem_of_getElem? (i := 436) (by decide +kernel), List.mem_of_getElem? (i := 437) (by decide +kernel)⟩
theorem lw_p12 : lw_okq (⟨"ParityArrayModel", "isThere", "(II)Z"⟩, 9) := ⟨⟨by decide +kernel, by decide +kernel⟩, List.mem_of_getElem? (i := 385) (by decide +kernel), List.mem_of_getElem? (i := 440) (by decide +kernel), List.mem_of_getElem? (i := 441) (by decide +kernel)⟩
def lw_privs_1 : List (MethodName × Nat) := [(⟨"java/lang/Throwable", "fillInStackTrace", "(I)Ljava/lang/Throwable;"⟩, 6), (⟨"ParityArray", "readLong", "(II)J"⟩, 5), (⟨"ParityArray", "othersTogether", "(III)J"⟩, 5), (⟨"ParityArray", "prepareRows", "(IIJ)V"⟩, 5), (⟨"ParityArray", "writeRows", "(I)V"⟩, 5), (⟨"ParityArray", "unwellDisk", "()I"⟩, 5), (⟨"ParityArray", "rebuildStripe", "(II)V"⟩, 5), (⟨"ParityArray", "mendParity", "(LParityArray$Disk;)V"⟩, 5), (⟨"ParityArray", "isParityRight", "(I)Z"⟩, 5), (⟨"ParityArrayModel", "fails", "(I)I"⟩, 9), (⟨"ParityArrayModel", "read", "(I)J"⟩, 9), (⟨"ParityArrayModel", "fresh", "(I)I"⟩, 9), (⟨"ParityArrayModel", "isThere", "(II)Z"⟩, 9)]
theorem lw_r1 : ∀ q ∈ lw_privs_1, lw_okq q := List.forall_mem_cons.mpr ⟨lw_p0, List.forall_mem_cons.mpr ⟨lw_p1, List.forall_mem_cons.mpr ⟨lw_p2, List.forall_mem_cons.mpr ⟨lw_p3, List.forall_mem_cons.mpr ⟨lw_p4, List.forall_mem_cons.mpr ⟨lw_p5, List.forall_mem_cons.mpr ⟨lw_p6, List.forall_mem_cons.mpr ⟨lw_p7, List.forall_mem_cons.mpr ⟨lw_p8, List.forall_mem_cons.mpr ⟨lw_p9, List.forall_mem_cons.mpr ⟨lw_p10, List.forall_mem_cons.mpr ⟨lw_p11, List.forall_mem_cons.mpr ⟨lw_p12, fun _ h => absurd h List.not_mem_nil⟩⟩⟩⟩⟩⟩⟩⟩⟩⟩⟩⟩⟩
def lw_privs : List (MethodName × Nat) := lw_privs_1
def lw_tbl : List Cond := k2_sels lw_privs ++ tables_1
theorem lw_privs_ok : ∀ q ∈ lw_privs, lw_okq q := lw_r1
/-! names, fields, words, decode rows (written by a program) -/
def pz_G : List Cond := lw_tbl.filter goodWord
theorem pz_G_good {w : Cond} (h : w ∈ pz_G) : goodWord w = true := (List.mem_filter.mp h).2
theorem pz_gi {a b : Cond} (hb : b ∈ pz_G) : GoodIn (a :: pz_G) (b :: pz_G) := fun w hw => by
  rcases List.mem_cons.mp hw with h | h
  · rw [h]; exact ⟨List.mem_cons_of_mem _ hb, good_of_word (pz_G_good hb)⟩
  · exact ⟨List.mem_cons_of_mem _ h, good_of_word (pz_G_good h)⟩
theorem pz_gc {big ws : List Cond} {x : Cond} (hx : x ∈ big) (hg : goodWord x = true) (h : GoodIn big ws) : GoodIn big (x :: ws) := fun w hw => by
  rcases List.mem_cons.mp hw with e | e
  · rw [e]; exact ⟨hx, good_of_word hg⟩
  · exact h w e
theorem pz_gl {b : Cond} (hb : b ∈ pz_G) : GoodIn lw_tbl (b :: pz_G) := fun w hw => by
  rcases List.mem_cons.mp hw with h | h
  · rw [h]; exact ⟨(List.mem_filter.mp hb).1, good_of_word (pz_G_good hb)⟩
  · exact ⟨(List.mem_filter.mp h).1, good_of_word (pz_G_good h)⟩
def TXD : u_T := fun k => match k with
  | 0 => ("ParityArray$Disk", "rows", "[J", true)
  | 1 => ("ParityArray$Disk", "record", "[J", true)
  | 2 => ("ParityArray$Disk", "recordBlock", "I", false)
  | 3 => ("ParityArray$Disk", "dead", "Z", false)
  | _ => ("ParityArray$Disk", "there", "I", false)
def tyXD : Nat → FieldType := fun k => match k with
  | 0 => .array .long
  | 1 => .array .long
  | 2 => .int
  | 3 => .boolean
  | _ => .int
theorem nmXD : ∀ a, a < 5 → ∀ b, b < 5 → a ≠ b → (TXD a).2.1 ≠ (TXD b).2.1 := by decide +kernel
theorem tyXD_ok : ∀ k, k < 5 → parseFieldDescriptor (TXD k).2.2.1 = some (tyXD k) := by decide +kernel
theorem inXD : ∀ w ∈ u_ws "ParityArray$Disk" TXD 5, w ∈ pz_G := by decide +kernel
def TXS : u_T := fun k => match k with
  | 0 => ("ParityArray$Supply", "on", "Z", false)
  | 1 => ("ParityArray$Supply", "planned", "Z", false)
  | 2 => ("ParityArray$Supply", "plannedInRecover", "Z", false)
  | 3 => ("ParityArray$Supply", "cutWrite", "I", false)
  | 4 => ("ParityArray$Supply", "cutBytes", "I", false)
  | 5 => ("ParityArray$Supply", "failing", "Z", false)
  | _ => ("ParityArray$Supply", "writes", "I", false)
def tyXS : Nat → FieldType := fun k => match k with
  | 0 => .boolean
  | 1 => .boolean
  | 2 => .boolean
  | 3 => .int
  | 4 => .int
  | 5 => .boolean
  | _ => .int
theorem nmXS : ∀ a, a < 7 → ∀ b, b < 7 → a ≠ b → (TXS a).2.1 ≠ (TXS b).2.1 := by decide +kernel
theorem tyXS_ok : ∀ k, k < 7 → parseFieldDescriptor (TXS k).2.2.1 = some (tyXS k) := by decide +kernel
theorem inXS : ∀ w ∈ u_ws "ParityArray$Supply" TXS 7, w ∈ pz_G := by decide +kernel
def TXP : u_T := fun k => match k with
  | 0 => ("ParityArray", "disks", "[LParityArray$Disk;", true)
  | 1 => ("ParityArray", "supply", "LParityArray$Supply;", true)
  | 2 => ("ParityArray", "block", "[J", true)
  | 3 => ("ParityArray", "partial", "[J", true)
  | _ => ("ParityArray", "parity", "[J", true)
def tyXP : Nat → FieldType := fun k => match k with
  | 0 => .array (.object "ParityArray$Disk")
  | 1 => .object "ParityArray$Supply"
  | 2 => .array .long
  | 3 => .array .long
  | _ => .array .long
theorem nmXP : ∀ a, a < 5 → ∀ b, b < 5 → a ≠ b → (TXP a).2.1 ≠ (TXP b).2.1 := by decide +kernel
theorem tyXP_ok : ∀ k, k < 5 → parseFieldDescriptor (TXP k).2.2.1 = some (tyXP k) := by decide +kernel
theorem inXP : ∀ w ∈ u_ws "ParityArray" TXP 5, w ∈ pz_G := by decide +kernel
def TXM : u_T := fun k => match k with
  | 0 => ("ParityArrayModel", "bytes", "[B", true)
  | 1 => ("ParityArrayModel", "on", "Z", false)
  | 2 => ("ParityArrayModel", "sick", "I", false)
  | 3 => ("ParityArrayModel", "fresh", "Z", false)
  | 4 => ("ParityArrayModel", "rebuilt", "I", false)
  | 5 => ("ParityArrayModel", "fails", "I", false)
  | 6 => ("ParityArrayModel", "write", "I", false)
  | 7 => ("ParityArrayModel", "cut", "I", false)
  | _ => ("ParityArrayModel", "thrown", "I", false)
def tyXM : Nat → FieldType := fun k => match k with
  | 0 => .array .byte
  | 1 => .boolean
  | 2 => .int
  | 3 => .boolean
  | 4 => .int
  | 5 => .int
  | 6 => .int
  | 7 => .int
  | _ => .int
theorem nmXM : ∀ a, a < 9 → ∀ b, b < 9 → a ≠ b → (TXM a).2.1 ≠ (TXM b).2.1 := by decide +kernel
theorem tyXM_ok : ∀ k, k < 9 → parseFieldDescriptor (TXM k).2.2.1 = some (tyXM k) := by decide +kernel
theorem inXM : ∀ w ∈ u_ws "ParityArrayModel" TXM 9, w ∈ pz_G := by decide +kernel
abbrev vwCl : List vw_C := [("ParityArray$Disk", TXD, 5), ("ParityArray$Supply", TXS, 7), ("ParityArray", TXP, 5), ("ParityArrayModel", TXM, 9)]
theorem tw_0 : (.initialized "ParityArrayLaw" : Cond) ∈ pz_G := List.mem_filter.mpr ⟨List.mem_append_right _ (List.mem_append_left _ (List.mem_of_getElem? (i := 0) (by decide +kernel))), by decide +kernel⟩
theorem tw_1 : (.initialized "ParityArray" : Cond) ∈ pz_G := List.mem_filter.mpr ⟨List.mem_append_right _ (List.mem_append_left _ (List.mem_of_getElem? (i := 1) (by decide +kernel))), by decide +kernel⟩
theorem tw_2 : (.initialized "ParityArray$Supply" : Cond) ∈ pz_G := List.mem_filter.mpr ⟨List.mem_append_right _ (List.mem_append_left _ (List.mem_of_getElem? (i := 2) (by decide +kernel))), by decide +kernel⟩
theorem tw_3 : (.initialized "ParityArray$Disk" : Cond) ∈ pz_G := List.mem_filter.mpr ⟨List.mem_append_right _ (List.mem_append_left _ (List.mem_of_getElem? (i := 3) (by decide +kernel))), by decide +kernel⟩
theorem tw_4 : (.initialized "ParityArrayModel" : Cond) ∈ pz_G := List.mem_filter.mpr ⟨List.mem_append_right _ (List.mem_append_left _ (List.mem_of_getElem? (i := 4) (by decide +kernel))), by decide +kernel⟩
theorem tw_5 : (.initialized "java/lang/Throwable" : Cond) ∈ pz_G := List.mem_filter.mpr ⟨List.mem_append_right _ (List.mem_append_left _ (List.mem_of_getElem? (i := 5) (by decide +kernel))), by decide +kernel⟩
theorem tw_6 : (.initialized "java/lang/Exception" : Cond) ∈ pz_G := List.mem_filter.mpr ⟨List.mem_append_right _ (List.mem_append_left _ (List.mem_of_getElem? (i := 6) (by decide +kernel))), by decide +kernel⟩
theorem tw_7 : (.initialized "java/lang/RuntimeException" : Cond) ∈ pz_G := List.mem_filter.mpr ⟨List.mem_append_right _ (List.mem_append_left _ (List.mem_of_getElem? (i := 7) (by decide +kernel))), by decide +kernel⟩
theorem tw_8 : (.initialized "java/lang/IllegalStateException" : Cond) ∈ pz_G := List.mem_filter.mpr ⟨List.mem_append_right _ (List.mem_append_left _ (List.mem_of_getElem? (i := 8) (by decide +kernel))), by decide +kernel⟩
theorem tw_9 : (.initialized "java/lang/IndexOutOfBoundsException" : Cond) ∈ pz_G := List.mem_filter.mpr ⟨List.mem_append_right _ (List.mem_append_left _ (List.mem_of_getElem? (i := 9) (by decide +kernel))), by decide +kernel⟩
theorem tw_10 : (.initialized "java/lang/Math" : Cond) ∈ pz_G := List.mem_filter.mpr ⟨List.mem_append_right _ (List.mem_append_left _ (List.mem_of_getElem? (i := 10) (by decide +kernel))), by decide +kernel⟩
theorem tw_11 : (.initialized "java/lang/System" : Cond) ∈ pz_G := List.mem_filter.mpr ⟨List.mem_append_right _ (List.mem_append_left _ (List.mem_of_getElem? (i := 11) (by decide +kernel))), by decide +kernel⟩
theorem tw_12 : (.initialized "java/lang/ArithmeticException" : Cond) ∈ pz_G := List.mem_filter.mpr ⟨List.mem_append_right _ (List.mem_append_left _ (List.mem_of_getElem? (i := 12) (by decide +kernel))), by decide +kernel⟩
theorem tw_13 : (.initialized "java/util/Arrays" : Cond) ∈ pz_G := List.mem_filter.mpr ⟨List.mem_append_right _ (List.mem_append_left _ (List.mem_of_getElem? (i := 13) (by decide +kernel))), by decide +kernel⟩
theorem tw_14 : (.initialized "java/lang/IllegalArgumentException" : Cond) ∈ pz_G := List.mem_filter.mpr ⟨List.mem_append_right _ (List.mem_append_left _ (List.mem_of_getElem? (i := 14) (by decide +kernel))), by decide +kernel⟩
theorem tw_15 : (.classLink "ParityArrayLaw" 8 "ParityArray" : Cond) ∈ pz_G := List.mem_filter.mpr ⟨List.mem_append_right _ (List.mem_append_left _ (List.mem_of_getElem? (i := 15) (by decide +kernel))), by decide +kernel⟩
theorem tw_16 : (.instantiable "ParityArray" 5 : Cond) ∈ pz_G := List.mem_filter.mpr ⟨List.mem_append_right _ (List.mem_append_left _ (List.mem_of_getElem? (i := 16) (by decide +kernel))), by decide +kernel⟩
theorem tw_17 : (.methodLink "ParityArrayLaw" 50 ⟨"ParityArray", "<init>", "()V"⟩ : Cond) ∈ pz_G := List.mem_filter.mpr ⟨List.mem_append_right _ (List.mem_append_left _ (List.mem_of_getElem? (i := 17) (by decide +kernel))), by decide +kernel⟩
theorem tw_18 : (.instanceMethod ⟨"ParityArray", "<init>", "()V"⟩ : Cond) ∈ pz_G := List.mem_filter.mpr ⟨List.mem_append_right _ (List.mem_append_left _ (List.mem_of_getElem? (i := 18) (by decide +kernel))), by decide +kernel⟩
theorem tw_19 : (.code ⟨"ParityArray", "<init>", "()V"⟩ prog_1_method_1_code 2 (none : Option Jvm.ClassFile.FieldType) : Cond) ∈ pz_G := List.mem_filter.mpr ⟨List.mem_append_right _ (List.mem_append_left _ (List.mem_of_getElem? (i := 19) (by decide +kernel))), by decide +kernel⟩
theorem tw_20 : (.methodLink "ParityArray" 1 ⟨"java/lang/Object", "<init>", "()V"⟩ : Cond) ∈ pz_G := List.mem_filter.mpr ⟨List.mem_append_right _ (List.mem_append_left _ (List.mem_of_getElem? (i := 20) (by decide +kernel))), by decide +kernel⟩
theorem tw_21 : (.instanceMethod ⟨"java/lang/Object", "<init>", "()V"⟩ : Cond) ∈ pz_G := List.mem_filter.mpr ⟨List.mem_append_right _ (List.mem_append_left _ (List.mem_of_getElem? (i := 21) (by decide +kernel))), by decide +kernel⟩
theorem tw_22 : (.code ⟨"java/lang/Object", "<init>", "()V"⟩ object_method_1_code 1 (none : Option Jvm.ClassFile.FieldType) : Cond) ∈ pz_G := List.mem_filter.mpr ⟨List.mem_append_right _ (List.mem_append_left _ (List.mem_of_getElem? (i := 22) (by decide +kernel))), by decide +kernel⟩
theorem tw_23 : (.classLink "ParityArray" 9 "ParityArray$Disk" : Cond) ∈ pz_G := List.mem_filter.mpr ⟨List.mem_append_right _ (List.mem_append_left _ (List.mem_of_getElem? (i := 23) (by decide +kernel))), by decide +kernel⟩
theorem tw_25 : (.classLink "ParityArray" 15 "ParityArray$Supply" : Cond) ∈ pz_G := List.mem_filter.mpr ⟨List.mem_append_right _ (List.mem_append_left _ (List.mem_of_getElem? (i := 25) (by decide +kernel))), by decide +kernel⟩
theorem tw_26 : (.instantiable "ParityArray$Supply" 7 : Cond) ∈ pz_G := List.mem_filter.mpr ⟨List.mem_append_right _ (List.mem_append_left _ (List.mem_of_getElem? (i := 26) (by decide +kernel))), by decide +kernel⟩
theorem tw_28 : (.instanceMethod ⟨"ParityArray$Supply", "<init>", "()V"⟩ : Cond) ∈ pz_G := List.mem_filter.mpr ⟨List.mem_append_right _ (List.mem_append_left _ (List.mem_of_getElem? (i := 28) (by decide +kernel))), by decide +kernel⟩
theorem tw_29 : (.code ⟨"ParityArray$Supply", "<init>", "()V"⟩ prog_3_method_1_code 1 (none : Option Jvm.ClassFile.FieldType) : Cond) ∈ pz_G := List.mem_filter.mpr ⟨List.mem_append_right _ (List.mem_append_left _ (List.mem_of_getElem? (i := 29) (by decide +kernel))), by decide +kernel⟩
theorem tw_30 : (.methodLink "ParityArray$Supply" 1 ⟨"java/lang/Object", "<init>", "()V"⟩ : Cond) ∈ pz_G := List.mem_filter.mpr ⟨List.mem_append_right _ (List.mem_append_left _ (List.mem_of_getElem? (i := 30) (by decide +kernel))), by decide +kernel⟩
theorem tw_31 : (.fieldLink "ParityArray$Supply" 7 "ParityArray$Supply" "on" "Z" : Cond) ∈ pz_G := List.mem_filter.mpr ⟨List.mem_append_right _ (List.mem_append_left _ (List.mem_of_getElem? (i := 31) (by decide +kernel))), by decide +kernel⟩
theorem tw_33 : (.fieldLink "ParityArray$Supply" 13 "ParityArray$Supply" "planned" "Z" : Cond) ∈ pz_G := List.mem_filter.mpr ⟨List.mem_append_right _ (List.mem_append_left _ (List.mem_of_getElem? (i := 33) (by decide +kernel))), by decide +kernel⟩
theorem tw_34 : (.fieldLink "ParityArray$Supply" 16 "ParityArray$Supply" "plannedInRecover" "Z" : Cond) ∈ pz_G := List.mem_filter.mpr ⟨List.mem_append_right _ (List.mem_append_left _ (List.mem_of_getElem? (i := 34) (by decide +kernel))), by decide +kernel⟩
theorem tw_35 : (.fieldLink "ParityArray$Supply" 19 "ParityArray$Supply" "cutWrite" "I" : Cond) ∈ pz_G := List.mem_filter.mpr ⟨List.mem_append_right _ (List.mem_append_left _ (List.mem_of_getElem? (i := 35) (by decide +kernel))), by decide +kernel⟩
theorem tw_36 : (.fieldLink "ParityArray$Supply" 23 "ParityArray$Supply" "cutBytes" "I" : Cond) ∈ pz_G := List.mem_filter.mpr ⟨List.mem_append_right _ (List.mem_append_left _ (List.mem_of_getElem? (i := 36) (by decide +kernel))), by decide +kernel⟩
theorem tw_37 : (.fieldLink "ParityArray$Supply" 26 "ParityArray$Supply" "failing" "Z" : Cond) ∈ pz_G := List.mem_filter.mpr ⟨List.mem_append_right _ (List.mem_append_left _ (List.mem_of_getElem? (i := 37) (by decide +kernel))), by decide +kernel⟩
theorem tw_38 : (.fieldLink "ParityArray$Supply" 29 "ParityArray$Supply" "writes" "I" : Cond) ∈ pz_G := List.mem_filter.mpr ⟨List.mem_append_right _ (List.mem_append_left _ (List.mem_of_getElem? (i := 38) (by decide +kernel))), by decide +kernel⟩
theorem tw_39 : (.lays "ParityArray$Supply" "ParityArray$Supply" "on" "Z" : Cond) ∈ pz_G := List.mem_filter.mpr ⟨List.mem_append_right _ (List.mem_append_left _ (List.mem_of_getElem? (i := 39) (by decide +kernel))), by decide +kernel⟩
theorem tw_41 : (.lays "ParityArray$Supply" "ParityArray$Supply" "planned" "Z" : Cond) ∈ pz_G := List.mem_filter.mpr ⟨List.mem_append_right _ (List.mem_append_left _ (List.mem_of_getElem? (i := 41) (by decide +kernel))), by decide +kernel⟩
theorem tw_43 : (.lays "ParityArray$Supply" "ParityArray$Supply" "plannedInRecover" "Z" : Cond) ∈ pz_G := List.mem_filter.mpr ⟨List.mem_append_right _ (List.mem_append_left _ (List.mem_of_getElem? (i := 43) (by decide +kernel))), by decide +kernel⟩
theorem tw_45 : (.lays "ParityArray$Supply" "ParityArray$Supply" "cutWrite" "I" : Cond) ∈ pz_G := List.mem_filter.mpr ⟨List.mem_append_right _ (List.mem_append_left _ (List.mem_of_getElem? (i := 45) (by decide +kernel))), by decide +kernel⟩
theorem tw_47 : (.lays "ParityArray$Supply" "ParityArray$Supply" "cutBytes" "I" : Cond) ∈ pz_G := List.mem_filter.mpr ⟨List.mem_append_right _ (List.mem_append_left _ (List.mem_of_getElem? (i := 47) (by decide +kernel))), by decide +kernel⟩
theorem tw_49 : (.lays "ParityArray$Supply" "ParityArray$Supply" "failing" "Z" : Cond) ∈ pz_G := List.mem_filter.mpr ⟨List.mem_append_right _ (List.mem_append_left _ (List.mem_of_getElem? (i := 49) (by decide +kernel))), by decide +kernel⟩
theorem tw_51 : (.lays "ParityArray$Supply" "ParityArray$Supply" "writes" "I" : Cond) ∈ pz_G := List.mem_filter.mpr ⟨List.mem_append_right _ (List.mem_append_left _ (List.mem_of_getElem? (i := 51) (by decide +kernel))), by decide +kernel⟩
theorem tw_53 : (.superclass "ParityArray$Supply" "java/lang/Object" : Cond) ∈ pz_G := List.mem_filter.mpr ⟨List.mem_append_right _ (List.mem_append_left _ (List.mem_of_getElem? (i := 53) (by decide +kernel))), by decide +kernel⟩
theorem tw_54 : (.instantiable "ParityArray$Disk" 5 : Cond) ∈ pz_G := List.mem_filter.mpr ⟨List.mem_append_right _ (List.mem_append_left _ (List.mem_of_getElem? (i := 54) (by decide +kernel))), by decide +kernel⟩
theorem tw_56 : (.instanceMethod ⟨"ParityArray$Disk", "<init>", "()V"⟩ : Cond) ∈ pz_G := List.mem_filter.mpr ⟨List.mem_append_right _ (List.mem_append_left _ (List.mem_of_getElem? (i := 56) (by decide +kernel))), by decide +kernel⟩
theorem tw_57 : (.code ⟨"ParityArray$Disk", "<init>", "()V"⟩ prog_2_method_1_code 1 (none : Option Jvm.ClassFile.FieldType) : Cond) ∈ pz_G := List.mem_filter.mpr ⟨List.mem_append_right _ (List.mem_append_left _ (List.mem_of_getElem? (i := 57) (by decide +kernel))), by decide +kernel⟩
theorem tw_58 : (.methodLink "ParityArray$Disk" 3 ⟨"java/lang/Object", "<init>", "()V"⟩ : Cond) ∈ pz_G := List.mem_filter.mpr ⟨List.mem_append_right _ (List.mem_append_left _ (List.mem_of_getElem? (i := 58) (by decide +kernel))), by decide +kernel⟩
theorem tw_59 : (.fieldLink "ParityArray$Disk" 9 "ParityArray$Disk" "rows" "[J" : Cond) ∈ pz_G := List.mem_filter.mpr ⟨List.mem_append_right _ (List.mem_append_left _ (List.mem_of_getElem? (i := 59) (by decide +kernel))), by decide +kernel⟩
theorem tw_60 : (.fieldLink "ParityArray$Disk" 15 "ParityArray$Disk" "record" "[J" : Cond) ∈ pz_G := List.mem_filter.mpr ⟨List.mem_append_right _ (List.mem_append_left _ (List.mem_of_getElem? (i := 60) (by decide +kernel))), by decide +kernel⟩
theorem tw_62 : (.fieldLink "ParityArray$Disk" 18 "ParityArray$Disk" "recordBlock" "I" : Cond) ∈ pz_G := List.mem_filter.mpr ⟨List.mem_append_right _ (List.mem_append_left _ (List.mem_of_getElem? (i := 62) (by decide +kernel))), by decide +kernel⟩
theorem tw_64 : (.fieldLink "ParityArray$Disk" 22 "ParityArray$Disk" "dead" "Z" : Cond) ∈ pz_G := List.mem_filter.mpr ⟨List.mem_append_right _ (List.mem_append_left _ (List.mem_of_getElem? (i := 64) (by decide +kernel))), by decide +kernel⟩
theorem tw_66 : (.fieldLink "ParityArray$Disk" 26 "ParityArray$Disk" "there" "I" : Cond) ∈ pz_G := List.mem_filter.mpr ⟨List.mem_append_right _ (List.mem_append_left _ (List.mem_of_getElem? (i := 66) (by decide +kernel))), by decide +kernel⟩
theorem tw_68 : (.laysFinal "ParityArray$Disk" "ParityArray$Disk" "rows" "[J" : Cond) ∈ pz_G := List.mem_filter.mpr ⟨List.mem_append_right _ (List.mem_append_left _ (List.mem_of_getElem? (i := 68) (by decide +kernel))), by decide +kernel⟩
theorem tw_70 : (.laysFinal "ParityArray$Disk" "ParityArray$Disk" "record" "[J" : Cond) ∈ pz_G := List.mem_filter.mpr ⟨List.mem_append_right _ (List.mem_append_left _ (List.mem_of_getElem? (i := 70) (by decide +kernel))), by decide +kernel⟩
theorem tw_72 : (.lays "ParityArray$Disk" "ParityArray$Disk" "recordBlock" "I" : Cond) ∈ pz_G := List.mem_filter.mpr ⟨List.mem_append_right _ (List.mem_append_left _ (List.mem_of_getElem? (i := 72) (by decide +kernel))), by decide +kernel⟩
theorem tw_74 : (.lays "ParityArray$Disk" "ParityArray$Disk" "dead" "Z" : Cond) ∈ pz_G := List.mem_filter.mpr ⟨List.mem_append_right _ (List.mem_append_left _ (List.mem_of_getElem? (i := 74) (by decide +kernel))), by decide +kernel⟩
theorem tw_76 : (.lays "ParityArray$Disk" "ParityArray$Disk" "there" "I" : Cond) ∈ pz_G := List.mem_filter.mpr ⟨List.mem_append_right _ (List.mem_append_left _ (List.mem_of_getElem? (i := 76) (by decide +kernel))), by decide +kernel⟩
theorem tw_78 : (.superclass "ParityArray$Disk" "java/lang/Object" : Cond) ∈ pz_G := List.mem_filter.mpr ⟨List.mem_append_right _ (List.mem_append_left _ (List.mem_of_getElem? (i := 78) (by decide +kernel))), by decide +kernel⟩
theorem tw_79 : (.arrayClass .long : Cond) ∈ pz_G := List.mem_filter.mpr ⟨List.mem_append_right _ (List.mem_append_left _ (List.mem_of_getElem? (i := 79) (by decide +kernel))), by decide +kernel⟩
theorem tw_80 : (.fieldLink "ParityArray" 11 "ParityArray" "disks" "[LParityArray$Disk;" : Cond) ∈ pz_G := List.mem_filter.mpr ⟨List.mem_append_right _ (List.mem_append_left _ (List.mem_of_getElem? (i := 80) (by decide +kernel))), by decide +kernel⟩
theorem tw_81 : (.fieldLink "ParityArray" 18 "ParityArray" "supply" "LParityArray$Supply;" : Cond) ∈ pz_G := List.mem_filter.mpr ⟨List.mem_append_right _ (List.mem_append_left _ (List.mem_of_getElem? (i := 81) (by decide +kernel))), by decide +kernel⟩
theorem tw_82 : (.fieldLink "ParityArray" 22 "ParityArray" "block" "[J" : Cond) ∈ pz_G := List.mem_filter.mpr ⟨List.mem_append_right _ (List.mem_append_left _ (List.mem_of_getElem? (i := 82) (by decide +kernel))), by decide +kernel⟩
theorem tw_83 : (.fieldLink "ParityArray" 26 "ParityArray" "partial" "[J" : Cond) ∈ pz_G := List.mem_filter.mpr ⟨List.mem_append_right _ (List.mem_append_left _ (List.mem_of_getElem? (i := 83) (by decide +kernel))), by decide +kernel⟩
theorem tw_84 : (.fieldLink "ParityArray" 29 "ParityArray" "parity" "[J" : Cond) ∈ pz_G := List.mem_filter.mpr ⟨List.mem_append_right _ (List.mem_append_left _ (List.mem_of_getElem? (i := 84) (by decide +kernel))), by decide +kernel⟩
theorem tw_85 : (.laysFinal "ParityArray" "ParityArray" "disks" "[LParityArray$Disk;" : Cond) ∈ pz_G := List.mem_filter.mpr ⟨List.mem_append_right _ (List.mem_append_left _ (List.mem_of_getElem? (i := 85) (by decide +kernel))), by decide +kernel⟩
theorem tw_87 : (.laysFinal "ParityArray" "ParityArray" "supply" "LParityArray$Supply;" : Cond) ∈ pz_G := List.mem_filter.mpr ⟨List.mem_append_right _ (List.mem_append_left _ (List.mem_of_getElem? (i := 87) (by decide +kernel))), by decide +kernel⟩
theorem tw_89 : (.laysFinal "ParityArray" "ParityArray" "block" "[J" : Cond) ∈ pz_G := List.mem_filter.mpr ⟨List.mem_append_right _ (List.mem_append_left _ (List.mem_of_getElem? (i := 89) (by decide +kernel))), by decide +kernel⟩
theorem tw_91 : (.laysFinal "ParityArray" "ParityArray" "partial" "[J" : Cond) ∈ pz_G := List.mem_filter.mpr ⟨List.mem_append_right _ (List.mem_append_left _ (List.mem_of_getElem? (i := 91) (by decide +kernel))), by decide +kernel⟩
theorem tw_93 : (.laysFinal "ParityArray" "ParityArray" "parity" "[J" : Cond) ∈ pz_G := List.mem_filter.mpr ⟨List.mem_append_right _ (List.mem_append_left _ (List.mem_of_getElem? (i := 93) (by decide +kernel))), by decide +kernel⟩
theorem tw_95 : (.superclass "ParityArray" "java/lang/Object" : Cond) ∈ pz_G := List.mem_filter.mpr ⟨List.mem_append_right _ (List.mem_append_left _ (List.mem_of_getElem? (i := 95) (by decide +kernel))), by decide +kernel⟩
theorem tw_96 : (.methodLink "ParityArrayLaw" 56 ⟨"ParityArrayLaw", "set", "(LParityArray;IIJ[J)I"⟩ : Cond) ∈ pz_G := List.mem_filter.mpr ⟨List.mem_append_right _ (List.mem_append_left _ (List.mem_of_getElem? (i := 96) (by decide +kernel))), by decide +kernel⟩
theorem tw_97 : (.static ⟨"ParityArrayLaw", "set", "(LParityArray;IIJ[J)I"⟩ : Cond) ∈ pz_G := List.mem_filter.mpr ⟨List.mem_append_right _ (List.mem_append_left _ (List.mem_of_getElem? (i := 97) (by decide +kernel))), by decide +kernel⟩
theorem tw_99 : (.classLink "ParityArrayLaw" 13 "java/lang/IllegalStateException" : Cond) ∈ pz_G := List.mem_filter.mpr ⟨List.mem_append_right _ (List.mem_append_left _ (List.mem_of_getElem? (i := 99) (by decide +kernel))), by decide +kernel⟩
theorem tw_100 : (.classLink "ParityArrayLaw" 15 "java/lang/IndexOutOfBoundsException" : Cond) ∈ pz_G := List.mem_filter.mpr ⟨List.mem_append_right _ (List.mem_append_left _ (List.mem_of_getElem? (i := 100) (by decide +kernel))), by decide +kernel⟩
theorem tw_101 : (.classLink "ParityArrayLaw" 17 "java/lang/ArithmeticException" : Cond) ∈ pz_G := List.mem_filter.mpr ⟨List.mem_append_right _ (List.mem_append_left _ (List.mem_of_getElem? (i := 101) (by decide +kernel))), by decide +kernel⟩
theorem tw_102 : (.methodLink "ParityArrayLaw" 7 ⟨"ParityArray", "set", "(IIJ)J"⟩ : Cond) ∈ pz_G := List.mem_filter.mpr ⟨List.mem_append_right _ (List.mem_append_left _ (List.mem_of_getElem? (i := 102) (by decide +kernel))), by decide +kernel⟩
theorem tw_103 : (.instanceMethod ⟨"ParityArray", "set", "(IIJ)J"⟩ : Cond) ∈ pz_G := List.mem_filter.mpr ⟨List.mem_append_right _ (List.mem_append_left _ (List.mem_of_getElem? (i := 103) (by decide +kernel))), by decide +kernel⟩
theorem tw_104 : (.selects "ParityArray" ⟨"ParityArray", "set", "(IIJ)J"⟩ ⟨"ParityArray", "set", "(IIJ)J"⟩ : Cond) ∈ pz_G := List.mem_filter.mpr ⟨List.mem_append_right _ (List.mem_append_left _ (List.mem_of_getElem? (i := 104) (by decide +kernel))), by decide +kernel⟩
theorem tw_105 : (.code ⟨"ParityArray", "set", "(IIJ)J"⟩ prog_1_method_2_code 7 (some .long) : Cond) ∈ pz_G := List.mem_filter.mpr ⟨List.mem_append_right _ (List.mem_append_left _ (List.mem_of_getElem? (i := 105) (by decide +kernel))), by decide +kernel⟩
theorem tw_106 : (.classLink "ParityArray" 37 "java/lang/IllegalStateException" : Cond) ∈ pz_G := List.mem_filter.mpr ⟨List.mem_append_right _ (List.mem_append_left _ (List.mem_of_getElem? (i := 106) (by decide +kernel))), by decide +kernel⟩
theorem tw_107 : (.instantiable "java/lang/IllegalStateException" 6 : Cond) ∈ pz_G := List.mem_filter.mpr ⟨List.mem_append_right _ (List.mem_append_left _ (List.mem_of_getElem? (i := 107) (by decide +kernel))), by decide +kernel⟩
theorem tw_115 : (.selects "java/lang/IllegalStateException" ⟨"java/lang/Throwable", "fillInStackTrace", "(I)Ljava/lang/Throwable;"⟩ ⟨"java/lang/Throwable", "fillInStackTrace", "(I)Ljava/lang/Throwable;"⟩ : Cond) ∈ pz_G := List.mem_filter.mpr ⟨List.mem_append_right _ (List.mem_append_left _ (List.mem_of_getElem? (i := 115) (by decide +kernel))), by decide +kernel⟩
theorem tw_116 : (.selects "java/lang/IllegalStateException" ⟨"java/lang/Throwable", "fillInStackTrace", "()Ljava/lang/Throwable;"⟩ ⟨"java/lang/Throwable", "fillInStackTrace", "()Ljava/lang/Throwable;"⟩ : Cond) ∈ pz_G := List.mem_filter.mpr ⟨List.mem_append_right _ (List.mem_append_left _ (List.mem_of_getElem? (i := 116) (by decide +kernel))), by decide +kernel⟩
theorem tw_117 : (.lays "java/lang/IllegalStateException" "java/lang/Throwable" "cause" "Ljava/lang/Throwable;" : Cond) ∈ pz_G := List.mem_filter.mpr ⟨List.mem_append_right _ (List.mem_append_left _ (List.mem_of_getElem? (i := 117) (by decide +kernel))), by decide +kernel⟩
theorem tw_118 : (.lays "java/lang/Throwable" "java/lang/Throwable" "cause" "Ljava/lang/Throwable;" : Cond) ∈ pz_G := List.mem_filter.mpr ⟨List.mem_append_right _ (List.mem_append_left _ (List.mem_of_getElem? (i := 118) (by decide +kernel))), by decide +kernel⟩
theorem tw_119 : (.lays "java/lang/IllegalStateException" "java/lang/Throwable" "stackTrace" "[Ljava/lang/StackTraceElement;" : Cond) ∈ pz_G := List.mem_filter.mpr ⟨List.mem_append_right _ (List.mem_append_left _ (List.mem_of_getElem? (i := 119) (by decide +kernel))), by decide +kernel⟩
theorem tw_120 : (.lays "java/lang/Throwable" "java/lang/Throwable" "stackTrace" "[Ljava/lang/StackTraceElement;" : Cond) ∈ pz_G := List.mem_filter.mpr ⟨List.mem_append_right _ (List.mem_append_left _ (List.mem_of_getElem? (i := 120) (by decide +kernel))), by decide +kernel⟩
theorem tw_121 : (.lays "java/lang/IllegalStateException" "java/lang/Throwable" "suppressedExceptions" "Ljava/util/List;" : Cond) ∈ pz_G := List.mem_filter.mpr ⟨List.mem_append_right _ (List.mem_append_left _ (List.mem_of_getElem? (i := 121) (by decide +kernel))), by decide +kernel⟩
theorem tw_122 : (.lays "java/lang/Throwable" "java/lang/Throwable" "suppressedExceptions" "Ljava/util/List;" : Cond) ∈ pz_G := List.mem_filter.mpr ⟨List.mem_append_right _ (List.mem_append_left _ (List.mem_of_getElem? (i := 122) (by decide +kernel))), by decide +kernel⟩
theorem tw_123 : (.lays "java/lang/IllegalStateException" "java/lang/Throwable" "detailMessage" "Ljava/lang/String;" : Cond) ∈ pz_G := List.mem_filter.mpr ⟨List.mem_append_right _ (List.mem_append_left _ (List.mem_of_getElem? (i := 123) (by decide +kernel))), by decide +kernel⟩
theorem tw_124 : (.lays "java/lang/Throwable" "java/lang/Throwable" "detailMessage" "Ljava/lang/String;" : Cond) ∈ pz_G := List.mem_filter.mpr ⟨List.mem_append_right _ (List.mem_append_left _ (List.mem_of_getElem? (i := 124) (by decide +kernel))), by decide +kernel⟩
theorem tw_125 : (.lays "java/lang/IllegalStateException" "java/lang/Throwable" "backtrace" "Ljava/lang/Object;" : Cond) ∈ pz_G := List.mem_filter.mpr ⟨List.mem_append_right _ (List.mem_append_left _ (List.mem_of_getElem? (i := 125) (by decide +kernel))), by decide +kernel⟩
theorem tw_126 : (.lays "java/lang/Throwable" "java/lang/Throwable" "backtrace" "Ljava/lang/Object;" : Cond) ∈ pz_G := List.mem_filter.mpr ⟨List.mem_append_right _ (List.mem_append_left _ (List.mem_of_getElem? (i := 126) (by decide +kernel))), by decide +kernel⟩
theorem tw_127 : (.fieldLink "java/lang/Throwable" 198 "java/lang/Throwable" "backtrace" "Ljava/lang/Object;" : Cond) ∈ pz_G := List.mem_filter.mpr ⟨List.mem_append_right _ (List.mem_append_left _ (List.mem_of_getElem? (i := 127) (by decide +kernel))), by decide +kernel⟩
theorem tw_128 : (.superclass "java/lang/Throwable" "java/lang/Object" : Cond) ∈ pz_G := List.mem_filter.mpr ⟨List.mem_append_right _ (List.mem_append_left _ (List.mem_of_getElem? (i := 128) (by decide +kernel))), by decide +kernel⟩
theorem tw_129 : (.instanceMethod ⟨"java/lang/Throwable", "<init>", "()V"⟩ : Cond) ∈ pz_G := List.mem_filter.mpr ⟨List.mem_append_right _ (List.mem_append_left _ (List.mem_of_getElem? (i := 129) (by decide +kernel))), by decide +kernel⟩
theorem tw_130 : (.code ⟨"java/lang/Throwable", "<init>", "()V"⟩ prog_15_method_1_code 1 (none : Option Jvm.ClassFile.FieldType) : Cond) ∈ pz_G := List.mem_filter.mpr ⟨List.mem_append_right _ (List.mem_append_left _ (List.mem_of_getElem? (i := 130) (by decide +kernel))), by decide +kernel⟩
theorem tw_131 : (.methodLink "java/lang/Throwable" 1 ⟨"java/lang/Object", "<init>", "()V"⟩ : Cond) ∈ pz_G := List.mem_filter.mpr ⟨List.mem_append_right _ (List.mem_append_left _ (List.mem_of_getElem? (i := 131) (by decide +kernel))), by decide +kernel⟩
theorem tw_132 : (.fieldLink "java/lang/Throwable" 13 "java/lang/Throwable" "UNASSIGNED_STACK" "[Ljava/lang/StackTraceElement;" : Cond) ∈ pz_G := List.mem_filter.mpr ⟨List.mem_append_right _ (List.mem_append_left _ (List.mem_of_getElem? (i := 132) (by decide +kernel))), by decide +kernel⟩
theorem tw_134 : (.fieldLink "java/lang/Throwable" 20 "java/lang/Throwable" "SUPPRESSED_SENTINEL" "Ljava/util/List;" : Cond) ∈ pz_G := List.mem_filter.mpr ⟨List.mem_append_right _ (List.mem_append_left _ (List.mem_of_getElem? (i := 134) (by decide +kernel))), by decide +kernel⟩
theorem tw_136 : (.methodLink "java/lang/Throwable" 27 ⟨"java/lang/Throwable", "fillInStackTrace", "()Ljava/lang/Throwable;"⟩ : Cond) ∈ pz_G := List.mem_filter.mpr ⟨List.mem_append_right _ (List.mem_append_left _ (List.mem_of_getElem? (i := 136) (by decide +kernel))), by decide +kernel⟩
theorem tw_137 : (.instanceMethod ⟨"java/lang/Throwable", "fillInStackTrace", "()Ljava/lang/Throwable;"⟩ : Cond) ∈ pz_G := List.mem_filter.mpr ⟨List.mem_append_right _ (List.mem_append_left _ (List.mem_of_getElem? (i := 137) (by decide +kernel))), by decide +kernel⟩
theorem tw_138 : (.sameMethod "java/lang/Throwable" "java/lang/Throwable" "fillInStackTrace" "()Ljava/lang/Throwable;" : Cond) ∈ pz_G := List.mem_filter.mpr ⟨List.mem_append_right _ (List.mem_append_left _ (List.mem_of_getElem? (i := 138) (by decide +kernel))), by decide +kernel⟩
theorem tw_139 : (.selects "java/lang/ArithmeticException" ⟨"java/lang/Throwable", "fillInStackTrace", "()Ljava/lang/Throwable;"⟩ ⟨"java/lang/Throwable", "fillInStackTrace", "()Ljava/lang/Throwable;"⟩ : Cond) ∈ pz_G := List.mem_filter.mpr ⟨List.mem_append_right _ (List.mem_append_left _ (List.mem_of_getElem? (i := 139) (by decide +kernel))), by decide +kernel⟩
theorem tw_140 : (.selects "java/lang/IllegalArgumentException" ⟨"java/lang/Throwable", "fillInStackTrace", "()Ljava/lang/Throwable;"⟩ ⟨"java/lang/Throwable", "fillInStackTrace", "()Ljava/lang/Throwable;"⟩ : Cond) ∈ pz_G := List.mem_filter.mpr ⟨List.mem_append_right _ (List.mem_append_left _ (List.mem_of_getElem? (i := 140) (by decide +kernel))), by decide +kernel⟩
theorem tw_141 : (.selects "java/lang/IndexOutOfBoundsException" ⟨"java/lang/Throwable", "fillInStackTrace", "()Ljava/lang/Throwable;"⟩ ⟨"java/lang/Throwable", "fillInStackTrace", "()Ljava/lang/Throwable;"⟩ : Cond) ∈ pz_G := List.mem_filter.mpr ⟨List.mem_append_right _ (List.mem_append_left _ (List.mem_of_getElem? (i := 141) (by decide +kernel))), by decide +kernel⟩
theorem tw_143 : (.methodLink "java/lang/Throwable" 202 ⟨"java/lang/Throwable", "fillInStackTrace", "(I)Ljava/lang/Throwable;"⟩ : Cond) ∈ pz_G := List.mem_filter.mpr ⟨List.mem_append_right _ (List.mem_append_left _ (List.mem_of_getElem? (i := 143) (by decide +kernel))), by decide +kernel⟩
theorem tw_145 : (.instanceMethod ⟨"java/lang/Throwable", "fillInStackTrace", "(I)Ljava/lang/Throwable;"⟩ : Cond) ∈ pz_G := List.mem_filter.mpr ⟨List.mem_append_right _ (List.mem_append_left _ (List.mem_of_getElem? (i := 145) (by decide +kernel))), by decide +kernel⟩
theorem tw_146 : (.instantiable "java/lang/Throwable" 6 : Cond) ∈ pz_G := List.mem_filter.mpr ⟨List.mem_append_right _ (List.mem_append_left _ (List.mem_of_getElem? (i := 146) (by decide +kernel))), by decide +kernel⟩
theorem tw_147 : (.native ⟨"java/lang/Throwable", "fillInStackTrace", "(I)Ljava/lang/Throwable;"⟩ : Cond) ∈ pz_G := List.mem_filter.mpr ⟨List.mem_append_right _ (List.mem_append_left _ (List.mem_of_getElem? (i := 147) (by decide +kernel))), by decide +kernel⟩
theorem tw_149 : (.methodLink "ParityArray" 41 ⟨"java/lang/IllegalStateException", "<init>", "(Ljava/lang/String;)V"⟩ : Cond) ∈ pz_G := List.mem_filter.mpr ⟨List.mem_append_right _ (List.mem_append_left _ (List.mem_of_getElem? (i := 149) (by decide +kernel))), by decide +kernel⟩
theorem tw_150 : (.instanceMethod ⟨"java/lang/IllegalStateException", "<init>", "(Ljava/lang/String;)V"⟩ : Cond) ∈ pz_G := List.mem_filter.mpr ⟨List.mem_append_right _ (List.mem_append_left _ (List.mem_of_getElem? (i := 150) (by decide +kernel))), by decide +kernel⟩
theorem tw_151 : (.code ⟨"java/lang/IllegalStateException", "<init>", "(Ljava/lang/String;)V"⟩ prog_9_method_2_code 2 (none : Option Jvm.ClassFile.FieldType) : Cond) ∈ pz_G := List.mem_filter.mpr ⟨List.mem_append_right _ (List.mem_append_left _ (List.mem_of_getElem? (i := 151) (by decide +kernel))), by decide +kernel⟩
theorem tw_152 : (.methodLink "java/lang/IllegalStateException" 7 ⟨"java/lang/RuntimeException", "<init>", "(Ljava/lang/String;)V"⟩ : Cond) ∈ pz_G := List.mem_filter.mpr ⟨List.mem_append_right _ (List.mem_append_left _ (List.mem_of_getElem? (i := 152) (by decide +kernel))), by decide +kernel⟩
theorem tw_153 : (.instanceMethod ⟨"java/lang/RuntimeException", "<init>", "(Ljava/lang/String;)V"⟩ : Cond) ∈ pz_G := List.mem_filter.mpr ⟨List.mem_append_right _ (List.mem_append_left _ (List.mem_of_getElem? (i := 153) (by decide +kernel))), by decide +kernel⟩
theorem tw_154 : (.code ⟨"java/lang/RuntimeException", "<init>", "(Ljava/lang/String;)V"⟩ prog_12_method_2_code 2 (none : Option Jvm.ClassFile.FieldType) : Cond) ∈ pz_G := List.mem_filter.mpr ⟨List.mem_append_right _ (List.mem_append_left _ (List.mem_of_getElem? (i := 154) (by decide +kernel))), by decide +kernel⟩
theorem tw_155 : (.methodLink "java/lang/RuntimeException" 7 ⟨"java/lang/Exception", "<init>", "(Ljava/lang/String;)V"⟩ : Cond) ∈ pz_G := List.mem_filter.mpr ⟨List.mem_append_right _ (List.mem_append_left _ (List.mem_of_getElem? (i := 155) (by decide +kernel))), by decide +kernel⟩
theorem tw_156 : (.instanceMethod ⟨"java/lang/Exception", "<init>", "(Ljava/lang/String;)V"⟩ : Cond) ∈ pz_G := List.mem_filter.mpr ⟨List.mem_append_right _ (List.mem_append_left _ (List.mem_of_getElem? (i := 156) (by decide +kernel))), by decide +kernel⟩
theorem tw_157 : (.code ⟨"java/lang/Exception", "<init>", "(Ljava/lang/String;)V"⟩ prog_7_method_2_code 2 (none : Option Jvm.ClassFile.FieldType) : Cond) ∈ pz_G := List.mem_filter.mpr ⟨List.mem_append_right _ (List.mem_append_left _ (List.mem_of_getElem? (i := 157) (by decide +kernel))), by decide +kernel⟩
theorem tw_158 : (.methodLink "java/lang/Exception" 7 ⟨"java/lang/Throwable", "<init>", "(Ljava/lang/String;)V"⟩ : Cond) ∈ pz_G := List.mem_filter.mpr ⟨List.mem_append_right _ (List.mem_append_left _ (List.mem_of_getElem? (i := 158) (by decide +kernel))), by decide +kernel⟩
theorem tw_159 : (.instanceMethod ⟨"java/lang/Throwable", "<init>", "(Ljava/lang/String;)V"⟩ : Cond) ∈ pz_G := List.mem_filter.mpr ⟨List.mem_append_right _ (List.mem_append_left _ (List.mem_of_getElem? (i := 159) (by decide +kernel))), by decide +kernel⟩
theorem tw_160 : (.code ⟨"java/lang/Throwable", "<init>", "(Ljava/lang/String;)V"⟩ prog_15_method_2_code 2 (none : Option Jvm.ClassFile.FieldType) : Cond) ∈ pz_G := List.mem_filter.mpr ⟨List.mem_append_right _ (List.mem_append_left _ (List.mem_of_getElem? (i := 160) (by decide +kernel))), by decide +kernel⟩
theorem tw_162 : (.fieldLink "java/lang/Throwable" 31 "java/lang/Throwable" "detailMessage" "Ljava/lang/String;" : Cond) ∈ pz_G := List.mem_filter.mpr ⟨List.mem_append_right _ (List.mem_append_left _ (List.mem_of_getElem? (i := 162) (by decide +kernel))), by decide +kernel⟩
theorem tw_163 : (.fieldLink "java/lang/Throwable" 7 "java/lang/Throwable" "cause" "Ljava/lang/Throwable;" : Cond) ∈ pz_G := List.mem_filter.mpr ⟨List.mem_append_right _ (List.mem_append_left _ (List.mem_of_getElem? (i := 163) (by decide +kernel))), by decide +kernel⟩
theorem tw_164 : (.fieldLink "java/lang/Throwable" 17 "java/lang/Throwable" "stackTrace" "[Ljava/lang/StackTraceElement;" : Cond) ∈ pz_G := List.mem_filter.mpr ⟨List.mem_append_right _ (List.mem_append_left _ (List.mem_of_getElem? (i := 164) (by decide +kernel))), by decide +kernel⟩
theorem tw_165 : (.fieldLink "java/lang/Throwable" 24 "java/lang/Throwable" "suppressedExceptions" "Ljava/util/List;" : Cond) ∈ pz_G := List.mem_filter.mpr ⟨List.mem_append_right _ (List.mem_append_left _ (List.mem_of_getElem? (i := 165) (by decide +kernel))), by decide +kernel⟩
theorem tw_170 : (.lays "java/lang/IllegalStateException" "java/lang/Throwable" "depth" "I" : Cond) ∈ pz_G := List.mem_filter.mpr ⟨List.mem_append_right _ (List.mem_append_left _ (List.mem_of_getElem? (i := 170) (by decide +kernel))), by decide +kernel⟩
theorem tw_173 : (.superclass "java/lang/IllegalStateException" "java/lang/RuntimeException" : Cond) ∈ pz_G := List.mem_filter.mpr ⟨List.mem_append_right _ (List.mem_append_left _ (List.mem_of_getElem? (i := 173) (by decide +kernel))), by decide +kernel⟩
theorem tw_174 : (.arrayClass .byte : Cond) ∈ pz_G := List.mem_filter.mpr ⟨List.mem_append_right _ (List.mem_append_left _ (List.mem_of_getElem? (i := 174) (by decide +kernel))), by decide +kernel⟩
theorem tw_175 : (.methodLink "ParityArray" 44 ⟨"ParityArray", "isLong", "(II)Z"⟩ : Cond) ∈ pz_G := List.mem_filter.mpr ⟨List.mem_append_right _ (List.mem_append_left _ (List.mem_of_getElem? (i := 175) (by decide +kernel))), by decide +kernel⟩
theorem tw_176 : (.static ⟨"ParityArray", "isLong", "(II)Z"⟩ : Cond) ∈ pz_G := List.mem_filter.mpr ⟨List.mem_append_right _ (List.mem_append_left _ (List.mem_of_getElem? (i := 176) (by decide +kernel))), by decide +kernel⟩
theorem tw_177 : (.code ⟨"ParityArray", "isLong", "(II)Z"⟩ prog_1_method_11_code 2 (some .boolean) : Cond) ∈ pz_G := List.mem_filter.mpr ⟨List.mem_append_right _ (List.mem_append_left _ (List.mem_of_getElem? (i := 177) (by decide +kernel))), by decide +kernel⟩
theorem tw_178 : (.classLink "ParityArray" 48 "java/lang/IndexOutOfBoundsException" : Cond) ∈ pz_G := List.mem_filter.mpr ⟨List.mem_append_right _ (List.mem_append_left _ (List.mem_of_getElem? (i := 178) (by decide +kernel))), by decide +kernel⟩
theorem tw_179 : (.instantiable "java/lang/IndexOutOfBoundsException" 6 : Cond) ∈ pz_G := List.mem_filter.mpr ⟨List.mem_append_right _ (List.mem_append_left _ (List.mem_of_getElem? (i := 179) (by decide +kernel))), by decide +kernel⟩
theorem tw_181 : (.selects "java/lang/IndexOutOfBoundsException" ⟨"java/lang/Throwable", "fillInStackTrace", "(I)Ljava/lang/Throwable;"⟩ ⟨"java/lang/Throwable", "fillInStackTrace", "(I)Ljava/lang/Throwable;"⟩ : Cond) ∈ pz_G := List.mem_filter.mpr ⟨List.mem_append_right _ (List.mem_append_left _ (List.mem_of_getElem? (i := 181) (by decide +kernel))), by decide +kernel⟩
theorem tw_182 : (.lays "java/lang/IndexOutOfBoundsException" "java/lang/Throwable" "cause" "Ljava/lang/Throwable;" : Cond) ∈ pz_G := List.mem_filter.mpr ⟨List.mem_append_right _ (List.mem_append_left _ (List.mem_of_getElem? (i := 182) (by decide +kernel))), by decide +kernel⟩
theorem tw_183 : (.lays "java/lang/IndexOutOfBoundsException" "java/lang/Throwable" "stackTrace" "[Ljava/lang/StackTraceElement;" : Cond) ∈ pz_G := List.mem_filter.mpr ⟨List.mem_append_right _ (List.mem_append_left _ (List.mem_of_getElem? (i := 183) (by decide +kernel))), by decide +kernel⟩
theorem tw_184 : (.lays "java/lang/IndexOutOfBoundsException" "java/lang/Throwable" "suppressedExceptions" "Ljava/util/List;" : Cond) ∈ pz_G := List.mem_filter.mpr ⟨List.mem_append_right _ (List.mem_append_left _ (List.mem_of_getElem? (i := 184) (by decide +kernel))), by decide +kernel⟩
theorem tw_185 : (.lays "java/lang/IndexOutOfBoundsException" "java/lang/Throwable" "detailMessage" "Ljava/lang/String;" : Cond) ∈ pz_G := List.mem_filter.mpr ⟨List.mem_append_right _ (List.mem_append_left _ (List.mem_of_getElem? (i := 185) (by decide +kernel))), by decide +kernel⟩
theorem tw_186 : (.lays "java/lang/IndexOutOfBoundsException" "java/lang/Throwable" "backtrace" "Ljava/lang/Object;" : Cond) ∈ pz_G := List.mem_filter.mpr ⟨List.mem_append_right _ (List.mem_append_left _ (List.mem_of_getElem? (i := 186) (by decide +kernel))), by decide +kernel⟩
theorem tw_188 : (.methodLink "ParityArray" 52 ⟨"java/lang/IndexOutOfBoundsException", "<init>", "(Ljava/lang/String;)V"⟩ : Cond) ∈ pz_G := List.mem_filter.mpr ⟨List.mem_append_right _ (List.mem_append_left _ (List.mem_of_getElem? (i := 188) (by decide +kernel))), by decide +kernel⟩
theorem tw_189 : (.instanceMethod ⟨"java/lang/IndexOutOfBoundsException", "<init>", "(Ljava/lang/String;)V"⟩ : Cond) ∈ pz_G := List.mem_filter.mpr ⟨List.mem_append_right _ (List.mem_append_left _ (List.mem_of_getElem? (i := 189) (by decide +kernel))), by decide +kernel⟩
theorem tw_190 : (.code ⟨"java/lang/IndexOutOfBoundsException", "<init>", "(Ljava/lang/String;)V"⟩ prog_10_method_2_code 2 (none : Option Jvm.ClassFile.FieldType) : Cond) ∈ pz_G := List.mem_filter.mpr ⟨List.mem_append_right _ (List.mem_append_left _ (List.mem_of_getElem? (i := 190) (by decide +kernel))), by decide +kernel⟩
theorem tw_191 : (.methodLink "java/lang/IndexOutOfBoundsException" 7 ⟨"java/lang/RuntimeException", "<init>", "(Ljava/lang/String;)V"⟩ : Cond) ∈ pz_G := List.mem_filter.mpr ⟨List.mem_append_right _ (List.mem_append_left _ (List.mem_of_getElem? (i := 191) (by decide +kernel))), by decide +kernel⟩
theorem tw_192 : (.lays "java/lang/IndexOutOfBoundsException" "java/lang/Throwable" "depth" "I" : Cond) ∈ pz_G := List.mem_filter.mpr ⟨List.mem_append_right _ (List.mem_append_left _ (List.mem_of_getElem? (i := 192) (by decide +kernel))), by decide +kernel⟩
theorem tw_193 : (.superclass "java/lang/IndexOutOfBoundsException" "java/lang/RuntimeException" : Cond) ∈ pz_G := List.mem_filter.mpr ⟨List.mem_append_right _ (List.mem_append_left _ (List.mem_of_getElem? (i := 193) (by decide +kernel))), by decide +kernel⟩
theorem tw_194 : (.methodLink "ParityArray" 53 ⟨"ParityArray", "readLong", "(II)J"⟩ : Cond) ∈ pz_G := List.mem_filter.mpr ⟨List.mem_append_right _ (List.mem_append_left _ (List.mem_of_getElem? (i := 194) (by decide +kernel))), by decide +kernel⟩
theorem tw_196 : (.instanceMethod ⟨"ParityArray", "readLong", "(II)J"⟩ : Cond) ∈ pz_G := List.mem_filter.mpr ⟨List.mem_append_right _ (List.mem_append_left _ (List.mem_of_getElem? (i := 196) (by decide +kernel))), by decide +kernel⟩
theorem tw_197 : (.code ⟨"ParityArray", "readLong", "(II)J"⟩ prog_1_method_16_code 5 (some .long) : Cond) ∈ pz_G := List.mem_filter.mpr ⟨List.mem_append_right _ (List.mem_append_left _ (List.mem_of_getElem? (i := 197) (by decide +kernel))), by decide +kernel⟩
theorem tw_198 : (.methodLink "ParityArray" 127 ⟨"ParityArray", "stripeOf", "(I)I"⟩ : Cond) ∈ pz_G := List.mem_filter.mpr ⟨List.mem_append_right _ (List.mem_append_left _ (List.mem_of_getElem? (i := 198) (by decide +kernel))), by decide +kernel⟩
theorem tw_199 : (.static ⟨"ParityArray", "stripeOf", "(I)I"⟩ : Cond) ∈ pz_G := List.mem_filter.mpr ⟨List.mem_append_right _ (List.mem_append_left _ (List.mem_of_getElem? (i := 199) (by decide +kernel))), by decide +kernel⟩
theorem tw_200 : (.code ⟨"ParityArray", "stripeOf", "(I)I"⟩ prog_1_method_12_code 1 (some .int) : Cond) ∈ pz_G := List.mem_filter.mpr ⟨List.mem_append_right _ (List.mem_append_left _ (List.mem_of_getElem? (i := 200) (by decide +kernel))), by decide +kernel⟩
theorem tw_201 : (.methodLink "ParityArray" 138 ⟨"ParityArray", "diskOf", "(I)I"⟩ : Cond) ∈ pz_G := List.mem_filter.mpr ⟨List.mem_append_right _ (List.mem_append_left _ (List.mem_of_getElem? (i := 201) (by decide +kernel))), by decide +kernel⟩
theorem tw_202 : (.static ⟨"ParityArray", "diskOf", "(I)I"⟩ : Cond) ∈ pz_G := List.mem_filter.mpr ⟨List.mem_append_right _ (List.mem_append_left _ (List.mem_of_getElem? (i := 202) (by decide +kernel))), by decide +kernel⟩
theorem tw_203 : (.code ⟨"ParityArray", "diskOf", "(I)I"⟩ prog_1_method_14_code 2 (some .int) : Cond) ∈ pz_G := List.mem_filter.mpr ⟨List.mem_append_right _ (List.mem_append_left _ (List.mem_of_getElem? (i := 203) (by decide +kernel))), by decide +kernel⟩
theorem tw_204 : (.methodLink "ParityArray" 131 ⟨"ParityArray", "parityDiskOf", "(I)I"⟩ : Cond) ∈ pz_G := List.mem_filter.mpr ⟨List.mem_append_right _ (List.mem_append_left _ (List.mem_of_getElem? (i := 204) (by decide +kernel))), by decide +kernel⟩
theorem tw_205 : (.static ⟨"ParityArray", "parityDiskOf", "(I)I"⟩ : Cond) ∈ pz_G := List.mem_filter.mpr ⟨List.mem_append_right _ (List.mem_append_left _ (List.mem_of_getElem? (i := 205) (by decide +kernel))), by decide +kernel⟩
theorem tw_206 : (.code ⟨"ParityArray", "parityDiskOf", "(I)I"⟩ prog_1_method_13_code 1 (some .int) : Cond) ∈ pz_G := List.mem_filter.mpr ⟨List.mem_append_right _ (List.mem_append_left _ (List.mem_of_getElem? (i := 206) (by decide +kernel))), by decide +kernel⟩
theorem tw_207 : (.methodLink "ParityArray" 141 ⟨"ParityArray$Disk", "isThere", "(I)Z"⟩ : Cond) ∈ pz_G := List.mem_filter.mpr ⟨List.mem_append_right _ (List.mem_append_left _ (List.mem_of_getElem? (i := 207) (by decide +kernel))), by decide +kernel⟩
theorem tw_208 : (.instanceMethod ⟨"ParityArray$Disk", "isThere", "(I)Z"⟩ : Cond) ∈ pz_G := List.mem_filter.mpr ⟨List.mem_append_right _ (List.mem_append_left _ (List.mem_of_getElem? (i := 208) (by decide +kernel))), by decide +kernel⟩
theorem tw_209 : (.selects "ParityArray$Disk" ⟨"ParityArray$Disk", "isThere", "(I)Z"⟩ ⟨"ParityArray$Disk", "isThere", "(I)Z"⟩ : Cond) ∈ pz_G := List.mem_filter.mpr ⟨List.mem_append_right _ (List.mem_append_left _ (List.mem_of_getElem? (i := 209) (by decide +kernel))), by decide +kernel⟩
theorem tw_210 : (.code ⟨"ParityArray$Disk", "isThere", "(I)Z"⟩ prog_2_method_3_code 2 (some .boolean) : Cond) ∈ pz_G := List.mem_filter.mpr ⟨List.mem_append_right _ (List.mem_append_left _ (List.mem_of_getElem? (i := 210) (by decide +kernel))), by decide +kernel⟩
theorem tw_211 : (.methodLink "ParityArray" 144 ⟨"ParityArray$Disk", "longAt", "(II)J"⟩ : Cond) ∈ pz_G := List.mem_filter.mpr ⟨List.mem_append_right _ (List.mem_append_left _ (List.mem_of_getElem? (i := 211) (by decide +kernel))), by decide +kernel⟩
theorem tw_212 : (.instanceMethod ⟨"ParityArray$Disk", "longAt", "(II)J"⟩ : Cond) ∈ pz_G := List.mem_filter.mpr ⟨List.mem_append_right _ (List.mem_append_left _ (List.mem_of_getElem? (i := 212) (by decide +kernel))), by decide +kernel⟩
theorem tw_213 : (.selects "ParityArray$Disk" ⟨"ParityArray$Disk", "longAt", "(II)J"⟩ ⟨"ParityArray$Disk", "longAt", "(II)J"⟩ : Cond) ∈ pz_G := List.mem_filter.mpr ⟨List.mem_append_right _ (List.mem_append_left _ (List.mem_of_getElem? (i := 213) (by decide +kernel))), by decide +kernel⟩
theorem tw_214 : (.code ⟨"ParityArray$Disk", "longAt", "(II)J"⟩ prog_2_method_4_code 3 (some .long) : Cond) ∈ pz_G := List.mem_filter.mpr ⟨List.mem_append_right _ (List.mem_append_left _ (List.mem_of_getElem? (i := 214) (by decide +kernel))), by decide +kernel⟩
theorem tw_215 : (.methodLink "ParityArray" 147 ⟨"ParityArray", "othersTogether", "(III)J"⟩ : Cond) ∈ pz_G := List.mem_filter.mpr ⟨List.mem_append_right _ (List.mem_append_left _ (List.mem_of_getElem? (i := 215) (by decide +kernel))), by decide +kernel⟩
theorem tw_217 : (.instanceMethod ⟨"ParityArray", "othersTogether", "(III)J"⟩ : Cond) ∈ pz_G := List.mem_filter.mpr ⟨List.mem_append_right _ (List.mem_append_left _ (List.mem_of_getElem? (i := 217) (by decide +kernel))), by decide +kernel⟩
theorem tw_218 : (.code ⟨"ParityArray", "othersTogether", "(III)J"⟩ prog_1_method_17_code 7 (some .long) : Cond) ∈ pz_G := List.mem_filter.mpr ⟨List.mem_append_right _ (List.mem_append_left _ (List.mem_of_getElem? (i := 218) (by decide +kernel))), by decide +kernel⟩
theorem tw_219 : (.methodLink "ParityArray" 57 ⟨"ParityArray", "prepareRows", "(IIJ)V"⟩ : Cond) ∈ pz_G := List.mem_filter.mpr ⟨List.mem_append_right _ (List.mem_append_left _ (List.mem_of_getElem? (i := 219) (by decide +kernel))), by decide +kernel⟩
theorem tw_221 : (.instanceMethod ⟨"ParityArray", "prepareRows", "(IIJ)V"⟩ : Cond) ∈ pz_G := List.mem_filter.mpr ⟨List.mem_append_right _ (List.mem_append_left _ (List.mem_of_getElem? (i := 221) (by decide +kernel))), by decide +kernel⟩
theorem tw_222 : (.code ⟨"ParityArray", "prepareRows", "(IIJ)V"⟩ prog_1_method_18_code 8 (none : Option Jvm.ClassFile.FieldType) : Cond) ∈ pz_G := List.mem_filter.mpr ⟨List.mem_append_right _ (List.mem_append_left _ (List.mem_of_getElem? (i := 222) (by decide +kernel))), by decide +kernel⟩
theorem tw_223 : (.methodLink "ParityArray" 61 ⟨"ParityArray$Supply", "begin", "(Z)V"⟩ : Cond) ∈ pz_G := List.mem_filter.mpr ⟨List.mem_append_right _ (List.mem_append_left _ (List.mem_of_getElem? (i := 223) (by decide +kernel))), by decide +kernel⟩
theorem tw_224 : (.instanceMethod ⟨"ParityArray$Supply", "begin", "(Z)V"⟩ : Cond) ∈ pz_G := List.mem_filter.mpr ⟨List.mem_append_right _ (List.mem_append_left _ (List.mem_of_getElem? (i := 224) (by decide +kernel))), by decide +kernel⟩
theorem tw_225 : (.selects "ParityArray$Supply" ⟨"ParityArray$Supply", "begin", "(Z)V"⟩ ⟨"ParityArray$Supply", "begin", "(Z)V"⟩ : Cond) ∈ pz_G := List.mem_filter.mpr ⟨List.mem_append_right _ (List.mem_append_left _ (List.mem_of_getElem? (i := 225) (by decide +kernel))), by decide +kernel⟩
theorem tw_226 : (.code ⟨"ParityArray$Supply", "begin", "(Z)V"⟩ prog_3_method_4_code 2 (none : Option Jvm.ClassFile.FieldType) : Cond) ∈ pz_G := List.mem_filter.mpr ⟨List.mem_append_right _ (List.mem_append_left _ (List.mem_of_getElem? (i := 226) (by decide +kernel))), by decide +kernel⟩
theorem tw_227 : (.methodLink "ParityArray" 65 ⟨"ParityArray", "writeRows", "(I)V"⟩ : Cond) ∈ pz_G := List.mem_filter.mpr ⟨List.mem_append_right _ (List.mem_append_left _ (List.mem_of_getElem? (i := 227) (by decide +kernel))), by decide +kernel⟩
theorem tw_229 : (.instanceMethod ⟨"ParityArray", "writeRows", "(I)V"⟩ : Cond) ∈ pz_G := List.mem_filter.mpr ⟨List.mem_append_right _ (List.mem_append_left _ (List.mem_of_getElem? (i := 229) (by decide +kernel))), by decide +kernel⟩
theorem tw_230 : (.code ⟨"ParityArray", "writeRows", "(I)V"⟩ prog_1_method_19_code 5 (none : Option Jvm.ClassFile.FieldType) : Cond) ∈ pz_G := List.mem_filter.mpr ⟨List.mem_append_right _ (List.mem_append_left _ (List.mem_of_getElem? (i := 230) (by decide +kernel))), by decide +kernel⟩
theorem tw_231 : (.methodLink "ParityArray" 151 ⟨"ParityArray$Supply", "letThrough", "(I)I"⟩ : Cond) ∈ pz_G := List.mem_filter.mpr ⟨List.mem_append_right _ (List.mem_append_left _ (List.mem_of_getElem? (i := 231) (by decide +kernel))), by decide +kernel⟩
theorem tw_232 : (.instanceMethod ⟨"ParityArray$Supply", "letThrough", "(I)I"⟩ : Cond) ∈ pz_G := List.mem_filter.mpr ⟨List.mem_append_right _ (List.mem_append_left _ (List.mem_of_getElem? (i := 232) (by decide +kernel))), by decide +kernel⟩
theorem tw_233 : (.selects "ParityArray$Supply" ⟨"ParityArray$Supply", "letThrough", "(I)I"⟩ ⟨"ParityArray$Supply", "letThrough", "(I)I"⟩ : Cond) ∈ pz_G := List.mem_filter.mpr ⟨List.mem_append_right _ (List.mem_append_left _ (List.mem_of_getElem? (i := 233) (by decide +kernel))), by decide +kernel⟩
theorem tw_234 : (.code ⟨"ParityArray$Supply", "letThrough", "(I)I"⟩ prog_3_method_5_code 2 (some .int) : Cond) ∈ pz_G := List.mem_filter.mpr ⟨List.mem_append_right _ (List.mem_append_left _ (List.mem_of_getElem? (i := 234) (by decide +kernel))), by decide +kernel⟩
theorem tw_235 : (.methodLink "ParityArray$Supply" 32 ⟨"java/lang/Math", "min", "(II)I"⟩ : Cond) ∈ pz_G := List.mem_filter.mpr ⟨List.mem_append_right _ (List.mem_append_left _ (List.mem_of_getElem? (i := 235) (by decide +kernel))), by decide +kernel⟩
theorem tw_236 : (.static ⟨"java/lang/Math", "min", "(II)I"⟩ : Cond) ∈ pz_G := List.mem_filter.mpr ⟨List.mem_append_right _ (List.mem_append_left _ (List.mem_of_getElem? (i := 236) (by decide +kernel))), by decide +kernel⟩
theorem tw_237 : (.code ⟨"java/lang/Math", "min", "(II)I"⟩ prog_11_method_69_code 2 (some .int) : Cond) ∈ pz_G := List.mem_filter.mpr ⟨List.mem_append_right _ (List.mem_append_left _ (List.mem_of_getElem? (i := 237) (by decide +kernel))), by decide +kernel⟩
theorem tw_238 : (.methodLink "ParityArray" 154 ⟨"ParityArray$Disk", "writeRecord", "(I[JI)V"⟩ : Cond) ∈ pz_G := List.mem_filter.mpr ⟨List.mem_append_right _ (List.mem_append_left _ (List.mem_of_getElem? (i := 238) (by decide +kernel))), by decide +kernel⟩
theorem tw_239 : (.instanceMethod ⟨"ParityArray$Disk", "writeRecord", "(I[JI)V"⟩ : Cond) ∈ pz_G := List.mem_filter.mpr ⟨List.mem_append_right _ (List.mem_append_left _ (List.mem_of_getElem? (i := 239) (by decide +kernel))), by decide +kernel⟩
theorem tw_240 : (.selects "ParityArray$Disk" ⟨"ParityArray$Disk", "writeRecord", "(I[JI)V"⟩ ⟨"ParityArray$Disk", "writeRecord", "(I[JI)V"⟩ : Cond) ∈ pz_G := List.mem_filter.mpr ⟨List.mem_append_right _ (List.mem_append_right _ (List.mem_of_getElem? (i := 0) (by decide +kernel))), by decide +kernel⟩
theorem tw_241 : (.code ⟨"ParityArray$Disk", "writeRecord", "(I[JI)V"⟩ prog_2_method_6_code 4 (none : Option Jvm.ClassFile.FieldType) : Cond) ∈ pz_G := List.mem_filter.mpr ⟨List.mem_append_right _ (List.mem_append_right _ (List.mem_of_getElem? (i := 1) (by decide +kernel))), by decide +kernel⟩
theorem tw_242 : (.methodLink "ParityArray$Disk" 35 ⟨"java/lang/System", "arraycopy", "(Ljava/lang/Object;ILjava/lang/Object;II)V"⟩ : Cond) ∈ pz_G := List.mem_filter.mpr ⟨List.mem_append_right _ (List.mem_append_right _ (List.mem_of_getElem? (i := 2) (by decide +kernel))), by decide +kernel⟩
theorem tw_243 : (.static ⟨"java/lang/System", "arraycopy", "(Ljava/lang/Object;ILjava/lang/Object;II)V"⟩ : Cond) ∈ pz_G := List.mem_filter.mpr ⟨List.mem_append_right _ (List.mem_append_right _ (List.mem_of_getElem? (i := 3) (by decide +kernel))), by decide +kernel⟩
theorem tw_244 : (.native ⟨"java/lang/System", "arraycopy", "(Ljava/lang/Object;ILjava/lang/Object;II)V"⟩ : Cond) ∈ pz_G := List.mem_filter.mpr ⟨List.mem_append_right _ (List.mem_append_right _ (List.mem_of_getElem? (i := 4) (by decide +kernel))), by decide +kernel⟩
theorem tw_245 : (.methodLink "ParityArray" 158 ⟨"ParityArray$Disk", "writeRow", "(I[JI)V"⟩ : Cond) ∈ pz_G := List.mem_filter.mpr ⟨List.mem_append_right _ (List.mem_append_right _ (List.mem_of_getElem? (i := 5) (by decide +kernel))), by decide +kernel⟩
theorem tw_246 : (.instanceMethod ⟨"ParityArray$Disk", "writeRow", "(I[JI)V"⟩ : Cond) ∈ pz_G := List.mem_filter.mpr ⟨List.mem_append_right _ (List.mem_append_right _ (List.mem_of_getElem? (i := 6) (by decide +kernel))), by decide +kernel⟩
theorem tw_247 : (.selects "ParityArray$Disk" ⟨"ParityArray$Disk", "writeRow", "(I[JI)V"⟩ ⟨"ParityArray$Disk", "writeRow", "(I[JI)V"⟩ : Cond) ∈ pz_G := List.mem_filter.mpr ⟨List.mem_append_right _ (List.mem_append_right _ (List.mem_of_getElem? (i := 7) (by decide +kernel))), by decide +kernel⟩
theorem tw_248 : (.code ⟨"ParityArray$Disk", "writeRow", "(I[JI)V"⟩ prog_2_method_7_code 9 (none : Option Jvm.ClassFile.FieldType) : Cond) ∈ pz_G := List.mem_filter.mpr ⟨List.mem_append_right _ (List.mem_append_right _ (List.mem_of_getElem? (i := 8) (by decide +kernel))), by decide +kernel⟩
theorem tw_249 : (.constantLong "ParityArray$Disk" 41 (-1) : Cond) ∈ pz_G := List.mem_filter.mpr ⟨List.mem_append_right _ (List.mem_append_right _ (List.mem_of_getElem? (i := 9) (by decide +kernel))), by decide +kernel⟩
theorem tw_250 : (.methodLink "ParityArray" 69 ⟨"ParityArray$Supply", "end", "()V"⟩ : Cond) ∈ pz_G := List.mem_filter.mpr ⟨List.mem_append_right _ (List.mem_append_right _ (List.mem_of_getElem? (i := 10) (by decide +kernel))), by decide +kernel⟩
theorem tw_251 : (.instanceMethod ⟨"ParityArray$Supply", "end", "()V"⟩ : Cond) ∈ pz_G := List.mem_filter.mpr ⟨List.mem_append_right _ (List.mem_append_right _ (List.mem_of_getElem? (i := 11) (by decide +kernel))), by decide +kernel⟩
theorem tw_252 : (.selects "ParityArray$Supply" ⟨"ParityArray$Supply", "end", "()V"⟩ ⟨"ParityArray$Supply", "end", "()V"⟩ : Cond) ∈ pz_G := List.mem_filter.mpr ⟨List.mem_append_right _ (List.mem_append_right _ (List.mem_of_getElem? (i := 12) (by decide +kernel))), by decide +kernel⟩
theorem tw_253 : (.code ⟨"ParityArray$Supply", "end", "()V"⟩ prog_3_method_6_code 1 (none : Option Jvm.ClassFile.FieldType) : Cond) ∈ pz_G := List.mem_filter.mpr ⟨List.mem_append_right _ (List.mem_append_right _ (List.mem_of_getElem? (i := 13) (by decide +kernel))), by decide +kernel⟩
theorem tw_254 : (.classLink "ParityArray" 72 "java/lang/ArithmeticException" : Cond) ∈ pz_G := List.mem_filter.mpr ⟨List.mem_append_right _ (List.mem_append_right _ (List.mem_of_getElem? (i := 14) (by decide +kernel))), by decide +kernel⟩
theorem tw_255 : (.instantiable "java/lang/ArithmeticException" 6 : Cond) ∈ pz_G := List.mem_filter.mpr ⟨List.mem_append_right _ (List.mem_append_right _ (List.mem_of_getElem? (i := 15) (by decide +kernel))), by decide +kernel⟩
theorem tw_257 : (.selects "java/lang/ArithmeticException" ⟨"java/lang/Throwable", "fillInStackTrace", "(I)Ljava/lang/Throwable;"⟩ ⟨"java/lang/Throwable", "fillInStackTrace", "(I)Ljava/lang/Throwable;"⟩ : Cond) ∈ pz_G := List.mem_filter.mpr ⟨List.mem_append_right _ (List.mem_append_right _ (List.mem_of_getElem? (i := 17) (by decide +kernel))), by decide +kernel⟩
theorem tw_258 : (.lays "java/lang/ArithmeticException" "java/lang/Throwable" "cause" "Ljava/lang/Throwable;" : Cond) ∈ pz_G := List.mem_filter.mpr ⟨List.mem_append_right _ (List.mem_append_right _ (List.mem_of_getElem? (i := 18) (by decide +kernel))), by decide +kernel⟩
theorem tw_259 : (.lays "java/lang/ArithmeticException" "java/lang/Throwable" "stackTrace" "[Ljava/lang/StackTraceElement;" : Cond) ∈ pz_G := List.mem_filter.mpr ⟨List.mem_append_right _ (List.mem_append_right _ (List.mem_of_getElem? (i := 19) (by decide +kernel))), by decide +kernel⟩
theorem tw_260 : (.lays "java/lang/ArithmeticException" "java/lang/Throwable" "suppressedExceptions" "Ljava/util/List;" : Cond) ∈ pz_G := List.mem_filter.mpr ⟨List.mem_append_right _ (List.mem_append_right _ (List.mem_of_getElem? (i := 20) (by decide +kernel))), by decide +kernel⟩
theorem tw_261 : (.lays "java/lang/ArithmeticException" "java/lang/Throwable" "detailMessage" "Ljava/lang/String;" : Cond) ∈ pz_G := List.mem_filter.mpr ⟨List.mem_append_right _ (List.mem_append_right _ (List.mem_of_getElem? (i := 21) (by decide +kernel))), by decide +kernel⟩
theorem tw_262 : (.lays "java/lang/ArithmeticException" "java/lang/Throwable" "backtrace" "Ljava/lang/Object;" : Cond) ∈ pz_G := List.mem_filter.mpr ⟨List.mem_append_right _ (List.mem_append_right _ (List.mem_of_getElem? (i := 22) (by decide +kernel))), by decide +kernel⟩
theorem tw_264 : (.methodLink "ParityArray" 76 ⟨"java/lang/ArithmeticException", "<init>", "(Ljava/lang/String;)V"⟩ : Cond) ∈ pz_G := List.mem_filter.mpr ⟨List.mem_append_right _ (List.mem_append_right _ (List.mem_of_getElem? (i := 24) (by decide +kernel))), by decide +kernel⟩
theorem tw_265 : (.instanceMethod ⟨"java/lang/ArithmeticException", "<init>", "(Ljava/lang/String;)V"⟩ : Cond) ∈ pz_G := List.mem_filter.mpr ⟨List.mem_append_right _ (List.mem_append_right _ (List.mem_of_getElem? (i := 25) (by decide +kernel))), by decide +kernel⟩
theorem tw_266 : (.code ⟨"java/lang/ArithmeticException", "<init>", "(Ljava/lang/String;)V"⟩ prog_6_method_2_code 2 (none : Option Jvm.ClassFile.FieldType) : Cond) ∈ pz_G := List.mem_filter.mpr ⟨List.mem_append_right _ (List.mem_append_right _ (List.mem_of_getElem? (i := 26) (by decide +kernel))), by decide +kernel⟩
theorem tw_267 : (.methodLink "java/lang/ArithmeticException" 7 ⟨"java/lang/RuntimeException", "<init>", "(Ljava/lang/String;)V"⟩ : Cond) ∈ pz_G := List.mem_filter.mpr ⟨List.mem_append_right _ (List.mem_append_right _ (List.mem_of_getElem? (i := 27) (by decide +kernel))), by decide +kernel⟩
theorem tw_268 : (.lays "java/lang/ArithmeticException" "java/lang/Throwable" "depth" "I" : Cond) ∈ pz_G := List.mem_filter.mpr ⟨List.mem_append_right _ (List.mem_append_right _ (List.mem_of_getElem? (i := 28) (by decide +kernel))), by decide +kernel⟩
theorem tw_269 : (.superclass "java/lang/ArithmeticException" "java/lang/RuntimeException" : Cond) ∈ pz_G := List.mem_filter.mpr ⟨List.mem_append_right _ (List.mem_append_right _ (List.mem_of_getElem? (i := 29) (by decide +kernel))), by decide +kernel⟩
theorem tw_270 : (.methodLink "ParityArrayLaw" 65 ⟨"ParityArrayLaw", "get", "(LParityArray;II[J)I"⟩ : Cond) ∈ pz_G := List.mem_filter.mpr ⟨List.mem_append_right _ (List.mem_append_right _ (List.mem_of_getElem? (i := 30) (by decide +kernel))), by decide +kernel⟩
theorem tw_271 : (.static ⟨"ParityArrayLaw", "get", "(LParityArray;II[J)I"⟩ : Cond) ∈ pz_G := List.mem_filter.mpr ⟨List.mem_append_right _ (List.mem_append_right _ (List.mem_of_getElem? (i := 31) (by decide +kernel))), by decide +kernel⟩
theorem tw_273 : (.methodLink "ParityArrayLaw" 19 ⟨"ParityArray", "get", "(II)J"⟩ : Cond) ∈ pz_G := List.mem_filter.mpr ⟨List.mem_append_right _ (List.mem_append_right _ (List.mem_of_getElem? (i := 33) (by decide +kernel))), by decide +kernel⟩
theorem tw_274 : (.instanceMethod ⟨"ParityArray", "get", "(II)J"⟩ : Cond) ∈ pz_G := List.mem_filter.mpr ⟨List.mem_append_right _ (List.mem_append_right _ (List.mem_of_getElem? (i := 34) (by decide +kernel))), by decide +kernel⟩
theorem tw_275 : (.selects "ParityArray" ⟨"ParityArray", "get", "(II)J"⟩ ⟨"ParityArray", "get", "(II)J"⟩ : Cond) ∈ pz_G := List.mem_filter.mpr ⟨List.mem_append_right _ (List.mem_append_right _ (List.mem_of_getElem? (i := 35) (by decide +kernel))), by decide +kernel⟩
theorem tw_276 : (.code ⟨"ParityArray", "get", "(II)J"⟩ prog_1_method_3_code 3 (some .long) : Cond) ∈ pz_G := List.mem_filter.mpr ⟨List.mem_append_right _ (List.mem_append_right _ (List.mem_of_getElem? (i := 36) (by decide +kernel))), by decide +kernel⟩
theorem tw_277 : (.methodLink "ParityArrayLaw" 69 ⟨"ParityArrayLaw", "die", "(LParityArray;I)I"⟩ : Cond) ∈ pz_G := List.mem_filter.mpr ⟨List.mem_append_right _ (List.mem_append_right _ (List.mem_of_getElem? (i := 37) (by decide +kernel))), by decide +kernel⟩
theorem tw_278 : (.static ⟨"ParityArrayLaw", "die", "(LParityArray;I)I"⟩ : Cond) ∈ pz_G := List.mem_filter.mpr ⟨List.mem_append_right _ (List.mem_append_right _ (List.mem_of_getElem? (i := 38) (by decide +kernel))), by decide +kernel⟩
theorem tw_280 : (.methodLink "ParityArrayLaw" 23 ⟨"ParityArray", "die", "(I)V"⟩ : Cond) ∈ pz_G := List.mem_filter.mpr ⟨List.mem_append_right _ (List.mem_append_right _ (List.mem_of_getElem? (i := 40) (by decide +kernel))), by decide +kernel⟩
theorem tw_281 : (.instanceMethod ⟨"ParityArray", "die", "(I)V"⟩ : Cond) ∈ pz_G := List.mem_filter.mpr ⟨List.mem_append_right _ (List.mem_append_right _ (List.mem_of_getElem? (i := 41) (by decide +kernel))), by decide +kernel⟩
theorem tw_282 : (.selects "ParityArray" ⟨"ParityArray", "die", "(I)V"⟩ ⟨"ParityArray", "die", "(I)V"⟩ : Cond) ∈ pz_G := List.mem_filter.mpr ⟨List.mem_append_right _ (List.mem_append_right _ (List.mem_of_getElem? (i := 42) (by decide +kernel))), by decide +kernel⟩
theorem tw_283 : (.code ⟨"ParityArray", "die", "(I)V"⟩ prog_1_method_4_code 2 (none : Option Jvm.ClassFile.FieldType) : Cond) ∈ pz_G := List.mem_filter.mpr ⟨List.mem_append_right _ (List.mem_append_right _ (List.mem_of_getElem? (i := 43) (by decide +kernel))), by decide +kernel⟩
theorem tw_285 : (.methodLink "ParityArray" 79 ⟨"ParityArray", "unwellDisk", "()I"⟩ : Cond) ∈ pz_G := List.mem_filter.mpr ⟨List.mem_append_right _ (List.mem_append_right _ (List.mem_of_getElem? (i := 45) (by decide +kernel))), by decide +kernel⟩
theorem tw_287 : (.instanceMethod ⟨"ParityArray", "unwellDisk", "()I"⟩ : Cond) ∈ pz_G := List.mem_filter.mpr ⟨List.mem_append_right _ (List.mem_append_right _ (List.mem_of_getElem? (i := 47) (by decide +kernel))), by decide +kernel⟩
theorem tw_288 : (.code ⟨"ParityArray", "unwellDisk", "()I"⟩ prog_1_method_15_code 2 (some .int) : Cond) ∈ pz_G := List.mem_filter.mpr ⟨List.mem_append_right _ (List.mem_append_right _ (List.mem_of_getElem? (i := 48) (by decide +kernel))), by decide +kernel⟩
theorem tw_289 : (.methodLink "ParityArray" 134 ⟨"ParityArray$Disk", "isWell", "()Z"⟩ : Cond) ∈ pz_G := List.mem_filter.mpr ⟨List.mem_append_right _ (List.mem_append_right _ (List.mem_of_getElem? (i := 49) (by decide +kernel))), by decide +kernel⟩
theorem tw_290 : (.instanceMethod ⟨"ParityArray$Disk", "isWell", "()Z"⟩ : Cond) ∈ pz_G := List.mem_filter.mpr ⟨List.mem_append_right _ (List.mem_append_right _ (List.mem_of_getElem? (i := 50) (by decide +kernel))), by decide +kernel⟩
theorem tw_291 : (.selects "ParityArray$Disk" ⟨"ParityArray$Disk", "isWell", "()Z"⟩ ⟨"ParityArray$Disk", "isWell", "()Z"⟩ : Cond) ∈ pz_G := List.mem_filter.mpr ⟨List.mem_append_right _ (List.mem_append_right _ (List.mem_of_getElem? (i := 51) (by decide +kernel))), by decide +kernel⟩
theorem tw_292 : (.code ⟨"ParityArray$Disk", "isWell", "()Z"⟩ prog_2_method_2_code 1 (some .boolean) : Cond) ∈ pz_G := List.mem_filter.mpr ⟨List.mem_append_right _ (List.mem_append_right _ (List.mem_of_getElem? (i := 52) (by decide +kernel))), by decide +kernel⟩
theorem tw_294 : (.methodLink "ParityArray" 85 ⟨"ParityArray$Disk", "loseAll", "()V"⟩ : Cond) ∈ pz_G := List.mem_filter.mpr ⟨List.mem_append_right _ (List.mem_append_right _ (List.mem_of_getElem? (i := 54) (by decide +kernel))), by decide +kernel⟩
theorem tw_295 : (.instanceMethod ⟨"ParityArray$Disk", "loseAll", "()V"⟩ : Cond) ∈ pz_G := List.mem_filter.mpr ⟨List.mem_append_right _ (List.mem_append_right _ (List.mem_of_getElem? (i := 55) (by decide +kernel))), by decide +kernel⟩
theorem tw_296 : (.selects "ParityArray$Disk" ⟨"ParityArray$Disk", "loseAll", "()V"⟩ ⟨"ParityArray$Disk", "loseAll", "()V"⟩ : Cond) ∈ pz_G := List.mem_filter.mpr ⟨List.mem_append_right _ (List.mem_append_right _ (List.mem_of_getElem? (i := 56) (by decide +kernel))), by decide +kernel⟩
theorem tw_297 : (.code ⟨"ParityArray$Disk", "loseAll", "()V"⟩ prog_2_method_5_code 1 (none : Option Jvm.ClassFile.FieldType) : Cond) ∈ pz_G := List.mem_filter.mpr ⟨List.mem_append_right _ (List.mem_append_right _ (List.mem_of_getElem? (i := 57) (by decide +kernel))), by decide +kernel⟩
theorem tw_298 : (.methodLink "ParityArray$Disk" 29 ⟨"java/util/Arrays", "fill", "([JJ)V"⟩ : Cond) ∈ pz_G := List.mem_filter.mpr ⟨List.mem_append_right _ (List.mem_append_right _ (List.mem_of_getElem? (i := 58) (by decide +kernel))), by decide +kernel⟩
theorem tw_299 : (.static ⟨"java/util/Arrays", "fill", "([JJ)V"⟩ : Cond) ∈ pz_G := List.mem_filter.mpr ⟨List.mem_append_right _ (List.mem_append_right _ (List.mem_of_getElem? (i := 59) (by decide +kernel))), by decide +kernel⟩
theorem tw_300 : (.code ⟨"java/util/Arrays", "fill", "([JJ)V"⟩ prog_16_method_101_code 5 (none : Option Jvm.ClassFile.FieldType) : Cond) ∈ pz_G := List.mem_filter.mpr ⟨List.mem_append_right _ (List.mem_append_right _ (List.mem_of_getElem? (i := 60) (by decide +kernel))), by decide +kernel⟩
theorem tw_301 : (.methodLink "ParityArrayLaw" 73 ⟨"ParityArrayLaw", "replace", "(LParityArray;[J)I"⟩ : Cond) ∈ pz_G := List.mem_filter.mpr ⟨List.mem_append_right _ (List.mem_append_right _ (List.mem_of_getElem? (i := 61) (by decide +kernel))), by decide +kernel⟩
theorem tw_302 : (.static ⟨"ParityArrayLaw", "replace", "(LParityArray;[J)I"⟩ : Cond) ∈ pz_G := List.mem_filter.mpr ⟨List.mem_append_right _ (List.mem_append_right _ (List.mem_of_getElem? (i := 62) (by decide +kernel))), by decide +kernel⟩
theorem tw_304 : (.methodLink "ParityArrayLaw" 27 ⟨"ParityArray", "replace", "()I"⟩ : Cond) ∈ pz_G := List.mem_filter.mpr ⟨List.mem_append_right _ (List.mem_append_right _ (List.mem_of_getElem? (i := 64) (by decide +kernel))), by decide +kernel⟩
theorem tw_305 : (.instanceMethod ⟨"ParityArray", "replace", "()I"⟩ : Cond) ∈ pz_G := List.mem_filter.mpr ⟨List.mem_append_right _ (List.mem_append_right _ (List.mem_of_getElem? (i := 65) (by decide +kernel))), by decide +kernel⟩
theorem tw_306 : (.selects "ParityArray" ⟨"ParityArray", "replace", "()I"⟩ ⟨"ParityArray", "replace", "()I"⟩ : Cond) ∈ pz_G := List.mem_filter.mpr ⟨List.mem_append_right _ (List.mem_append_right _ (List.mem_of_getElem? (i := 66) (by decide +kernel))), by decide +kernel⟩
theorem tw_307 : (.code ⟨"ParityArray", "replace", "()I"⟩ prog_1_method_5_code 2 (some .int) : Cond) ∈ pz_G := List.mem_filter.mpr ⟨List.mem_append_right _ (List.mem_append_right _ (List.mem_of_getElem? (i := 67) (by decide +kernel))), by decide +kernel⟩
theorem tw_309 : (.methodLink "ParityArrayLaw" 77 ⟨"ParityArrayLaw", "rebuild", "(LParityArray;[J)I"⟩ : Cond) ∈ pz_G := List.mem_filter.mpr ⟨List.mem_append_right _ (List.mem_append_right _ (List.mem_of_getElem? (i := 69) (by decide +kernel))), by decide +kernel⟩
theorem tw_310 : (.static ⟨"ParityArrayLaw", "rebuild", "(LParityArray;[J)I"⟩ : Cond) ∈ pz_G := List.mem_filter.mpr ⟨List.mem_append_right _ (List.mem_append_right _ (List.mem_of_getElem? (i := 70) (by decide +kernel))), by decide +kernel⟩
theorem tw_312 : (.methodLink "ParityArrayLaw" 31 ⟨"ParityArray", "rebuild", "()I"⟩ : Cond) ∈ pz_G := List.mem_filter.mpr ⟨List.mem_append_right _ (List.mem_append_right _ (List.mem_of_getElem? (i := 72) (by decide +kernel))), by decide +kernel⟩
theorem tw_313 : (.instanceMethod ⟨"ParityArray", "rebuild", "()I"⟩ : Cond) ∈ pz_G := List.mem_filter.mpr ⟨List.mem_append_right _ (List.mem_append_right _ (List.mem_of_getElem? (i := 73) (by decide +kernel))), by decide +kernel⟩
theorem tw_314 : (.selects "ParityArray" ⟨"ParityArray", "rebuild", "()I"⟩ ⟨"ParityArray", "rebuild", "()I"⟩ : Cond) ∈ pz_G := List.mem_filter.mpr ⟨List.mem_append_right _ (List.mem_append_right _ (List.mem_of_getElem? (i := 74) (by decide +kernel))), by decide +kernel⟩
theorem tw_315 : (.code ⟨"ParityArray", "rebuild", "()I"⟩ prog_1_method_6_code 2 (some .int) : Cond) ∈ pz_G := List.mem_filter.mpr ⟨List.mem_append_right _ (List.mem_append_right _ (List.mem_of_getElem? (i := 75) (by decide +kernel))), by decide +kernel⟩
theorem tw_317 : (.methodLink "ParityArray" 99 ⟨"ParityArray", "rebuildStripe", "(II)V"⟩ : Cond) ∈ pz_G := List.mem_filter.mpr ⟨List.mem_append_right _ (List.mem_append_right _ (List.mem_of_getElem? (i := 77) (by decide +kernel))), by decide +kernel⟩
theorem tw_319 : (.instanceMethod ⟨"ParityArray", "rebuildStripe", "(II)V"⟩ : Cond) ∈ pz_G := List.mem_filter.mpr ⟨List.mem_append_right _ (List.mem_append_right _ (List.mem_of_getElem? (i := 79) (by decide +kernel))), by decide +kernel⟩
theorem tw_320 : (.code ⟨"ParityArray", "rebuildStripe", "(II)V"⟩ prog_1_method_21_code 4 (none : Option Jvm.ClassFile.FieldType) : Cond) ∈ pz_G := List.mem_filter.mpr ⟨List.mem_append_right _ (List.mem_append_right _ (List.mem_of_getElem? (i := 80) (by decide +kernel))), by decide +kernel⟩
theorem tw_321 : (.methodLink "ParityArrayLaw" 80 ⟨"ParityArrayLaw", "power", "(LParityArray;IIZ)I"⟩ : Cond) ∈ pz_G := List.mem_filter.mpr ⟨List.mem_append_right _ (List.mem_append_right _ (List.mem_of_getElem? (i := 81) (by decide +kernel))), by decide +kernel⟩
theorem tw_322 : (.static ⟨"ParityArrayLaw", "power", "(LParityArray;IIZ)I"⟩ : Cond) ∈ pz_G := List.mem_filter.mpr ⟨List.mem_append_right _ (List.mem_append_right _ (List.mem_of_getElem? (i := 82) (by decide +kernel))), by decide +kernel⟩
theorem tw_324 : (.classLink "ParityArrayLaw" 38 "java/lang/IllegalArgumentException" : Cond) ∈ pz_G := List.mem_filter.mpr ⟨List.mem_append_right _ (List.mem_append_right _ (List.mem_of_getElem? (i := 84) (by decide +kernel))), by decide +kernel⟩
theorem tw_325 : (.methodLink "ParityArrayLaw" 34 ⟨"ParityArray", "power", "(IIZ)V"⟩ : Cond) ∈ pz_G := List.mem_filter.mpr ⟨List.mem_append_right _ (List.mem_append_right _ (List.mem_of_getElem? (i := 85) (by decide +kernel))), by decide +kernel⟩
theorem tw_326 : (.instanceMethod ⟨"ParityArray", "power", "(IIZ)V"⟩ : Cond) ∈ pz_G := List.mem_filter.mpr ⟨List.mem_append_right _ (List.mem_append_right _ (List.mem_of_getElem? (i := 86) (by decide +kernel))), by decide +kernel⟩
theorem tw_327 : (.selects "ParityArray" ⟨"ParityArray", "power", "(IIZ)V"⟩ ⟨"ParityArray", "power", "(IIZ)V"⟩ : Cond) ∈ pz_G := List.mem_filter.mpr ⟨List.mem_append_right _ (List.mem_append_right _ (List.mem_of_getElem? (i := 87) (by decide +kernel))), by decide +kernel⟩
theorem tw_328 : (.code ⟨"ParityArray", "power", "(IIZ)V"⟩ prog_1_method_7_code 4 (none : Option Jvm.ClassFile.FieldType) : Cond) ∈ pz_G := List.mem_filter.mpr ⟨List.mem_append_right _ (List.mem_append_right _ (List.mem_of_getElem? (i := 88) (by decide +kernel))), by decide +kernel⟩
theorem tw_329 : (.classLink "ParityArray" 103 "java/lang/IllegalArgumentException" : Cond) ∈ pz_G := List.mem_filter.mpr ⟨List.mem_append_right _ (List.mem_append_right _ (List.mem_of_getElem? (i := 89) (by decide +kernel))), by decide +kernel⟩
theorem tw_330 : (.instantiable "java/lang/IllegalArgumentException" 6 : Cond) ∈ pz_G := List.mem_filter.mpr ⟨List.mem_append_right _ (List.mem_append_right _ (List.mem_of_getElem? (i := 90) (by decide +kernel))), by decide +kernel⟩
theorem tw_332 : (.selects "java/lang/IllegalArgumentException" ⟨"java/lang/Throwable", "fillInStackTrace", "(I)Ljava/lang/Throwable;"⟩ ⟨"java/lang/Throwable", "fillInStackTrace", "(I)Ljava/lang/Throwable;"⟩ : Cond) ∈ pz_G := List.mem_filter.mpr ⟨List.mem_append_right _ (List.mem_append_right _ (List.mem_of_getElem? (i := 92) (by decide +kernel))), by decide +kernel⟩
theorem tw_333 : (.lays "java/lang/IllegalArgumentException" "java/lang/Throwable" "cause" "Ljava/lang/Throwable;" : Cond) ∈ pz_G := List.mem_filter.mpr ⟨List.mem_append_right _ (List.mem_append_right _ (List.mem_of_getElem? (i := 93) (by decide +kernel))), by decide +kernel⟩
theorem tw_334 : (.lays "java/lang/IllegalArgumentException" "java/lang/Throwable" "stackTrace" "[Ljava/lang/StackTraceElement;" : Cond) ∈ pz_G := List.mem_filter.mpr ⟨List.mem_append_right _ (List.mem_append_right _ (List.mem_of_getElem? (i := 94) (by decide +kernel))), by decide +kernel⟩
theorem tw_335 : (.lays "java/lang/IllegalArgumentException" "java/lang/Throwable" "suppressedExceptions" "Ljava/util/List;" : Cond) ∈ pz_G := List.mem_filter.mpr ⟨List.mem_append_right _ (List.mem_append_right _ (List.mem_of_getElem? (i := 95) (by decide +kernel))), by decide +kernel⟩
theorem tw_336 : (.lays "java/lang/IllegalArgumentException" "java/lang/Throwable" "detailMessage" "Ljava/lang/String;" : Cond) ∈ pz_G := List.mem_filter.mpr ⟨List.mem_append_right _ (List.mem_append_right _ (List.mem_of_getElem? (i := 96) (by decide +kernel))), by decide +kernel⟩
theorem tw_337 : (.lays "java/lang/IllegalArgumentException" "java/lang/Throwable" "backtrace" "Ljava/lang/Object;" : Cond) ∈ pz_G := List.mem_filter.mpr ⟨List.mem_append_right _ (List.mem_append_right _ (List.mem_of_getElem? (i := 97) (by decide +kernel))), by decide +kernel⟩
theorem tw_339 : (.methodLink "ParityArray" 107 ⟨"java/lang/IllegalArgumentException", "<init>", "(Ljava/lang/String;)V"⟩ : Cond) ∈ pz_G := List.mem_filter.mpr ⟨List.mem_append_right _ (List.mem_append_right _ (List.mem_of_getElem? (i := 99) (by decide +kernel))), by decide +kernel⟩
theorem tw_340 : (.instanceMethod ⟨"java/lang/IllegalArgumentException", "<init>", "(Ljava/lang/String;)V"⟩ : Cond) ∈ pz_G := List.mem_filter.mpr ⟨List.mem_append_right _ (List.mem_append_right _ (List.mem_of_getElem? (i := 100) (by decide +kernel))), by decide +kernel⟩
theorem tw_341 : (.code ⟨"java/lang/IllegalArgumentException", "<init>", "(Ljava/lang/String;)V"⟩ prog_8_method_2_code 2 (none : Option Jvm.ClassFile.FieldType) : Cond) ∈ pz_G := List.mem_filter.mpr ⟨List.mem_append_right _ (List.mem_append_right _ (List.mem_of_getElem? (i := 101) (by decide +kernel))), by decide +kernel⟩
theorem tw_342 : (.methodLink "java/lang/IllegalArgumentException" 7 ⟨"java/lang/RuntimeException", "<init>", "(Ljava/lang/String;)V"⟩ : Cond) ∈ pz_G := List.mem_filter.mpr ⟨List.mem_append_right _ (List.mem_append_right _ (List.mem_of_getElem? (i := 102) (by decide +kernel))), by decide +kernel⟩
theorem tw_343 : (.lays "java/lang/IllegalArgumentException" "java/lang/Throwable" "depth" "I" : Cond) ∈ pz_G := List.mem_filter.mpr ⟨List.mem_append_right _ (List.mem_append_right _ (List.mem_of_getElem? (i := 103) (by decide +kernel))), by decide +kernel⟩
theorem tw_344 : (.superclass "java/lang/IllegalArgumentException" "java/lang/RuntimeException" : Cond) ∈ pz_G := List.mem_filter.mpr ⟨List.mem_append_right _ (List.mem_append_right _ (List.mem_of_getElem? (i := 104) (by decide +kernel))), by decide +kernel⟩
theorem tw_346 : (.methodLink "ParityArray" 110 ⟨"ParityArray$Supply", "plan", "(IIZ)V"⟩ : Cond) ∈ pz_G := List.mem_filter.mpr ⟨List.mem_append_right _ (List.mem_append_right _ (List.mem_of_getElem? (i := 106) (by decide +kernel))), by decide +kernel⟩
theorem tw_347 : (.instanceMethod ⟨"ParityArray$Supply", "plan", "(IIZ)V"⟩ : Cond) ∈ pz_G := List.mem_filter.mpr ⟨List.mem_append_right _ (List.mem_append_right _ (List.mem_of_getElem? (i := 107) (by decide +kernel))), by decide +kernel⟩
theorem tw_348 : (.selects "ParityArray$Supply" ⟨"ParityArray$Supply", "plan", "(IIZ)V"⟩ ⟨"ParityArray$Supply", "plan", "(IIZ)V"⟩ : Cond) ∈ pz_G := List.mem_filter.mpr ⟨List.mem_append_right _ (List.mem_append_right _ (List.mem_of_getElem? (i := 108) (by decide +kernel))), by decide +kernel⟩
theorem tw_349 : (.code ⟨"ParityArray$Supply", "plan", "(IIZ)V"⟩ prog_3_method_2_code 4 (none : Option Jvm.ClassFile.FieldType) : Cond) ∈ pz_G := List.mem_filter.mpr ⟨List.mem_append_right _ (List.mem_append_right _ (List.mem_of_getElem? (i := 109) (by decide +kernel))), by decide +kernel⟩
theorem tw_350 : (.methodLink "ParityArrayLaw" 84 ⟨"ParityArrayLaw", "recover", "(LParityArray;)I"⟩ : Cond) ∈ pz_G := List.mem_filter.mpr ⟨List.mem_append_right _ (List.mem_append_right _ (List.mem_of_getElem? (i := 110) (by decide +kernel))), by decide +kernel⟩
theorem tw_351 : (.static ⟨"ParityArrayLaw", "recover", "(LParityArray;)I"⟩ : Cond) ∈ pz_G := List.mem_filter.mpr ⟨List.mem_append_right _ (List.mem_append_right _ (List.mem_of_getElem? (i := 111) (by decide +kernel))), by decide +kernel⟩
theorem tw_353 : (.methodLink "ParityArrayLaw" 40 ⟨"ParityArray", "recover", "()V"⟩ : Cond) ∈ pz_G := List.mem_filter.mpr ⟨List.mem_append_right _ (List.mem_append_right _ (List.mem_of_getElem? (i := 113) (by decide +kernel))), by decide +kernel⟩
theorem tw_354 : (.instanceMethod ⟨"ParityArray", "recover", "()V"⟩ : Cond) ∈ pz_G := List.mem_filter.mpr ⟨List.mem_append_right _ (List.mem_append_right _ (List.mem_of_getElem? (i := 114) (by decide +kernel))), by decide +kernel⟩
theorem tw_355 : (.selects "ParityArray" ⟨"ParityArray", "recover", "()V"⟩ ⟨"ParityArray", "recover", "()V"⟩ : Cond) ∈ pz_G := List.mem_filter.mpr ⟨List.mem_append_right _ (List.mem_append_right _ (List.mem_of_getElem? (i := 115) (by decide +kernel))), by decide +kernel⟩
theorem tw_356 : (.code ⟨"ParityArray", "recover", "()V"⟩ prog_1_method_8_code 2 (none : Option Jvm.ClassFile.FieldType) : Cond) ∈ pz_G := List.mem_filter.mpr ⟨List.mem_append_right _ (List.mem_append_right _ (List.mem_of_getElem? (i := 116) (by decide +kernel))), by decide +kernel⟩
theorem tw_357 : (.methodLink "ParityArray" 114 ⟨"ParityArray", "mendParity", "(LParityArray$Disk;)V"⟩ : Cond) ∈ pz_G := List.mem_filter.mpr ⟨List.mem_append_right _ (List.mem_append_right _ (List.mem_of_getElem? (i := 117) (by decide +kernel))), by decide +kernel⟩
theorem tw_359 : (.instanceMethod ⟨"ParityArray", "mendParity", "(LParityArray$Disk;)V"⟩ : Cond) ∈ pz_G := List.mem_filter.mpr ⟨List.mem_append_right _ (List.mem_append_right _ (List.mem_of_getElem? (i := 119) (by decide +kernel))), by decide +kernel⟩
theorem tw_360 : (.code ⟨"ParityArray", "mendParity", "(LParityArray$Disk;)V"⟩ prog_1_method_20_code 6 (none : Option Jvm.ClassFile.FieldType) : Cond) ∈ pz_G := List.mem_filter.mpr ⟨List.mem_append_right _ (List.mem_append_right _ (List.mem_of_getElem? (i := 120) (by decide +kernel))), by decide +kernel⟩
theorem tw_361 : (.methodLink "ParityArray" 118 ⟨"ParityArray$Supply", "forgetPlan", "()V"⟩ : Cond) ∈ pz_G := List.mem_filter.mpr ⟨List.mem_append_right _ (List.mem_append_right _ (List.mem_of_getElem? (i := 121) (by decide +kernel))), by decide +kernel⟩
theorem tw_362 : (.instanceMethod ⟨"ParityArray$Supply", "forgetPlan", "()V"⟩ : Cond) ∈ pz_G := List.mem_filter.mpr ⟨List.mem_append_right _ (List.mem_append_right _ (List.mem_of_getElem? (i := 122) (by decide +kernel))), by decide +kernel⟩
theorem tw_363 : (.selects "ParityArray$Supply" ⟨"ParityArray$Supply", "forgetPlan", "()V"⟩ ⟨"ParityArray$Supply", "forgetPlan", "()V"⟩ : Cond) ∈ pz_G := List.mem_filter.mpr ⟨List.mem_append_right _ (List.mem_append_right _ (List.mem_of_getElem? (i := 123) (by decide +kernel))), by decide +kernel⟩
theorem tw_364 : (.code ⟨"ParityArray$Supply", "forgetPlan", "()V"⟩ prog_3_method_3_code 1 (none : Option Jvm.ClassFile.FieldType) : Cond) ∈ pz_G := List.mem_filter.mpr ⟨List.mem_append_right _ (List.mem_append_right _ (List.mem_of_getElem? (i := 124) (by decide +kernel))), by decide +kernel⟩
theorem tw_365 : (.methodLink "ParityArrayLaw" 88 ⟨"ParityArrayLaw", "told", "(LParityArray;I[J)I"⟩ : Cond) ∈ pz_G := List.mem_filter.mpr ⟨List.mem_append_right _ (List.mem_append_right _ (List.mem_of_getElem? (i := 125) (by decide +kernel))), by decide +kernel⟩
theorem tw_366 : (.static ⟨"ParityArrayLaw", "told", "(LParityArray;I[J)I"⟩ : Cond) ∈ pz_G := List.mem_filter.mpr ⟨List.mem_append_right _ (List.mem_append_right _ (List.mem_of_getElem? (i := 126) (by decide +kernel))), by decide +kernel⟩
theorem tw_368 : (.methodLink "ParityArrayLaw" 43 ⟨"ParityArray", "told", "(I)I"⟩ : Cond) ∈ pz_G := List.mem_filter.mpr ⟨List.mem_append_right _ (List.mem_append_right _ (List.mem_of_getElem? (i := 128) (by decide +kernel))), by decide +kernel⟩
theorem tw_369 : (.instanceMethod ⟨"ParityArray", "told", "(I)I"⟩ : Cond) ∈ pz_G := List.mem_filter.mpr ⟨List.mem_append_right _ (List.mem_append_right _ (List.mem_of_getElem? (i := 129) (by decide +kernel))), by decide +kernel⟩
theorem tw_370 : (.selects "ParityArray" ⟨"ParityArray", "told", "(I)I"⟩ ⟨"ParityArray", "told", "(I)I"⟩ : Cond) ∈ pz_G := List.mem_filter.mpr ⟨List.mem_append_right _ (List.mem_append_right _ (List.mem_of_getElem? (i := 130) (by decide +kernel))), by decide +kernel⟩
theorem tw_371 : (.code ⟨"ParityArray", "told", "(I)I"⟩ prog_1_method_9_code 3 (some .int) : Cond) ∈ pz_G := List.mem_filter.mpr ⟨List.mem_append_right _ (List.mem_append_right _ (List.mem_of_getElem? (i := 131) (by decide +kernel))), by decide +kernel⟩
theorem tw_373 : (.methodLink "ParityArrayLaw" 92 ⟨"ParityArrayLaw", "check", "(LParityArray;[J)I"⟩ : Cond) ∈ pz_G := List.mem_filter.mpr ⟨List.mem_append_right _ (List.mem_append_right _ (List.mem_of_getElem? (i := 133) (by decide +kernel))), by decide +kernel⟩
theorem tw_374 : (.static ⟨"ParityArrayLaw", "check", "(LParityArray;[J)I"⟩ : Cond) ∈ pz_G := List.mem_filter.mpr ⟨List.mem_append_right _ (List.mem_append_right _ (List.mem_of_getElem? (i := 134) (by decide +kernel))), by decide +kernel⟩
theorem tw_376 : (.methodLink "ParityArrayLaw" 47 ⟨"ParityArray", "check", "()I"⟩ : Cond) ∈ pz_G := List.mem_filter.mpr ⟨List.mem_append_right _ (List.mem_append_right _ (List.mem_of_getElem? (i := 136) (by decide +kernel))), by decide +kernel⟩
theorem tw_377 : (.instanceMethod ⟨"ParityArray", "check", "()I"⟩ : Cond) ∈ pz_G := List.mem_filter.mpr ⟨List.mem_append_right _ (List.mem_append_right _ (List.mem_of_getElem? (i := 137) (by decide +kernel))), by decide +kernel⟩
theorem tw_378 : (.selects "ParityArray" ⟨"ParityArray", "check", "()I"⟩ ⟨"ParityArray", "check", "()I"⟩ : Cond) ∈ pz_G := List.mem_filter.mpr ⟨List.mem_append_right _ (List.mem_append_right _ (List.mem_of_getElem? (i := 138) (by decide +kernel))), by decide +kernel⟩
theorem tw_379 : (.code ⟨"ParityArray", "check", "()I"⟩ prog_1_method_10_code 3 (some .int) : Cond) ∈ pz_G := List.mem_filter.mpr ⟨List.mem_append_right _ (List.mem_append_right _ (List.mem_of_getElem? (i := 139) (by decide +kernel))), by decide +kernel⟩
theorem tw_380 : (.methodLink "ParityArray" 123 ⟨"ParityArray", "isParityRight", "(I)Z"⟩ : Cond) ∈ pz_G := List.mem_filter.mpr ⟨List.mem_append_right _ (List.mem_append_right _ (List.mem_of_getElem? (i := 140) (by decide +kernel))), by decide +kernel⟩
theorem tw_382 : (.instanceMethod ⟨"ParityArray", "isParityRight", "(I)Z"⟩ : Cond) ∈ pz_G := List.mem_filter.mpr ⟨List.mem_append_right _ (List.mem_append_right _ (List.mem_of_getElem? (i := 142) (by decide +kernel))), by decide +kernel⟩
theorem tw_383 : (.code ⟨"ParityArray", "isParityRight", "(I)Z"⟩ prog_1_method_22_code 4 (some .boolean) : Cond) ∈ pz_G := List.mem_filter.mpr ⟨List.mem_append_right _ (List.mem_append_right _ (List.mem_of_getElem? (i := 143) (by decide +kernel))), by decide +kernel⟩
theorem tw_384 : (.classLink "ParityArrayLaw" 51 "ParityArrayModel" : Cond) ∈ pz_G := List.mem_filter.mpr ⟨List.mem_append_right _ (List.mem_append_right _ (List.mem_of_getElem? (i := 144) (by decide +kernel))), by decide +kernel⟩
theorem tw_385 : (.instantiable "ParityArrayModel" 9 : Cond) ∈ pz_G := List.mem_filter.mpr ⟨List.mem_append_right _ (List.mem_append_right _ (List.mem_of_getElem? (i := 145) (by decide +kernel))), by decide +kernel⟩
theorem tw_386 : (.methodLink "ParityArrayLaw" 53 ⟨"ParityArrayModel", "<init>", "()V"⟩ : Cond) ∈ pz_G := List.mem_filter.mpr ⟨List.mem_append_right _ (List.mem_append_right _ (List.mem_of_getElem? (i := 146) (by decide +kernel))), by decide +kernel⟩
theorem tw_387 : (.instanceMethod ⟨"ParityArrayModel", "<init>", "()V"⟩ : Cond) ∈ pz_G := List.mem_filter.mpr ⟨List.mem_append_right _ (List.mem_append_right _ (List.mem_of_getElem? (i := 147) (by decide +kernel))), by decide +kernel⟩
theorem tw_388 : (.code ⟨"ParityArrayModel", "<init>", "()V"⟩ prog_5_method_1_code 1 (none : Option Jvm.ClassFile.FieldType) : Cond) ∈ pz_G := List.mem_filter.mpr ⟨List.mem_append_right _ (List.mem_append_right _ (List.mem_of_getElem? (i := 148) (by decide +kernel))), by decide +kernel⟩
theorem tw_389 : (.methodLink "ParityArrayModel" 1 ⟨"java/lang/Object", "<init>", "()V"⟩ : Cond) ∈ pz_G := List.mem_filter.mpr ⟨List.mem_append_right _ (List.mem_append_right _ (List.mem_of_getElem? (i := 149) (by decide +kernel))), by decide +kernel⟩
theorem tw_390 : (.constant "ParityArrayModel" 7 76800 : Cond) ∈ pz_G := List.mem_filter.mpr ⟨List.mem_append_right _ (List.mem_append_right _ (List.mem_of_getElem? (i := 150) (by decide +kernel))), by decide +kernel⟩
theorem tw_391 : (.fieldLink "ParityArrayModel" 8 "ParityArrayModel" "bytes" "[B" : Cond) ∈ pz_G := List.mem_filter.mpr ⟨List.mem_append_right _ (List.mem_append_right _ (List.mem_of_getElem? (i := 151) (by decide +kernel))), by decide +kernel⟩
theorem tw_392 : (.fieldLink "ParityArrayModel" 14 "ParityArrayModel" "on" "Z" : Cond) ∈ pz_G := List.mem_filter.mpr ⟨List.mem_append_right _ (List.mem_append_right _ (List.mem_of_getElem? (i := 152) (by decide +kernel))), by decide +kernel⟩
theorem tw_393 : (.fieldLink "ParityArrayModel" 18 "ParityArrayModel" "sick" "I" : Cond) ∈ pz_G := List.mem_filter.mpr ⟨List.mem_append_right _ (List.mem_append_right _ (List.mem_of_getElem? (i := 153) (by decide +kernel))), by decide +kernel⟩
theorem tw_394 : (.fieldLink "ParityArrayModel" 25 "ParityArrayModel" "fresh" "Z" : Cond) ∈ pz_G := List.mem_filter.mpr ⟨List.mem_append_right _ (List.mem_append_right _ (List.mem_of_getElem? (i := 154) (by decide +kernel))), by decide +kernel⟩
theorem tw_395 : (.fieldLink "ParityArrayModel" 28 "ParityArrayModel" "rebuilt" "I" : Cond) ∈ pz_G := List.mem_filter.mpr ⟨List.mem_append_right _ (List.mem_append_right _ (List.mem_of_getElem? (i := 155) (by decide +kernel))), by decide +kernel⟩
theorem tw_396 : (.fieldLink "ParityArrayModel" 49 "ParityArrayModel" "fails" "I" : Cond) ∈ pz_G := List.mem_filter.mpr ⟨List.mem_append_right _ (List.mem_append_right _ (List.mem_of_getElem? (i := 156) (by decide +kernel))), by decide +kernel⟩
theorem tw_397 : (.fieldLink "ParityArrayModel" 35 "ParityArrayModel" "write" "I" : Cond) ∈ pz_G := List.mem_filter.mpr ⟨List.mem_append_right _ (List.mem_append_right _ (List.mem_of_getElem? (i := 157) (by decide +kernel))), by decide +kernel⟩
theorem tw_398 : (.fieldLink "ParityArrayModel" 38 "ParityArrayModel" "cut" "I" : Cond) ∈ pz_G := List.mem_filter.mpr ⟨List.mem_append_right _ (List.mem_append_right _ (List.mem_of_getElem? (i := 158) (by decide +kernel))), by decide +kernel⟩
theorem tw_399 : (.fieldLink "ParityArrayModel" 22 "ParityArrayModel" "thrown" "I" : Cond) ∈ pz_G := List.mem_filter.mpr ⟨List.mem_append_right _ (List.mem_append_right _ (List.mem_of_getElem? (i := 159) (by decide +kernel))), by decide +kernel⟩
theorem tw_400 : (.laysFinal "ParityArrayModel" "ParityArrayModel" "bytes" "[B" : Cond) ∈ pz_G := List.mem_filter.mpr ⟨List.mem_append_right _ (List.mem_append_right _ (List.mem_of_getElem? (i := 160) (by decide +kernel))), by decide +kernel⟩
theorem tw_402 : (.lays "ParityArrayModel" "ParityArrayModel" "on" "Z" : Cond) ∈ pz_G := List.mem_filter.mpr ⟨List.mem_append_right _ (List.mem_append_right _ (List.mem_of_getElem? (i := 162) (by decide +kernel))), by decide +kernel⟩
theorem tw_404 : (.lays "ParityArrayModel" "ParityArrayModel" "sick" "I" : Cond) ∈ pz_G := List.mem_filter.mpr ⟨List.mem_append_right _ (List.mem_append_right _ (List.mem_of_getElem? (i := 164) (by decide +kernel))), by decide +kernel⟩
theorem tw_406 : (.lays "ParityArrayModel" "ParityArrayModel" "fresh" "Z" : Cond) ∈ pz_G := List.mem_filter.mpr ⟨List.mem_append_right _ (List.mem_append_right _ (List.mem_of_getElem? (i := 166) (by decide +kernel))), by decide +kernel⟩
theorem tw_408 : (.lays "ParityArrayModel" "ParityArrayModel" "rebuilt" "I" : Cond) ∈ pz_G := List.mem_filter.mpr ⟨List.mem_append_right _ (List.mem_append_right _ (List.mem_of_getElem? (i := 168) (by decide +kernel))), by decide +kernel⟩
theorem tw_410 : (.lays "ParityArrayModel" "ParityArrayModel" "fails" "I" : Cond) ∈ pz_G := List.mem_filter.mpr ⟨List.mem_append_right _ (List.mem_append_right _ (List.mem_of_getElem? (i := 170) (by decide +kernel))), by decide +kernel⟩
theorem tw_412 : (.lays "ParityArrayModel" "ParityArrayModel" "write" "I" : Cond) ∈ pz_G := List.mem_filter.mpr ⟨List.mem_append_right _ (List.mem_append_right _ (List.mem_of_getElem? (i := 172) (by decide +kernel))), by decide +kernel⟩
theorem tw_414 : (.lays "ParityArrayModel" "ParityArrayModel" "cut" "I" : Cond) ∈ pz_G := List.mem_filter.mpr ⟨List.mem_append_right _ (List.mem_append_right _ (List.mem_of_getElem? (i := 174) (by decide +kernel))), by decide +kernel⟩
theorem tw_416 : (.lays "ParityArrayModel" "ParityArrayModel" "thrown" "I" : Cond) ∈ pz_G := List.mem_filter.mpr ⟨List.mem_append_right _ (List.mem_append_right _ (List.mem_of_getElem? (i := 176) (by decide +kernel))), by decide +kernel⟩
theorem tw_418 : (.superclass "ParityArrayModel" "java/lang/Object" : Cond) ∈ pz_G := List.mem_filter.mpr ⟨List.mem_append_right _ (List.mem_append_right _ (List.mem_of_getElem? (i := 178) (by decide +kernel))), by decide +kernel⟩
theorem tw_419 : (.methodLink "ParityArrayLaw" 62 ⟨"ParityArrayModel", "thrown", "()I"⟩ : Cond) ∈ pz_G := List.mem_filter.mpr ⟨List.mem_append_right _ (List.mem_append_right _ (List.mem_of_getElem? (i := 179) (by decide +kernel))), by decide +kernel⟩
theorem tw_420 : (.instanceMethod ⟨"ParityArrayModel", "thrown", "()I"⟩ : Cond) ∈ pz_G := List.mem_filter.mpr ⟨List.mem_append_right _ (List.mem_append_right _ (List.mem_of_getElem? (i := 180) (by decide +kernel))), by decide +kernel⟩
theorem tw_421 : (.selects "ParityArrayModel" ⟨"ParityArrayModel", "thrown", "()I"⟩ ⟨"ParityArrayModel", "thrown", "()I"⟩ : Cond) ∈ pz_G := List.mem_filter.mpr ⟨List.mem_append_right _ (List.mem_append_right _ (List.mem_of_getElem? (i := 181) (by decide +kernel))), by decide +kernel⟩
theorem tw_422 : (.code ⟨"ParityArrayModel", "thrown", "()I"⟩ prog_5_method_2_code 1 (some .int) : Cond) ∈ pz_G := List.mem_filter.mpr ⟨List.mem_append_right _ (List.mem_append_right _ (List.mem_of_getElem? (i := 182) (by decide +kernel))), by decide +kernel⟩
theorem tw_423 : (.methodLink "ParityArrayLaw" 61 ⟨"ParityArrayModel", "set", "(IIJ)J"⟩ : Cond) ∈ pz_G := List.mem_filter.mpr ⟨List.mem_append_right _ (List.mem_append_right _ (List.mem_of_getElem? (i := 183) (by decide +kernel))), by decide +kernel⟩
theorem tw_424 : (.instanceMethod ⟨"ParityArrayModel", "set", "(IIJ)J"⟩ : Cond) ∈ pz_G := List.mem_filter.mpr ⟨List.mem_append_right _ (List.mem_append_right _ (List.mem_of_getElem? (i := 184) (by decide +kernel))), by decide +kernel⟩
theorem tw_425 : (.selects "ParityArrayModel" ⟨"ParityArrayModel", "set", "(IIJ)J"⟩ ⟨"ParityArrayModel", "set", "(IIJ)J"⟩ : Cond) ∈ pz_G := List.mem_filter.mpr ⟨List.mem_append_right _ (List.mem_append_right _ (List.mem_of_getElem? (i := 185) (by decide +kernel))), by decide +kernel⟩
theorem tw_426 : (.code ⟨"ParityArrayModel", "set", "(IIJ)J"⟩ prog_5_method_7_code 11 (some .long) : Cond) ∈ pz_G := List.mem_filter.mpr ⟨List.mem_append_right _ (List.mem_append_right _ (List.mem_of_getElem? (i := 186) (by decide +kernel))), by decide +kernel⟩
theorem tw_427 : (.methodLink "ParityArrayModel" 41 ⟨"ParityArrayModel", "fails", "(I)I"⟩ : Cond) ∈ pz_G := List.mem_filter.mpr ⟨List.mem_append_right _ (List.mem_append_right _ (List.mem_of_getElem? (i := 187) (by decide +kernel))), by decide +kernel⟩
theorem tw_429 : (.instanceMethod ⟨"ParityArrayModel", "fails", "(I)I"⟩ : Cond) ∈ pz_G := List.mem_filter.mpr ⟨List.mem_append_right _ (List.mem_append_right _ (List.mem_of_getElem? (i := 189) (by decide +kernel))), by decide +kernel⟩
theorem tw_430 : (.code ⟨"ParityArrayModel", "fails", "(I)I"⟩ prog_5_method_3_code 2 (some .int) : Cond) ∈ pz_G := List.mem_filter.mpr ⟨List.mem_append_right _ (List.mem_append_right _ (List.mem_of_getElem? (i := 190) (by decide +kernel))), by decide +kernel⟩
theorem tw_431 : (.methodLink "ParityArrayModel" 45 ⟨"ParityArrayModel", "read", "(I)J"⟩ : Cond) ∈ pz_G := List.mem_filter.mpr ⟨List.mem_append_right _ (List.mem_append_right _ (List.mem_of_getElem? (i := 191) (by decide +kernel))), by decide +kernel⟩
theorem tw_433 : (.instanceMethod ⟨"ParityArrayModel", "read", "(I)J"⟩ : Cond) ∈ pz_G := List.mem_filter.mpr ⟨List.mem_append_right _ (List.mem_append_right _ (List.mem_of_getElem? (i := 193) (by decide +kernel))), by decide +kernel⟩
theorem tw_434 : (.code ⟨"ParityArrayModel", "read", "(I)J"⟩ prog_5_method_6_code 5 (some .long) : Cond) ∈ pz_G := List.mem_filter.mpr ⟨List.mem_append_right _ (List.mem_append_right _ (List.mem_of_getElem? (i := 194) (by decide +kernel))), by decide +kernel⟩
theorem tw_435 : (.methodLink "ParityArrayModel" 51 ⟨"ParityArrayModel", "fresh", "(I)I"⟩ : Cond) ∈ pz_G := List.mem_filter.mpr ⟨List.mem_append_right _ (List.mem_append_right _ (List.mem_of_getElem? (i := 195) (by decide +kernel))), by decide +kernel⟩
theorem tw_437 : (.instanceMethod ⟨"ParityArrayModel", "fresh", "(I)I"⟩ : Cond) ∈ pz_G := List.mem_filter.mpr ⟨List.mem_append_right _ (List.mem_append_right _ (List.mem_of_getElem? (i := 197) (by decide +kernel))), by decide +kernel⟩
theorem tw_438 : (.code ⟨"ParityArrayModel", "fresh", "(I)I"⟩ prog_5_method_5_code 4 (some .int) : Cond) ∈ pz_G := List.mem_filter.mpr ⟨List.mem_append_right _ (List.mem_append_right _ (List.mem_of_getElem? (i := 198) (by decide +kernel))), by decide +kernel⟩
theorem tw_439 : (.methodLink "ParityArrayModel" 31 ⟨"ParityArrayModel", "isThere", "(II)Z"⟩ : Cond) ∈ pz_G := List.mem_filter.mpr ⟨List.mem_append_right _ (List.mem_append_right _ (List.mem_of_getElem? (i := 199) (by decide +kernel))), by decide +kernel⟩
theorem tw_441 : (.instanceMethod ⟨"ParityArrayModel", "isThere", "(II)Z"⟩ : Cond) ∈ pz_G := List.mem_filter.mpr ⟨List.mem_append_right _ (List.mem_append_right _ (List.mem_of_getElem? (i := 201) (by decide +kernel))), by decide +kernel⟩
theorem tw_442 : (.code ⟨"ParityArrayModel", "isThere", "(II)Z"⟩ prog_5_method_4_code 3 (some .boolean) : Cond) ∈ pz_G := List.mem_filter.mpr ⟨List.mem_append_right _ (List.mem_append_right _ (List.mem_of_getElem? (i := 202) (by decide +kernel))), by decide +kernel⟩
theorem tw_443 : (.methodLink "ParityArrayLaw" 68 ⟨"ParityArrayModel", "get", "(II)J"⟩ : Cond) ∈ pz_G := List.mem_filter.mpr ⟨List.mem_append_right _ (List.mem_append_right _ (List.mem_of_getElem? (i := 203) (by decide +kernel))), by decide +kernel⟩
theorem tw_444 : (.instanceMethod ⟨"ParityArrayModel", "get", "(II)J"⟩ : Cond) ∈ pz_G := List.mem_filter.mpr ⟨List.mem_append_right _ (List.mem_append_right _ (List.mem_of_getElem? (i := 204) (by decide +kernel))), by decide +kernel⟩
theorem tw_445 : (.selects "ParityArrayModel" ⟨"ParityArrayModel", "get", "(II)J"⟩ ⟨"ParityArrayModel", "get", "(II)J"⟩ : Cond) ∈ pz_G := List.mem_filter.mpr ⟨List.mem_append_right _ (List.mem_append_right _ (List.mem_of_getElem? (i := 205) (by decide +kernel))), by decide +kernel⟩
theorem tw_446 : (.code ⟨"ParityArrayModel", "get", "(II)J"⟩ prog_5_method_8_code 3 (some .long) : Cond) ∈ pz_G := List.mem_filter.mpr ⟨List.mem_append_right _ (List.mem_append_right _ (List.mem_of_getElem? (i := 206) (by decide +kernel))), by decide +kernel⟩
theorem tw_447 : (.methodLink "ParityArrayLaw" 72 ⟨"ParityArrayModel", "die", "(I)V"⟩ : Cond) ∈ pz_G := List.mem_filter.mpr ⟨List.mem_append_right _ (List.mem_append_right _ (List.mem_of_getElem? (i := 207) (by decide +kernel))), by decide +kernel⟩
theorem tw_448 : (.instanceMethod ⟨"ParityArrayModel", "die", "(I)V"⟩ : Cond) ∈ pz_G := List.mem_filter.mpr ⟨List.mem_append_right _ (List.mem_append_right _ (List.mem_of_getElem? (i := 208) (by decide +kernel))), by decide +kernel⟩
theorem tw_449 : (.selects "ParityArrayModel" ⟨"ParityArrayModel", "die", "(I)V"⟩ ⟨"ParityArrayModel", "die", "(I)V"⟩ : Cond) ∈ pz_G := List.mem_filter.mpr ⟨List.mem_append_right _ (List.mem_append_right _ (List.mem_of_getElem? (i := 209) (by decide +kernel))), by decide +kernel⟩
theorem tw_450 : (.code ⟨"ParityArrayModel", "die", "(I)V"⟩ prog_5_method_9_code 2 (none : Option Jvm.ClassFile.FieldType) : Cond) ∈ pz_G := List.mem_filter.mpr ⟨List.mem_append_right _ (List.mem_append_right _ (List.mem_of_getElem? (i := 210) (by decide +kernel))), by decide +kernel⟩
theorem tw_451 : (.methodLink "ParityArrayLaw" 76 ⟨"ParityArrayModel", "replace", "()I"⟩ : Cond) ∈ pz_G := List.mem_filter.mpr ⟨List.mem_append_right _ (List.mem_append_right _ (List.mem_of_getElem? (i := 211) (by decide +kernel))), by decide +kernel⟩
theorem tw_452 : (.instanceMethod ⟨"ParityArrayModel", "replace", "()I"⟩ : Cond) ∈ pz_G := List.mem_filter.mpr ⟨List.mem_append_right _ (List.mem_append_right _ (List.mem_of_getElem? (i := 212) (by decide +kernel))), by decide +kernel⟩
theorem tw_453 : (.selects "ParityArrayModel" ⟨"ParityArrayModel", "replace", "()I"⟩ ⟨"ParityArrayModel", "replace", "()I"⟩ : Cond) ∈ pz_G := List.mem_filter.mpr ⟨List.mem_append_right _ (List.mem_append_right _ (List.mem_of_getElem? (i := 213) (by decide +kernel))), by decide +kernel⟩
theorem tw_454 : (.code ⟨"ParityArrayModel", "replace", "()I"⟩ prog_5_method_10_code 1 (some .int) : Cond) ∈ pz_G := List.mem_filter.mpr ⟨List.mem_append_right _ (List.mem_append_right _ (List.mem_of_getElem? (i := 214) (by decide +kernel))), by decide +kernel⟩
theorem tw_455 : (.methodLink "ParityArrayLaw" 79 ⟨"ParityArrayModel", "rebuild", "()I"⟩ : Cond) ∈ pz_G := List.mem_filter.mpr ⟨List.mem_append_right _ (List.mem_append_right _ (List.mem_of_getElem? (i := 215) (by decide +kernel))), by decide +kernel⟩
theorem tw_456 : (.instanceMethod ⟨"ParityArrayModel", "rebuild", "()I"⟩ : Cond) ∈ pz_G := List.mem_filter.mpr ⟨List.mem_append_right _ (List.mem_append_right _ (List.mem_of_getElem? (i := 216) (by decide +kernel))), by decide +kernel⟩
theorem tw_457 : (.selects "ParityArrayModel" ⟨"ParityArrayModel", "rebuild", "()I"⟩ ⟨"ParityArrayModel", "rebuild", "()I"⟩ : Cond) ∈ pz_G := List.mem_filter.mpr ⟨List.mem_append_right _ (List.mem_append_right _ (List.mem_of_getElem? (i := 217) (by decide +kernel))), by decide +kernel⟩
theorem tw_458 : (.code ⟨"ParityArrayModel", "rebuild", "()I"⟩ prog_5_method_11_code 2 (some .int) : Cond) ∈ pz_G := List.mem_filter.mpr ⟨List.mem_append_right _ (List.mem_append_right _ (List.mem_of_getElem? (i := 218) (by decide +kernel))), by decide +kernel⟩
theorem tw_459 : (.methodLink "ParityArrayLaw" 83 ⟨"ParityArrayModel", "power", "(IIZ)V"⟩ : Cond) ∈ pz_G := List.mem_filter.mpr ⟨List.mem_append_right _ (List.mem_append_right _ (List.mem_of_getElem? (i := 219) (by decide +kernel))), by decide +kernel⟩
theorem tw_460 : (.instanceMethod ⟨"ParityArrayModel", "power", "(IIZ)V"⟩ : Cond) ∈ pz_G := List.mem_filter.mpr ⟨List.mem_append_right _ (List.mem_append_right _ (List.mem_of_getElem? (i := 220) (by decide +kernel))), by decide +kernel⟩
theorem tw_461 : (.selects "ParityArrayModel" ⟨"ParityArrayModel", "power", "(IIZ)V"⟩ ⟨"ParityArrayModel", "power", "(IIZ)V"⟩ : Cond) ∈ pz_G := List.mem_filter.mpr ⟨List.mem_append_right _ (List.mem_append_right _ (List.mem_of_getElem? (i := 221) (by decide +kernel))), by decide +kernel⟩
theorem tw_462 : (.code ⟨"ParityArrayModel", "power", "(IIZ)V"⟩ prog_5_method_12_code 4 (none : Option Jvm.ClassFile.FieldType) : Cond) ∈ pz_G := List.mem_filter.mpr ⟨List.mem_append_right _ (List.mem_append_right _ (List.mem_of_getElem? (i := 222) (by decide +kernel))), by decide +kernel⟩
theorem tw_463 : (.methodLink "ParityArrayLaw" 87 ⟨"ParityArrayModel", "recover", "()V"⟩ : Cond) ∈ pz_G := List.mem_filter.mpr ⟨List.mem_append_right _ (List.mem_append_right _ (List.mem_of_getElem? (i := 223) (by decide +kernel))), by decide +kernel⟩
theorem tw_464 : (.instanceMethod ⟨"ParityArrayModel", "recover", "()V"⟩ : Cond) ∈ pz_G := List.mem_filter.mpr ⟨List.mem_append_right _ (List.mem_append_right _ (List.mem_of_getElem? (i := 224) (by decide +kernel))), by decide +kernel⟩
theorem tw_465 : (.selects "ParityArrayModel" ⟨"ParityArrayModel", "recover", "()V"⟩ ⟨"ParityArrayModel", "recover", "()V"⟩ : Cond) ∈ pz_G := List.mem_filter.mpr ⟨List.mem_append_right _ (List.mem_append_right _ (List.mem_of_getElem? (i := 225) (by decide +kernel))), by decide +kernel⟩
theorem tw_466 : (.code ⟨"ParityArrayModel", "recover", "()V"⟩ prog_5_method_13_code 1 (none : Option Jvm.ClassFile.FieldType) : Cond) ∈ pz_G := List.mem_filter.mpr ⟨List.mem_append_right _ (List.mem_append_right _ (List.mem_of_getElem? (i := 226) (by decide +kernel))), by decide +kernel⟩
theorem tw_467 : (.methodLink "ParityArrayLaw" 91 ⟨"ParityArrayModel", "told", "(I)I"⟩ : Cond) ∈ pz_G := List.mem_filter.mpr ⟨List.mem_append_right _ (List.mem_append_right _ (List.mem_of_getElem? (i := 227) (by decide +kernel))), by decide +kernel⟩
theorem tw_468 : (.instanceMethod ⟨"ParityArrayModel", "told", "(I)I"⟩ : Cond) ∈ pz_G := List.mem_filter.mpr ⟨List.mem_append_right _ (List.mem_append_right _ (List.mem_of_getElem? (i := 228) (by decide +kernel))), by decide +kernel⟩
theorem tw_469 : (.selects "ParityArrayModel" ⟨"ParityArrayModel", "told", "(I)I"⟩ ⟨"ParityArrayModel", "told", "(I)I"⟩ : Cond) ∈ pz_G := List.mem_filter.mpr ⟨List.mem_append_right _ (List.mem_append_right _ (List.mem_of_getElem? (i := 229) (by decide +kernel))), by decide +kernel⟩
theorem tw_470 : (.code ⟨"ParityArrayModel", "told", "(I)I"⟩ prog_5_method_14_code 2 (some .int) : Cond) ∈ pz_G := List.mem_filter.mpr ⟨List.mem_append_right _ (List.mem_append_right _ (List.mem_of_getElem? (i := 230) (by decide +kernel))), by decide +kernel⟩
theorem tw_471 : (.methodLink "ParityArrayLaw" 94 ⟨"ParityArrayModel", "check", "()I"⟩ : Cond) ∈ pz_G := List.mem_filter.mpr ⟨List.mem_append_right _ (List.mem_append_right _ (List.mem_of_getElem? (i := 231) (by decide +kernel))), by decide +kernel⟩
theorem tw_472 : (.instanceMethod ⟨"ParityArrayModel", "check", "()I"⟩ : Cond) ∈ pz_G := List.mem_filter.mpr ⟨List.mem_append_right _ (List.mem_append_right _ (List.mem_of_getElem? (i := 232) (by decide +kernel))), by decide +kernel⟩
theorem tw_473 : (.selects "ParityArrayModel" ⟨"ParityArrayModel", "check", "()I"⟩ ⟨"ParityArrayModel", "check", "()I"⟩ : Cond) ∈ pz_G := List.mem_filter.mpr ⟨List.mem_append_right _ (List.mem_append_right _ (List.mem_of_getElem? (i := 233) (by decide +kernel))), by decide +kernel⟩
theorem tw_474 : (.code ⟨"ParityArrayModel", "check", "()I"⟩ prog_5_method_15_code 1 (some .int) : Cond) ∈ pz_G := List.mem_filter.mpr ⟨List.mem_append_right _ (List.mem_append_right _ (List.mem_of_getElem? (i := 234) (by decide +kernel))), by decide +kernel⟩
theorem tw_475 : (.constantLong "ParityArrayLaw" 54 4294967295 : Cond) ∈ pz_G := List.mem_filter.mpr ⟨List.mem_append_right _ (List.mem_append_right _ (List.mem_of_getElem? (i := 235) (by decide +kernel))), by decide +kernel⟩
theorem tw_476 : (.sameMethod "java/lang/Throwable" "java/lang/Throwable" "fillInStackTrace" "(I)Ljava/lang/Throwable;" : Cond) ∈ pz_G := List.mem_filter.mpr ⟨List.mem_append_right _ (List.mem_append_right _ (List.mem_of_getElem? (i := 236) (by decide +kernel))), by decide +kernel⟩
theorem ts_0 : (.selects "java/lang/Throwable" ⟨"java/lang/Throwable", "fillInStackTrace", "(I)Ljava/lang/Throwable;"⟩ ⟨"java/lang/Throwable", "fillInStackTrace", "(I)Ljava/lang/Throwable;"⟩ : Cond) ∈ pz_G := List.mem_filter.mpr ⟨List.mem_append_left _ (List.mem_of_getElem? (i := 0) (by decide +kernel)), by decide +kernel⟩
theorem ts_1 : (.selects "ParityArray" ⟨"ParityArray", "readLong", "(II)J"⟩ ⟨"ParityArray", "readLong", "(II)J"⟩ : Cond) ∈ pz_G := List.mem_filter.mpr ⟨List.mem_append_left _ (List.mem_of_getElem? (i := 1) (by decide +kernel)), by decide +kernel⟩
theorem ts_2 : (.selects "ParityArray" ⟨"ParityArray", "othersTogether", "(III)J"⟩ ⟨"ParityArray", "othersTogether", "(III)J"⟩ : Cond) ∈ pz_G := List.mem_filter.mpr ⟨List.mem_append_left _ (List.mem_of_getElem? (i := 2) (by decide +kernel)), by decide +kernel⟩
theorem ts_3 : (.selects "ParityArray" ⟨"ParityArray", "prepareRows", "(IIJ)V"⟩ ⟨"ParityArray", "prepareRows", "(IIJ)V"⟩ : Cond) ∈ pz_G := List.mem_filter.mpr ⟨List.mem_append_left _ (List.mem_of_getElem? (i := 3) (by decide +kernel)), by decide +kernel⟩
theorem ts_4 : (.selects "ParityArray" ⟨"ParityArray", "writeRows", "(I)V"⟩ ⟨"ParityArray", "writeRows", "(I)V"⟩ : Cond) ∈ pz_G := List.mem_filter.mpr ⟨List.mem_append_left _ (List.mem_of_getElem? (i := 4) (by decide +kernel)), by decide +kernel⟩
theorem ts_5 : (.selects "ParityArray" ⟨"ParityArray", "unwellDisk", "()I"⟩ ⟨"ParityArray", "unwellDisk", "()I"⟩ : Cond) ∈ pz_G := List.mem_filter.mpr ⟨List.mem_append_left _ (List.mem_of_getElem? (i := 5) (by decide +kernel)), by decide +kernel⟩
theorem ts_6 : (.selects "ParityArray" ⟨"ParityArray", "rebuildStripe", "(II)V"⟩ ⟨"ParityArray", "rebuildStripe", "(II)V"⟩ : Cond) ∈ pz_G := List.mem_filter.mpr ⟨List.mem_append_left _ (List.mem_of_getElem? (i := 6) (by decide +kernel)), by decide +kernel⟩
theorem ts_7 : (.selects "ParityArray" ⟨"ParityArray", "mendParity", "(LParityArray$Disk;)V"⟩ ⟨"ParityArray", "mendParity", "(LParityArray$Disk;)V"⟩ : Cond) ∈ pz_G := List.mem_filter.mpr ⟨List.mem_append_left _ (List.mem_of_getElem? (i := 7) (by decide +kernel)), by decide +kernel⟩
theorem ts_8 : (.selects "ParityArray" ⟨"ParityArray", "isParityRight", "(I)Z"⟩ ⟨"ParityArray", "isParityRight", "(I)Z"⟩ : Cond) ∈ pz_G := List.mem_filter.mpr ⟨List.mem_append_left _ (List.mem_of_getElem? (i := 8) (by decide +kernel)), by decide +kernel⟩
theorem ts_9 : (.selects "ParityArrayModel" ⟨"ParityArrayModel", "fails", "(I)I"⟩ ⟨"ParityArrayModel", "fails", "(I)I"⟩ : Cond) ∈ pz_G := List.mem_filter.mpr ⟨List.mem_append_left _ (List.mem_of_getElem? (i := 9) (by decide +kernel)), by decide +kernel⟩
theorem ts_10 : (.selects "ParityArrayModel" ⟨"ParityArrayModel", "read", "(I)J"⟩ ⟨"ParityArrayModel", "read", "(I)J"⟩ : Cond) ∈ pz_G := List.mem_filter.mpr ⟨List.mem_append_left _ (List.mem_of_getElem? (i := 10) (by decide +kernel)), by decide +kernel⟩
theorem ts_11 : (.selects "ParityArrayModel" ⟨"ParityArrayModel", "fresh", "(I)I"⟩ ⟨"ParityArrayModel", "fresh", "(I)I"⟩ : Cond) ∈ pz_G := List.mem_filter.mpr ⟨List.mem_append_left _ (List.mem_of_getElem? (i := 11) (by decide +kernel)), by decide +kernel⟩
theorem ts_12 : (.selects "ParityArrayModel" ⟨"ParityArrayModel", "isThere", "(II)Z"⟩ ⟨"ParityArrayModel", "isThere", "(II)Z"⟩ : Cond) ∈ pz_G := List.mem_filter.mpr ⟨List.mem_append_left _ (List.mem_of_getElem? (i := 12) (by decide +kernel)), by decide +kernel⟩
def pz_nws : List Cond := [Cond.methodLinkNest "ParityArray" 17 ⟨"ParityArray$Supply", "<init>", "()V"⟩ "ParityArray", Cond.fieldLinkNest "ParityArray" 33 "ParityArray$Supply" "on" "Z" "ParityArray", Cond.methodLinkNest "ParityArray" 32 ⟨"ParityArray$Disk", "<init>", "()V"⟩ "ParityArray", Cond.fieldLinkNest "ParityArray" 164 "ParityArray$Disk" "record" "[J" "ParityArray", Cond.fieldLinkNest "ParityArray" 161 "ParityArray$Disk" "recordBlock" "I" "ParityArray", Cond.fieldLinkNest "ParityArray" 88 "ParityArray$Disk" "dead" "Z" "ParityArray", Cond.fieldLinkNest "ParityArray" 95 "ParityArray$Disk" "there" "I" "ParityArray", Cond.castable "java/lang/IllegalStateException" "java/lang/IllegalStateException", Cond.declares ⟨"java/lang/RuntimeException", "<init>", "()V"⟩, Cond.declares ⟨"java/lang/RuntimeException", "<init>", "(Ljava/lang/String;)V"⟩, Cond.declares ⟨"java/lang/Exception", "<init>", "()V"⟩, Cond.declares ⟨"java/lang/Exception", "<init>", "(Ljava/lang/String;)V"⟩, Cond.declares ⟨"java/lang/Throwable", "<init>", "()V"⟩, Cond.declares ⟨"java/lang/Throwable", "<init>", "(Ljava/lang/String;)V"⟩, Cond.castable "java/lang/IndexOutOfBoundsException" "java/lang/IndexOutOfBoundsException", Cond.castable "java/lang/ArithmeticException" "java/lang/ArithmeticException", Cond.castable "java/lang/IllegalArgumentException" "java/lang/IllegalArgumentException"]
/-- the links of nest mates, as a contract takes them -/
def pz_NW (U : State) : Prop := ∀ w ∈ pz_nws, va_Nw w U
theorem pz_NW.warm {s U : State} (hW : s.WarmedH U.vm) (h : pz_NW s) : pz_NW U := by
  intro w hw
  have h0 := h w hw
  unfold pz_nws at hw
  simp only [List.mem_cons, List.mem_nil_iff, or_false] at hw
  rcases hw with rfl | rfl | rfl | rfl | rfl | rfl | rfl | rfl | rfl | rfl | rfl | rfl | rfl | rfl | rfl | rfl | rfl
  all_goals first | exact va_Nw.warmF hW h0 | exact va_Nw.warmM hW h0 | exact va_Nw.warmD hW h0 | exact va_Nw.warmC hW h0
theorem pz_NW.same {u U : State} (hv : u.vm = U.vm) (h : pz_NW u) : pz_NW U := by
  intro w hw
  have h0 := h w hw
  unfold pz_nws at hw
  simp only [List.mem_cons, List.mem_nil_iff, or_false] at hw
  rcases hw with rfl | rfl | rfl | rfl | rfl | rfl | rfl | rfl | rfl | rfl | rfl | rfl | rfl | rfl | rfl | rfl | rfl
  all_goals exact va_Nw.same rfl hv h0
end
section
/-! ===== BEGIN words of one list among another's, by their places ===== -/
theorem goodIn_r {big : List Cond} (ws : List Cond) (ps : List Nat) (hp : ws = ps.filterMap (fun i => big[i]?)) (h : ws.all goodWord = true) : GoodIn big ws := by
  intro w hw
  have h1 := List.all_eq_true.mp h w hw
  rw [hp] at hw
  obtain ⟨i, -, hi⟩ := List.mem_filterMap.mp hw
  have hm : w ∈ big := by first | exact List.mem_of_getElem? hi | exact List.getElem?_mem hi
  exact ⟨hm, good_of_word h1⟩
theorem goodIn_app {big a b : List Cond} (ha : GoodIn big a) (hb : GoodIn big b) : GoodIn big (a ++ b) := fun w h => (List.mem_append.mp h).elim (ha w) (hb w)
theorem goodIn_ca {big a b : List Cond} {c : Cond} (ha : GoodIn big (c :: a)) (hb : GoodIn big b) : GoodIn big (c :: (a ++ b)) := fun w h => (List.mem_cons.mp h).elim (fun e => ha w (List.mem_cons.mpr (Or.inl e))) (fun h => (List.mem_append.mp h).elim (fun h => ha w (List.mem_cons.mpr (Or.inr h))) (hb w))
theorem goodIn_sub {big ws : List Cond} (hm : ∀ w ∈ ws, w ∈ big) (h : ws.all goodWord = true) : GoodIn big ws := fun w hw => ⟨hm w hw, good_of_word (List.all_eq_true.mp h w hw)⟩
/-! ===== END ===== -/

/-! ===== BEGIN exceptions that leave a method, and their catching by the caller (launches without stack traces) ===== -/
section VXA
/-! The laws vx_back, vx_callV, vx_callS, vx_callSW, vx_throw0, vx_throwS follow proofs of the library, with one case more: JvmDerived/Free/Laws.lean (Back.of_free), Shelf42/LK1.lean (callV, callS), Shelf/KitTraced.lean (throwNew0V, throwNewS). -/
/-- where a method has thrown q: the class by its name, the cell, what was written, the world -/
def vx_T (XC : String → State → State → Prop) (st : State) (q : Addr) (t : State) (mc ms : Nat) (free : Addr → Prop) : Prop :=
  ∃ (E : String) (ce : Cell) (L : List Loc), XC E st t ∧ t.heap[q]? = some ce ∧ ce.vm = .none ∧ st.vm.findClass E = some ce.cls ∧ st.WarmedH t.vm ∧ st.sameButNew ({ t with vm := st.vm } : State) L mc ms ∧ ∀ z ∈ L, free z.base
def vx_Q (Qc : Array Value → State → Outcome → State → Prop) (XC : String → State → State → Prop) (mc ms : Nat) (free : Addr → Prop) : Array Value → State → Outcome → State → Prop := fun a st o t =>
  (Qc a st o t ∧ ∃ L, FrameEnd st o t L mc ms ∧ ∀ q ∈ L, free q.base) ∨ ∃ q, o = .threw q ∧ vx_T XC st q t mc ms free
/-- a callee that returns or throws -/
def vx_Met (l : Launch) (y : MethodName) (ws : List Cond) (rm : Room) (Pc : Array Value → State → Prop) (Qc : Array Value → State → Outcome → State → Prop) (XC : String → State → State → Prop) (mc ms : Nat) (free : Addr → Prop) : Prop :=
  MetFree l y (headSpec ws rm) Pc (fun _ _ _ _ _ => True) (vx_Q Qc XC mc ms free)
def vx_Post (XC : String → State → State → Prop) (mc ms : Nat) (free : Addr → Prop) : Pt → Array Value → Addr → Pt → Prop := fun A a q B =>
  ∃ (g : JFrame) (mk : MethodId) (t : State) (L : List Loc) (E : String) (ce : Cell), B.U.heap = t.heap ∧ B.U.vm = t.vm ∧ XC E (A.U.calling g mk a) t ∧ t.heap[q]? = some ce ∧ ce.vm = .none ∧ A.U.vm.findClass E = some ce.cls ∧ B.locs = A.locs ++ L ∧ (∀ z ∈ L, free z.base) ∧ B.cells = A.cells + mc ∧ B.slots = A.slots + ms
def vx_Back (l : Launch) (R : Room) (p : Program) (e : Env) (below : List Frame) (s : State) (sargs : Array Value) (y : MethodName) (len W9 : Nat)
    (Pre : Pt → Array Value → Prop) (Post : Pt → Array Value → Option Value → Pt → Prop) (PostX : Pt → Array Value → Addr → Pt → Prop) : Prop :=
  ∀ (m : MethodId) (meth : Method) (c : Code) (A : Pt) (g : JFrame) (ig : Instr) (mk : MethodId) (a : Array Value),
    Stand p l e R s m sargs below meth c A.U A.locs A.cells A.slots → g.method = m → g.locals.size = c.maxLocals → decode c.code g.pc = .ok (ig, len) →
    2 * g.monitorRoom + (g.stack.map fun v => v.category).sum ≤ W9 → A.U.methodNamed? y = some mk → Pre A a →
    (∃ (v : Option Value) (B : Pt), Stand p l e R s m sargs below meth c B.U B.locs B.cells B.slots ∧ Post A a v B ∧
      Steps p.tables e below (doInvoke e (A.U.setTop g) [] mk a).1 (B.U.setTop { g with pc := g.pc + len, stack := v.toList ++ g.stack })) ∨
    (∃ (q : Addr) (B : Pt), Stand p l e R s m sargs below meth c B.U B.locs B.cells B.slots ∧ PostX A a q B ∧
      Steps p.tables e below (doInvoke e (A.U.setTop g) [] mk a).1 ((B.U.setTop g).pushFrame (.throwing q)))
section Payer
variable {l : Launch} {R : Room} {p : Program} {e : Env} {below : List Frame} {s : State} {sargs : Array Value} {y : MethodName} {len W9 : Nat}
theorem vx_back {ws : List Cond} {rm : Room} {Pc : Array Value → State → Prop} {Qc : Array Value → State → Outcome → State → Prop} {XC : String → State → State → Prop} {mc ms : Nat} {free : Addr → Prop} {bytes : ByteArray} {maxL : Nat} {ret : Option FieldType}
    (hM : vx_Met l y ws rm Pc Qc XC mc ms free) (hblind : FrameBlind Pc) (hrc : rm.cells = mc) (hrs : rm.slots = ms)
    (hframes : rm.frames + 1 ≤ R.frames) (hlocals : W9 + (maxL + 11) + rm.locals ≤ R.locals)
    (hws : ∀ w ∈ ws, ∀ a' U, s.WarmedH U.vm → w.before a' U = true) (hcode : Cond.code y bytes maxL ret ∈ ws) (hinit : ∀ a' U, s.WarmedH U.vm → (Cond.initialized y.cls).before a' U = true) :
    vx_Back l R p e below s sargs y len W9 (PreOf R mc ms Pc) (PostOf Qc mc ms free) (vx_Post XC mc ms free) := by
  intro m meth c A g ig mk a X hg hsize hdg hW hn hp
  have h1 : (headSpec ws rm).pre.before a A.U = true := atoms_intro fun w hw => hws w hw _ _ X.warmed
  have h2 : (Cond.code y bytes maxL ret).before a A.U = true := hws _ hcode _ _ X.warmed
  have h3 : (Cond.initialized y.cls).before a A.U = true := hinit _ _ X.warmed
  have h4 : A.cells + (headSpec ws rm).room.cells ≤ R.cells := by rw [show (headSpec ws rm).room.cells = mc from hrc]; exact hp.1
  have h5 : A.slots + (headSpec ws rm).room.slots ≤ R.slots := by rw [show (headSpec ws rm).room.slots = ms from hrs]; exact hp.2.1
  have hPc : Pc a (A.U.calling g mk a) := hblind _ _ _ _ hp.2.2
  obtain ⟨U, Ls, c0, s0⟩ := A
  dsimp only [Pt.U, Pt.locs, Pt.cells, Pt.slots] at h1 h2 h3 h4 h5 X hn hPc ⊢
  obtain ⟨methY, cY, hmY, hcY, -, hlY, -, -, -, -⟩ := Cond.code_spec hn h2
  obtain ⟨kY, hkY, -⟩ := className_of_methodNamed hn
  have hinitY : kY.init = .initialized := Cond.initialized_spec (findClass_of_methodNamed hn) hkY h3
  have h : At U g.method c below := by rw [hg]; exact X.here
  have hlocals9 : W9 + (maxL + 11) + (headSpec ws rm).room.locals ≤ R.locals := hlocals
  have happ : (headSpec ws rm).appliesLoose y e.platform (U.calling g mk a) = true :=
    Spec.appliesLoose_calling (g := g) h hdg hn hkY hinitY
      (X.room_calling (g := g) (R' := (headSpec ws rm).room) hsize hmY hcY hframes (by rw [hlY]; omega) h4 h5) h1
  obtain ⟨mid, hmid⟩ := h.above
  have hfr : (U.setTop g).frames = (.java g :: mid) ++ below := by rw [State.frames_setTop' g h.top, hmid]; rfl
  obtain ⟨o, s₂, hsteps, -, hend, hq⟩ := Steps.callFree hM p X.admits X.cas X.clock (acts := []) hfr happ hPc trivial
  have hq' : vx_Q Qc XC mc ms free a (U.calling g mk a) o s₂ := hq
  rw [State.frames_setTop' g h.top] at hend
  obtain ⟨g₀, hg0⟩ := Option.isSome_iff_exists.mp h.top
  obtain ⟨r, hr⟩ := State.topJava?_eq_some.mp hg0
  have hr' : (({ U with heap := s₂.heap, slotsUsed := s₂.slotsUsed } : State).setVm s₂.vm).frames = .java g₀ :: r := hr
  rcases hq' with ⟨hqc, L, hfe, hL⟩ | ⟨q, rfl, E, ce, L, hx, hce, hcv, hcl, hW₂, hsm, hL⟩
  · obtain ⟨⟨v, rfl⟩, hW₂, e2, q2, q3, q4, q5, q6⟩ := id hfe
    have e3 : s₂ = ({ (U.calling g mk a).setFrames s₂.frames with heap := s₂.heap, slotsUsed := s₂.slotsUsed } : State).setVm s₂.vm := by
      have : s₂ = ({ s₂ with vm := (U.calling g mk a).vm } : State).setVm s₂.vm := rfl
      rw [e2] at this
      exact this
    obtain ⟨c₂, i₂, len₂, hc₂, hd₂, hf₂⟩ := hend
    have hW' : U.WarmedH s₂.vm := hW₂
    have hcc : c₂ = c := by
      have h1 : s₂.code? g.method = U.code? g.method := by
        rw [State.code?_eq, State.code?_eq, hW'.alike.method?]
      exact Option.some.inj (hc₂.symm.trans (h1.trans h.code))
    subst hcc
    have hlen : len₂ = len := by rw [hdg] at hd₂; cases hd₂; rfl
    subst hlen
    have hs₂ : s₂ = (({ U with heap := s₂.heap, slotsUsed := s₂.slotsUsed } : State).setVm s₂.vm).setTop { g with pc := g.pc + len₂, stack := v.toList ++ g.stack } := by
      refine e3.trans ?_
      rw [hf₂, State.calling_eq h.top, State.setFrames_setFrames, State.setTop_of_frames _ hr', hr]
      rfl
    have hsame : U.sameButNew ({ U with heap := s₂.heap, slotsUsed := s₂.slotsUsed } : State) L mc ms := by
      refine ⟨?_, q2, q3, q4, q5, q6⟩
      obtain ⟨t, ht, -⟩ := State.frames_cons hr
      show ({ U with heap := s₂.heap, slotsUsed := s₂.slotsUsed } : State) = { U.setFrames U.frames with heap := s₂.heap, slotsUsed := s₂.slotsUsed }
      rw [State.setFrames_self ht]
    subst hg
    refine Or.inl ⟨v, ⟨(({ U with heap := s₂.heap, slotsUsed := s₂.slotsUsed } : State).setVm s₂.vm), Ls ++ L, c0 + mc, s0 + ms⟩,
      ⟨X.admits, X.cas, X.clock, X.frames, X.room, X.hears, X.method, X.code, (X.here.setHeapUsed s₂.heap s₂.slotsUsed).setVm hW'.alike, X.tail, State.WarmedH.trans X.warmed hW', X.limits, X.bytes, X.same.trans (hsame.setVm s.vm)⟩,
      ⟨g, mk, s₂, L, rfl, rfl, hqc, rfl, hL, rfl, rfl⟩, ?_⟩
    show Steps p.tables e below _ ((({ U with heap := s₂.heap, slotsUsed := s₂.slotsUsed } : State).setVm s₂.vm).setTop { g with pc := g.pc + len₂, stack := v.toList ++ g.stack })
    rw [← hs₂]
    exact hsteps
  · obtain ⟨e2, q2, q3, q4, q5, q6⟩ := id hsm
    have e3 : s₂ = ({ (U.calling g mk a).setFrames s₂.frames with heap := s₂.heap, slotsUsed := s₂.slotsUsed } : State).setVm s₂.vm := by
      have : s₂ = ({ s₂ with vm := (U.calling g mk a).vm } : State).setVm s₂.vm := rfl
      rw [e2] at this
      exact this
    have hf₂ : s₂.frames = .throwing q :: .java g :: U.frames.tail := hend
    have hW' : U.WarmedH s₂.vm := hW₂
    have hs₂ : s₂ = ((({ U with heap := s₂.heap, slotsUsed := s₂.slotsUsed } : State).setVm s₂.vm).setTop g).pushFrame (.throwing q) := by
      refine e3.trans ?_
      rw [hf₂, State.calling_eq h.top, State.setFrames_setFrames, State.pushFrame, State.frames_setTop _ hr', State.setTop_of_frames _ hr', State.setFrames_setFrames, hr]
      rfl
    have hsame : U.sameButNew ({ U with heap := s₂.heap, slotsUsed := s₂.slotsUsed } : State) L mc ms := by
      refine ⟨?_, q2, q3, q4, q5, q6⟩
      obtain ⟨t, ht, -⟩ := State.frames_cons hr
      show ({ U with heap := s₂.heap, slotsUsed := s₂.slotsUsed } : State) = { U.setFrames U.frames with heap := s₂.heap, slotsUsed := s₂.slotsUsed }
      rw [State.setFrames_self ht]
    subst hg
    refine Or.inr ⟨q, ⟨(({ U with heap := s₂.heap, slotsUsed := s₂.slotsUsed } : State).setVm s₂.vm), Ls ++ L, c0 + mc, s0 + ms⟩,
      ⟨X.admits, X.cas, X.clock, X.frames, X.room, X.hears, X.method, X.code, (X.here.setHeapUsed s₂.heap s₂.slotsUsed).setVm hW'.alike, X.tail, State.WarmedH.trans X.warmed hW', X.limits, X.bytes, X.same.trans (hsame.setVm s.vm)⟩,
      ⟨g, mk, s₂, L, E, ce, rfl, rfl, hx, hce, hcv, hcl, rfl, hL, rfl, rfl⟩, ?_⟩
    show Steps p.tables e below _ (((({ U with heap := s₂.heap, slotsUsed := s₂.slotsUsed } : State).setVm s₂.vm).setTop g).pushFrame (.throwing q))
    rw [← hs₂]
    exact hsteps
end Payer
section Calls
variable {p : Program} {l : Launch} {e : Env} {R : Room} {s : State} {m : MethodId} {args : Array Value} {below : List Frame} {meth : Method} {c : Code} {T : State} {locs : List Loc} {cells slots : Nat}
theorem vx_callV (X : Stand p l e R s m args below meth c T locs cells slots) (hexec : p.tables.exec = Jvm.exec) {own C : String} {index : Nat} {y : MethodName} {bytes : ByteArray} {maxL : Nat} {ret : Option FieldType}
    (hown : s.vm.findClass own = some m.cls) (hlink : (Cond.methodLink own index y).before args s = true) (hinst : (Cond.instanceMethod y).before args s = true) (hsel : (Cond.selects C y y).before args s = true)
    (hcode : (Cond.code y bytes maxL ret).before args s = true) (hy : y.cls ≠ "java/lang/invoke/MethodHandle" ∧ y.cls ≠ "java/lang/invoke/VarHandle")
    {W9 : Nat} {Pre : Pt → Array Value → Prop} {Post : Pt → Array Value → Option Value → Pt → Prop} {PostX : Pt → Array Value → Addr → Pt → Prop} (hK : vx_Back l R p e below s args y 3 W9 Pre Post PostX)
    {b : Addr} {cellB : Cell} (hcell : T.heap[b]? = some cellB) (hobj : cellB.vm.isStatics = false) (hcls : s.vm.findClass C = some cellB.cls)
    {g : JFrame} (hg : g.method = m) (hsize : g.locals.size = c.maxLocals) {argsL rest : List Value} (hlen : ∀ sig, parseMethodDescriptor y.desc = some sig → argsL.length = sig.parameters.length)
    (hstack : g.stack = argsL.reverse ++ .ref b :: rest) (hW : 2 * g.monitorRoom + (rest.map fun v => v.category).sum ≤ W9) (hdg : decode c.code g.pc = .ok (.invokevirtual index, 3))
    (hpre : ∀ vm₁, s.WarmedH vm₁ → Pre ⟨T.setVm vm₁, locs, cells, slots⟩ (Value.ref b :: argsL).toArray) :
    (∃ (v : Option Value) (vm₁ : Vm) (B : Pt), s.WarmedH vm₁ ∧ Stand p l e R s m args below meth c B.U B.locs B.cells B.slots ∧ Post ⟨T.setVm vm₁, locs, cells, slots⟩ (Value.ref b :: argsL).toArray v B ∧
      ∀ target, Steps p.tables e below (B.U.setTop { g with pc := g.pc + 3, stack := v.toList ++ rest }) target → Steps p.tables e below (T.setTop g) target) ∨
    (∃ (q : Addr) (vm₁ : Vm) (B : Pt), s.WarmedH vm₁ ∧ Stand p l e R s m args below meth c B.U B.locs B.cells B.slots ∧ PostX ⟨T.setVm vm₁, locs, cells, slots⟩ (Value.ref b :: argsL).toArray q B ∧
      Steps p.tables e below (T.setTop g) ((B.U.setTop { g with stack := rest }).pushFrame (.throwing q))) := by
  obtain ⟨mk, methM, hnamed, hmethM, hstM, habM⟩ := Cond.instanceMethod_spec hinst
  obtain ⟨methM', cM, hmethM', -, -, -, -, -, -, hsigM⟩ := Cond.code_spec hnamed hcode
  cases hmethM.symm.trans hmethM'
  obtain ⟨c2, r2, m2, q1, q2, q3, q4, kP, hkP, hkPi⟩ := Cond.selects_spec hsel
  cases hcls.symm.trans q1
  cases (State.methodFound?_of_named hnamed hy).symm.trans q2
  cases hnamed.symm.trans q3
  have hselP : selectMethod e.platform s.vm cellB.cls mk = .method mk := by rw [Launch.admits_selectMethod X.admits]; exact q4
  obtain ⟨vm₁, X₁, hstep₁⟩ := X.invokevirtual hexec hown hlink hnamed hmethM hstM hkP hkPi hy (a := b) (cell := cellB) hcell
    (fun z h => by rw [h] at hobj; cases hobj) hselP hmethM habM hkP hkPi (g := g) hg (argsL := argsL) (rest := rest) (hlen _ hsigM) hstack hdg
  rcases hK m meth c ⟨T.setVm vm₁, locs, cells, slots⟩ { g with stack := rest } (.invokevirtual index) mk (Value.ref b :: argsL).toArray X₁ hg hsize hdg hW (X₁.named hnamed) (hpre vm₁ X₁.warmed) with ⟨v, B, X', hpost, hsteps⟩ | ⟨q, B, X', hpost, hsteps⟩
  · exact Or.inl ⟨v, vm₁, B, X₁.warmed, X', hpost, fun target h => hstep₁ _ fun acts => by rw [doInvoke_state]; exact hsteps.trans h⟩
  · exact Or.inr ⟨q, vm₁, B, X₁.warmed, X', hpost, hstep₁ _ fun acts => by rw [doInvoke_state]; exact hsteps⟩
theorem vx_callS (X : Stand p l e R s m args below meth c T locs cells slots) (hexec : p.tables.exec = Jvm.exec) {own : String} {index : Nat} {y : MethodName} {bytes : ByteArray} {maxL : Nat} {ret : Option FieldType}
    (hown : s.vm.findClass own = some m.cls) (hlink : (Cond.methodLink own index y).before args s = true) (hstat : (Cond.static y).before args s = true) (hinit : (Cond.initialized y.cls).before args s = true)
    (hcode : (Cond.code y bytes maxL ret).before args s = true) (hy : y.cls ≠ "java/lang/invoke/MethodHandle" ∧ y.cls ≠ "java/lang/invoke/VarHandle")
    {W9 : Nat} {Pre : Pt → Array Value → Prop} {Post : Pt → Array Value → Option Value → Pt → Prop} {PostX : Pt → Array Value → Addr → Pt → Prop} (hK : vx_Back l R p e below s args y 3 W9 Pre Post PostX)
    {g : JFrame} (hg : g.method = m) (hsize : g.locals.size = c.maxLocals) {argsL rest : List Value} (hlen : ∀ sig, parseMethodDescriptor y.desc = some sig → argsL.length = sig.parameters.length)
    (hstack : g.stack = argsL.reverse ++ rest) (hW : 2 * g.monitorRoom + (rest.map fun v => v.category).sum ≤ W9) (hdg : decode c.code g.pc = .ok (.invokestatic index, 3))
    (hpre : ∀ vm₁, s.WarmedH vm₁ → Pre ⟨T.setVm vm₁, locs, cells, slots⟩ argsL.toArray) :
    (∃ (v : Option Value) (vm₁ : Vm) (B : Pt), s.WarmedH vm₁ ∧ Stand p l e R s m args below meth c B.U B.locs B.cells B.slots ∧ Post ⟨T.setVm vm₁, locs, cells, slots⟩ argsL.toArray v B ∧
      ∀ target, Steps p.tables e below (B.U.setTop { g with pc := g.pc + 3, stack := v.toList ++ rest }) target → Steps p.tables e below (T.setTop g) target) ∨
    (∃ (q : Addr) (vm₁ : Vm) (B : Pt), s.WarmedH vm₁ ∧ Stand p l e R s m args below meth c B.U B.locs B.cells B.slots ∧ PostX ⟨T.setVm vm₁, locs, cells, slots⟩ argsL.toArray q B ∧
      Steps p.tables e below (T.setTop g) ((B.U.setTop { g with stack := rest }).pushFrame (.throwing q))) := by
  obtain ⟨mk, hnamed⟩ := Cond.code_named hcode
  obtain ⟨methM, cM, hmethM, -, -, -, -, -, -, hsigM⟩ := Cond.code_spec hnamed hcode
  have hstatic : methM.isStatic = true := Cond.static_spec hnamed hmethM hstat
  obtain ⟨kP, hkP, -⟩ := className_of_methodNamed hnamed
  have hinitP : kP.init = .initialized := Cond.initialized_spec (findClass_of_methodNamed hnamed) hkP hinit
  obtain ⟨vm₁, X₁, hstep₁⟩ := X.invokestatic hexec hown hlink hnamed hmethM hstatic hkP hinitP hy (g := g) hg (argsL := argsL) (rest := rest) (hlen _ hsigM) hstack hdg
  rcases hK m meth c ⟨T.setVm vm₁, locs, cells, slots⟩ { g with stack := rest } (.invokestatic index) mk argsL.toArray X₁ hg hsize hdg hW (X₁.named hnamed) (hpre vm₁ X₁.warmed) with ⟨v, B, X', hpost, hsteps⟩ | ⟨q, B, X', hpost, hsteps⟩
  · exact Or.inl ⟨v, vm₁, B, X₁.warmed, X', hpost, fun target h => hstep₁ _ fun acts => by rw [doInvoke_state]; exact hsteps.trans h⟩
  · exact Or.inr ⟨q, vm₁, B, X₁.warmed, X', hpost, hstep₁ _ fun acts => by rw [doInvoke_state]; exact hsteps⟩
end Calls
theorem vx_cls {s : State} {T : State} {vm₁ : Vm} {E : String} {k : ClassId} (hW : s.WarmedH vm₁) (h : (T.setVm vm₁).vm.findClass E = some k) : s.vm.findClass E = some k := by
  have h1 : vm₁.findClass E = some k := h
  rw [hW.alike.findClass] at h1
  exact h1
/-- the method's frame g, with q thrown over it -/
def vx_W (p : Program) (l : Launch) (e : Env) (R : Room) (s : State) (m : MethodId) (args : Array Value) (below : List Frame) (meth : Method) (c : Code) (H : Heap) (locs : List Loc) (cells slots : Nat) (Q : State → Prop) (g : JFrame) (q : Addr) : Prop :=
  ∀ T : State, T.heap = H → Stand p l e R s m args below meth c T locs cells slots → ∃ t, Steps p.tables e below ((T.setTop g).pushFrame (.throwing q)) t ∧ Q t
def vx_Run (p : Program) (l : Launch) (e : Env) (R : Room) (s : State) (m : MethodId) (args : Array Value) (below : List Frame) (meth : Method) (c : Code) (H : Heap) (locs : List Loc) (cells slots mc ms : Nat) (g : JFrame) (rest : List Value) (Qa : State → Outcome → State → Prop) (XC : String → State → State → Prop) (free : Addr → Prop) : Prop :=
  ∀ T : State, T.heap = H → Stand p l e R s m args below meth c T locs cells slots →
    (∃ (v : Option Value) (st₀ t T' : State) (L : List Loc), st₀.heap = H ∧ Stand p l e R s m args below meth c T' (locs ++ L) (cells + mc) (slots + ms) ∧ (∀ q ∈ L, free q.base) ∧ T'.heap = t.heap ∧ T'.vm = t.vm ∧ Qa st₀ (.returned v) t ∧
      Goes p e below T g T' { g with pc := g.pc + 3, stack := v.toList ++ rest }) ∨
    (∃ (q : Addr) (st₀ t T' : State) (L : List Loc) (E : String) (ce : Cell), st₀.heap = H ∧ Stand p l e R s m args below meth c T' (locs ++ L) (cells + mc) (slots + ms) ∧ (∀ z ∈ L, free z.base) ∧ T'.heap = t.heap ∧ T'.vm = t.vm ∧ XC E st₀ t ∧ t.heap[q]? = some ce ∧ ce.vm = .none ∧ s.vm.findClass E = some ce.cls ∧
      Steps p.tables e below (T.setTop g) ((T'.setTop { g with stack := rest }).pushFrame (.throwing q)))
def vx_X {S : Type} (px : S → Prop) (B : String → S → State → Prop) (A : Nat → Prop) : String → State → State → Prop := fun E st t => ∃ u : S, px u ∧ B E u t ∧ va_F A st t
section Runs
variable {p : Program} {l : Launch} {e : Env} {R : Room} {s : State} {m : MethodId} {args : Array Value} {below : List Frame} {meth : Method} {c : Code} {H : Heap} {locs : List Loc} {cells slots : Nat}
variable {y : MethodName} {bytes cc : ByteArray} {maxL nL mc ms n index : Nat} {ret : Option FieldType} {ws : List Cond} {rm : Room} {Pc : Array Value → State → Prop} {Qc : Array Value → State → Outcome → State → Prop} {XC : String → State → State → Prop} {free : Addr → Prop} {Ts : List Cond} {own C : String} {b : Addr} {As rest : List Value} {g : JFrame}
theorem vx_callBack (cb : CallB R s args own index y bytes maxL ret ws rm mc ms n) (hM : vx_Met l y ws rm Pc Qc XC mc ms free) (hbl : FrameBlind Pc) : vx_Back l R p e below s args y 3 8 (PreOf R mc ms Pc) (PostOf Qc mc ms free) (vx_Post XC mc ms free) := by
  obtain ⟨hrc, hrs, hfr, hlo, hws, hcw, -, hini, -⟩ := cb
  exact vx_back (bytes := bytes) (maxL := maxL) (ret := ret) hM hbl hrc hrs hfr hlo hws hcw (fun a' U hW => word_at hW (Or.inl (by first | rfl | simp [Cond.onTables, Cond.keeps, Cond.steady])) hini)
theorem vx_runV (S : CallFix p m c cc nL s args Ts own) (hM : vx_Met l y ws rm Pc Qc XC mc ms free) (cw : CallW R s args own C index y bytes maxL ret ws rm mc ms n) (hp : PreV s H C b Pc As)
    (hg : g.method = m) (hn : As.length = n) (hsize : g.locals.size = nL) (hstack : g.stack = As.reverse ++ .ref b :: rest) (hW : 2 * g.monitorRoom + (rest.map fun v => v.category).sum ≤ 8) (hdg : decode cc g.pc = .ok (.invokevirtual index, 3)) (hf : cells + mc ≤ R.cells ∧ slots + ms ≤ R.slots) :
    vx_Run p l e R s m args below meth c H locs cells slots mc ms g rest (Qc (Value.ref b :: As).toArray) XC free := by
  have hK : vx_Back l R p e below s args y 3 8 (PreOf R mc ms Pc) (PostOf Qc mc ms free) (vx_Post XC mc ms free) := vx_callBack cw.1 hM hp.1
  obtain ⟨⟨-, -, -, -, -, -, hcode, -, hy, hlen, hl⟩, hin, hse⟩ := cw
  obtain ⟨hx, hb, hml, ho, -⟩ := S
  obtain ⟨-, ⟨cellB, hcB, hoB, hclB⟩, hPc⟩ := hp
  intro T hT X
  rcases vx_callV X hx (C := C) (bytes := bytes) (maxL := maxL) (ret := ret) ho hl hin hse hcode hy hK (by rw [hT]; exact hcB) hoB hclB hg (hsize.trans hml.symm) (argsL := As) (rest := rest) (fun sig h => hn.trans (hlen sig h)) hstack hW (by rw [hb]; exact hdg)
    (fun vm₁ hW₁ => ⟨hf.1, hf.2, hPc (T.setVm vm₁) hT hW₁⟩) with ⟨v, vm₁, ⟨U', l2, c2, s2⟩, hW₁, X', ⟨g', mk, t, L, e1, e2, hq, h1, hL, h2, h3⟩, st⟩ | ⟨q, vm₁, ⟨U', l2, c2, s2⟩, hW₁, X', ⟨g', mk, t, L, E, ce, e1, e2, hq, hce, hcv, hcl, h1, hL, h2, h3⟩, st⟩
  · dsimp only [Pt.U, Pt.locs, Pt.cells, Pt.slots] at X' e1 e2 h1 h2 h3 st
    subst h1; subst h2; subst h3
    exact Or.inl ⟨v, (T.setVm vm₁).calling g' mk (Value.ref b :: As).toArray, t, U', L, hT, X', hL, e1, e2, hq, st⟩
  · dsimp only [Pt.U, Pt.locs, Pt.cells, Pt.slots] at X' e1 e2 h1 h2 h3 st hcl
    subst h1; subst h2; subst h3
    exact Or.inr ⟨q, (T.setVm vm₁).calling g' mk (Value.ref b :: As).toArray, t, U', L, E, ce, hT, X', hL, e1, e2, hq, hce, hcv, vx_cls hW₁ hcl, st⟩
theorem vx_runS (S : CallFix p m c cc nL s args Ts own) (hM : vx_Met l y ws rm Pc Qc XC mc ms free) (cw : CallB R s args own index y bytes maxL ret ws rm mc ms n ∧ (Cond.static y).before args s = true) (hp : PreS s H Pc As)
    (hg : g.method = m) (hn : As.length = n) (hsize : g.locals.size = nL) (hstack : g.stack = As.reverse ++ rest) (hW : 2 * g.monitorRoom + (rest.map fun v => v.category).sum ≤ 8) (hdg : decode cc g.pc = .ok (.invokestatic index, 3)) (hf : cells + mc ≤ R.cells ∧ slots + ms ≤ R.slots) :
    vx_Run p l e R s m args below meth c H locs cells slots mc ms g rest (Qc As.toArray) XC free := by
  have hK : vx_Back l R p e below s args y 3 8 (PreOf R mc ms Pc) (PostOf Qc mc ms free) (vx_Post XC mc ms free) := vx_callBack cw.1 hM hp.1
  obtain ⟨⟨-, -, -, -, -, -, hcode, hini, hy, hlen, hl⟩, hstt⟩ := cw
  obtain ⟨hx, hb, hml, ho, -⟩ := S
  intro T hT X
  rcases vx_callS X hx (bytes := bytes) (maxL := maxL) (ret := ret) ho hl hstt hini hcode hy hK hg (hsize.trans hml.symm) (argsL := As) (rest := rest) (fun sig h => hn.trans (hlen sig h)) hstack hW (by rw [hb]; exact hdg)
    (fun vm₁ hW₁ => ⟨hf.1, hf.2, hp.2 (T.setVm vm₁) hT hW₁⟩) with ⟨v, vm₁, ⟨U', l2, c2, s2⟩, hW₁, X', ⟨g', mk, t, L, e1, e2, hq, h1, hL, h2, h3⟩, st⟩ | ⟨q, vm₁, ⟨U', l2, c2, s2⟩, hW₁, X', ⟨g', mk, t, L, E, ce, e1, e2, hq, hce, hcv, hcl, h1, hL, h2, h3⟩, st⟩
  · dsimp only [Pt.U, Pt.locs, Pt.cells, Pt.slots] at X' e1 e2 h1 h2 h3 st
    subst h1; subst h2; subst h3
    exact Or.inl ⟨v, (T.setVm vm₁).calling g' mk As.toArray, t, U', L, hT, X', hL, e1, e2, hq, st⟩
  · dsimp only [Pt.U, Pt.locs, Pt.cells, Pt.slots] at X' e1 e2 h1 h2 h3 st hcl
    subst h1; subst h2; subst h3
    exact Or.inr ⟨q, (T.setVm vm₁).calling g' mk As.toArray, t, U', L, E, ce, hT, X', hL, e1, e2, hq, hce, hcv, vx_cls hW₁ hcl, st⟩
end Runs
section Rows
variable {p : Program} {l : Launch} {e : Env} {R : Room} {s : State} {m : MethodId} {args : Array Value} {below : List Frame} {meth : Method} {c : Code} {H : Heap} {locs : List Loc} {cells slots : Nat} {Q : State → Prop}
variable {mc ms : Nat} {free : Addr → Prop} {A0 A1 : Nat → Prop} {H0 : Heap} {a : Array Value} {pc : Nat} {ls : Array Slot} {st0 rest : List Value}
theorem vx_keep {st₀ t T' : State} {L : List Loc} (h0 : st₀.heap = H) (e1 : T'.heap = t.heap) (hS : va_S A0 H0 H locs) (hA : ∀ q, q < H.size → A1 q → A0 q) (hf : ∀ q, free q → A0 q) (hL : ∀ q ∈ L, free q.base) (hF : va_F A1 st₀ t) :
    H.size ≤ T'.heap.size ∧ (∀ q : Nat, q < H.size → ¬ A1 q → T'.heap[q]? = H[q]?) ∧ va_S A0 H0 T'.heap (locs ++ L) := by
  obtain ⟨hz, hk⟩ := hF
  rw [h0] at hz hk
  exact ⟨by rw [e1]; exact hz, fun q h1 h2 => by rw [e1]; exact hk q h1 h2,
    ⟨Nat.le_trans hS.1 (by rw [e1]; exact hz), fun q h1 h2 => by rw [e1, hk q (Nat.lt_of_lt_of_le h1 hS.1) (fun z => h2 (hA q (Nat.lt_of_lt_of_le h1 hS.1) z))]; exact hS.2.1 q h1 h2, fun q hq => by
      rcases List.mem_append.mp hq with h | h
      · exact hS.2.2 q h
      · exact hf _ (hL q h)⟩⟩
theorem vx_calli {S SX : Type} {post : Int32 → S → Prop} {px : SX → Prop} {B : S → State → Prop} {BX : String → SX → State → Prop} {AX : Nat → Prop} (hr : vx_Run p l e R s m args below meth c H locs cells slots mc ms (F0 m pc ls st0) rest (va_Qi post B A1 a) (vx_X px BX AX) free) (hS : va_S A0 H0 H locs) (hA : ∀ q, q < H.size → A1 q → A0 q) (hf : ∀ q, free q → A0 q) (hAX : ∀ q, q < H.size → AX q → A0 q)
    (kx : ∀ (E : String) (ce : Cell) (q9 : Addr) (u : SX) (t : State) (H1 : Heap) (locs1 : List Loc), t.heap = H1 → s.vm.Alike t.vm → px u → BX E u t → H.size ≤ H1.size → (∀ q : Nat, q < H.size → ¬ AX q → H1[q]? = H[q]?) → va_S A0 H0 H1 locs1 → H1[q9]? = some ce → ce.vm = .none → s.vm.findClass E = some ce.cls → vx_W p l e R s m args below meth c H1 locs1 (cells + mc) (slots + ms) Q (F0 m pc ls rest) q9)
    (kk : ∀ (r : Int32) (u : S) (t : State) (H1 : Heap) (locs1 : List Loc), t.heap = H1 → s.vm.Alike t.vm → post r u → B u t → H.size ≤ H1.size → (∀ q : Nat, q < H.size → ¬ A1 q → H1[q]? = H[q]?) → va_S A0 H0 H1 locs1 → W p l e R s m args below meth c H1 locs1 (cells + mc) (slots + ms) Q (F0 m (pc + 3) ls (.int r :: rest))) : W p l e R s m args below meth c H locs cells slots Q (F0 m pc ls st0) := by
  intro T hT X
  rcases hr T hT X with ⟨v, st₀, t, T', L, h0, X', hL, e1, e2, ⟨⟨r, u, hv, hp, hb⟩, hF⟩, st⟩ | ⟨q, st₀, t, T', L, E, ce, h0, X', hL, e1, e2, ⟨u, hp, hb, hF⟩, hce, hcv, hcl, st⟩
  · cases hv
    obtain ⟨k1, k2, k3⟩ := vx_keep h0 e1 hS hA hf hL hF
    obtain ⟨t2, a1, b1⟩ := kk r u t T'.heap (locs ++ L) e1.symm (by rw [← e2]; exact X'.warmed.alike) hp hb k1 k2 k3 T' rfl X'
    exact ⟨t2, st t2 a1, b1⟩
  · obtain ⟨k1, k2, k3⟩ := vx_keep h0 e1 hS hAX hf hL hF
    obtain ⟨t2, a1, b1⟩ := kx E ce q u t T'.heap (locs ++ L) e1.symm (by rw [← e2]; exact X'.warmed.alike) hp hb k1 k2 k3 (by rw [e1]; exact hce) hcv hcl T' rfl X'
    exact ⟨t2, st.trans a1, b1⟩
theorem vx_calll {S SX : Type} {post : Int64 → S → Prop} {px : SX → Prop} {B : S → State → Prop} {BX : String → SX → State → Prop} {AX : Nat → Prop} (hr : vx_Run p l e R s m args below meth c H locs cells slots mc ms (F0 m pc ls st0) rest (va_Ql post B A1 a) (vx_X px BX AX) free) (hS : va_S A0 H0 H locs) (hA : ∀ q, q < H.size → A1 q → A0 q) (hf : ∀ q, free q → A0 q) (hAX : ∀ q, q < H.size → AX q → A0 q)
    (kx : ∀ (E : String) (ce : Cell) (q9 : Addr) (u : SX) (t : State) (H1 : Heap) (locs1 : List Loc), t.heap = H1 → s.vm.Alike t.vm → px u → BX E u t → H.size ≤ H1.size → (∀ q : Nat, q < H.size → ¬ AX q → H1[q]? = H[q]?) → va_S A0 H0 H1 locs1 → H1[q9]? = some ce → ce.vm = .none → s.vm.findClass E = some ce.cls → vx_W p l e R s m args below meth c H1 locs1 (cells + mc) (slots + ms) Q (F0 m pc ls rest) q9)
    (kk : ∀ (r : Int64) (u : S) (t : State) (H1 : Heap) (locs1 : List Loc), t.heap = H1 → s.vm.Alike t.vm → post r u → B u t → H.size ≤ H1.size → (∀ q : Nat, q < H.size → ¬ A1 q → H1[q]? = H[q]?) → va_S A0 H0 H1 locs1 → W p l e R s m args below meth c H1 locs1 (cells + mc) (slots + ms) Q (F0 m (pc + 3) ls (.long r :: rest))) : W p l e R s m args below meth c H locs cells slots Q (F0 m pc ls st0) := by
  intro T hT X
  rcases hr T hT X with ⟨v, st₀, t, T', L, h0, X', hL, e1, e2, ⟨⟨r, u, hv, hp, hb⟩, hF⟩, st⟩ | ⟨q, st₀, t, T', L, E, ce, h0, X', hL, e1, e2, ⟨u, hp, hb, hF⟩, hce, hcv, hcl, st⟩
  · cases hv
    obtain ⟨k1, k2, k3⟩ := vx_keep h0 e1 hS hA hf hL hF
    obtain ⟨t2, a1, b1⟩ := kk r u t T'.heap (locs ++ L) e1.symm (by rw [← e2]; exact X'.warmed.alike) hp hb k1 k2 k3 T' rfl X'
    exact ⟨t2, st t2 a1, b1⟩
  · obtain ⟨k1, k2, k3⟩ := vx_keep h0 e1 hS hAX hf hL hF
    obtain ⟨t2, a1, b1⟩ := kx E ce q u t T'.heap (locs ++ L) e1.symm (by rw [← e2]; exact X'.warmed.alike) hp hb k1 k2 k3 (by rw [e1]; exact hce) hcv hcl T' rfl X'
    exact ⟨t2, st.trans a1, b1⟩
theorem vx_callf {S SX : Type} {post : UInt32 → S → Prop} {px : SX → Prop} {B : S → State → Prop} {BX : String → SX → State → Prop} {AX : Nat → Prop} (hr : vx_Run p l e R s m args below meth c H locs cells slots mc ms (F0 m pc ls st0) rest (va_Qf post B A1 a) (vx_X px BX AX) free) (hS : va_S A0 H0 H locs) (hA : ∀ q, q < H.size → A1 q → A0 q) (hf : ∀ q, free q → A0 q) (hAX : ∀ q, q < H.size → AX q → A0 q)
    (kx : ∀ (E : String) (ce : Cell) (q9 : Addr) (u : SX) (t : State) (H1 : Heap) (locs1 : List Loc), t.heap = H1 → s.vm.Alike t.vm → px u → BX E u t → H.size ≤ H1.size → (∀ q : Nat, q < H.size → ¬ AX q → H1[q]? = H[q]?) → va_S A0 H0 H1 locs1 → H1[q9]? = some ce → ce.vm = .none → s.vm.findClass E = some ce.cls → vx_W p l e R s m args below meth c H1 locs1 (cells + mc) (slots + ms) Q (F0 m pc ls rest) q9)
    (kk : ∀ (r : UInt32) (u : S) (t : State) (H1 : Heap) (locs1 : List Loc), t.heap = H1 → s.vm.Alike t.vm → post r u → B u t → H.size ≤ H1.size → (∀ q : Nat, q < H.size → ¬ A1 q → H1[q]? = H[q]?) → va_S A0 H0 H1 locs1 → W p l e R s m args below meth c H1 locs1 (cells + mc) (slots + ms) Q (F0 m (pc + 3) ls (.float r :: rest))) : W p l e R s m args below meth c H locs cells slots Q (F0 m pc ls st0) := by
  intro T hT X
  rcases hr T hT X with ⟨v, st₀, t, T', L, h0, X', hL, e1, e2, ⟨⟨r, u, hv, hp, hb⟩, hF⟩, st⟩ | ⟨q, st₀, t, T', L, E, ce, h0, X', hL, e1, e2, ⟨u, hp, hb, hF⟩, hce, hcv, hcl, st⟩
  · cases hv
    obtain ⟨k1, k2, k3⟩ := vx_keep h0 e1 hS hA hf hL hF
    obtain ⟨t2, a1, b1⟩ := kk r u t T'.heap (locs ++ L) e1.symm (by rw [← e2]; exact X'.warmed.alike) hp hb k1 k2 k3 T' rfl X'
    exact ⟨t2, st t2 a1, b1⟩
  · obtain ⟨k1, k2, k3⟩ := vx_keep h0 e1 hS hAX hf hL hF
    obtain ⟨t2, a1, b1⟩ := kx E ce q u t T'.heap (locs ++ L) e1.symm (by rw [← e2]; exact X'.warmed.alike) hp hb k1 k2 k3 (by rw [e1]; exact hce) hcv hcl T' rfl X'
    exact ⟨t2, st.trans a1, b1⟩
theorem vx_calld {S SX : Type} {post : UInt64 → S → Prop} {px : SX → Prop} {B : S → State → Prop} {BX : String → SX → State → Prop} {AX : Nat → Prop} (hr : vx_Run p l e R s m args below meth c H locs cells slots mc ms (F0 m pc ls st0) rest (va_Qd post B A1 a) (vx_X px BX AX) free) (hS : va_S A0 H0 H locs) (hA : ∀ q, q < H.size → A1 q → A0 q) (hf : ∀ q, free q → A0 q) (hAX : ∀ q, q < H.size → AX q → A0 q)
    (kx : ∀ (E : String) (ce : Cell) (q9 : Addr) (u : SX) (t : State) (H1 : Heap) (locs1 : List Loc), t.heap = H1 → s.vm.Alike t.vm → px u → BX E u t → H.size ≤ H1.size → (∀ q : Nat, q < H.size → ¬ AX q → H1[q]? = H[q]?) → va_S A0 H0 H1 locs1 → H1[q9]? = some ce → ce.vm = .none → s.vm.findClass E = some ce.cls → vx_W p l e R s m args below meth c H1 locs1 (cells + mc) (slots + ms) Q (F0 m pc ls rest) q9)
    (kk : ∀ (r : UInt64) (u : S) (t : State) (H1 : Heap) (locs1 : List Loc), t.heap = H1 → s.vm.Alike t.vm → post r u → B u t → H.size ≤ H1.size → (∀ q : Nat, q < H.size → ¬ A1 q → H1[q]? = H[q]?) → va_S A0 H0 H1 locs1 → W p l e R s m args below meth c H1 locs1 (cells + mc) (slots + ms) Q (F0 m (pc + 3) ls (.double r :: rest))) : W p l e R s m args below meth c H locs cells slots Q (F0 m pc ls st0) := by
  intro T hT X
  rcases hr T hT X with ⟨v, st₀, t, T', L, h0, X', hL, e1, e2, ⟨⟨r, u, hv, hp, hb⟩, hF⟩, st⟩ | ⟨q, st₀, t, T', L, E, ce, h0, X', hL, e1, e2, ⟨u, hp, hb, hF⟩, hce, hcv, hcl, st⟩
  · cases hv
    obtain ⟨k1, k2, k3⟩ := vx_keep h0 e1 hS hA hf hL hF
    obtain ⟨t2, a1, b1⟩ := kk r u t T'.heap (locs ++ L) e1.symm (by rw [← e2]; exact X'.warmed.alike) hp hb k1 k2 k3 T' rfl X'
    exact ⟨t2, st t2 a1, b1⟩
  · obtain ⟨k1, k2, k3⟩ := vx_keep h0 e1 hS hAX hf hL hF
    obtain ⟨t2, a1, b1⟩ := kx E ce q u t T'.heap (locs ++ L) e1.symm (by rw [← e2]; exact X'.warmed.alike) hp hb k1 k2 k3 (by rw [e1]; exact hce) hcv hcl T' rfl X'
    exact ⟨t2, st.trans a1, b1⟩
theorem vx_callv {S SX : Type} {post : S → Prop} {px : SX → Prop} {B : S → State → Prop} {BX : String → SX → State → Prop} {AX : Nat → Prop} (hr : vx_Run p l e R s m args below meth c H locs cells slots mc ms (F0 m pc ls st0) rest (va_Qv post B A1 a) (vx_X px BX AX) free) (hS : va_S A0 H0 H locs) (hA : ∀ q, q < H.size → A1 q → A0 q) (hf : ∀ q, free q → A0 q) (hAX : ∀ q, q < H.size → AX q → A0 q)
    (kx : ∀ (E : String) (ce : Cell) (q9 : Addr) (u : SX) (t : State) (H1 : Heap) (locs1 : List Loc), t.heap = H1 → s.vm.Alike t.vm → px u → BX E u t → H.size ≤ H1.size → (∀ q : Nat, q < H.size → ¬ AX q → H1[q]? = H[q]?) → va_S A0 H0 H1 locs1 → H1[q9]? = some ce → ce.vm = .none → s.vm.findClass E = some ce.cls → vx_W p l e R s m args below meth c H1 locs1 (cells + mc) (slots + ms) Q (F0 m pc ls rest) q9)
    (kk : ∀ (u : S) (t : State) (H1 : Heap) (locs1 : List Loc), t.heap = H1 → s.vm.Alike t.vm → post u → B u t → H.size ≤ H1.size → (∀ q : Nat, q < H.size → ¬ A1 q → H1[q]? = H[q]?) → va_S A0 H0 H1 locs1 → W p l e R s m args below meth c H1 locs1 (cells + mc) (slots + ms) Q (F0 m (pc + 3) ls (rest))) : W p l e R s m args below meth c H locs cells slots Q (F0 m pc ls st0) := by
  intro T hT X
  rcases hr T hT X with ⟨v, st₀, t, T', L, h0, X', hL, e1, e2, ⟨⟨u, hv, hp, hb⟩, hF⟩, st⟩ | ⟨q, st₀, t, T', L, E, ce, h0, X', hL, e1, e2, ⟨u, hp, hb, hF⟩, hce, hcv, hcl, st⟩
  · cases hv
    obtain ⟨k1, k2, k3⟩ := vx_keep h0 e1 hS hA hf hL hF
    obtain ⟨t2, a1, b1⟩ := kk u t T'.heap (locs ++ L) e1.symm (by rw [← e2]; exact X'.warmed.alike) hp hb k1 k2 k3 T' rfl X'
    exact ⟨t2, st t2 a1, b1⟩
  · obtain ⟨k1, k2, k3⟩ := vx_keep h0 e1 hS hAX hf hL hF
    obtain ⟨t2, a1, b1⟩ := kx E ce q u t T'.heap (locs ++ L) e1.symm (by rw [← e2]; exact X'.warmed.alike) hp hb k1 k2 k3 (by rw [e1]; exact hce) hcv hcl T' rfl X'
    exact ⟨t2, st.trans a1, b1⟩
/-- caught by the row x of this method's table; the rows ahead don't take it -/
theorem vx_catch {own name : String} {E : String} {ce : Cell} {q : Addr} (hown : s.vm.findClass own = some m.cls) (pre : List ExceptionTableEntry) (x : ExceptionTableEntry) (suf : List ExceptionTableEntry) (hsplit : c.exceptionTable.toList = pre ++ x :: suf)
    (hpass : ∀ z ∈ pre, covers z pc = false ∨ (z.catchType ≠ 0 ∧ ∃ nm : String, (Cond.classLink own z.catchType nm).before args s = true ∧ va_Nc E nm s)) (hx : covers x pc = true) (h0 : x.catchType ≠ 0)
    (hlink : (Cond.classLink own x.catchType name).before args s = true) (hcast : (Cond.castable E name).before args s = true) (hcell : H[q]? = some ce) (hv : ce.vm = .none) (hcl : s.vm.findClass E = some ce.cls)
    (kk : W p l e R s m args below meth c H locs cells slots Q (F0 m x.handlerPc ls [.ref q])) : vx_W p l e R s m args below meth c H locs cells slots Q (F0 m pc ls rest) q := by
  intro T hT X
  have hpl : e.platform.magicAccessors = ({} : Platform).magicAccessors := by rw [X.admits.platform]
  obtain ⟨c3, c4, hc3, hc4, hasg⟩ := Cond.castable_spec hcast
  cases Option.some.inj (hc3.symm.trans hcl)
  obtain ⟨c5, hc5, hcl5⟩ := Cond.classLink_spec hown hlink e.platform hpl
  cases Option.some.inj (hc4.symm.trans hc5)
  obtain ⟨vm', X', st⟩ := X.thenCaughtThrough q (g := F0 m pc ls rest) rfl (Steps.refl _) (by rw [hT]; exact hcell) (by rw [hv]; rfl) (by obtain ⟨k9, h9, -⟩ := Vm.findClass_spec hcl; exact ⟨k9, h9⟩) pre x suf hsplit
    (fun z hz => by
      rcases hpass z hz with h | ⟨hz0, nm, hl1, hn1⟩
      · exact Or.inl h
      · obtain ⟨c6, hc6, hcl6⟩ := Cond.classLink_spec hown hl1 e.platform hpl
        obtain ⟨a8, b8, h1, h2, h3⟩ := hn1
        cases Option.some.inj (h1.symm.trans hcl)
        cases Option.some.inj (h2.symm.trans hc6)
        exact Or.inr ⟨hz0, _, hcl6, h3⟩) hx (Or.inr ⟨h0, c4, hcl5, hasg⟩)
  obtain ⟨t, a1, b1⟩ := kk (T.setVm vm') hT X'
  exact ⟨t, st.trans a1, b1⟩
end Rows
section Ends
variable {p : Program} {l : Launch} {e : Env} {R : Room} {s : State} {m : MethodId} {args : Array Value} {below : List Frame} {meth : Method} {c : Code} {H : Heap} {locs : List Loc} {cells slots : Nat} {Q : State → Prop}
variable {mc ms : Nat} {free : Addr → Prop} {A0 A1 : Nat → Prop} {H0 : Heap} {a : Array Value} {ls : Array Slot} {st0 rest : List Value}
variable {Qc : Array Value → State → Outcome → State → Prop} {XC : String → State → State → Prop}
/-- what a body that may throw owes at its end -/
def vx_MQ (below : List Frame) (Qc : Array Value → State → Outcome → State → Prop) (XC : String → State → State → Prop) (a : Array Value) (s : State) (mc ms : Nat) (free : Addr → Prop) : State → Prop := fun t =>
  ∃ o, t.status = .running ∧ Ended t below o ∧ vx_Q Qc XC mc ms free a s o t
theorem vx_ret {g : JFrame} {mc ms : Nat} (k : W p l e R s m args below meth c H locs cells slots (MQ below Qc args s mc ms free) g) : W p l e R s m args below meth c H locs cells slots (vx_MQ below Qc XC args s mc ms free) g := by
  intro T hT X
  obtain ⟨t, a1, o, b1, b2, b3, b4⟩ := k T hT X
  exact ⟨t, a1, o, b1, b2, Or.inl ⟨b3, b4⟩⟩
/-- not caught here: it goes on to the caller -/
theorem vx_widen {g : JFrame} {q : Addr} {k n : Nat} (h1 : cells ≤ k) (h2 : slots ≤ n) (kk : vx_W p l e R s m args below meth c H locs k n Q g q) : vx_W p l e R s m args below meth c H locs cells slots Q g q := fun T hT X => kk T hT (stand_widen X h1 h2)
theorem vx_out {pc : Nat} {E : String} {ce : Cell} {q : Addr} {mc ms : Nat} (hout : ∀ x ∈ c.exceptionTable.toList, covers x pc = false) (hlocks : meth.locks = false) (hcell : H[q]? = some ce) (hv : ce.vm = .none) (hcl : s.vm.findClass E = some ce.cls)
    (hx : ∀ t : State, t.heap = H → s.vm.Alike t.vm → XC E s t) (hf : ∀ z ∈ locs, free z.base) (hc : cells ≤ mc) (hs : slots ≤ ms) :
    vx_W p l e R s m args below meth c H locs cells slots (vx_MQ below Qc XC args s mc ms free) (F0 m pc ls rest) q := by
  intro T hT X
  obtain ⟨st1, hrun, hend, hW, hsm⟩ := X.leaveThrown q (g := F0 m pc ls rest) rfl rfl rfl hout hlocks
  have hcell9 : (T.setFrames (.throwing q :: below)).heap[q]? = some ce := by
    show T.heap[q]? = some ce
    rw [hT]; exact hcell
  exact ⟨_, st1, .threw q, hrun, hend, Or.inr ⟨q, rfl, E, ce, locs, hx _ hT hW.alike, hcell9, hv, hcl, hW, hsm.mono hc hs, hf⟩⟩
theorem vx_frame {U : State} {k n : Nat} (h : s.sameButNew ({ U with vm := s.vm } : State) locs k n) : s.heap.size ≤ U.heap.size ∧ ∀ q : Nat, q < s.heap.size → (∀ z ∈ locs, z.base ≠ q) → U.heap[q]? = s.heap[q]? := by
  obtain ⟨-, h2, -, -, -, h6⟩ := h
  refine ⟨h2, fun q hq hz => ?_⟩
  obtain ⟨c9, e1, e2, e3, e4⟩ := h6 q _ (Array.getElem?_eq_getElem hq)
  have hs : c9.slots = (s.heap[q]).slots := Array.ext_getElem? fun i => e4 i fun hm => hz _ hm rfl
  have h9 : c9 = s.heap[q] := by
    rw [hs] at e2
    exact e2
  have e5 : U.heap[q]? = some c9 := e1
  rw [e5, h9, Array.getElem?_eq_getElem hq]
/-- the words of a throw but the four that speak of the heap -/
def vx_no (w : Cond) : Bool := decide (w ≠ .isRef (.static Bundle.tN "UNASSIGNED_STACK" Bundle.steD)) && decide (w ≠ .isRef (.static Bundle.tN "SUPPRESSED_SENTINEL" Bundle.listD)) && decide (w ≠ .laysStatic Bundle.tN "UNASSIGNED_STACK" Bundle.steD) && decide (w ≠ .laysStatic Bundle.tN "SUPPRESSED_SENTINEL" Bundle.listD)
def vx_at0 (own : String) (ic : Nat) (X : String) (names : List String) : List Cond := (Bundle.ownAtoms0 own ic X names).filter vx_no
def vx_atS (own : String) (ic : Nat) (X : String) (names : List String) : List Cond := (Bundle.ownAtoms own ic X names).filter vx_no
/-- a word that the tables alone decide, or a good one -/
def vx_ot (w : Cond) : Bool := w.onTables || goodWord w
theorem vx_ot_at {args a' : Array Value} {s U : State} {w : Cond} (hW : s.WarmedH U.vm) (hvm : s.vm = U.vm) (hg : vx_ot w = true) (h : w.before args s = true) : w.before a' U = true := by
  simp only [vx_ot, Bool.or_eq_true] at hg
  rcases hg with hg | hg
  · exact va_tabs hg hvm h
  · exact word_at hW (good_of_word hg) h
/-- a list's words: the good ones out of the method's own list, the others by premises of their own -/
theorem vx_hat {args : Array Value} {s : State} {L B : List Cond} (h1 : ∀ w ∈ L.filter goodWord, w.before args s = true) (h2 : ∀ w ∈ L.filter (fun w => !goodWord w), w ∈ B) (h3 : ∀ w ∈ B, w.before args s = true) : ∀ w ∈ L, w.before args s = true := by
  intro w hw
  by_cases g : goodWord w = true
  · exact h1 w (List.mem_filter.mpr ⟨hw, g⟩)
  · refine h3 w (h2 w (List.mem_filter.mpr ⟨hw, ?_⟩))
    show (!goodWord w) = true
    cases hgw : goodWord w
    · rfl
    · exact absurd hgw g
theorem vx_c {args : Array Value} {s : State} {w : Cond} {B : List Cond} (h : w.before args s = true) (t : ∀ w ∈ B, w.before args s = true) : ∀ w' ∈ w :: B, w'.before args s = true := fun w' h' => (List.mem_cons.mp h').elim (fun e => by rw [e]; exact h) (t w')
theorem vx_n {args : Array Value} {s : State} : ∀ w ∈ ([] : List Cond), w.before args s = true := fun _ h => nomatch h
theorem vx_own {args : Array Value} {s : State} {L : List Cond} (h1 : ∀ w ∈ L.filter vx_no, w.before args s = true)
    (hU : (Cond.isRef (.static Bundle.tN "UNASSIGNED_STACK" Bundle.steD)).before args s = true) (hN : (Cond.isRef (.static Bundle.tN "SUPPRESSED_SENTINEL" Bundle.listD)).before args s = true)
    (lU : (Cond.laysStatic Bundle.tN "UNASSIGNED_STACK" Bundle.steD).before args s = true) (lN : (Cond.laysStatic Bundle.tN "SUPPRESSED_SENTINEL" Bundle.listD).before args s = true) : ∀ w ∈ L, w.before args s = true := by
  intro w hw
  by_cases e1 : w = .isRef (.static Bundle.tN "UNASSIGNED_STACK" Bundle.steD)
  · rw [e1]; exact hU
  · by_cases e2 : w = .isRef (.static Bundle.tN "SUPPRESSED_SENTINEL" Bundle.listD)
    · rw [e2]; exact hN
    · by_cases e3 : w = .laysStatic Bundle.tN "UNASSIGNED_STACK" Bundle.steD
      · rw [e3]; exact lU
      · by_cases e4 : w = .laysStatic Bundle.tN "SUPPRESSED_SENTINEL" Bundle.listD
        · rw [e4]; exact lN
        · exact h1 w (List.mem_filter.mpr ⟨hw, by unfold vx_no; rw [decide_eq_true e1, decide_eq_true e2, decide_eq_true e3, decide_eq_true e4]; rfl⟩)
/-- where a static field lies, its class's statics cell in H -/
def vx_L (C n d : String) (A : Nat → Prop) (U : State) (H : Heap) : Prop := ∃ (c : ClassId) (k : Class) (i : Nat) (f : Field) (a : Nat) (cell : Cell), U.vm.findClass C = some c ∧ U.fieldFound? C n d = some (c, k, i, f) ∧ f.isStatic = true ∧ k.statics = some a ∧ H[a]? = some cell ∧ cell.vm.isStatics = true ∧ cell.cls = c ∧ f.slot < cell.slots.size ∧ k.staticTypes[f.slot]? = some f.type ∧ ¬ A a
theorem vx_L.moved {C n d : String} {A : Nat → Prop} {u U : State} {H : Heap} (hvm : u.vm.Alike U.vm) (h : vx_L C n d A u H) : vx_L C n d A U H := by
  obtain ⟨c, k, i, f, a, cell, h1, h2, h3, h4, h5, h6, h7, h8, h9, h10⟩ := h
  obtain ⟨k', hi', he⟩ := State.fieldFound?_setVm hvm h2
  exact ⟨c, k', i, f, a, cell, by rw [hvm.findClass]; exact h1, hi', h3, by rw [he]; exact h4, h5, h6, h7, h8, by rw [he]; exact h9, h10⟩
theorem vx_L.kept {C n d : String} {A : Nat → Prop} {U : State} {H H1 : Heap} (h : vx_L C n d A U H) (hq : ∀ a : Nat, a < H.size → ¬ A a → H1[a]? = H[a]?) : vx_L C n d A U H1 := by
  obtain ⟨c, k, i, f, a, cell, h1, h2, h3, h4, h5, h6, h7, h8, h9, h10⟩ := h
  exact ⟨c, k, i, f, a, cell, h1, h2, h3, h4, by rw [hq a (Array.getElem?_eq_some_iff.mp h5).1 h10]; exact h5, h6, h7, h8, h9, h10⟩
theorem vx_L.narrow {C n d : String} {A B : Nat → Prop} {U : State} {H : Heap} (h : vx_L C n d A U H) (hAB : ∀ q, B q → A q) : vx_L C n d B U H := by
  obtain ⟨c, k, i, f, a, cell, h1, h2, h3, h4, h5, h6, h7, h8, h9, h10⟩ := h
  exact ⟨c, k, i, f, a, cell, h1, h2, h3, h4, h5, h6, h7, h8, h9, fun z => h10 (hAB _ z)⟩
theorem vx_L.word {C n d : String} {A : Nat → Prop} {s : State} {args : Array Value} (h : vx_L C n d A s s.heap) : (Cond.laysStatic C n d).before args s = true := by
  obtain ⟨c, k, i, f, a, cell, h1, h2, h3, h4, h5, h6, h7, h8, h9, -⟩ := h
  show (Cond.laysStatic C n d).holds args s none s [] = true
  exact Cond.laysStatic_of h1 h2 h3 h4 h5 h6 h7 h8 h9
/-- .. and what it holds: null or some reference -/
def vx_Zq (C n d : String) (A : Nat → Prop) (U : State) (H : Heap) : Prop := va_Zq C n d A U H ∧ vx_L C n d A U H
theorem vx_Zq.moved {C n d : String} {A : Nat → Prop} {u U : State} {H : Heap} (hvm : u.vm.Alike U.vm) (h : vx_Zq C n d A u H) : vx_Zq C n d A U H := ⟨va_Zq.moved hvm h.1, vx_L.moved hvm h.2⟩
theorem vx_Zq.kept {C n d : String} {A : Nat → Prop} {U : State} {H H1 : Heap} (h : vx_Zq C n d A U H) (hq : ∀ a : Nat, a < H.size → ¬ A a → H1[a]? = H[a]?) : vx_Zq C n d A U H1 := ⟨va_Zq.kept h.1 hq, vx_L.kept h.2 hq⟩
theorem vx_Zq.narrow {C n d : String} {A B : Nat → Prop} {U : State} {H : Heap} (h : vx_Zq C n d A U H) (hAB : ∀ q, B q → A q) : vx_Zq C n d B U H := ⟨va_Zq.narrow h.1 hAB, vx_L.narrow h.2 hAB⟩
theorem vx_Zqof {args : Array Value} {s : State} {C n d : String} {A : Nat → Prop} (hl : (Cond.laysStatic C n d).before args s = true) (hini : (Cond.initialized C).before args s = true) (h : (Cond.isRef (.static C n d)).before args s = true) (hA : ∀ a : Nat, a < s.heap.size → ¬ A a) : vx_Zq C n d A s s.heap := by
  refine ⟨va_Zqof hl hini h hA, ?_⟩
  obtain ⟨c, k, i, f, a, cell, h1, h2, h3, h4, h5, h6, h7, h8, h9⟩ := Cond.laysStatic_spec hl
  exact ⟨c, k, i, f, a, cell, h1, h2, h3, h4, h5, h6, h7, h8, h9, hA a (Array.getElem?_eq_some_iff.mp h5).1⟩
theorem vx_isRef {C n d : String} {v : Value} {A : Nat → Prop} {s : State} {args : Array Value} (h : va_Z C n d v A s s.heap) (hv : v.isRef = true) : (Cond.isRef (.static C n d)).before args s = true := by
  obtain ⟨cf, kf, fi, f, a, cell, h1, h2, h3, h4, h5, h6, h7, -⟩ := h
  have he : (Term.static C n d).eval args s none [] s = some v := by
    simp [Term.eval, State.fieldNamed?, h1, h2, h4, h5, h6, h7]
  simp only [Cond.before, Cond.holds, Cond.value, he]
  cases v <;> simp_all [Value.isRef]
theorem vx_isRefq {C n d : String} {A : Nat → Prop} {s : State} {args : Array Value} (h : va_Zq C n d A s s.heap) : (Cond.isRef (.static C n d)).before args s = true := by
  rcases h with h | ⟨t, h⟩
  · exact vx_isRef h rfl
  · exact vx_isRef h rfl
/-- the same frame, seen from here: as if the method were called anew in this heap -/
theorem vx_rebase {T : State} (X : Stand p l e R s m args below meth c T locs cells slots) {R' : Room} (hf : R'.frames ≤ R.frames) (hl : R'.locals ≤ R.locals) (hc : cells + R'.cells ≤ R.cells) (hs : slots + R'.slots ≤ R.slots) :
    Stand p l e R' ((T.setVm s.vm).setFrames (.invoking m args :: below)) m args below meth c T [] 0 0 := by
  have htop : (T.setVm s.vm).topJava?.isSome := X.here.top
  have hF : ((T.setVm s.vm).setFrames (.invoking m args :: below)).frames = .invoking m args :: below := State.frames_setFrames _ (State.cur_lt_of_top htop)
  obtain ⟨g₀, hg0⟩ := Option.isSome_iff_exists.mp htop
  obtain ⟨r, hr⟩ := State.topJava?_eq_some.mp hg0
  have hl9 : e.platform.stackLimits (T.setVm s.vm).me = e.platform.stackLimits s.me := X.limits
  have hb9 : (T.setVm s.vm).me.stackBytes = s.me.stackBytes := X.bytes
  refine ⟨X.admits, X.cas, X.clock, hF, ?_, X.hears, X.method, X.code, X.here, X.tail, X.warmed, ?_, ?_, ?_⟩
  · have h := X.room
    have hU : ((T.setVm s.vm).setFrames (.invoking m args :: below)).localsInUse = s.localsInUse := by
      rw [State.localsInUse_invoking hF (meth := meth) (c := c) X.method X.code, State.localsInUse_invoking X.frames X.method X.code]
    simp only [State.hasRoom, Bool.and_eq_true, decide_eq_true_eq] at h ⊢
    obtain ⟨⟨⟨⟨h1, h2, h3, h4, h5, h6⟩, h7⟩, h8⟩, h9⟩ := h
    rw [X.frames, List.length_cons] at h2 h3
    have q1 := X.heapSize
    have q2 := X.used
    simp only [hF, hU, List.length_cons, State.stackLimits_setFrames, State.stackBytes_setFrames, hl9, hb9]
    refine ⟨⟨⟨⟨by omega, by omega, by omega, by omega, by omega, h6⟩, ?_⟩, ?_⟩, X.book⟩
    · show T.heap.size + R'.cells ≤ e.platform.maxCells
      omega
    · show T.slotsUsed + R'.slots ≤ e.platform.maxSlots
      omega
  · rw [State.stackLimits_setFrames]; rfl
  · rw [State.stackBytes_setFrames]; rfl
  · refine ⟨?_, Nat.le_refl _, Nat.le_refl _, ?_, ?_, fun a c9 h9 => ⟨c9, h9, rfl, rfl, fun _ _ => rfl⟩⟩
    · obtain ⟨t, ht, -⟩ := State.frames_cons hr
      show T.setVm s.vm = { ((T.setVm s.vm).setFrames (.invoking m args :: below)).setFrames (T.setVm s.vm).frames with heap := T.heap, slotsUsed := T.slotsUsed }
      rw [State.setFrames_setFrames, State.setFrames_self ht]
      rfl
    · show T.slotsUsed = T.slotsUsed + ((T.heap.toList.drop T.heap.size).map (·.slots.size)).sum
      rw [List.drop_eq_nil_of_le (Nat.le_of_eq Array.length_toList)]
      rfl
    · show ((T.heap.toList.drop T.heap.size).map (·.slots.size)).sum ≤ 0
      rw [List.drop_eq_nil_of_le (Nat.le_of_eq Array.length_toList)]
      exact Nat.le_refl _
/-- 'throw new E()': new; dup; invokespecial; athrow -/
theorem vx_throw0 {cc : ByteArray} {pc : Nat} (hexec : p.tables.exec = Jvm.exec) (hb : c.code = cc) (hl : l.stackTraces = false) {own cls : String} {names : List String} {ik ic mc ms : Nat} {A : Nat → Prop}
    (hown : s.vm.findClass own = some m.cls) (hcls : Bundle.fit cls = true) (hnames : ∀ n ∈ names, Bundle.fit n = true)
    (hk : (Cond.classLink own ik cls).before args s = true) (hini : (Cond.initialized cls).before args s = true) (hat : ∀ w ∈ vx_at0 own ic cls names, w.before args s = true)
    (hgood : ∀ w ∈ Cond.classLink own ik cls :: Cond.initialized cls :: vx_at0 own ic cls names, vx_ot w = true)
    (hU : vx_Zq Bundle.tN "UNASSIGNED_STACK" Bundle.steD A s s.heap) (hN : vx_Zq Bundle.tN "SUPPRESSED_SENTINEL" Bundle.listD A s s.heap) (hS : va_S A s.heap H locs) (hsize : ls.size = c.maxLocals)
    (d0 : decode cc pc = .ok (.new ik, 3)) (d3 : decode cc (pc + 3) = .ok (.dup, 1)) (d4 : decode cc (pc + 4) = .ok (.invokespecial ic, 3)) (d7 : decode cc (pc + 7) = .ok (.athrow, 1))
    (hout : ∀ x ∈ c.exceptionTable.toList, covers x (pc + 7) = false)
    (hRframes : names.length + 3 < R.frames) (hRlocals : (rest.map fun v => v.category).sum + (13 * (names.length + 1) + 42) ≤ R.locals) (hRcells : cells + 1 ≤ R.cells) (hRslots : slots + 6 ≤ R.slots) (hlocks : meth.locks = false)
    (hx : ∀ t : State, s.vm.Alike t.vm → H.size ≤ t.heap.size → (∀ q : Nat, q < H.size → t.heap[q]? = H[q]?) → XC cls s t)
    (hf : ∀ z ∈ locs, free z.base) (hc : cells + 1 ≤ mc) (hs : slots + 6 ≤ ms) :
    W p l e R s m args below meth c H locs cells slots (vx_MQ below Qc XC args s mc ms free) (F0 m pc ls rest) := by
  intro T hT X
  have htr : e.platform.stackTraces = false := (show e.platform.stackTraces = l.stackTraces by rw [X.admits.platform]).trans hl
  have Y := vx_rebase X (R' := { frames := R.frames, locals := R.locals, cells := 1, slots := 6 }) (Nat.le_refl _) (Nat.le_refl _) hRcells hRslots
  obtain ⟨s', hA⟩ : ∃ z, z = (T.setVm s.vm).setFrames (.invoking m args :: below) := ⟨_, rfl⟩
  rw [← hA] at Y
  have hvm : s'.vm = s.vm := by rw [hA]; rfl
  have hhp : s'.heap = H := by rw [hA]; exact hT
  have hW0 : s.WarmedH s'.vm := by rw [hvm]; exact State.WarmedH.refl s
  have hat' : ∀ w ∈ vx_at0 own ic cls names, w.before args s' = true := fun w hw => vx_ot_at hW0 hvm.symm (hgood w (List.mem_cons_of_mem _ (List.mem_cons_of_mem _ hw))) (hat w hw)
  have hk' : (Cond.classLink own ik cls).before args s' = true := vx_ot_at hW0 hvm.symm (hgood _ List.mem_cons_self) hk
  have hini' : (Cond.initialized cls).before args s' = true := vx_ot_at hW0 hvm.symm (hgood _ (List.mem_cons_of_mem _ List.mem_cons_self)) hini
  have hU' : vx_Zq Bundle.tN "UNASSIGNED_STACK" Bundle.steD A s' s'.heap := by rw [hhp]; exact vx_Zq.moved hW0.alike (hU.kept hS.2.1)
  have hN' : vx_Zq Bundle.tN "SUPPRESSED_SENTINEL" Bundle.listD A s' s'.heap := by rw [hhp]; exact vx_Zq.moved hW0.alike (hN.kept hS.2.1)
  have h : ∀ w ∈ Bundle.ownAtoms0 own ic cls names, w.before args s' = true := vx_own hat' (vx_isRefq hU'.1) (vx_isRefq hN'.1) hU'.2.word hN'.2.word
  have hown' : s'.vm.findClass own = some m.cls := by rw [hvm]; exact hown
  have hins : (Cond.instantiable cls 6).before args s' = true := h _ (by simp [Bundle.ownAtoms0])
  obtain ⟨vm₁, cX, kX, hfX, hkX, -, -, X₁, st1⟩ := Y.newCold hexec (own := own) (C := cls) (index := ik) (n := 6) hown' hk' hins hini'
    (g := F0 m pc ls rest) rfl (by rw [hb]; exact d0) (Nat.le_refl _) (Nat.le_refl _)
  generalize hT1 : (T.setVm vm₁).pushCell { cls := cX, slots := kX.instanceTypes.map defaultValue, vm := .none } = T1 at X₁ st1
  have hcat : (Value.ref T.heap.size).category = 1 := rfl
  have hcellA : T1.heap[T.heap.size]? = some (freshCell cX kX) := by rw [← hT1]; exact State.heap_pushCell_size _ _
  have d3' : decode c.code (pc + 3) = .ok (.dup, 1) := by rw [hb]; exact d3
  obtain ⟨U, hsteps, hrun, hend, hW, hsame, ce, hce, hO⟩ := X₁.ctorThrow0 hexec htr (own := own) (cls := cls) (names := names) (ic := ic) hown' hcls hnames h (fun x hx => nomatch hx) hfX hkX hcellA (by rw [hhp, hT]; exact Nat.le_refl _)
    (g := { method := m, pc := pc + 4, locals := ls, stack := .ref T.heap.size :: .ref T.heap.size :: rest, locked := none }) rfl hsize rfl rfl (rest := rest) rfl
    (by rw [hb]; exact d4) (by rw [hb]; exact d7) hout hRframes (by simp only [List.map_cons, List.sum_cons, hcat]; omega) hlocks
  obtain ⟨f1, f2⟩ := vx_frame hsame
  rw [hhp] at f1 f2
  have hWs : s.WarmedH U.vm := State.WarmedH.trans hW0 hW
  have hcl : s.vm.findClass cls = some ce.cls := by
    have h9 := hO.cls
    rw [hvm] at h9
    exact h9
  have hall : s.sameButNew ({ U with vm := s.vm } : State) locs mc ms := by
    subst hA
    obtain ⟨e1, e2⟩ := hsame
    rw [State.setFrames_setFrames] at e1
    have h2 : (T.setVm s.vm).sameButNew ({ U with vm := s.vm } : State) [] (0 + 1) (0 + 6) := ⟨e1, e2⟩
    have h3 := X.same.trans h2
    rw [List.append_nil] at h3
    exact h3.mono hc hs
  refine ⟨U, ?_, .threw T.heap.size, hrun, hend, Or.inr ⟨T.heap.size, rfl, cls, ce, locs, hx U hWs.alike f1 (fun q hq => f2 q hq (fun z hz => nomatch hz)), hce, hO.vm, hcl, hWs, hall, hf⟩⟩
  refine st1 _ ?_
  show Steps p.tables e below (T1.setTop { method := m, pc := pc + 3, locals := ls, stack := .ref T.heap.size :: rest, locked := none }) _
  jvm_step X₁.here [X₁.here.top, hexec, d3', Value.category]
  exact hsteps
/-- 'throw new E("text")': new; dup; ldc; invokespecial; athrow -/
theorem vx_throwS {cc : ByteArray} {pc : Nat} (hexec : p.tables.exec = Jvm.exec) (hb : c.code = cc) (hl : l.stackTraces = false) {own cls text : String} {names : List String} {ik is ic mc ms sa : Nat} {A : Nat → Prop}
    (hown : s.vm.findClass own = some m.cls) (hcls : Bundle.fit cls = true) (hnames : ∀ n ∈ names, Bundle.fit n = true)
    (hk : (Cond.classLink own ik cls).before args s = true) (hini : (Cond.initialized cls).before args s = true) (hstr : vk_R own is text sa s) (hat : ∀ w ∈ vx_atS own ic cls names, w.before args s = true)
    (hgood : ∀ w ∈ Cond.classLink own ik cls :: Cond.initialized cls :: vx_atS own ic cls names, vx_ot w = true)
    (hU : vx_Zq Bundle.tN "UNASSIGNED_STACK" Bundle.steD A s s.heap) (hN : vx_Zq Bundle.tN "SUPPRESSED_SENTINEL" Bundle.listD A s s.heap) (hS : va_S A s.heap H locs) (hsize : ls.size = c.maxLocals)
    (d0 : decode cc pc = .ok (.new ik, 3)) (d3 : decode cc (pc + 3) = .ok (.dup, 1)) (d4 : decode cc (pc + 4) = .ok (.ldc is, 2)) (d6 : decode cc (pc + 6) = .ok (.invokespecial ic, 3)) (d9 : decode cc (pc + 9) = .ok (.athrow, 1))
    (hout : ∀ x ∈ c.exceptionTable.toList, covers x (pc + 9) = false)
    (hRframes : names.length + 3 < R.frames) (hRlocals : (rest.map fun v => v.category).sum + (13 * (names.length + 1) + 43) ≤ R.locals) (hRcells : cells + 1 ≤ R.cells) (hRslots : slots + 6 ≤ R.slots) (hlocks : meth.locks = false)
    (hx : ∀ t : State, s.vm.Alike t.vm → H.size ≤ t.heap.size → (∀ q : Nat, q < H.size → t.heap[q]? = H[q]?) → XC cls s t)
    (hf : ∀ z ∈ locs, free z.base) (hc : cells + 1 ≤ mc) (hs : slots + 6 ≤ ms) :
    W p l e R s m args below meth c H locs cells slots (vx_MQ below Qc XC args s mc ms free) (F0 m pc ls rest) := by
  intro T hT X
  have htr : e.platform.stackTraces = false := (show e.platform.stackTraces = l.stackTraces by rw [X.admits.platform]).trans hl
  have Y := vx_rebase X (R' := { frames := R.frames, locals := R.locals, cells := 1, slots := 6 }) (Nat.le_refl _) (Nat.le_refl _) hRcells hRslots
  obtain ⟨s', hA⟩ : ∃ z, z = (T.setVm s.vm).setFrames (.invoking m args :: below) := ⟨_, rfl⟩
  rw [← hA] at Y
  have hvm : s'.vm = s.vm := by rw [hA]; rfl
  have hhp : s'.heap = H := by rw [hA]; exact hT
  have hW0 : s.WarmedH s'.vm := by rw [hvm]; exact State.WarmedH.refl s
  have hat' : ∀ w ∈ vx_atS own ic cls names, w.before args s' = true := fun w hw => vx_ot_at hW0 hvm.symm (hgood w (List.mem_cons_of_mem _ (List.mem_cons_of_mem _ hw))) (hat w hw)
  have hk' : (Cond.classLink own ik cls).before args s' = true := vx_ot_at hW0 hvm.symm (hgood _ List.mem_cons_self) hk
  have hini' : (Cond.initialized cls).before args s' = true := vx_ot_at hW0 hvm.symm (hgood _ (List.mem_cons_of_mem _ List.mem_cons_self)) hini
  have hU' : vx_Zq Bundle.tN "UNASSIGNED_STACK" Bundle.steD A s' s'.heap := by rw [hhp]; exact vx_Zq.moved hW0.alike (hU.kept hS.2.1)
  have hN' : vx_Zq Bundle.tN "SUPPRESSED_SENTINEL" Bundle.listD A s' s'.heap := by rw [hhp]; exact vx_Zq.moved hW0.alike (hN.kept hS.2.1)
  have h : ∀ w ∈ Bundle.ownAtoms own ic cls names, w.before args s' = true := vx_own hat' (vx_isRefq hU'.1) (vx_isRefq hN'.1) hU'.2.word hN'.2.word
  have hown' : s'.vm.findClass own = some m.cls := by rw [hvm]; exact hown
  have hins : (Cond.instantiable cls 6).before args s' = true := h _ (by simp [Bundle.ownAtoms])
  obtain ⟨vm₁, cX, kX, hfX, hkX, -, -, X₁, st1⟩ := Y.newCold hexec (own := own) (C := cls) (index := ik) (n := 6) hown' hk' hins hini'
    (g := F0 m pc ls rest) rfl (by rw [hb]; exact d0) (Nat.le_refl _) (Nat.le_refl _)
  generalize hT1 : (T.setVm vm₁).pushCell { cls := cX, slots := kX.instanceTypes.map defaultValue, vm := .none } = T1 at X₁ st1
  have hcat : (Value.ref T.heap.size).category = 1 := rfl
  have hcellA : T1.heap[T.heap.size]? = some (freshCell cX kX) := by rw [← hT1]; exact State.heap_pushCell_size _ _
  have d3' : decode c.code (pc + 3) = .ok (.dup, 1) := by rw [hb]; exact d3
  have d4' : decode c.code (pc + 4) = .ok (.ldc is, 2) := by rw [hb]; exact d4
  have hstr' : vk_R own is text sa s' := vk_R.warm hW0 hstr
  obtain ⟨U, hsteps, hrun, hend, hW, hsame, ce, hce, hO⟩ := X₁.ctorThrowS hexec htr (own := own) (cls := cls) (names := names) (ic := ic) hown' hcls hnames h (fun x hx => nomatch hx) hfX hkX hcellA (by rw [hhp, hT]; exact Nat.le_refl _) (msg := .ref sa) rfl
    (g := { method := m, pc := pc + 6, locals := ls, stack := .ref sa :: .ref T.heap.size :: .ref T.heap.size :: rest, locked := none }) rfl hsize rfl rfl (rest := rest) rfl
    (by rw [hb]; exact d6) (by rw [hb]; exact d9) hout hRframes (by simp only [List.map_cons, List.sum_cons, hcat]; omega) hlocks
  obtain ⟨f1, f2⟩ := vx_frame hsame
  rw [hhp] at f1 f2
  have hWs : s.WarmedH U.vm := State.WarmedH.trans hW0 hW
  have hcl : s.vm.findClass cls = some ce.cls := by
    have h9 := hO.cls
    rw [hvm] at h9
    exact h9
  have hall : s.sameButNew ({ U with vm := s.vm } : State) locs mc ms := by
    subst hA
    obtain ⟨e1, e2⟩ := hsame
    rw [State.setFrames_setFrames] at e1
    have h2 : (T.setVm s.vm).sameButNew ({ U with vm := s.vm } : State) [] (0 + 1) (0 + 6) := ⟨e1, e2⟩
    have h3 := X.same.trans h2
    rw [List.append_nil] at h3
    exact h3.mono hc hs
  refine ⟨U, ?_, .threw T.heap.size, hrun, hend, Or.inr ⟨T.heap.size, rfl, cls, ce, locs, hx U hWs.alike f1 (fun q hq => f2 q hq (fun z hz => nomatch hz)), hce, hO.vm, hcl, hWs, hall, hf⟩⟩
  refine st1 _ ?_
  show Steps p.tables e below (T1.setTop { method := m, pc := pc + 3, locals := ls, stack := .ref T.heap.size :: rest, locked := none }) _
  jvm_step X₁.here [X₁.here.top, hexec, d3', Value.category]
  exact X₁.ldcString hexec (own := own) (text := text) (index := is) (a := sa) hown' hstr'.1 hstr'.2
    (g := { method := m, pc := pc + 4, locals := ls, stack := .ref T.heap.size :: .ref T.heap.size :: rest, locked := none }) rfl d4' _ hsteps
/-- 'throw new E("text")', the text by a wide index -/
theorem vx_throwSW {cc : ByteArray} {pc : Nat} (hexec : p.tables.exec = Jvm.exec) (hb : c.code = cc) (hl : l.stackTraces = false) {own cls text : String} {names : List String} {ik is ic mc ms sa : Nat} {A : Nat → Prop}
    (hown : s.vm.findClass own = some m.cls) (hcls : Bundle.fit cls = true) (hnames : ∀ n ∈ names, Bundle.fit n = true)
    (hk : (Cond.classLink own ik cls).before args s = true) (hini : (Cond.initialized cls).before args s = true) (hstr : vk_R own is text sa s) (hat : ∀ w ∈ vx_atS own ic cls names, w.before args s = true)
    (hgood : ∀ w ∈ Cond.classLink own ik cls :: Cond.initialized cls :: vx_atS own ic cls names, vx_ot w = true)
    (hU : vx_Zq Bundle.tN "UNASSIGNED_STACK" Bundle.steD A s s.heap) (hN : vx_Zq Bundle.tN "SUPPRESSED_SENTINEL" Bundle.listD A s s.heap) (hS : va_S A s.heap H locs) (hsize : ls.size = c.maxLocals)
    (d0 : decode cc pc = .ok (.new ik, 3)) (d3 : decode cc (pc + 3) = .ok (.dup, 1)) (d4 : decode cc (pc + 4) = .ok (.ldc_w is, 3)) (d7 : decode cc (pc + 7) = .ok (.invokespecial ic, 3)) (d10 : decode cc (pc + 10) = .ok (.athrow, 1))
    (hout : ∀ x ∈ c.exceptionTable.toList, covers x (pc + 10) = false)
    (hRframes : names.length + 3 < R.frames) (hRlocals : (rest.map fun v => v.category).sum + (13 * (names.length + 1) + 43) ≤ R.locals) (hRcells : cells + 1 ≤ R.cells) (hRslots : slots + 6 ≤ R.slots) (hlocks : meth.locks = false)
    (hx : ∀ t : State, s.vm.Alike t.vm → H.size ≤ t.heap.size → (∀ q : Nat, q < H.size → t.heap[q]? = H[q]?) → XC cls s t)
    (hf : ∀ z ∈ locs, free z.base) (hc : cells + 1 ≤ mc) (hs : slots + 6 ≤ ms) :
    W p l e R s m args below meth c H locs cells slots (vx_MQ below Qc XC args s mc ms free) (F0 m pc ls rest) := by
  intro T hT X
  have htr : e.platform.stackTraces = false := (show e.platform.stackTraces = l.stackTraces by rw [X.admits.platform]).trans hl
  have Y := vx_rebase X (R' := { frames := R.frames, locals := R.locals, cells := 1, slots := 6 }) (Nat.le_refl _) (Nat.le_refl _) hRcells hRslots
  obtain ⟨s', hA⟩ : ∃ z, z = (T.setVm s.vm).setFrames (.invoking m args :: below) := ⟨_, rfl⟩
  rw [← hA] at Y
  have hvm : s'.vm = s.vm := by rw [hA]; rfl
  have hhp : s'.heap = H := by rw [hA]; exact hT
  have hW0 : s.WarmedH s'.vm := by rw [hvm]; exact State.WarmedH.refl s
  have hat' : ∀ w ∈ vx_atS own ic cls names, w.before args s' = true := fun w hw => vx_ot_at hW0 hvm.symm (hgood w (List.mem_cons_of_mem _ (List.mem_cons_of_mem _ hw))) (hat w hw)
  have hk' : (Cond.classLink own ik cls).before args s' = true := vx_ot_at hW0 hvm.symm (hgood _ List.mem_cons_self) hk
  have hini' : (Cond.initialized cls).before args s' = true := vx_ot_at hW0 hvm.symm (hgood _ (List.mem_cons_of_mem _ List.mem_cons_self)) hini
  have hU' : vx_Zq Bundle.tN "UNASSIGNED_STACK" Bundle.steD A s' s'.heap := by rw [hhp]; exact vx_Zq.moved hW0.alike (hU.kept hS.2.1)
  have hN' : vx_Zq Bundle.tN "SUPPRESSED_SENTINEL" Bundle.listD A s' s'.heap := by rw [hhp]; exact vx_Zq.moved hW0.alike (hN.kept hS.2.1)
  have h : ∀ w ∈ Bundle.ownAtoms own ic cls names, w.before args s' = true := vx_own hat' (vx_isRefq hU'.1) (vx_isRefq hN'.1) hU'.2.word hN'.2.word
  have hown' : s'.vm.findClass own = some m.cls := by rw [hvm]; exact hown
  have hins : (Cond.instantiable cls 6).before args s' = true := h _ (by simp [Bundle.ownAtoms])
  obtain ⟨vm₁, cX, kX, hfX, hkX, -, -, X₁, st1⟩ := Y.newCold hexec (own := own) (C := cls) (index := ik) (n := 6) hown' hk' hins hini'
    (g := F0 m pc ls rest) rfl (by rw [hb]; exact d0) (Nat.le_refl _) (Nat.le_refl _)
  generalize hT1 : (T.setVm vm₁).pushCell { cls := cX, slots := kX.instanceTypes.map defaultValue, vm := .none } = T1 at X₁ st1
  have hcat : (Value.ref T.heap.size).category = 1 := rfl
  have hcellA : T1.heap[T.heap.size]? = some (freshCell cX kX) := by rw [← hT1]; exact State.heap_pushCell_size _ _
  have d3' : decode c.code (pc + 3) = .ok (.dup, 1) := by rw [hb]; exact d3
  have d4' : decode c.code (pc + 4) = .ok (.ldc_w is, 3) := by rw [hb]; exact d4
  have hstr' : vk_R own is text sa s' := vk_R.warm hW0 hstr
  obtain ⟨U, hsteps, hrun, hend, hW, hsame, ce, hce, hO⟩ := X₁.ctorThrowS hexec htr (own := own) (cls := cls) (names := names) (ic := ic) hown' hcls hnames h (fun x hx => nomatch hx) hfX hkX hcellA (by rw [hhp, hT]; exact Nat.le_refl _) (msg := .ref sa) rfl
    (g := { method := m, pc := pc + 7, locals := ls, stack := .ref sa :: .ref T.heap.size :: .ref T.heap.size :: rest, locked := none }) rfl hsize rfl rfl (rest := rest) rfl
    (by rw [hb]; exact d7) (by rw [hb]; exact d10) hout hRframes (by simp only [List.map_cons, List.sum_cons, hcat]; omega) hlocks
  obtain ⟨f1, f2⟩ := vx_frame hsame
  rw [hhp] at f1 f2
  have hWs : s.WarmedH U.vm := State.WarmedH.trans hW0 hW
  have hcl : s.vm.findClass cls = some ce.cls := by
    have h9 := hO.cls
    rw [hvm] at h9
    exact h9
  have hall : s.sameButNew ({ U with vm := s.vm } : State) locs mc ms := by
    subst hA
    obtain ⟨e1, e2⟩ := hsame
    rw [State.setFrames_setFrames] at e1
    have h2 : (T.setVm s.vm).sameButNew ({ U with vm := s.vm } : State) [] (0 + 1) (0 + 6) := ⟨e1, e2⟩
    have h3 := X.same.trans h2
    rw [List.append_nil] at h3
    exact h3.mono hc hs
  refine ⟨U, ?_, .threw T.heap.size, hrun, hend, Or.inr ⟨T.heap.size, rfl, cls, ce, locs, hx U hWs.alike f1 (fun q hq => f2 q hq (fun z hz => nomatch hz)), hce, hO.vm, hcl, hWs, hall, hf⟩⟩
  refine st1 _ ?_
  show Steps p.tables e below (T1.setTop { method := m, pc := pc + 3, locals := ls, stack := .ref T.heap.size :: rest, locked := none }) _
  jvm_step X₁.here [X₁.here.top, hexec, d3', Value.category]
  exact X₁.ldcStringW hexec (own := own) (text := text) (index := is) (a := sa) hown' hstr'.1 hstr'.2
    (g := { method := m, pc := pc + 4, locals := ls, stack := .ref T.heap.size :: .ref T.heap.size :: rest, locked := none }) rfl d4' _ hsteps
end Ends
section Bodies
variable {l : Launch}
theorem vx_ofW {y : MethodName} {ws ws' : List Cond} {rm : Room} {Pc : Array Value → State → Prop} {Qc : Array Value → State → Outcome → State → Prop} {XC : String → State → State → Prop} {mc ms : Nat} {free : Addr → Prop} {cc : ByteArray} {maxL : Nat} {ret : Option FieldType}
    (hy : plainName y.cls = true) (hw : ws = Cond.code y cc maxL ret :: ws')
    (body : ∀ p e s m args below meth c s₁, BodyLoose p l y (headSpec ws rm) cc maxL ret e s m args below meth c s₁ → c.maxLocals = maxL → (∀ x ∈ c.exceptionTable.toList, False) → Pc args s →
      W p l e (headSpec ws rm).room s m args below meth c s.heap [] 0 0 (vx_MQ below Qc XC args s mc ms free) (entryFrame m args maxL)) : vx_Met l y ws rm Pc Qc XC mc ms free := by
  refine MetFree.of_bodyS (code := cc) (maxLocals := maxL) (ret := ret) hy ?_ ?_
  · intro args s m h hn
    obtain ⟨meth, c, h1, h2, h3, h4, h5, h6, -, -⟩ := Cond.code_spec hn (atoms_spec (ws := ws) h _ (by rw [hw]; exact List.mem_cons_self))
    exact ⟨meth, c, h1, h2, h3, h4, h5, h6⟩
  · intro p e s m args below meth c s₁ B hml hP _
    have hh0 : s₁.heap = s.heap := by rw [B.state]; rfl
    have ht : ∀ x ∈ c.exceptionTable.toList, False := by
      obtain ⟨meth9, c9, h1, h2, -, -, -, -, h7, -⟩ := Cond.code_spec B.named (atoms_spec (ws := ws) B.pre _ (by rw [hw]; exact List.mem_cons_self))
      cases Option.some.inj (h1.symm.trans B.method)
      cases Option.some.inj (h2.symm.trans (Stand.of_body B).code)
      intro x hx
      rw [Array.isEmpty_iff.mp h7] at hx
      cases hx
    obtain ⟨t, a1, o, b1, b2, b3⟩ := body p e s m args below meth c s₁ B hml ht hP s₁ hh0 (Stand.of_body B)
    exact ⟨t, o, a1, b1, b2, b3⟩
/-- the table of a body with handlers -/
theorem vx_table {p : Program} {x y : MethodName} {S : Spec} {cc bytes : ByteArray} {maxL maxL' : Nat} {ret ret' : Option FieldType} {e : Env} {s s₁ : State} {m : MethodId} {args : Array Value} {below : List Frame} {meth : Method} {c : Code} {hh : List (Nat × Nat × Nat × Nat)}
    (B : BodyLoose p l y S cc maxL ret e s m args below meth c s₁) (h : (Cond.codeWith y bytes maxL' ret' hh).before args s = true) : c.exceptionTable.toList = tableOf hh := by
  obtain ⟨m9, meth9, c9, hn9, h1, h2, -, -, h6, -⟩ := Cond.codeWith_spec h
  cases Option.some.inj (hn9.symm.trans B.named)
  cases Option.some.inj (h1.symm.trans B.method)
  cases Option.some.inj (h2.symm.trans (Stand.of_body B).code)
  rw [← h6, table_eq]
end Bodies
end VXA
/-! ===== END ===== -/
/-! ===== BEGIN a static call of a method with an exception table ===== -/
section VXS
variable {p : Program} {l : Launch} {e : Env} {R : Room} {s : State} {m : MethodId} {args : Array Value} {below : List Frame} {meth : Method} {c : Code} {T : State} {H : Heap} {locs : List Loc} {cells slots : Nat}
abbrev vx_CSW (R : Room) (s : State) (args : Array Value) (own : String) (index : Nat) (y : MethodName) (bytes : ByteArray) (maxL : Nat) (ret : Option FieldType) (hh : List (Nat × Nat × Nat × Nat)) (ws : List Cond) (rm : Room) (mc ms n : Nat) : Prop :=
  (rm.cells = mc ∧ rm.slots = ms ∧ rm.frames + 1 ≤ R.frames ∧ 8 + (maxL + 11) + rm.locals ≤ R.locals ∧ (∀ w ∈ ws, ∀ (a' : Array Value) (U : State), s.WarmedH U.vm → w.before a' U = true) ∧ Cond.codeWith y bytes maxL ret hh ∈ ws) ∧
  (Cond.codeWith y bytes maxL ret hh).before args s = true ∧ (Cond.initialized y.cls).before args s = true ∧ (y.cls ≠ "java/lang/invoke/MethodHandle" ∧ y.cls ≠ "java/lang/invoke/VarHandle") ∧
  (∀ sig, parseMethodDescriptor y.desc = some sig → n = sig.parameters.length) ∧ (Cond.methodLink own index y).before args s = true ∧ (Cond.static y).before args s = true
theorem vx_cwSW {own : String} {index maxL mc ms : Nat} {y : MethodName} {bytes : ByteArray} {ret : Option FieldType} {hh : List (Nat × Nat × Nat × Nat)} {Ts ws ws' : List Cond} {rm : Room} (n : Nat) (ht : ∀ w ∈ Ts, w.before args s = true) (hT : GoodIn Ts (va_wsS own index y ws)) (hw : ws = Cond.codeWith y bytes maxL ret hh :: ws') (hrc : rm.cells = mc) (hrs : rm.slots = ms)
    (hd : y.cls ≠ "java/lang/invoke/MethodHandle" ∧ y.cls ≠ "java/lang/invoke/VarHandle" ∧ (parseMethodDescriptor y.desc).map (fun d => d.parameters.length) = some n) (hR : rm.frames + 1 ≤ R.frames ∧ 8 + (maxL + 11) + rm.locals ≤ R.locals) :
    vx_CSW R s args own index y bytes maxL ret hh ws rm mc ms n := by
  have ok : ∀ w ∈ va_wsS own index y ws, w.before args s = true := fun w h => ht w (hT w h).1
  have hG : GoodIn Ts ws := fun w h => hT w (by unfold va_wsS; exact List.mem_append_right _ h)
  have hc : Cond.codeWith y bytes maxL ret hh ∈ ws := by rw [hw]; exact List.mem_cons_self
  refine ⟨⟨hrc, hrs, hR.1, hR.2, pay_in ht hG, hc⟩, ht _ (hG _ hc).1, ok _ (by simp [va_wsS]), ⟨hd.1, hd.2.1⟩, fun sig h => ?_, ok _ (by simp [va_wsS]), ok _ (by simp [va_wsS])⟩
  have h2 := hd.2.2
  rw [h] at h2
  exact (Option.some.inj h2).symm
theorem vx_callSW (X : Stand p l e R s m args below meth c T locs cells slots) (hexec : p.tables.exec = Jvm.exec) {own : String} {index : Nat} {y : MethodName} {bytes : ByteArray} {maxL : Nat} {ret : Option FieldType} {hh : List (Nat × Nat × Nat × Nat)}
    (hown : s.vm.findClass own = some m.cls) (hlink : (Cond.methodLink own index y).before args s = true) (hstat : (Cond.static y).before args s = true) (hinit : (Cond.initialized y.cls).before args s = true)
    (hcode : (Cond.codeWith y bytes maxL ret hh).before args s = true) (hy : y.cls ≠ "java/lang/invoke/MethodHandle" ∧ y.cls ≠ "java/lang/invoke/VarHandle")
    {W9 : Nat} {Pre : Pt → Array Value → Prop} {Post : Pt → Array Value → Option Value → Pt → Prop} (hK : Back l R p e below s args y 3 W9 Pre Post)
    {g : JFrame} (hg : g.method = m) (hsize : g.locals.size = c.maxLocals) {argsL rest : List Value} (hlen : ∀ sig, parseMethodDescriptor y.desc = some sig → argsL.length = sig.parameters.length)
    (hstack : g.stack = argsL.reverse ++ rest) (hW : 2 * g.monitorRoom + (rest.map fun v => v.category).sum ≤ W9) (hdg : decode c.code g.pc = .ok (.invokestatic index, 3))
    (hpre : ∀ vm₁, s.WarmedH vm₁ → Pre ⟨T.setVm vm₁, locs, cells, slots⟩ argsL.toArray) :
    ∃ (v : Option Value) (vm₁ : Vm) (B : Pt), s.WarmedH vm₁ ∧ Stand p l e R s m args below meth c B.U B.locs B.cells B.slots ∧ Post ⟨T.setVm vm₁, locs, cells, slots⟩ argsL.toArray v B ∧
      ∀ target, Steps p.tables e below (B.U.setTop { g with pc := g.pc + 3, stack := v.toList ++ rest }) target → Steps p.tables e below (T.setTop g) target := by
  obtain ⟨mk, methM, cM, hnamed, hmethM, -, -, -, -, -, -, hsigM⟩ := Cond.codeWith_spec hcode
  have hstatic : methM.isStatic = true := Cond.static_spec hnamed hmethM hstat
  obtain ⟨kP, hkP, -⟩ := className_of_methodNamed hnamed
  have hinitP : kP.init = .initialized := Cond.initialized_spec (findClass_of_methodNamed hnamed) hkP hinit
  obtain ⟨vm₁, X₁, hstep₁⟩ := X.invokestatic hexec hown hlink hnamed hmethM hstatic hkP hinitP hy (g := g) hg (argsL := argsL) (rest := rest) (hlen _ hsigM) hstack hdg
  obtain ⟨v, B, X', hpost, hsteps⟩ := hK m meth c ⟨T.setVm vm₁, locs, cells, slots⟩ { g with stack := rest } (.invokestatic index) mk argsL.toArray X₁ hg hsize hdg hW (X₁.named hnamed) (hpre vm₁ X₁.warmed)
  exact ⟨v, vm₁, B, X₁.warmed, X', hpost, fun target h => hstep₁ _ fun acts => by rw [doInvoke_state]; exact hsteps.trans h⟩
theorem vx_runSW {y : MethodName} {bytes cc : ByteArray} {maxL nL mc ms n index : Nat} {ret : Option FieldType} {hh : List (Nat × Nat × Nat × Nat)} {ws : List Cond} {rm : Room} {Pc : Array Value → State → Prop} {Qc : Array Value → State → Outcome → State → Prop} {free : Addr → Prop} {Ts : List Cond} {own : String} {As rest : List Value} {g : JFrame}
    (S : CallFix p m c cc nL s args Ts own) (hM : Met l y ws rm Pc Qc mc ms free) (cw : vx_CSW R s args own index y bytes maxL ret hh ws rm mc ms n) (hp : PreS s H Pc As)
    (hg : g.method = m) (hn : As.length = n) (hsize : g.locals.size = nL) (hstack : g.stack = As.reverse ++ rest) (hW : 2 * g.monitorRoom + (rest.map fun v => v.category).sum ≤ 8) (hdg : decode cc g.pc = .ok (.invokestatic index, 3)) (hf : cells + mc ≤ R.cells ∧ slots + ms ≤ R.slots) :
    va_Run p l e R s m args below meth c H locs cells slots mc ms g rest (Qc As.toArray) (free) := by
  obtain ⟨⟨hrc, hrs, hfr, hlo, hws, hcw⟩, hcode, hini, hy, hlen, hl, hstt⟩ := cw
  have hK : Back l R p e below s args y 3 8 (PreOf R mc ms Pc) (PostOf Qc mc ms free) := va_backW (hh := hh) (bytes := bytes) (maxL := maxL) (ret := ret) hM hp.1 hrc hrs hfr hlo hws hcw (fun a' U hW => word_at hW (Or.inl (by first | rfl | simp [Cond.onTables, Cond.keeps, Cond.steady])) hini)
  obtain ⟨hx, hb, hml, ho, -⟩ := S
  intro T hT X
  obtain ⟨v, vm₁, ⟨U', l2, c2, s2⟩, hW₁, X', ⟨g', mk, t, L, e1, e2, hq, h1, hL, h2, h3⟩, st⟩ := vx_callSW X hx (hh := hh) (bytes := bytes) (maxL := maxL) (ret := ret) ho hl hstt hini hcode hy hK hg (hsize.trans hml.symm) (argsL := As) (rest := rest) (fun sig h => hn.trans (hlen sig h)) hstack hW (by rw [hb]; exact hdg)
    (fun vm₁ hW₁ => ⟨hf.1, hf.2, hp.2 (T.setVm vm₁) hT hW₁⟩)
  dsimp only [Pt.U, Pt.locs, Pt.cells, Pt.slots] at X' e1 e2 h1 h2 h3 st
  subst h1; subst h2; subst h3
  exact ⟨v, (T.setVm vm₁).calling g' mk As.toArray, t, U', L, hT, X', hL, e1, e2, hq, st⟩
/-- not caught here, past rows that name other classes: it goes on to the caller -/
theorem vx_outP {p : Program} {l : Launch} {e : Env} {R : Room} {s : State} {m : MethodId} {args : Array Value} {below : List Frame} {meth : Method} {c : Code} {H : Heap} {locs : List Loc} {cells slots : Nat} {free : Addr → Prop} {ls : Array Slot} {rest : List Value} {Qc : Array Value → State → Outcome → State → Prop} {XC : String → State → State → Prop}
    {pc : Nat} {own E : String} {ce : Cell} {q : Addr} {mc ms : Nat} (hown : s.vm.findClass own = some m.cls) (hlocks : meth.locks = false)
    (hpass : ∀ z ∈ c.exceptionTable.toList, covers z pc = false ∨ (z.catchType ≠ 0 ∧ ∃ nm : String, (Cond.classLink own z.catchType nm).before args s = true ∧ va_Nc E nm s)) (hcell : H[q]? = some ce) (hv : ce.vm = .none) (hcl : s.vm.findClass E = some ce.cls)
    (hx : ∀ t : State, t.heap = H → s.vm.Alike t.vm → XC E s t) (hf : ∀ z ∈ locs, free z.base) (hc : cells ≤ mc) (hs : slots ≤ ms) :
    vx_W p l e R s m args below meth c H locs cells slots (vx_MQ below Qc XC args s mc ms free) (F0 m pc ls rest) q := by
  intro T hT X
  have hpl : e.platform.magicAccessors = ({} : Platform).magicAccessors := by rw [X.admits.platform]
  obtain ⟨vm', hW', X', st⟩ := X.outThrough hlocks q (g := F0 m pc ls rest) rfl rfl rfl (cell := ce) (by rw [hT]; exact hcell) (by rw [hv]; rfl)
    (by obtain ⟨k9, h9, -⟩ := Vm.findClass_spec hcl; exact ⟨k9, h9⟩) (fun z hz => by
      rcases hpass z hz with h | ⟨hz0, nm, hl1, hn1⟩
      · exact Or.inl h
      · obtain ⟨c6, hc6, hcl6⟩ := Cond.classLink_spec hown hl1 e.platform hpl
        obtain ⟨a8, b8, h1, h2, h3⟩ := hn1
        cases Option.some.inj (h1.symm.trans hcl)
        cases Option.some.inj (h2.symm.trans hc6)
        exact Or.inr ⟨hz0, _, hcl6, h3⟩)
  obtain ⟨g₀, hfr⟩ := X'.frames_eq
  have hcell9 : ((T.setVm vm').setFrames (.throwing q :: below)).heap[q]? = some ce := by
    show T.heap[q]? = some ce
    rw [hT]; exact hcell
  have hend : Ended ((T.setVm vm').setFrames (.throwing q :: below)) below (.threw q) := State.frames_setFrames _ (State.cur_lt_of_frames hfr)
  refine ⟨(T.setVm vm').setFrames (.throwing q :: below), ?_, .threw q, X'.here.running, hend, Or.inr ⟨q, rfl, E, ce, locs, hx _ hT (X'.ends _).1.alike, hcell9, hv, hcl, (X'.ends _).1, (X'.ends _).2.mono hc hs, hf⟩⟩
  rw [X.pushThrowing_eq]
  exact st
/-- a thing of a world lies in the heap -/
theorem vx_lt {D : va_G} {cl : List vw_C} {ws : va_W} {H1 : Heap} (h : va_P D cl ws H1) {k : Nat} {q : Nat × va_E} (hk : ws[k]? = some q) : q.1 < H1.size := (h k q hk).lt
end VXS
/-! ===== END ===== -/
/-! ===== BEGIN methods with a table of their own: called by a name, returning or throwing ===== -/
section VXH
/-! vx_backW, vx_callVX, vx_callSX, vx_callVW, vx_runVW, vx_runVX, vx_runSX, vx_ofWH follow the same proofs as their sisters above (Free/Laws.lean, Shelf42/LK1.lean); vx_outP calls Shelf42/NT130.lean (outThrough). -/
section
variable {l : Launch} {R : Room} {p : Program} {e : Env} {below : List Frame} {s : State} {sargs : Array Value} {y : MethodName} {len W9 : Nat}
theorem vx_backW {ws : List Cond} {rm : Room} {Pc : Array Value → State → Prop} {Qc : Array Value → State → Outcome → State → Prop} {XC : String → State → State → Prop} {mc ms : Nat} {free : Addr → Prop} {bytes : ByteArray} {maxL : Nat} {ret : Option FieldType} {hh : List (Nat × Nat × Nat × Nat)}
    (hM : vx_Met l y ws rm Pc Qc XC mc ms free) (hblind : FrameBlind Pc) (hrc : rm.cells = mc) (hrs : rm.slots = ms)
    (hframes : rm.frames + 1 ≤ R.frames) (hlocals : W9 + (maxL + 11) + rm.locals ≤ R.locals)
    (hws : ∀ w ∈ ws, ∀ a' U, s.WarmedH U.vm → w.before a' U = true) (hcode : Cond.codeWith y bytes maxL ret hh ∈ ws) (hinit : ∀ a' U, s.WarmedH U.vm → (Cond.initialized y.cls).before a' U = true) :
    vx_Back l R p e below s sargs y len W9 (PreOf R mc ms Pc) (PostOf Qc mc ms free) (vx_Post XC mc ms free) := by
  intro m meth c A g ig mk a X hg hsize hdg hW hn hp
  have h1 : (headSpec ws rm).pre.before a A.U = true := atoms_intro fun w hw => hws w hw _ _ X.warmed
  have h2 : (Cond.codeWith y bytes maxL ret hh).before a A.U = true := hws _ hcode _ _ X.warmed
  have h3 : (Cond.initialized y.cls).before a A.U = true := hinit _ _ X.warmed
  have h4 : A.cells + (headSpec ws rm).room.cells ≤ R.cells := by rw [show (headSpec ws rm).room.cells = mc from hrc]; exact hp.1
  have h5 : A.slots + (headSpec ws rm).room.slots ≤ R.slots := by rw [show (headSpec ws rm).room.slots = ms from hrs]; exact hp.2.1
  have hPc : Pc a (A.U.calling g mk a) := hblind _ _ _ _ hp.2.2
  obtain ⟨U, Ls, c0, s0⟩ := A
  dsimp only [Pt.U, Pt.locs, Pt.cells, Pt.slots] at h1 h2 h3 h4 h5 X hn hPc ⊢
  obtain ⟨m9, methY, cY, hn9, hmY, hcY, -, hlY, -⟩ := Cond.codeWith_spec h2
  cases Option.some.inj (hn9.symm.trans hn)
  obtain ⟨kY, hkY, -⟩ := className_of_methodNamed hn
  have hinitY : kY.init = .initialized := Cond.initialized_spec (findClass_of_methodNamed hn) hkY h3
  have h : At U g.method c below := by rw [hg]; exact X.here
  have hlocals9 : W9 + (maxL + 11) + (headSpec ws rm).room.locals ≤ R.locals := hlocals
  have happ : (headSpec ws rm).appliesLoose y e.platform (U.calling g mk a) = true :=
    Spec.appliesLoose_calling (g := g) h hdg hn hkY hinitY
      (X.room_calling (g := g) (R' := (headSpec ws rm).room) hsize hmY hcY hframes (by rw [hlY]; omega) h4 h5) h1
  obtain ⟨mid, hmid⟩ := h.above
  have hfr : (U.setTop g).frames = (.java g :: mid) ++ below := by rw [State.frames_setTop' g h.top, hmid]; rfl
  obtain ⟨o, s₂, hsteps, -, hend, hq⟩ := Steps.callFree hM p X.admits X.cas X.clock (acts := []) hfr happ hPc trivial
  have hq' : vx_Q Qc XC mc ms free a (U.calling g mk a) o s₂ := hq
  rw [State.frames_setTop' g h.top] at hend
  obtain ⟨g₀, hg0⟩ := Option.isSome_iff_exists.mp h.top
  obtain ⟨r, hr⟩ := State.topJava?_eq_some.mp hg0
  have hr' : (({ U with heap := s₂.heap, slotsUsed := s₂.slotsUsed } : State).setVm s₂.vm).frames = .java g₀ :: r := hr
  rcases hq' with ⟨hqc, L, hfe, hL⟩ | ⟨q, rfl, E, ce, L, hx, hce, hcv, hcl, hW₂, hsm, hL⟩
  · obtain ⟨⟨v, rfl⟩, hW₂, e2, q2, q3, q4, q5, q6⟩ := id hfe
    have e3 : s₂ = ({ (U.calling g mk a).setFrames s₂.frames with heap := s₂.heap, slotsUsed := s₂.slotsUsed } : State).setVm s₂.vm := by
      have : s₂ = ({ s₂ with vm := (U.calling g mk a).vm } : State).setVm s₂.vm := rfl
      rw [e2] at this
      exact this
    obtain ⟨c₂, i₂, len₂, hc₂, hd₂, hf₂⟩ := hend
    have hW' : U.WarmedH s₂.vm := hW₂
    have hcc : c₂ = c := by
      have h1 : s₂.code? g.method = U.code? g.method := by
        rw [State.code?_eq, State.code?_eq, hW'.alike.method?]
      exact Option.some.inj (hc₂.symm.trans (h1.trans h.code))
    subst hcc
    have hlen : len₂ = len := by rw [hdg] at hd₂; cases hd₂; rfl
    subst hlen
    have hs₂ : s₂ = (({ U with heap := s₂.heap, slotsUsed := s₂.slotsUsed } : State).setVm s₂.vm).setTop { g with pc := g.pc + len₂, stack := v.toList ++ g.stack } := by
      refine e3.trans ?_
      rw [hf₂, State.calling_eq h.top, State.setFrames_setFrames, State.setTop_of_frames _ hr', hr]
      rfl
    have hsame : U.sameButNew ({ U with heap := s₂.heap, slotsUsed := s₂.slotsUsed } : State) L mc ms := by
      refine ⟨?_, q2, q3, q4, q5, q6⟩
      obtain ⟨t, ht, -⟩ := State.frames_cons hr
      show ({ U with heap := s₂.heap, slotsUsed := s₂.slotsUsed } : State) = { U.setFrames U.frames with heap := s₂.heap, slotsUsed := s₂.slotsUsed }
      rw [State.setFrames_self ht]
    subst hg
    refine Or.inl ⟨v, ⟨(({ U with heap := s₂.heap, slotsUsed := s₂.slotsUsed } : State).setVm s₂.vm), Ls ++ L, c0 + mc, s0 + ms⟩,
      ⟨X.admits, X.cas, X.clock, X.frames, X.room, X.hears, X.method, X.code, (X.here.setHeapUsed s₂.heap s₂.slotsUsed).setVm hW'.alike, X.tail, State.WarmedH.trans X.warmed hW', X.limits, X.bytes, X.same.trans (hsame.setVm s.vm)⟩,
      ⟨g, mk, s₂, L, rfl, rfl, hqc, rfl, hL, rfl, rfl⟩, ?_⟩
    show Steps p.tables e below _ ((({ U with heap := s₂.heap, slotsUsed := s₂.slotsUsed } : State).setVm s₂.vm).setTop { g with pc := g.pc + len₂, stack := v.toList ++ g.stack })
    rw [← hs₂]
    exact hsteps
  · obtain ⟨e2, q2, q3, q4, q5, q6⟩ := id hsm
    have e3 : s₂ = ({ (U.calling g mk a).setFrames s₂.frames with heap := s₂.heap, slotsUsed := s₂.slotsUsed } : State).setVm s₂.vm := by
      have : s₂ = ({ s₂ with vm := (U.calling g mk a).vm } : State).setVm s₂.vm := rfl
      rw [e2] at this
      exact this
    have hf₂ : s₂.frames = .throwing q :: .java g :: U.frames.tail := hend
    have hW' : U.WarmedH s₂.vm := hW₂
    have hs₂ : s₂ = ((({ U with heap := s₂.heap, slotsUsed := s₂.slotsUsed } : State).setVm s₂.vm).setTop g).pushFrame (.throwing q) := by
      refine e3.trans ?_
      rw [hf₂, State.calling_eq h.top, State.setFrames_setFrames, State.pushFrame, State.frames_setTop _ hr', State.setTop_of_frames _ hr', State.setFrames_setFrames, hr]
      rfl
    have hsame : U.sameButNew ({ U with heap := s₂.heap, slotsUsed := s₂.slotsUsed } : State) L mc ms := by
      refine ⟨?_, q2, q3, q4, q5, q6⟩
      obtain ⟨t, ht, -⟩ := State.frames_cons hr
      show ({ U with heap := s₂.heap, slotsUsed := s₂.slotsUsed } : State) = { U.setFrames U.frames with heap := s₂.heap, slotsUsed := s₂.slotsUsed }
      rw [State.setFrames_self ht]
    subst hg
    refine Or.inr ⟨q, ⟨(({ U with heap := s₂.heap, slotsUsed := s₂.slotsUsed } : State).setVm s₂.vm), Ls ++ L, c0 + mc, s0 + ms⟩,
      ⟨X.admits, X.cas, X.clock, X.frames, X.room, X.hears, X.method, X.code, (X.here.setHeapUsed s₂.heap s₂.slotsUsed).setVm hW'.alike, X.tail, State.WarmedH.trans X.warmed hW', X.limits, X.bytes, X.same.trans (hsame.setVm s.vm)⟩,
      ⟨g, mk, s₂, L, E, ce, rfl, rfl, hx, hce, hcv, hcl, rfl, hL, rfl, rfl⟩, ?_⟩
    show Steps p.tables e below _ (((({ U with heap := s₂.heap, slotsUsed := s₂.slotsUsed } : State).setVm s₂.vm).setTop g).pushFrame (.throwing q))
    rw [← hs₂]
    exact hsteps
end
variable {p : Program} {l : Launch} {e : Env} {R : Room} {s : State} {m : MethodId} {args : Array Value} {below : List Frame} {meth : Method} {c : Code} {T : State} {H : Heap} {locs : List Loc} {cells slots : Nat}
theorem vx_callVX (X : Stand p l e R s m args below meth c T locs cells slots) (hexec : p.tables.exec = Jvm.exec) {own C : String} {index : Nat} {y : MethodName} {bytes : ByteArray} {maxL : Nat} {ret : Option FieldType} {hh : List (Nat × Nat × Nat × Nat)}
    (hown : s.vm.findClass own = some m.cls) (hlink : (Cond.methodLink own index y).before args s = true) (hinst : (Cond.instanceMethod y).before args s = true) (hsel : (Cond.selects C y y).before args s = true)
    (hcode : (Cond.codeWith y bytes maxL ret hh).before args s = true) (hy : y.cls ≠ "java/lang/invoke/MethodHandle" ∧ y.cls ≠ "java/lang/invoke/VarHandle")
    {W9 : Nat} {Pre : Pt → Array Value → Prop} {Post : Pt → Array Value → Option Value → Pt → Prop} {PostX : Pt → Array Value → Addr → Pt → Prop} (hK : vx_Back l R p e below s args y 3 W9 Pre Post PostX)
    {b : Addr} {cellB : Cell} (hcell : T.heap[b]? = some cellB) (hobj : cellB.vm.isStatics = false) (hcls : s.vm.findClass C = some cellB.cls)
    {g : JFrame} (hg : g.method = m) (hsize : g.locals.size = c.maxLocals) {argsL rest : List Value} (hlen : ∀ sig, parseMethodDescriptor y.desc = some sig → argsL.length = sig.parameters.length)
    (hstack : g.stack = argsL.reverse ++ .ref b :: rest) (hW : 2 * g.monitorRoom + (rest.map fun v => v.category).sum ≤ W9) (hdg : decode c.code g.pc = .ok (.invokevirtual index, 3))
    (hpre : ∀ vm₁, s.WarmedH vm₁ → Pre ⟨T.setVm vm₁, locs, cells, slots⟩ (Value.ref b :: argsL).toArray) :
    (∃ (v : Option Value) (vm₁ : Vm) (B : Pt), s.WarmedH vm₁ ∧ Stand p l e R s m args below meth c B.U B.locs B.cells B.slots ∧ Post ⟨T.setVm vm₁, locs, cells, slots⟩ (Value.ref b :: argsL).toArray v B ∧
      ∀ target, Steps p.tables e below (B.U.setTop { g with pc := g.pc + 3, stack := v.toList ++ rest }) target → Steps p.tables e below (T.setTop g) target) ∨
    (∃ (q : Addr) (vm₁ : Vm) (B : Pt), s.WarmedH vm₁ ∧ Stand p l e R s m args below meth c B.U B.locs B.cells B.slots ∧ PostX ⟨T.setVm vm₁, locs, cells, slots⟩ (Value.ref b :: argsL).toArray q B ∧
      Steps p.tables e below (T.setTop g) ((B.U.setTop { g with stack := rest }).pushFrame (.throwing q))) := by
  obtain ⟨mk, methM, hnamed, hmethM, hstM, habM⟩ := Cond.instanceMethod_spec hinst
  obtain ⟨m8, methM', cM, hn8, hmethM', -, -, -, -, -, -, hsigM⟩ := Cond.codeWith_spec hcode
  cases Option.some.inj (hn8.symm.trans hnamed)
  cases hmethM.symm.trans hmethM'
  obtain ⟨c2, r2, m2, q1, q2, q3, q4, kP, hkP, hkPi⟩ := Cond.selects_spec hsel
  cases hcls.symm.trans q1
  cases (State.methodFound?_of_named hnamed hy).symm.trans q2
  cases hnamed.symm.trans q3
  have hselP : selectMethod e.platform s.vm cellB.cls mk = .method mk := by rw [Launch.admits_selectMethod X.admits]; exact q4
  obtain ⟨vm₁, X₁, hstep₁⟩ := X.invokevirtual hexec hown hlink hnamed hmethM hstM hkP hkPi hy (a := b) (cell := cellB) hcell
    (fun z h => by rw [h] at hobj; cases hobj) hselP hmethM habM hkP hkPi (g := g) hg (argsL := argsL) (rest := rest) (hlen _ hsigM) hstack hdg
  rcases hK m meth c ⟨T.setVm vm₁, locs, cells, slots⟩ { g with stack := rest } (.invokevirtual index) mk (Value.ref b :: argsL).toArray X₁ hg hsize hdg hW (X₁.named hnamed) (hpre vm₁ X₁.warmed) with ⟨v, B, X', hpost, hsteps⟩ | ⟨q, B, X', hpost, hsteps⟩
  · exact Or.inl ⟨v, vm₁, B, X₁.warmed, X', hpost, fun target h => hstep₁ _ fun acts => by rw [doInvoke_state]; exact hsteps.trans h⟩
  · exact Or.inr ⟨q, vm₁, B, X₁.warmed, X', hpost, hstep₁ _ fun acts => by rw [doInvoke_state]; exact hsteps⟩
theorem vx_callSX (X : Stand p l e R s m args below meth c T locs cells slots) (hexec : p.tables.exec = Jvm.exec) {own : String} {index : Nat} {y : MethodName} {bytes : ByteArray} {maxL : Nat} {ret : Option FieldType} {hh : List (Nat × Nat × Nat × Nat)}
    (hown : s.vm.findClass own = some m.cls) (hlink : (Cond.methodLink own index y).before args s = true) (hstat : (Cond.static y).before args s = true) (hinit : (Cond.initialized y.cls).before args s = true)
    (hcode : (Cond.codeWith y bytes maxL ret hh).before args s = true) (hy : y.cls ≠ "java/lang/invoke/MethodHandle" ∧ y.cls ≠ "java/lang/invoke/VarHandle")
    {W9 : Nat} {Pre : Pt → Array Value → Prop} {Post : Pt → Array Value → Option Value → Pt → Prop} {PostX : Pt → Array Value → Addr → Pt → Prop} (hK : vx_Back l R p e below s args y 3 W9 Pre Post PostX)
    {g : JFrame} (hg : g.method = m) (hsize : g.locals.size = c.maxLocals) {argsL rest : List Value} (hlen : ∀ sig, parseMethodDescriptor y.desc = some sig → argsL.length = sig.parameters.length)
    (hstack : g.stack = argsL.reverse ++ rest) (hW : 2 * g.monitorRoom + (rest.map fun v => v.category).sum ≤ W9) (hdg : decode c.code g.pc = .ok (.invokestatic index, 3))
    (hpre : ∀ vm₁, s.WarmedH vm₁ → Pre ⟨T.setVm vm₁, locs, cells, slots⟩ argsL.toArray) :
    (∃ (v : Option Value) (vm₁ : Vm) (B : Pt), s.WarmedH vm₁ ∧ Stand p l e R s m args below meth c B.U B.locs B.cells B.slots ∧ Post ⟨T.setVm vm₁, locs, cells, slots⟩ argsL.toArray v B ∧
      ∀ target, Steps p.tables e below (B.U.setTop { g with pc := g.pc + 3, stack := v.toList ++ rest }) target → Steps p.tables e below (T.setTop g) target) ∨
    (∃ (q : Addr) (vm₁ : Vm) (B : Pt), s.WarmedH vm₁ ∧ Stand p l e R s m args below meth c B.U B.locs B.cells B.slots ∧ PostX ⟨T.setVm vm₁, locs, cells, slots⟩ argsL.toArray q B ∧
      Steps p.tables e below (T.setTop g) ((B.U.setTop { g with stack := rest }).pushFrame (.throwing q))) := by
  obtain ⟨mk, methM, cM, hnamed, hmethM, -, -, -, -, -, -, hsigM⟩ := Cond.codeWith_spec hcode
  have hstatic : methM.isStatic = true := Cond.static_spec hnamed hmethM hstat
  obtain ⟨kP, hkP, -⟩ := className_of_methodNamed hnamed
  have hinitP : kP.init = .initialized := Cond.initialized_spec (findClass_of_methodNamed hnamed) hkP hinit
  obtain ⟨vm₁, X₁, hstep₁⟩ := X.invokestatic hexec hown hlink hnamed hmethM hstatic hkP hinitP hy (g := g) hg (argsL := argsL) (rest := rest) (hlen _ hsigM) hstack hdg
  rcases hK m meth c ⟨T.setVm vm₁, locs, cells, slots⟩ { g with stack := rest } (.invokestatic index) mk argsL.toArray X₁ hg hsize hdg hW (X₁.named hnamed) (hpre vm₁ X₁.warmed) with ⟨v, B, X', hpost, hsteps⟩ | ⟨q, B, X', hpost, hsteps⟩
  · exact Or.inl ⟨v, vm₁, B, X₁.warmed, X', hpost, fun target h => hstep₁ _ fun acts => by rw [doInvoke_state]; exact hsteps.trans h⟩
  · exact Or.inr ⟨q, vm₁, B, X₁.warmed, X', hpost, hstep₁ _ fun acts => by rw [doInvoke_state]; exact hsteps⟩
theorem vx_callVW (X : Stand p l e R s m args below meth c T locs cells slots) (hexec : p.tables.exec = Jvm.exec) {own C : String} {index : Nat} {y : MethodName} {bytes : ByteArray} {maxL : Nat} {ret : Option FieldType} {hh : List (Nat × Nat × Nat × Nat)}
    (hown : s.vm.findClass own = some m.cls) (hlink : (Cond.methodLink own index y).before args s = true) (hinst : (Cond.instanceMethod y).before args s = true) (hsel : (Cond.selects C y y).before args s = true)
    (hcode : (Cond.codeWith y bytes maxL ret hh).before args s = true) (hy : y.cls ≠ "java/lang/invoke/MethodHandle" ∧ y.cls ≠ "java/lang/invoke/VarHandle")
    {W9 : Nat} {Pre : Pt → Array Value → Prop} {Post : Pt → Array Value → Option Value → Pt → Prop} (hK : Back l R p e below s args y 3 W9 Pre Post)
    {b : Addr} {cellB : Cell} (hcell : T.heap[b]? = some cellB) (hobj : cellB.vm.isStatics = false) (hcls : s.vm.findClass C = some cellB.cls)
    {g : JFrame} (hg : g.method = m) (hsize : g.locals.size = c.maxLocals) {argsL rest : List Value} (hlen : ∀ sig, parseMethodDescriptor y.desc = some sig → argsL.length = sig.parameters.length)
    (hstack : g.stack = argsL.reverse ++ .ref b :: rest) (hW : 2 * g.monitorRoom + (rest.map fun v => v.category).sum ≤ W9) (hdg : decode c.code g.pc = .ok (.invokevirtual index, 3))
    (hpre : ∀ vm₁, s.WarmedH vm₁ → Pre ⟨T.setVm vm₁, locs, cells, slots⟩ (Value.ref b :: argsL).toArray) :
    ∃ (v : Option Value) (vm₁ : Vm) (B : Pt), s.WarmedH vm₁ ∧ Stand p l e R s m args below meth c B.U B.locs B.cells B.slots ∧ Post ⟨T.setVm vm₁, locs, cells, slots⟩ (Value.ref b :: argsL).toArray v B ∧
      ∀ target, Steps p.tables e below (B.U.setTop { g with pc := g.pc + 3, stack := v.toList ++ rest }) target → Steps p.tables e below (T.setTop g) target := by
  obtain ⟨mk, methM, hnamed, hmethM, hstM, habM⟩ := Cond.instanceMethod_spec hinst
  obtain ⟨m8, methM', cM, hn8, hmethM', -, -, -, -, -, -, hsigM⟩ := Cond.codeWith_spec hcode
  cases Option.some.inj (hn8.symm.trans hnamed)
  cases hmethM.symm.trans hmethM'
  obtain ⟨c2, r2, m2, q1, q2, q3, q4, kP, hkP, hkPi⟩ := Cond.selects_spec hsel
  cases hcls.symm.trans q1
  cases (State.methodFound?_of_named hnamed hy).symm.trans q2
  cases hnamed.symm.trans q3
  have hselP : selectMethod e.platform s.vm cellB.cls mk = .method mk := by rw [Launch.admits_selectMethod X.admits]; exact q4
  obtain ⟨vm₁, X₁, hstep₁⟩ := X.invokevirtual hexec hown hlink hnamed hmethM hstM hkP hkPi hy (a := b) (cell := cellB) hcell
    (fun z h => by rw [h] at hobj; cases hobj) hselP hmethM habM hkP hkPi (g := g) hg (argsL := argsL) (rest := rest) (hlen _ hsigM) hstack hdg
  obtain ⟨v, B, X', hpost, hsteps⟩ := hK m meth c ⟨T.setVm vm₁, locs, cells, slots⟩ { g with stack := rest } (.invokevirtual index) mk (Value.ref b :: argsL).toArray X₁ hg hsize hdg hW (X₁.named hnamed) (hpre vm₁ X₁.warmed)
  exact ⟨v, vm₁, B, X₁.warmed, X', hpost, fun target h => hstep₁ _ fun acts => by rw [doInvoke_state]; exact hsteps.trans h⟩
abbrev vx_CVW (R : Room) (s : State) (args : Array Value) (own C : String) (index : Nat) (y : MethodName) (bytes : ByteArray) (maxL : Nat) (ret : Option FieldType) (hh : List (Nat × Nat × Nat × Nat)) (ws : List Cond) (rm : Room) (mc ms n : Nat) : Prop :=
  (rm.cells = mc ∧ rm.slots = ms ∧ rm.frames + 1 ≤ R.frames ∧ 8 + (maxL + 11) + rm.locals ≤ R.locals ∧ (∀ w ∈ ws, ∀ (a' : Array Value) (U : State), s.WarmedH U.vm → w.before a' U = true) ∧ Cond.codeWith y bytes maxL ret hh ∈ ws) ∧
  (Cond.codeWith y bytes maxL ret hh).before args s = true ∧ (Cond.initialized y.cls).before args s = true ∧ (y.cls ≠ "java/lang/invoke/MethodHandle" ∧ y.cls ≠ "java/lang/invoke/VarHandle") ∧
  (∀ sig, parseMethodDescriptor y.desc = some sig → n = sig.parameters.length) ∧ (Cond.methodLink own index y).before args s = true ∧ (Cond.instanceMethod y).before args s = true ∧ (Cond.selects C y y).before args s = true
theorem vx_cwVW {own C : String} {index maxL mc ms : Nat} {y : MethodName} {bytes : ByteArray} {ret : Option FieldType} {hh : List (Nat × Nat × Nat × Nat)} {Ts ws ws' : List Cond} {rm : Room} (n : Nat) (ht : ∀ w ∈ Ts, w.before args s = true) (hT : GoodIn Ts (wsV own index C y ws)) (hw : ws = Cond.codeWith y bytes maxL ret hh :: ws') (hrc : rm.cells = mc) (hrs : rm.slots = ms)
    (hd : y.cls = C ∧ y.cls ≠ "java/lang/invoke/MethodHandle" ∧ y.cls ≠ "java/lang/invoke/VarHandle" ∧ (parseMethodDescriptor y.desc).map (fun d => d.parameters.length) = some n) (hR : rm.frames + 1 ≤ R.frames ∧ 8 + (maxL + 11) + rm.locals ≤ R.locals) :
    vx_CVW R s args own C index y bytes maxL ret hh ws rm mc ms n := by
  obtain ⟨hC, hd⟩ := hd
  subst hC
  have ok : ∀ w ∈ wsV own index y.cls y ws, w.before args s = true := fun w h => ht w (hT w h).1
  have hG : GoodIn Ts ws := fun w h => hT w (by unfold wsV; exact List.mem_append_right _ h)
  have hc : Cond.codeWith y bytes maxL ret hh ∈ ws := by rw [hw]; exact List.mem_cons_self
  refine ⟨⟨hrc, hrs, hR.1, hR.2, pay_in ht hG, hc⟩, ht _ (hG _ hc).1, ok _ (by simp [wsV]), ⟨hd.1, hd.2.1⟩, fun sig h => ?_, ok _ (by simp [wsV]), ok _ (by simp [wsV]), ok _ (by simp [wsV])⟩
  have h2 := hd.2.2
  rw [h] at h2
  exact (Option.some.inj h2).symm
theorem vx_runVW {y : MethodName} {bytes cc : ByteArray} {maxL nL mc ms n index : Nat} {ret : Option FieldType} {hh : List (Nat × Nat × Nat × Nat)} {ws : List Cond} {rm : Room} {Pc : Array Value → State → Prop} {Qc : Array Value → State → Outcome → State → Prop} {free : Addr → Prop} {Ts : List Cond} {own C : String} {b : Addr} {As rest : List Value} {g : JFrame}
    (S : CallFix p m c cc nL s args Ts own) (hM : Met l y ws rm Pc Qc mc ms free) (cw : vx_CVW R s args own C index y bytes maxL ret hh ws rm mc ms n) (hp : PreV s H C b Pc As)
    (hg : g.method = m) (hn : As.length = n) (hsize : g.locals.size = nL) (hstack : g.stack = As.reverse ++ .ref b :: rest) (hW : 2 * g.monitorRoom + (rest.map fun v => v.category).sum ≤ 8) (hdg : decode cc g.pc = .ok (.invokevirtual index, 3)) (hf : cells + mc ≤ R.cells ∧ slots + ms ≤ R.slots) :
    va_Run p l e R s m args below meth c H locs cells slots mc ms g rest (Qc (Value.ref b :: As).toArray) free := by
  obtain ⟨⟨hrc, hrs, hfr, hlo, hws, hcw⟩, hcode, hini, hy, hlen, hl, hin, hse⟩ := cw
  have hK : Back l R p e below s args y 3 8 (PreOf R mc ms Pc) (PostOf Qc mc ms free) := va_backW (hh := hh) (bytes := bytes) (maxL := maxL) (ret := ret) hM hp.1 hrc hrs hfr hlo hws hcw (fun a' U hW => word_at hW (Or.inl (by first | rfl | simp [Cond.onTables, Cond.keeps, Cond.steady])) hini)
  obtain ⟨hx, hb, hml, ho, -⟩ := S
  obtain ⟨-, ⟨cellB, hcB, hoB, hclB⟩, hPc⟩ := hp
  intro T hT X
  obtain ⟨v, vm₁, ⟨U', l2, c2, s2⟩, hW₁, X', ⟨g', mk, t, L, e1, e2, hq, h1, hL, h2, h3⟩, st⟩ := vx_callVW X hx (C := C) (hh := hh) (bytes := bytes) (maxL := maxL) (ret := ret) ho hl hin hse hcode hy hK (by rw [hT]; exact hcB) hoB hclB hg (hsize.trans hml.symm) (argsL := As) (rest := rest) (fun sig h => hn.trans (hlen sig h)) hstack hW (by rw [hb]; exact hdg)
    (fun vm₁ hW₁ => ⟨hf.1, hf.2, hPc (T.setVm vm₁) hT hW₁⟩)
  dsimp only [Pt.U, Pt.locs, Pt.cells, Pt.slots] at X' e1 e2 h1 h2 h3 st
  subst h1; subst h2; subst h3
  exact ⟨v, (T.setVm vm₁).calling g' mk (Value.ref b :: As).toArray, t, U', L, hT, X', hL, e1, e2, hq, st⟩
section
variable {y : MethodName} {bytes cc : ByteArray} {maxL nL mc ms n index : Nat} {ret : Option FieldType} {ws : List Cond} {rm : Room} {Pc : Array Value → State → Prop} {Qc : Array Value → State → Outcome → State → Prop} {XC : String → State → State → Prop} {free : Addr → Prop} {Ts : List Cond} {own C : String} {b : Addr} {As rest : List Value} {g : JFrame}
theorem vx_runVX {hh : List (Nat × Nat × Nat × Nat)} (S : CallFix p m c cc nL s args Ts own) (hM : vx_Met l y ws rm Pc Qc XC mc ms free) (cw : vx_CVW R s args own C index y bytes maxL ret hh ws rm mc ms n) (hp : PreV s H C b Pc As)
    (hg : g.method = m) (hn : As.length = n) (hsize : g.locals.size = nL) (hstack : g.stack = As.reverse ++ .ref b :: rest) (hW : 2 * g.monitorRoom + (rest.map fun v => v.category).sum ≤ 8) (hdg : decode cc g.pc = .ok (.invokevirtual index, 3)) (hf : cells + mc ≤ R.cells ∧ slots + ms ≤ R.slots) :
    vx_Run p l e R s m args below meth c H locs cells slots mc ms g rest (Qc (Value.ref b :: As).toArray) XC free := by
  obtain ⟨⟨hrc, hrs, hfr, hlo, hws, hcw⟩, hcode, hini, hy, hlen, hl, hin, hse⟩ := cw
  have hK : vx_Back l R p e below s args y 3 8 (PreOf R mc ms Pc) (PostOf Qc mc ms free) (vx_Post XC mc ms free) := vx_backW (hh := hh) (bytes := bytes) (maxL := maxL) (ret := ret) hM hp.1 hrc hrs hfr hlo hws hcw (fun a' U hW => word_at hW (Or.inl (by first | rfl | simp [Cond.onTables, Cond.keeps, Cond.steady])) hini)
  obtain ⟨hx, hb, hml, ho, -⟩ := S
  obtain ⟨-, ⟨cellB, hcB, hoB, hclB⟩, hPc⟩ := hp
  intro T hT X
  rcases vx_callVX X hx (C := C) (hh := hh) (bytes := bytes) (maxL := maxL) (ret := ret) ho hl hin hse hcode hy hK (by rw [hT]; exact hcB) hoB hclB hg (hsize.trans hml.symm) (argsL := As) (rest := rest) (fun sig h => hn.trans (hlen sig h)) hstack hW (by rw [hb]; exact hdg)
    (fun vm₁ hW₁ => ⟨hf.1, hf.2, hPc (T.setVm vm₁) hT hW₁⟩) with ⟨v, vm₁, ⟨U', l2, c2, s2⟩, hW₁, X', ⟨g', mk, t, L, e1, e2, hq, h1, hL, h2, h3⟩, st⟩ | ⟨q, vm₁, ⟨U', l2, c2, s2⟩, hW₁, X', ⟨g', mk, t, L, E, ce, e1, e2, hq, hce, hcv, hcl, h1, hL, h2, h3⟩, st⟩
  · dsimp only [Pt.U, Pt.locs, Pt.cells, Pt.slots] at X' e1 e2 h1 h2 h3 st
    subst h1; subst h2; subst h3
    exact Or.inl ⟨v, (T.setVm vm₁).calling g' mk (Value.ref b :: As).toArray, t, U', L, hT, X', hL, e1, e2, hq, st⟩
  · dsimp only [Pt.U, Pt.locs, Pt.cells, Pt.slots] at X' e1 e2 h1 h2 h3 st hcl
    subst h1; subst h2; subst h3
    exact Or.inr ⟨q, (T.setVm vm₁).calling g' mk (Value.ref b :: As).toArray, t, U', L, E, ce, hT, X', hL, e1, e2, hq, hce, hcv, vx_cls hW₁ hcl, st⟩
theorem vx_runSX {hh : List (Nat × Nat × Nat × Nat)} (S : CallFix p m c cc nL s args Ts own) (hM : vx_Met l y ws rm Pc Qc XC mc ms free) (cw : vx_CSW R s args own index y bytes maxL ret hh ws rm mc ms n) (hp : PreS s H Pc As)
    (hg : g.method = m) (hn : As.length = n) (hsize : g.locals.size = nL) (hstack : g.stack = As.reverse ++ rest) (hW : 2 * g.monitorRoom + (rest.map fun v => v.category).sum ≤ 8) (hdg : decode cc g.pc = .ok (.invokestatic index, 3)) (hf : cells + mc ≤ R.cells ∧ slots + ms ≤ R.slots) :
    vx_Run p l e R s m args below meth c H locs cells slots mc ms g rest (Qc As.toArray) XC free := by
  obtain ⟨⟨hrc, hrs, hfr, hlo, hws, hcw⟩, hcode, hini, hy, hlen, hl, hstt⟩ := cw
  have hK : vx_Back l R p e below s args y 3 8 (PreOf R mc ms Pc) (PostOf Qc mc ms free) (vx_Post XC mc ms free) := vx_backW (hh := hh) (bytes := bytes) (maxL := maxL) (ret := ret) hM hp.1 hrc hrs hfr hlo hws hcw (fun a' U hW => word_at hW (Or.inl (by first | rfl | simp [Cond.onTables, Cond.keeps, Cond.steady])) hini)
  obtain ⟨hx, hb, hml, ho, -⟩ := S
  intro T hT X
  rcases vx_callSX X hx (hh := hh) (bytes := bytes) (maxL := maxL) (ret := ret) ho hl hstt hini hcode hy hK hg (hsize.trans hml.symm) (argsL := As) (rest := rest) (fun sig h => hn.trans (hlen sig h)) hstack hW (by rw [hb]; exact hdg)
    (fun vm₁ hW₁ => ⟨hf.1, hf.2, hp.2 (T.setVm vm₁) hT hW₁⟩) with ⟨v, vm₁, ⟨U', l2, c2, s2⟩, hW₁, X', ⟨g', mk, t, L, e1, e2, hq, h1, hL, h2, h3⟩, st⟩ | ⟨q, vm₁, ⟨U', l2, c2, s2⟩, hW₁, X', ⟨g', mk, t, L, E, ce, e1, e2, hq, hce, hcv, hcl, h1, hL, h2, h3⟩, st⟩
  · dsimp only [Pt.U, Pt.locs, Pt.cells, Pt.slots] at X' e1 e2 h1 h2 h3 st
    subst h1; subst h2; subst h3
    exact Or.inl ⟨v, (T.setVm vm₁).calling g' mk As.toArray, t, U', L, hT, X', hL, e1, e2, hq, st⟩
  · dsimp only [Pt.U, Pt.locs, Pt.cells, Pt.slots] at X' e1 e2 h1 h2 h3 st hcl
    subst h1; subst h2; subst h3
    exact Or.inr ⟨q, (T.setVm vm₁).calling g' mk As.toArray, t, U', L, E, ce, hT, X', hL, e1, e2, hq, hce, hcv, vx_cls hW₁ hcl, st⟩
end
end VXH
theorem vx_ofWH {l : Launch} {y : MethodName} {ws ws' : List Cond} {rm : Room} {Pc : Array Value → State → Prop} {Qc : Array Value → State → Outcome → State → Prop} {XC : String → State → State → Prop} {mc ms : Nat} {free : Addr → Prop} {cc : ByteArray} {maxL : Nat} {ret : Option FieldType} {hh : List (Nat × Nat × Nat × Nat)}
    (hy : plainName y.cls = true) (hw : ws = Cond.codeWith y cc maxL ret hh :: ws')
    (body : ∀ p e s m args below meth c s₁, BodyLoose p l y (headSpec ws rm) cc maxL ret e s m args below meth c s₁ → c.maxLocals = maxL → Pc args s →
      W p l e (headSpec ws rm).room s m args below meth c s.heap [] 0 0 (vx_MQ below Qc XC args s mc ms free) (entryFrame m args maxL)) : vx_Met l y ws rm Pc Qc XC mc ms free := by
  refine MetFree.of_bodyS (code := cc) (maxLocals := maxL) (ret := ret) hy ?_ ?_
  · intro args s m h hn
    obtain ⟨m9, meth, c, hn9, h1, h2, h3, h4, -, h5, h6, -⟩ := Cond.codeWith_spec (atoms_spec (ws := ws) h _ (by rw [hw]; exact List.mem_cons_self))
    cases hn.symm.trans hn9
    exact ⟨meth, c, h1, h2, h3, h4, h5, h6⟩
  · intro p e s m args below meth c s₁ B hml hP _
    have hh0 : s₁.heap = s.heap := by rw [B.state]; rfl
    obtain ⟨t, a1, o, b1, b2, b3⟩ := body p e s m args below meth c s₁ B hml hP s₁ hh0 (Stand.of_body B)
    exact ⟨t, o, a1, b1, b2, b3⟩
/-! ===== END ===== -/
end
section
/-! methods: names, code, words, decode rows (written by a program) -/
def yXS_init : MethodName := ⟨"ParityArray$Supply", "<init>", "()V"⟩
abbrev cXS_init : ByteArray := prog_3_method_1_code
def wsXS_init : List Cond := .code yXS_init cXS_init 1 (none : Option Jvm.ClassFile.FieldType) :: pz_G
theorem tcXS_init : (.code yXS_init cXS_init 1 (none : Option Jvm.ClassFile.FieldType) : Cond) ∈ pz_G := tw_29
theorem dXS_init_0 : decode cXS_init 0 = .ok (.aload_n 0, 1) := by decide +kernel
theorem dXS_init_1 : decode cXS_init 1 = .ok (.invokespecial 1, 3) := by decide +kernel
theorem dXS_init_4 : decode cXS_init 4 = .ok (.aload_n 0, 1) := by decide +kernel
theorem dXS_init_5 : decode cXS_init 5 = .ok (.iconst 1, 1) := by decide +kernel
theorem dXS_init_6 : decode cXS_init 6 = .ok (.putfield 7, 3) := by decide +kernel
theorem dXS_init_9 : decode cXS_init 9 = .ok (.aload_n 0, 1) := by decide +kernel
theorem dXS_init_10 : decode cXS_init 10 = .ok (.iconst 0, 1) := by decide +kernel
theorem dXS_init_11 : decode cXS_init 11 = .ok (.putfield 13, 3) := by decide +kernel
theorem dXS_init_14 : decode cXS_init 14 = .ok (.aload_n 0, 1) := by decide +kernel
theorem dXS_init_15 : decode cXS_init 15 = .ok (.iconst 0, 1) := by decide +kernel
theorem dXS_init_16 : decode cXS_init 16 = .ok (.putfield 16, 3) := by decide +kernel
theorem dXS_init_19 : decode cXS_init 19 = .ok (.aload_n 0, 1) := by decide +kernel
theorem dXS_init_20 : decode cXS_init 20 = .ok (.iconst 0, 1) := by decide +kernel
theorem dXS_init_21 : decode cXS_init 21 = .ok (.putfield 19, 3) := by decide +kernel
theorem dXS_init_24 : decode cXS_init 24 = .ok (.aload_n 0, 1) := by decide +kernel
theorem dXS_init_25 : decode cXS_init 25 = .ok (.iconst 0, 1) := by decide +kernel
theorem dXS_init_26 : decode cXS_init 26 = .ok (.putfield 23, 3) := by decide +kernel
theorem dXS_init_29 : decode cXS_init 29 = .ok (.aload_n 0, 1) := by decide +kernel
theorem dXS_init_30 : decode cXS_init 30 = .ok (.iconst 0, 1) := by decide +kernel
theorem dXS_init_31 : decode cXS_init 31 = .ok (.putfield 26, 3) := by decide +kernel
theorem dXS_init_34 : decode cXS_init 34 = .ok (.aload_n 0, 1) := by decide +kernel
theorem dXS_init_35 : decode cXS_init 35 = .ok (.iconst 0, 1) := by decide +kernel
theorem dXS_init_36 : decode cXS_init 36 = .ok (.putfield 29, 3) := by decide +kernel
theorem dXS_init_39 : decode cXS_init 39 = .ok (.return_, 1) := by decide +kernel
def yXD_init : MethodName := ⟨"ParityArray$Disk", "<init>", "()V"⟩
abbrev cXD_init : ByteArray := prog_2_method_1_code
def wsXD_init : List Cond := .code yXD_init cXD_init 1 (none : Option Jvm.ClassFile.FieldType) :: pz_G
theorem tcXD_init : (.code yXD_init cXD_init 1 (none : Option Jvm.ClassFile.FieldType) : Cond) ∈ pz_G := tw_57
theorem dXD_init_0 : decode cXD_init 0 = .ok (.aload_n 0, 1) := by decide +kernel
theorem dXD_init_1 : decode cXD_init 1 = .ok (.invokespecial 3, 3) := by decide +kernel
theorem dXD_init_4 : decode cXD_init 4 = .ok (.aload_n 0, 1) := by decide +kernel
theorem dXD_init_5 : decode cXD_init 5 = .ok (.sipush 2400, 3) := by decide +kernel
theorem dXD_init_8 : decode cXD_init 8 = .ok (.newarray .long, 2) := by decide +kernel
theorem dXD_init_10 : decode cXD_init 10 = .ok (.putfield 9, 3) := by decide +kernel
theorem dXD_init_13 : decode cXD_init 13 = .ok (.aload_n 0, 1) := by decide +kernel
theorem dXD_init_14 : decode cXD_init 14 = .ok (.bipush 16, 2) := by decide +kernel
theorem dXD_init_16 : decode cXD_init 16 = .ok (.newarray .long, 2) := by decide +kernel
theorem dXD_init_18 : decode cXD_init 18 = .ok (.putfield 15, 3) := by decide +kernel
theorem dXD_init_21 : decode cXD_init 21 = .ok (.aload_n 0, 1) := by decide +kernel
theorem dXD_init_22 : decode cXD_init 22 = .ok (.iconst (-1), 1) := by decide +kernel
theorem dXD_init_23 : decode cXD_init 23 = .ok (.putfield 18, 3) := by decide +kernel
theorem dXD_init_26 : decode cXD_init 26 = .ok (.aload_n 0, 1) := by decide +kernel
theorem dXD_init_27 : decode cXD_init 27 = .ok (.iconst 0, 1) := by decide +kernel
theorem dXD_init_28 : decode cXD_init 28 = .ok (.putfield 22, 3) := by decide +kernel
theorem dXD_init_31 : decode cXD_init 31 = .ok (.aload_n 0, 1) := by decide +kernel
theorem dXD_init_32 : decode cXD_init 32 = .ok (.sipush 150, 3) := by decide +kernel
theorem dXD_init_35 : decode cXD_init 35 = .ok (.putfield 26, 3) := by decide +kernel
theorem dXD_init_38 : decode cXD_init 38 = .ok (.return_, 1) := by decide +kernel
def yXD_isThere : MethodName := ⟨"ParityArray$Disk", "isThere", "(I)Z"⟩
abbrev cXD_isThere : ByteArray := prog_2_method_3_code
def wsXD_isThere : List Cond := .code yXD_isThere cXD_isThere 2 (some .boolean) :: pz_G
theorem tcXD_isThere : (.code yXD_isThere cXD_isThere 2 (some .boolean) : Cond) ∈ pz_G := tw_210
theorem dXD_isThere_0 : decode cXD_isThere 0 = .ok (.iload_n 1, 1) := by decide +kernel
theorem dXD_isThere_1 : decode cXD_isThere 1 = .ok (.aload_n 0, 1) := by decide +kernel
theorem dXD_isThere_2 : decode cXD_isThere 2 = .ok (.getfield 26, 3) := by decide +kernel
theorem dXD_isThere_5 : decode cXD_isThere 5 = .ok (.if_icmp .ge 7, 3) := by decide +kernel
theorem dXD_isThere_8 : decode cXD_isThere 8 = .ok (.iconst 1, 1) := by decide +kernel
theorem dXD_isThere_9 : decode cXD_isThere 9 = .ok (.goto 4, 3) := by decide +kernel
theorem dXD_isThere_12 : decode cXD_isThere 12 = .ok (.iconst 0, 1) := by decide +kernel
theorem dXD_isThere_13 : decode cXD_isThere 13 = .ok (.ireturn, 1) := by decide +kernel
def yXD_longAt : MethodName := ⟨"ParityArray$Disk", "longAt", "(II)J"⟩
abbrev cXD_longAt : ByteArray := prog_2_method_4_code
def wsXD_longAt : List Cond := .code yXD_longAt cXD_longAt 3 (some .long) :: pz_G
theorem tcXD_longAt : (.code yXD_longAt cXD_longAt 3 (some .long) : Cond) ∈ pz_G := tw_214
theorem dXD_longAt_0 : decode cXD_longAt 0 = .ok (.aload_n 0, 1) := by decide +kernel
theorem dXD_longAt_1 : decode cXD_longAt 1 = .ok (.getfield 9, 3) := by decide +kernel
theorem dXD_longAt_4 : decode cXD_longAt 4 = .ok (.iload_n 1, 1) := by decide +kernel
theorem dXD_longAt_5 : decode cXD_longAt 5 = .ok (.bipush 16, 2) := by decide +kernel
theorem dXD_longAt_7 : decode cXD_longAt 7 = .ok (.imul, 1) := by decide +kernel
theorem dXD_longAt_8 : decode cXD_longAt 8 = .ok (.iload_n 2, 1) := by decide +kernel
theorem dXD_longAt_9 : decode cXD_longAt 9 = .ok (.iadd, 1) := by decide +kernel
theorem dXD_longAt_10 : decode cXD_longAt 10 = .ok (.laload, 1) := by decide +kernel
theorem dXD_longAt_11 : decode cXD_longAt 11 = .ok (.lreturn, 1) := by decide +kernel
def yXS_begin : MethodName := ⟨"ParityArray$Supply", "begin", "(Z)V"⟩
abbrev cXS_begin : ByteArray := prog_3_method_4_code
def wsXS_begin : List Cond := .code yXS_begin cXS_begin 2 (none : Option Jvm.ClassFile.FieldType) :: pz_G
theorem tcXS_begin : (.code yXS_begin cXS_begin 2 (none : Option Jvm.ClassFile.FieldType) : Cond) ∈ pz_G := tw_226
theorem dXS_begin_0 : decode cXS_begin 0 = .ok (.aload_n 0, 1) := by decide +kernel
theorem dXS_begin_1 : decode cXS_begin 1 = .ok (.aload_n 0, 1) := by decide +kernel
theorem dXS_begin_2 : decode cXS_begin 2 = .ok (.getfield 13, 3) := by decide +kernel
theorem dXS_begin_5 : decode cXS_begin 5 = .ok (.ifCond .eq 15, 3) := by decide +kernel
theorem dXS_begin_8 : decode cXS_begin 8 = .ok (.aload_n 0, 1) := by decide +kernel
theorem dXS_begin_9 : decode cXS_begin 9 = .ok (.getfield 16, 3) := by decide +kernel
theorem dXS_begin_12 : decode cXS_begin 12 = .ok (.iload_n 1, 1) := by decide +kernel
theorem dXS_begin_13 : decode cXS_begin 13 = .ok (.if_icmp .ne 7, 3) := by decide +kernel
theorem dXS_begin_16 : decode cXS_begin 16 = .ok (.iconst 1, 1) := by decide +kernel
theorem dXS_begin_17 : decode cXS_begin 17 = .ok (.goto 4, 3) := by decide +kernel
theorem dXS_begin_20 : decode cXS_begin 20 = .ok (.iconst 0, 1) := by decide +kernel
theorem dXS_begin_21 : decode cXS_begin 21 = .ok (.putfield 26, 3) := by decide +kernel
theorem dXS_begin_24 : decode cXS_begin 24 = .ok (.aload_n 0, 1) := by decide +kernel
theorem dXS_begin_25 : decode cXS_begin 25 = .ok (.iconst 0, 1) := by decide +kernel
theorem dXS_begin_26 : decode cXS_begin 26 = .ok (.putfield 29, 3) := by decide +kernel
theorem dXS_begin_29 : decode cXS_begin 29 = .ok (.return_, 1) := by decide +kernel
def yXS_letThrough : MethodName := ⟨"ParityArray$Supply", "letThrough", "(I)I"⟩
abbrev cXS_letThrough : ByteArray := prog_3_method_5_code
def wsXS_letThrough : List Cond := .code yXS_letThrough cXS_letThrough 2 (some .int) :: pz_G
theorem tcXS_letThrough : (.code yXS_letThrough cXS_letThrough 2 (some .int) : Cond) ∈ pz_G := tw_234
theorem dXS_letThrough_0 : decode cXS_letThrough 0 = .ok (.aload_n 0, 1) := by decide +kernel
theorem dXS_letThrough_1 : decode cXS_letThrough 1 = .ok (.getfield 7, 3) := by decide +kernel
theorem dXS_letThrough_4 : decode cXS_letThrough 4 = .ok (.ifCond .ne 5, 3) := by decide +kernel
theorem dXS_letThrough_7 : decode cXS_letThrough 7 = .ok (.iconst 0, 1) := by decide +kernel
theorem dXS_letThrough_8 : decode cXS_letThrough 8 = .ok (.ireturn, 1) := by decide +kernel
theorem dXS_letThrough_9 : decode cXS_letThrough 9 = .ok (.aload_n 0, 1) := by decide +kernel
theorem dXS_letThrough_10 : decode cXS_letThrough 10 = .ok (.getfield 26, 3) := by decide +kernel
theorem dXS_letThrough_13 : decode cXS_letThrough 13 = .ok (.ifCond .eq 28, 3) := by decide +kernel
theorem dXS_letThrough_16 : decode cXS_letThrough 16 = .ok (.aload_n 0, 1) := by decide +kernel
theorem dXS_letThrough_17 : decode cXS_letThrough 17 = .ok (.getfield 29, 3) := by decide +kernel
theorem dXS_letThrough_20 : decode cXS_letThrough 20 = .ok (.aload_n 0, 1) := by decide +kernel
theorem dXS_letThrough_21 : decode cXS_letThrough 21 = .ok (.getfield 19, 3) := by decide +kernel
theorem dXS_letThrough_24 : decode cXS_letThrough 24 = .ok (.if_icmp .ne 17, 3) := by decide +kernel
theorem dXS_letThrough_27 : decode cXS_letThrough 27 = .ok (.aload_n 0, 1) := by decide +kernel
theorem dXS_letThrough_28 : decode cXS_letThrough 28 = .ok (.iconst 0, 1) := by decide +kernel
theorem dXS_letThrough_29 : decode cXS_letThrough 29 = .ok (.putfield 7, 3) := by decide +kernel
theorem dXS_letThrough_32 : decode cXS_letThrough 32 = .ok (.aload_n 0, 1) := by decide +kernel
theorem dXS_letThrough_33 : decode cXS_letThrough 33 = .ok (.getfield 23, 3) := by decide +kernel
theorem dXS_letThrough_36 : decode cXS_letThrough 36 = .ok (.iload_n 1, 1) := by decide +kernel
theorem dXS_letThrough_37 : decode cXS_letThrough 37 = .ok (.invokestatic 32, 3) := by decide +kernel
theorem dXS_letThrough_40 : decode cXS_letThrough 40 = .ok (.ireturn, 1) := by decide +kernel
theorem dXS_letThrough_41 : decode cXS_letThrough 41 = .ok (.aload_n 0, 1) := by decide +kernel
theorem dXS_letThrough_42 : decode cXS_letThrough 42 = .ok (.dup, 1) := by decide +kernel
theorem dXS_letThrough_43 : decode cXS_letThrough 43 = .ok (.getfield 29, 3) := by decide +kernel
theorem dXS_letThrough_46 : decode cXS_letThrough 46 = .ok (.iconst 1, 1) := by decide +kernel
theorem dXS_letThrough_47 : decode cXS_letThrough 47 = .ok (.iadd, 1) := by decide +kernel
theorem dXS_letThrough_48 : decode cXS_letThrough 48 = .ok (.putfield 29, 3) := by decide +kernel
theorem dXS_letThrough_51 : decode cXS_letThrough 51 = .ok (.iload_n 1, 1) := by decide +kernel
theorem dXS_letThrough_52 : decode cXS_letThrough 52 = .ok (.ireturn, 1) := by decide +kernel
def yXD_writeRecord : MethodName := ⟨"ParityArray$Disk", "writeRecord", "(I[JI)V"⟩
abbrev cXD_writeRecord : ByteArray := prog_2_method_6_code
def wsXD_writeRecord : List Cond := .code yXD_writeRecord cXD_writeRecord 4 (none : Option Jvm.ClassFile.FieldType) :: pz_G
theorem tcXD_writeRecord : (.code yXD_writeRecord cXD_writeRecord 4 (none : Option Jvm.ClassFile.FieldType) : Cond) ∈ pz_G := tw_241
theorem dXD_writeRecord_0 : decode cXD_writeRecord 0 = .ok (.iload_n 3, 1) := by decide +kernel
theorem dXD_writeRecord_1 : decode cXD_writeRecord 1 = .ok (.sipush 136, 3) := by decide +kernel
theorem dXD_writeRecord_4 : decode cXD_writeRecord 4 = .ok (.if_icmp .ge 9, 3) := by decide +kernel
theorem dXD_writeRecord_7 : decode cXD_writeRecord 7 = .ok (.aload_n 0, 1) := by decide +kernel
theorem dXD_writeRecord_8 : decode cXD_writeRecord 8 = .ok (.iconst (-1), 1) := by decide +kernel
theorem dXD_writeRecord_9 : decode cXD_writeRecord 9 = .ok (.putfield 18, 3) := by decide +kernel
theorem dXD_writeRecord_12 : decode cXD_writeRecord 12 = .ok (.return_, 1) := by decide +kernel
theorem dXD_writeRecord_13 : decode cXD_writeRecord 13 = .ok (.aload_n 2, 1) := by decide +kernel
theorem dXD_writeRecord_14 : decode cXD_writeRecord 14 = .ok (.iconst 0, 1) := by decide +kernel
theorem dXD_writeRecord_15 : decode cXD_writeRecord 15 = .ok (.aload_n 0, 1) := by decide +kernel
theorem dXD_writeRecord_16 : decode cXD_writeRecord 16 = .ok (.getfield 15, 3) := by decide +kernel
theorem dXD_writeRecord_19 : decode cXD_writeRecord 19 = .ok (.iconst 0, 1) := by decide +kernel
theorem dXD_writeRecord_20 : decode cXD_writeRecord 20 = .ok (.bipush 16, 2) := by decide +kernel
theorem dXD_writeRecord_22 : decode cXD_writeRecord 22 = .ok (.invokestatic 35, 3) := by decide +kernel
theorem dXD_writeRecord_25 : decode cXD_writeRecord 25 = .ok (.aload_n 0, 1) := by decide +kernel
theorem dXD_writeRecord_26 : decode cXD_writeRecord 26 = .ok (.iload_n 1, 1) := by decide +kernel
theorem dXD_writeRecord_27 : decode cXD_writeRecord 27 = .ok (.putfield 18, 3) := by decide +kernel
theorem dXD_writeRecord_30 : decode cXD_writeRecord 30 = .ok (.return_, 1) := by decide +kernel
def yXD_writeRow : MethodName := ⟨"ParityArray$Disk", "writeRow", "(I[JI)V"⟩
abbrev cXD_writeRow : ByteArray := prog_2_method_7_code
def wsXD_writeRow : List Cond := .code yXD_writeRow cXD_writeRow 9 (none : Option Jvm.ClassFile.FieldType) :: pz_G
theorem tcXD_writeRow : (.code yXD_writeRow cXD_writeRow 9 (none : Option Jvm.ClassFile.FieldType) : Cond) ∈ pz_G := tw_248
theorem dXD_writeRow_0 : decode cXD_writeRow 0 = .ok (.iload_n 1, 1) := by decide +kernel
theorem dXD_writeRow_1 : decode cXD_writeRow 1 = .ok (.bipush 16, 2) := by decide +kernel
theorem dXD_writeRow_3 : decode cXD_writeRow 3 = .ok (.imul, 1) := by decide +kernel
theorem dXD_writeRow_4 : decode cXD_writeRow 4 = .ok (.istore 4, 2) := by decide +kernel
theorem dXD_writeRow_6 : decode cXD_writeRow 6 = .ok (.iload_n 3, 1) := by decide +kernel
theorem dXD_writeRow_7 : decode cXD_writeRow 7 = .ok (.bipush 8, 2) := by decide +kernel
theorem dXD_writeRow_9 : decode cXD_writeRow 9 = .ok (.idiv, 1) := by decide +kernel
theorem dXD_writeRow_10 : decode cXD_writeRow 10 = .ok (.istore 5, 2) := by decide +kernel
theorem dXD_writeRow_12 : decode cXD_writeRow 12 = .ok (.iload_n 3, 1) := by decide +kernel
theorem dXD_writeRow_13 : decode cXD_writeRow 13 = .ok (.bipush 8, 2) := by decide +kernel
theorem dXD_writeRow_15 : decode cXD_writeRow 15 = .ok (.irem, 1) := by decide +kernel
theorem dXD_writeRow_16 : decode cXD_writeRow 16 = .ok (.istore 6, 2) := by decide +kernel
theorem dXD_writeRow_18 : decode cXD_writeRow 18 = .ok (.aload_n 2, 1) := by decide +kernel
theorem dXD_writeRow_19 : decode cXD_writeRow 19 = .ok (.iconst 0, 1) := by decide +kernel
theorem dXD_writeRow_20 : decode cXD_writeRow 20 = .ok (.aload_n 0, 1) := by decide +kernel
theorem dXD_writeRow_21 : decode cXD_writeRow 21 = .ok (.getfield 9, 3) := by decide +kernel
theorem dXD_writeRow_24 : decode cXD_writeRow 24 = .ok (.iload 4, 2) := by decide +kernel
theorem dXD_writeRow_26 : decode cXD_writeRow 26 = .ok (.iload 5, 2) := by decide +kernel
theorem dXD_writeRow_28 : decode cXD_writeRow 28 = .ok (.invokestatic 35, 3) := by decide +kernel
theorem dXD_writeRow_31 : decode cXD_writeRow 31 = .ok (.iload 6, 2) := by decide +kernel
theorem dXD_writeRow_33 : decode cXD_writeRow 33 = .ok (.ifCond .le 49, 3) := by decide +kernel
theorem dXD_writeRow_36 : decode cXD_writeRow 36 = .ok (.ldc2_w 41, 3) := by decide +kernel
theorem dXD_writeRow_39 : decode cXD_writeRow 39 = .ok (.iload 6, 2) := by decide +kernel
theorem dXD_writeRow_41 : decode cXD_writeRow 41 = .ok (.bipush 8, 2) := by decide +kernel
theorem dXD_writeRow_43 : decode cXD_writeRow 43 = .ok (.imul, 1) := by decide +kernel
theorem dXD_writeRow_44 : decode cXD_writeRow 44 = .ok (.lushr, 1) := by decide +kernel
theorem dXD_writeRow_45 : decode cXD_writeRow 45 = .ok (.lstore 7, 2) := by decide +kernel
theorem dXD_writeRow_47 : decode cXD_writeRow 47 = .ok (.aload_n 0, 1) := by decide +kernel
theorem dXD_writeRow_48 : decode cXD_writeRow 48 = .ok (.getfield 9, 3) := by decide +kernel
theorem dXD_writeRow_51 : decode cXD_writeRow 51 = .ok (.iload 4, 2) := by decide +kernel
theorem dXD_writeRow_53 : decode cXD_writeRow 53 = .ok (.iload 5, 2) := by decide +kernel
theorem dXD_writeRow_55 : decode cXD_writeRow 55 = .ok (.iadd, 1) := by decide +kernel
theorem dXD_writeRow_56 : decode cXD_writeRow 56 = .ok (.aload_n 2, 1) := by decide +kernel
theorem dXD_writeRow_57 : decode cXD_writeRow 57 = .ok (.iload 5, 2) := by decide +kernel
theorem dXD_writeRow_59 : decode cXD_writeRow 59 = .ok (.laload, 1) := by decide +kernel
theorem dXD_writeRow_60 : decode cXD_writeRow 60 = .ok (.lload 7, 2) := by decide +kernel
theorem dXD_writeRow_62 : decode cXD_writeRow 62 = .ok (.ldc2_w 41, 3) := by decide +kernel
theorem dXD_writeRow_65 : decode cXD_writeRow 65 = .ok (.lxor, 1) := by decide +kernel
theorem dXD_writeRow_66 : decode cXD_writeRow 66 = .ok (.land, 1) := by decide +kernel
theorem dXD_writeRow_67 : decode cXD_writeRow 67 = .ok (.aload_n 0, 1) := by decide +kernel
theorem dXD_writeRow_68 : decode cXD_writeRow 68 = .ok (.getfield 9, 3) := by decide +kernel
theorem dXD_writeRow_71 : decode cXD_writeRow 71 = .ok (.iload 4, 2) := by decide +kernel
theorem dXD_writeRow_73 : decode cXD_writeRow 73 = .ok (.iload 5, 2) := by decide +kernel
theorem dXD_writeRow_75 : decode cXD_writeRow 75 = .ok (.iadd, 1) := by decide +kernel
theorem dXD_writeRow_76 : decode cXD_writeRow 76 = .ok (.laload, 1) := by decide +kernel
theorem dXD_writeRow_77 : decode cXD_writeRow 77 = .ok (.lload 7, 2) := by decide +kernel
theorem dXD_writeRow_79 : decode cXD_writeRow 79 = .ok (.land, 1) := by decide +kernel
theorem dXD_writeRow_80 : decode cXD_writeRow 80 = .ok (.lor, 1) := by decide +kernel
theorem dXD_writeRow_81 : decode cXD_writeRow 81 = .ok (.lastore, 1) := by decide +kernel
theorem dXD_writeRow_82 : decode cXD_writeRow 82 = .ok (.return_, 1) := by decide +kernel
def yXS_end : MethodName := ⟨"ParityArray$Supply", "end", "()V"⟩
abbrev cXS_end : ByteArray := prog_3_method_6_code
def wsXS_end : List Cond := .code yXS_end cXS_end 1 (none : Option Jvm.ClassFile.FieldType) :: pz_G
theorem tcXS_end : (.code yXS_end cXS_end 1 (none : Option Jvm.ClassFile.FieldType) : Cond) ∈ pz_G := tw_253
theorem dXS_end_0 : decode cXS_end 0 = .ok (.aload_n 0, 1) := by decide +kernel
theorem dXS_end_1 : decode cXS_end 1 = .ok (.getfield 26, 3) := by decide +kernel
theorem dXS_end_4 : decode cXS_end 4 = .ok (.ifCond .eq 18, 3) := by decide +kernel
theorem dXS_end_7 : decode cXS_end 7 = .ok (.aload_n 0, 1) := by decide +kernel
theorem dXS_end_8 : decode cXS_end 8 = .ok (.iconst 0, 1) := by decide +kernel
theorem dXS_end_9 : decode cXS_end 9 = .ok (.putfield 7, 3) := by decide +kernel
theorem dXS_end_12 : decode cXS_end 12 = .ok (.aload_n 0, 1) := by decide +kernel
theorem dXS_end_13 : decode cXS_end 13 = .ok (.iconst 0, 1) := by decide +kernel
theorem dXS_end_14 : decode cXS_end 14 = .ok (.putfield 13, 3) := by decide +kernel
theorem dXS_end_17 : decode cXS_end 17 = .ok (.aload_n 0, 1) := by decide +kernel
theorem dXS_end_18 : decode cXS_end 18 = .ok (.iconst 0, 1) := by decide +kernel
theorem dXS_end_19 : decode cXS_end 19 = .ok (.putfield 26, 3) := by decide +kernel
theorem dXS_end_22 : decode cXS_end 22 = .ok (.return_, 1) := by decide +kernel
def yXD_isWell : MethodName := ⟨"ParityArray$Disk", "isWell", "()Z"⟩
abbrev cXD_isWell : ByteArray := prog_2_method_2_code
def wsXD_isWell : List Cond := .code yXD_isWell cXD_isWell 1 (some .boolean) :: pz_G
theorem tcXD_isWell : (.code yXD_isWell cXD_isWell 1 (some .boolean) : Cond) ∈ pz_G := tw_292
theorem dXD_isWell_0 : decode cXD_isWell 0 = .ok (.aload_n 0, 1) := by decide +kernel
theorem dXD_isWell_1 : decode cXD_isWell 1 = .ok (.getfield 26, 3) := by decide +kernel
theorem dXD_isWell_4 : decode cXD_isWell 4 = .ok (.sipush 150, 3) := by decide +kernel
theorem dXD_isWell_7 : decode cXD_isWell 7 = .ok (.if_icmp .ne 7, 3) := by decide +kernel
theorem dXD_isWell_10 : decode cXD_isWell 10 = .ok (.iconst 1, 1) := by decide +kernel
theorem dXD_isWell_11 : decode cXD_isWell 11 = .ok (.goto 4, 3) := by decide +kernel
theorem dXD_isWell_14 : decode cXD_isWell 14 = .ok (.iconst 0, 1) := by decide +kernel
theorem dXD_isWell_15 : decode cXD_isWell 15 = .ok (.ireturn, 1) := by decide +kernel
def yXD_loseAll : MethodName := ⟨"ParityArray$Disk", "loseAll", "()V"⟩
abbrev cXD_loseAll : ByteArray := prog_2_method_5_code
def wsXD_loseAll : List Cond := .code yXD_loseAll cXD_loseAll 1 (none : Option Jvm.ClassFile.FieldType) :: pz_G
theorem tcXD_loseAll : (.code yXD_loseAll cXD_loseAll 1 (none : Option Jvm.ClassFile.FieldType) : Cond) ∈ pz_G := tw_297
theorem dXD_loseAll_0 : decode cXD_loseAll 0 = .ok (.aload_n 0, 1) := by decide +kernel
theorem dXD_loseAll_1 : decode cXD_loseAll 1 = .ok (.getfield 9, 3) := by decide +kernel
theorem dXD_loseAll_4 : decode cXD_loseAll 4 = .ok (.lconst 0, 1) := by decide +kernel
theorem dXD_loseAll_5 : decode cXD_loseAll 5 = .ok (.invokestatic 29, 3) := by decide +kernel
theorem dXD_loseAll_8 : decode cXD_loseAll 8 = .ok (.aload_n 0, 1) := by decide +kernel
theorem dXD_loseAll_9 : decode cXD_loseAll 9 = .ok (.iconst (-1), 1) := by decide +kernel
theorem dXD_loseAll_10 : decode cXD_loseAll 10 = .ok (.putfield 18, 3) := by decide +kernel
theorem dXD_loseAll_13 : decode cXD_loseAll 13 = .ok (.aload_n 0, 1) := by decide +kernel
theorem dXD_loseAll_14 : decode cXD_loseAll 14 = .ok (.iconst 1, 1) := by decide +kernel
theorem dXD_loseAll_15 : decode cXD_loseAll 15 = .ok (.putfield 22, 3) := by decide +kernel
theorem dXD_loseAll_18 : decode cXD_loseAll 18 = .ok (.aload_n 0, 1) := by decide +kernel
theorem dXD_loseAll_19 : decode cXD_loseAll 19 = .ok (.iconst 0, 1) := by decide +kernel
theorem dXD_loseAll_20 : decode cXD_loseAll 20 = .ok (.putfield 26, 3) := by decide +kernel
theorem dXD_loseAll_23 : decode cXD_loseAll 23 = .ok (.return_, 1) := by decide +kernel
def yXA_fill : MethodName := ⟨"java/util/Arrays", "fill", "([JJ)V"⟩
abbrev cXA_fill : ByteArray := prog_16_method_101_code
def wsXA_fill : List Cond := .code yXA_fill cXA_fill 5 (none : Option Jvm.ClassFile.FieldType) :: pz_G
theorem tcXA_fill : (.code yXA_fill cXA_fill 5 (none : Option Jvm.ClassFile.FieldType) : Cond) ∈ pz_G := tw_300
theorem dXA_fill_0 : decode cXA_fill 0 = .ok (.iconst 0, 1) := by decide +kernel
theorem dXA_fill_1 : decode cXA_fill 1 = .ok (.istore_n 3, 1) := by decide +kernel
theorem dXA_fill_2 : decode cXA_fill 2 = .ok (.aload_n 0, 1) := by decide +kernel
theorem dXA_fill_3 : decode cXA_fill 3 = .ok (.arraylength, 1) := by decide +kernel
theorem dXA_fill_4 : decode cXA_fill 4 = .ok (.istore 4, 2) := by decide +kernel
theorem dXA_fill_6 : decode cXA_fill 6 = .ok (.iload_n 3, 1) := by decide +kernel
theorem dXA_fill_7 : decode cXA_fill 7 = .ok (.iload 4, 2) := by decide +kernel
theorem dXA_fill_9 : decode cXA_fill 9 = .ok (.if_icmp .ge 13, 3) := by decide +kernel
theorem dXA_fill_12 : decode cXA_fill 12 = .ok (.aload_n 0, 1) := by decide +kernel
theorem dXA_fill_13 : decode cXA_fill 13 = .ok (.iload_n 3, 1) := by decide +kernel
theorem dXA_fill_14 : decode cXA_fill 14 = .ok (.lload_n 1, 1) := by decide +kernel
theorem dXA_fill_15 : decode cXA_fill 15 = .ok (.lastore, 1) := by decide +kernel
theorem dXA_fill_16 : decode cXA_fill 16 = .ok (.iinc 3 1, 3) := by decide +kernel
theorem dXA_fill_19 : decode cXA_fill 19 = .ok (.goto (-13), 3) := by decide +kernel
theorem dXA_fill_22 : decode cXA_fill 22 = .ok (.return_, 1) := by decide +kernel
def yXS_plan : MethodName := ⟨"ParityArray$Supply", "plan", "(IIZ)V"⟩
abbrev cXS_plan : ByteArray := prog_3_method_2_code
def wsXS_plan : List Cond := .code yXS_plan cXS_plan 4 (none : Option Jvm.ClassFile.FieldType) :: pz_G
theorem tcXS_plan : (.code yXS_plan cXS_plan 4 (none : Option Jvm.ClassFile.FieldType) : Cond) ∈ pz_G := tw_349
theorem dXS_plan_0 : decode cXS_plan 0 = .ok (.aload_n 0, 1) := by decide +kernel
theorem dXS_plan_1 : decode cXS_plan 1 = .ok (.iconst 1, 1) := by decide +kernel
theorem dXS_plan_2 : decode cXS_plan 2 = .ok (.putfield 13, 3) := by decide +kernel
theorem dXS_plan_5 : decode cXS_plan 5 = .ok (.aload_n 0, 1) := by decide +kernel
theorem dXS_plan_6 : decode cXS_plan 6 = .ok (.iload_n 3, 1) := by decide +kernel
theorem dXS_plan_7 : decode cXS_plan 7 = .ok (.putfield 16, 3) := by decide +kernel
theorem dXS_plan_10 : decode cXS_plan 10 = .ok (.aload_n 0, 1) := by decide +kernel
theorem dXS_plan_11 : decode cXS_plan 11 = .ok (.iload_n 1, 1) := by decide +kernel
theorem dXS_plan_12 : decode cXS_plan 12 = .ok (.putfield 19, 3) := by decide +kernel
theorem dXS_plan_15 : decode cXS_plan 15 = .ok (.aload_n 0, 1) := by decide +kernel
theorem dXS_plan_16 : decode cXS_plan 16 = .ok (.iload_n 2, 1) := by decide +kernel
theorem dXS_plan_17 : decode cXS_plan 17 = .ok (.putfield 23, 3) := by decide +kernel
theorem dXS_plan_20 : decode cXS_plan 20 = .ok (.return_, 1) := by decide +kernel
def yXS_forgetPlan : MethodName := ⟨"ParityArray$Supply", "forgetPlan", "()V"⟩
abbrev cXS_forgetPlan : ByteArray := prog_3_method_3_code
def wsXS_forgetPlan : List Cond := .code yXS_forgetPlan cXS_forgetPlan 1 (none : Option Jvm.ClassFile.FieldType) :: pz_G
theorem tcXS_forgetPlan : (.code yXS_forgetPlan cXS_forgetPlan 1 (none : Option Jvm.ClassFile.FieldType) : Cond) ∈ pz_G := tw_364
theorem dXS_forgetPlan_0 : decode cXS_forgetPlan 0 = .ok (.aload_n 0, 1) := by decide +kernel
theorem dXS_forgetPlan_1 : decode cXS_forgetPlan 1 = .ok (.iconst 0, 1) := by decide +kernel
theorem dXS_forgetPlan_2 : decode cXS_forgetPlan 2 = .ok (.putfield 13, 3) := by decide +kernel
theorem dXS_forgetPlan_5 : decode cXS_forgetPlan 5 = .ok (.return_, 1) := by decide +kernel
end
section
/-! methods: names, code, words, decode rows (written by a program) -/
def yXP_init : MethodName := ⟨"ParityArray", "<init>", "()V"⟩
abbrev cXP_init : ByteArray := prog_1_method_1_code
def wsXP_init : List Cond := .code yXP_init cXP_init 2 (none : Option Jvm.ClassFile.FieldType) :: pz_G
theorem tcXP_init : (.code yXP_init cXP_init 2 (none : Option Jvm.ClassFile.FieldType) : Cond) ∈ pz_G := tw_19
theorem dXP_init_0 : decode cXP_init 0 = .ok (.aload_n 0, 1) := by decide +kernel
theorem dXP_init_1 : decode cXP_init 1 = .ok (.invokespecial 1, 3) := by decide +kernel
theorem dXP_init_4 : decode cXP_init 4 = .ok (.aload_n 0, 1) := by decide +kernel
theorem dXP_init_5 : decode cXP_init 5 = .ok (.iconst 5, 1) := by decide +kernel
theorem dXP_init_6 : decode cXP_init 6 = .ok (.anewarray 9, 3) := by decide +kernel
theorem dXP_init_9 : decode cXP_init 9 = .ok (.putfield 11, 3) := by decide +kernel
theorem dXP_init_12 : decode cXP_init 12 = .ok (.aload_n 0, 1) := by decide +kernel
theorem dXP_init_13 : decode cXP_init 13 = .ok (.new 15, 3) := by decide +kernel
theorem dXP_init_16 : decode cXP_init 16 = .ok (.dup, 1) := by decide +kernel
theorem dXP_init_17 : decode cXP_init 17 = .ok (.invokespecial 17, 3) := by decide +kernel
theorem dXP_init_20 : decode cXP_init 20 = .ok (.putfield 18, 3) := by decide +kernel
theorem dXP_init_23 : decode cXP_init 23 = .ok (.aload_n 0, 1) := by decide +kernel
theorem dXP_init_24 : decode cXP_init 24 = .ok (.bipush 16, 2) := by decide +kernel
theorem dXP_init_26 : decode cXP_init 26 = .ok (.newarray .long, 2) := by decide +kernel
theorem dXP_init_28 : decode cXP_init 28 = .ok (.putfield 22, 3) := by decide +kernel
theorem dXP_init_31 : decode cXP_init 31 = .ok (.aload_n 0, 1) := by decide +kernel
theorem dXP_init_32 : decode cXP_init 32 = .ok (.bipush 16, 2) := by decide +kernel
theorem dXP_init_34 : decode cXP_init 34 = .ok (.newarray .long, 2) := by decide +kernel
theorem dXP_init_36 : decode cXP_init 36 = .ok (.putfield 26, 3) := by decide +kernel
theorem dXP_init_39 : decode cXP_init 39 = .ok (.aload_n 0, 1) := by decide +kernel
theorem dXP_init_40 : decode cXP_init 40 = .ok (.bipush 16, 2) := by decide +kernel
theorem dXP_init_42 : decode cXP_init 42 = .ok (.newarray .long, 2) := by decide +kernel
theorem dXP_init_44 : decode cXP_init 44 = .ok (.putfield 29, 3) := by decide +kernel
theorem dXP_init_47 : decode cXP_init 47 = .ok (.iconst 0, 1) := by decide +kernel
theorem dXP_init_48 : decode cXP_init 48 = .ok (.istore_n 1, 1) := by decide +kernel
theorem dXP_init_49 : decode cXP_init 49 = .ok (.iload_n 1, 1) := by decide +kernel
theorem dXP_init_50 : decode cXP_init 50 = .ok (.iconst 5, 1) := by decide +kernel
theorem dXP_init_51 : decode cXP_init 51 = .ok (.if_icmp .ge 22, 3) := by decide +kernel
theorem dXP_init_54 : decode cXP_init 54 = .ok (.aload_n 0, 1) := by decide +kernel
theorem dXP_init_55 : decode cXP_init 55 = .ok (.getfield 11, 3) := by decide +kernel
theorem dXP_init_58 : decode cXP_init 58 = .ok (.iload_n 1, 1) := by decide +kernel
theorem dXP_init_59 : decode cXP_init 59 = .ok (.new 9, 3) := by decide +kernel
theorem dXP_init_62 : decode cXP_init 62 = .ok (.dup, 1) := by decide +kernel
theorem dXP_init_63 : decode cXP_init 63 = .ok (.invokespecial 32, 3) := by decide +kernel
theorem dXP_init_66 : decode cXP_init 66 = .ok (.aastore, 1) := by decide +kernel
theorem dXP_init_67 : decode cXP_init 67 = .ok (.iinc 1 1, 3) := by decide +kernel
theorem dXP_init_70 : decode cXP_init 70 = .ok (.goto (-21), 3) := by decide +kernel
theorem dXP_init_73 : decode cXP_init 73 = .ok (.return_, 1) := by decide +kernel
def yXP_set : MethodName := ⟨"ParityArray", "set", "(IIJ)J"⟩
abbrev cXP_set : ByteArray := prog_1_method_2_code
def wsXP_set : List Cond := .code yXP_set cXP_set 7 (some .long) :: pz_G
theorem tcXP_set : (.code yXP_set cXP_set 7 (some .long) : Cond) ∈ pz_G := tw_105
theorem dXP_set_0 : decode cXP_set 0 = .ok (.aload_n 0, 1) := by decide +kernel
theorem dXP_set_1 : decode cXP_set 1 = .ok (.getfield 18, 3) := by decide +kernel
theorem dXP_set_4 : decode cXP_set 4 = .ok (.getfield 33, 3) := by decide +kernel
theorem dXP_set_7 : decode cXP_set 7 = .ok (.ifCond .ne 13, 3) := by decide +kernel
theorem dXP_set_10 : decode cXP_set 10 = .ok (.new 37, 3) := by decide +kernel
theorem dXP_set_13 : decode cXP_set 13 = .ok (.dup, 1) := by decide +kernel
theorem dXP_set_14 : decode cXP_set 14 = .ok (.ldc 39, 2) := by decide +kernel
theorem dXP_set_16 : decode cXP_set 16 = .ok (.invokespecial 41, 3) := by decide +kernel
theorem dXP_set_19 : decode cXP_set 19 = .ok (.athrow, 1) := by decide +kernel
theorem dXP_set_20 : decode cXP_set 20 = .ok (.iload_n 1, 1) := by decide +kernel
theorem dXP_set_21 : decode cXP_set 21 = .ok (.iload_n 2, 1) := by decide +kernel
theorem dXP_set_22 : decode cXP_set 22 = .ok (.invokestatic 44, 3) := by decide +kernel
theorem dXP_set_25 : decode cXP_set 25 = .ok (.ifCond .ne 13, 3) := by decide +kernel
theorem dXP_set_28 : decode cXP_set 28 = .ok (.new 48, 3) := by decide +kernel
theorem dXP_set_31 : decode cXP_set 31 = .ok (.dup, 1) := by decide +kernel
theorem dXP_set_32 : decode cXP_set 32 = .ok (.ldc 50, 2) := by decide +kernel
theorem dXP_set_34 : decode cXP_set 34 = .ok (.invokespecial 52, 3) := by decide +kernel
theorem dXP_set_37 : decode cXP_set 37 = .ok (.athrow, 1) := by decide +kernel
theorem dXP_set_38 : decode cXP_set 38 = .ok (.aload_n 0, 1) := by decide +kernel
theorem dXP_set_39 : decode cXP_set 39 = .ok (.iload_n 1, 1) := by decide +kernel
theorem dXP_set_40 : decode cXP_set 40 = .ok (.iload_n 2, 1) := by decide +kernel
theorem dXP_set_41 : decode cXP_set 41 = .ok (.invokevirtual 53, 3) := by decide +kernel
theorem dXP_set_44 : decode cXP_set 44 = .ok (.lstore 5, 2) := by decide +kernel
theorem dXP_set_46 : decode cXP_set 46 = .ok (.aload_n 0, 1) := by decide +kernel
theorem dXP_set_47 : decode cXP_set 47 = .ok (.iload_n 1, 1) := by decide +kernel
theorem dXP_set_48 : decode cXP_set 48 = .ok (.iload_n 2, 1) := by decide +kernel
theorem dXP_set_49 : decode cXP_set 49 = .ok (.lload_n 3, 1) := by decide +kernel
theorem dXP_set_50 : decode cXP_set 50 = .ok (.invokevirtual 57, 3) := by decide +kernel
theorem dXP_set_53 : decode cXP_set 53 = .ok (.aload_n 0, 1) := by decide +kernel
theorem dXP_set_54 : decode cXP_set 54 = .ok (.getfield 18, 3) := by decide +kernel
theorem dXP_set_57 : decode cXP_set 57 = .ok (.iconst 0, 1) := by decide +kernel
theorem dXP_set_58 : decode cXP_set 58 = .ok (.invokevirtual 61, 3) := by decide +kernel
theorem dXP_set_61 : decode cXP_set 61 = .ok (.aload_n 0, 1) := by decide +kernel
theorem dXP_set_62 : decode cXP_set 62 = .ok (.iload_n 1, 1) := by decide +kernel
theorem dXP_set_63 : decode cXP_set 63 = .ok (.invokevirtual 65, 3) := by decide +kernel
theorem dXP_set_66 : decode cXP_set 66 = .ok (.aload_n 0, 1) := by decide +kernel
theorem dXP_set_67 : decode cXP_set 67 = .ok (.getfield 18, 3) := by decide +kernel
theorem dXP_set_70 : decode cXP_set 70 = .ok (.invokevirtual 69, 3) := by decide +kernel
theorem dXP_set_73 : decode cXP_set 73 = .ok (.aload_n 0, 1) := by decide +kernel
theorem dXP_set_74 : decode cXP_set 74 = .ok (.getfield 18, 3) := by decide +kernel
theorem dXP_set_77 : decode cXP_set 77 = .ok (.getfield 33, 3) := by decide +kernel
theorem dXP_set_80 : decode cXP_set 80 = .ok (.ifCond .ne 13, 3) := by decide +kernel
theorem dXP_set_83 : decode cXP_set 83 = .ok (.new 72, 3) := by decide +kernel
theorem dXP_set_86 : decode cXP_set 86 = .ok (.dup, 1) := by decide +kernel
theorem dXP_set_87 : decode cXP_set 87 = .ok (.ldc 74, 2) := by decide +kernel
theorem dXP_set_89 : decode cXP_set 89 = .ok (.invokespecial 76, 3) := by decide +kernel
theorem dXP_set_92 : decode cXP_set 92 = .ok (.athrow, 1) := by decide +kernel
theorem dXP_set_93 : decode cXP_set 93 = .ok (.lload 5, 2) := by decide +kernel
theorem dXP_set_95 : decode cXP_set 95 = .ok (.lreturn, 1) := by decide +kernel
def yXP_isLong : MethodName := ⟨"ParityArray", "isLong", "(II)Z"⟩
abbrev cXP_isLong : ByteArray := prog_1_method_11_code
def wsXP_isLong : List Cond := .code yXP_isLong cXP_isLong 2 (some .boolean) :: pz_G
theorem tcXP_isLong : (.code yXP_isLong cXP_isLong 2 (some .boolean) : Cond) ∈ pz_G := tw_177
theorem dXP_isLong_0 : decode cXP_isLong 0 = .ok (.iload_n 0, 1) := by decide +kernel
theorem dXP_isLong_1 : decode cXP_isLong 1 = .ok (.ifCond .lt 24, 3) := by decide +kernel
theorem dXP_isLong_4 : decode cXP_isLong 4 = .ok (.iload_n 0, 1) := by decide +kernel
theorem dXP_isLong_5 : decode cXP_isLong 5 = .ok (.sipush 600, 3) := by decide +kernel
theorem dXP_isLong_8 : decode cXP_isLong 8 = .ok (.if_icmp .ge 17, 3) := by decide +kernel
theorem dXP_isLong_11 : decode cXP_isLong 11 = .ok (.iload_n 1, 1) := by decide +kernel
theorem dXP_isLong_12 : decode cXP_isLong 12 = .ok (.ifCond .lt 13, 3) := by decide +kernel
theorem dXP_isLong_15 : decode cXP_isLong 15 = .ok (.iload_n 1, 1) := by decide +kernel
theorem dXP_isLong_16 : decode cXP_isLong 16 = .ok (.bipush 16, 2) := by decide +kernel
theorem dXP_isLong_18 : decode cXP_isLong 18 = .ok (.if_icmp .ge 7, 3) := by decide +kernel
theorem dXP_isLong_21 : decode cXP_isLong 21 = .ok (.iconst 1, 1) := by decide +kernel
theorem dXP_isLong_22 : decode cXP_isLong 22 = .ok (.goto 4, 3) := by decide +kernel
theorem dXP_isLong_25 : decode cXP_isLong 25 = .ok (.iconst 0, 1) := by decide +kernel
theorem dXP_isLong_26 : decode cXP_isLong 26 = .ok (.ireturn, 1) := by decide +kernel
def yXP_readLong : MethodName := ⟨"ParityArray", "readLong", "(II)J"⟩
abbrev cXP_readLong : ByteArray := prog_1_method_16_code
def wsXP_readLong : List Cond := .code yXP_readLong cXP_readLong 5 (some .long) :: pz_G
theorem tcXP_readLong : (.code yXP_readLong cXP_readLong 5 (some .long) : Cond) ∈ pz_G := tw_197
theorem dXP_readLong_0 : decode cXP_readLong 0 = .ok (.iload_n 1, 1) := by decide +kernel
theorem dXP_readLong_1 : decode cXP_readLong 1 = .ok (.invokestatic 127, 3) := by decide +kernel
theorem dXP_readLong_4 : decode cXP_readLong 4 = .ok (.istore_n 3, 1) := by decide +kernel
theorem dXP_readLong_5 : decode cXP_readLong 5 = .ok (.iload_n 1, 1) := by decide +kernel
theorem dXP_readLong_6 : decode cXP_readLong 6 = .ok (.invokestatic 138, 3) := by decide +kernel
theorem dXP_readLong_9 : decode cXP_readLong 9 = .ok (.istore 4, 2) := by decide +kernel
theorem dXP_readLong_11 : decode cXP_readLong 11 = .ok (.aload_n 0, 1) := by decide +kernel
theorem dXP_readLong_12 : decode cXP_readLong 12 = .ok (.getfield 11, 3) := by decide +kernel
theorem dXP_readLong_15 : decode cXP_readLong 15 = .ok (.iload 4, 2) := by decide +kernel
theorem dXP_readLong_17 : decode cXP_readLong 17 = .ok (.aaload, 1) := by decide +kernel
theorem dXP_readLong_18 : decode cXP_readLong 18 = .ok (.iload_n 3, 1) := by decide +kernel
theorem dXP_readLong_19 : decode cXP_readLong 19 = .ok (.invokevirtual 141, 3) := by decide +kernel
theorem dXP_readLong_22 : decode cXP_readLong 22 = .ok (.ifCond .eq 18, 3) := by decide +kernel
theorem dXP_readLong_25 : decode cXP_readLong 25 = .ok (.aload_n 0, 1) := by decide +kernel
theorem dXP_readLong_26 : decode cXP_readLong 26 = .ok (.getfield 11, 3) := by decide +kernel
theorem dXP_readLong_29 : decode cXP_readLong 29 = .ok (.iload 4, 2) := by decide +kernel
theorem dXP_readLong_31 : decode cXP_readLong 31 = .ok (.aaload, 1) := by decide +kernel
theorem dXP_readLong_32 : decode cXP_readLong 32 = .ok (.iload_n 3, 1) := by decide +kernel
theorem dXP_readLong_33 : decode cXP_readLong 33 = .ok (.iload_n 2, 1) := by decide +kernel
theorem dXP_readLong_34 : decode cXP_readLong 34 = .ok (.invokevirtual 144, 3) := by decide +kernel
theorem dXP_readLong_37 : decode cXP_readLong 37 = .ok (.goto 11, 3) := by decide +kernel
theorem dXP_readLong_40 : decode cXP_readLong 40 = .ok (.aload_n 0, 1) := by decide +kernel
theorem dXP_readLong_41 : decode cXP_readLong 41 = .ok (.iload 4, 2) := by decide +kernel
theorem dXP_readLong_43 : decode cXP_readLong 43 = .ok (.iload_n 3, 1) := by decide +kernel
theorem dXP_readLong_44 : decode cXP_readLong 44 = .ok (.iload_n 2, 1) := by decide +kernel
theorem dXP_readLong_45 : decode cXP_readLong 45 = .ok (.invokevirtual 147, 3) := by decide +kernel
theorem dXP_readLong_48 : decode cXP_readLong 48 = .ok (.lreturn, 1) := by decide +kernel
def yXP_stripeOf : MethodName := ⟨"ParityArray", "stripeOf", "(I)I"⟩
abbrev cXP_stripeOf : ByteArray := prog_1_method_12_code
def wsXP_stripeOf : List Cond := .code yXP_stripeOf cXP_stripeOf 1 (some .int) :: pz_G
theorem tcXP_stripeOf : (.code yXP_stripeOf cXP_stripeOf 1 (some .int) : Cond) ∈ pz_G := tw_200
theorem dXP_stripeOf_0 : decode cXP_stripeOf 0 = .ok (.iload_n 0, 1) := by decide +kernel
theorem dXP_stripeOf_1 : decode cXP_stripeOf 1 = .ok (.iconst 4, 1) := by decide +kernel
theorem dXP_stripeOf_2 : decode cXP_stripeOf 2 = .ok (.idiv, 1) := by decide +kernel
theorem dXP_stripeOf_3 : decode cXP_stripeOf 3 = .ok (.ireturn, 1) := by decide +kernel
def yXP_diskOf : MethodName := ⟨"ParityArray", "diskOf", "(I)I"⟩
abbrev cXP_diskOf : ByteArray := prog_1_method_14_code
def wsXP_diskOf : List Cond := .code yXP_diskOf cXP_diskOf 2 (some .int) :: pz_G
theorem tcXP_diskOf : (.code yXP_diskOf cXP_diskOf 2 (some .int) : Cond) ∈ pz_G := tw_203
theorem dXP_diskOf_0 : decode cXP_diskOf 0 = .ok (.iload_n 0, 1) := by decide +kernel
theorem dXP_diskOf_1 : decode cXP_diskOf 1 = .ok (.iconst 4, 1) := by decide +kernel
theorem dXP_diskOf_2 : decode cXP_diskOf 2 = .ok (.irem, 1) := by decide +kernel
theorem dXP_diskOf_3 : decode cXP_diskOf 3 = .ok (.istore_n 1, 1) := by decide +kernel
theorem dXP_diskOf_4 : decode cXP_diskOf 4 = .ok (.iload_n 1, 1) := by decide +kernel
theorem dXP_diskOf_5 : decode cXP_diskOf 5 = .ok (.iload_n 0, 1) := by decide +kernel
theorem dXP_diskOf_6 : decode cXP_diskOf 6 = .ok (.invokestatic 127, 3) := by decide +kernel
theorem dXP_diskOf_9 : decode cXP_diskOf 9 = .ok (.invokestatic 131, 3) := by decide +kernel
theorem dXP_diskOf_12 : decode cXP_diskOf 12 = .ok (.if_icmp .ge 7, 3) := by decide +kernel
theorem dXP_diskOf_15 : decode cXP_diskOf 15 = .ok (.iload_n 1, 1) := by decide +kernel
theorem dXP_diskOf_16 : decode cXP_diskOf 16 = .ok (.goto 6, 3) := by decide +kernel
theorem dXP_diskOf_19 : decode cXP_diskOf 19 = .ok (.iload_n 1, 1) := by decide +kernel
theorem dXP_diskOf_20 : decode cXP_diskOf 20 = .ok (.iconst 1, 1) := by decide +kernel
theorem dXP_diskOf_21 : decode cXP_diskOf 21 = .ok (.iadd, 1) := by decide +kernel
theorem dXP_diskOf_22 : decode cXP_diskOf 22 = .ok (.ireturn, 1) := by decide +kernel
def yXP_parityDiskOf : MethodName := ⟨"ParityArray", "parityDiskOf", "(I)I"⟩
abbrev cXP_parityDiskOf : ByteArray := prog_1_method_13_code
def wsXP_parityDiskOf : List Cond := .code yXP_parityDiskOf cXP_parityDiskOf 1 (some .int) :: pz_G
theorem tcXP_parityDiskOf : (.code yXP_parityDiskOf cXP_parityDiskOf 1 (some .int) : Cond) ∈ pz_G := tw_206
theorem dXP_parityDiskOf_0 : decode cXP_parityDiskOf 0 = .ok (.iload_n 0, 1) := by decide +kernel
theorem dXP_parityDiskOf_1 : decode cXP_parityDiskOf 1 = .ok (.iconst 5, 1) := by decide +kernel
theorem dXP_parityDiskOf_2 : decode cXP_parityDiskOf 2 = .ok (.irem, 1) := by decide +kernel
theorem dXP_parityDiskOf_3 : decode cXP_parityDiskOf 3 = .ok (.ireturn, 1) := by decide +kernel
def yXP_othersTogether : MethodName := ⟨"ParityArray", "othersTogether", "(III)J"⟩
abbrev cXP_othersTogether : ByteArray := prog_1_method_17_code
def wsXP_othersTogether : List Cond := .code yXP_othersTogether cXP_othersTogether 7 (some .long) :: pz_G
theorem tcXP_othersTogether : (.code yXP_othersTogether cXP_othersTogether 7 (some .long) : Cond) ∈ pz_G := tw_218
theorem dXP_othersTogether_0 : decode cXP_othersTogether 0 = .ok (.lconst 0, 1) := by decide +kernel
theorem dXP_othersTogether_1 : decode cXP_othersTogether 1 = .ok (.lstore 4, 2) := by decide +kernel
theorem dXP_othersTogether_3 : decode cXP_othersTogether 3 = .ok (.iconst 0, 1) := by decide +kernel
theorem dXP_othersTogether_4 : decode cXP_othersTogether 4 = .ok (.istore 6, 2) := by decide +kernel
theorem dXP_othersTogether_6 : decode cXP_othersTogether 6 = .ok (.iload 6, 2) := by decide +kernel
theorem dXP_othersTogether_8 : decode cXP_othersTogether 8 = .ok (.iconst 5, 1) := by decide +kernel
theorem dXP_othersTogether_9 : decode cXP_othersTogether 9 = .ok (.if_icmp .ge 32, 3) := by decide +kernel
theorem dXP_othersTogether_12 : decode cXP_othersTogether 12 = .ok (.iload 6, 2) := by decide +kernel
theorem dXP_othersTogether_14 : decode cXP_othersTogether 14 = .ok (.iload_n 1, 1) := by decide +kernel
theorem dXP_othersTogether_15 : decode cXP_othersTogether 15 = .ok (.if_icmp .eq 20, 3) := by decide +kernel
theorem dXP_othersTogether_18 : decode cXP_othersTogether 18 = .ok (.lload 4, 2) := by decide +kernel
theorem dXP_othersTogether_20 : decode cXP_othersTogether 20 = .ok (.aload_n 0, 1) := by decide +kernel
theorem dXP_othersTogether_21 : decode cXP_othersTogether 21 = .ok (.getfield 11, 3) := by decide +kernel
theorem dXP_othersTogether_24 : decode cXP_othersTogether 24 = .ok (.iload 6, 2) := by decide +kernel
theorem dXP_othersTogether_26 : decode cXP_othersTogether 26 = .ok (.aaload, 1) := by decide +kernel
theorem dXP_othersTogether_27 : decode cXP_othersTogether 27 = .ok (.iload_n 2, 1) := by decide +kernel
theorem dXP_othersTogether_28 : decode cXP_othersTogether 28 = .ok (.iload_n 3, 1) := by decide +kernel
theorem dXP_othersTogether_29 : decode cXP_othersTogether 29 = .ok (.invokevirtual 144, 3) := by decide +kernel
theorem dXP_othersTogether_32 : decode cXP_othersTogether 32 = .ok (.lxor, 1) := by decide +kernel
theorem dXP_othersTogether_33 : decode cXP_othersTogether 33 = .ok (.lstore 4, 2) := by decide +kernel
theorem dXP_othersTogether_35 : decode cXP_othersTogether 35 = .ok (.iinc 6 1, 3) := by decide +kernel
theorem dXP_othersTogether_38 : decode cXP_othersTogether 38 = .ok (.goto (-32), 3) := by decide +kernel
theorem dXP_othersTogether_41 : decode cXP_othersTogether 41 = .ok (.lload 4, 2) := by decide +kernel
theorem dXP_othersTogether_43 : decode cXP_othersTogether 43 = .ok (.lreturn, 1) := by decide +kernel
def yXP_prepareRows : MethodName := ⟨"ParityArray", "prepareRows", "(IIJ)V"⟩
abbrev cXP_prepareRows : ByteArray := prog_1_method_18_code
def wsXP_prepareRows : List Cond := .code yXP_prepareRows cXP_prepareRows 8 (none : Option Jvm.ClassFile.FieldType) :: pz_G
theorem tcXP_prepareRows : (.code yXP_prepareRows cXP_prepareRows 8 (none : Option Jvm.ClassFile.FieldType) : Cond) ∈ pz_G := tw_222
theorem dXP_prepareRows_0 : decode cXP_prepareRows 0 = .ok (.iload_n 1, 1) := by decide +kernel
theorem dXP_prepareRows_1 : decode cXP_prepareRows 1 = .ok (.invokestatic 127, 3) := by decide +kernel
theorem dXP_prepareRows_4 : decode cXP_prepareRows 4 = .ok (.istore 5, 2) := by decide +kernel
theorem dXP_prepareRows_6 : decode cXP_prepareRows 6 = .ok (.aload_n 0, 1) := by decide +kernel
theorem dXP_prepareRows_7 : decode cXP_prepareRows 7 = .ok (.getfield 11, 3) := by decide +kernel
theorem dXP_prepareRows_10 : decode cXP_prepareRows 10 = .ok (.iload 5, 2) := by decide +kernel
theorem dXP_prepareRows_12 : decode cXP_prepareRows 12 = .ok (.invokestatic 131, 3) := by decide +kernel
theorem dXP_prepareRows_15 : decode cXP_prepareRows 15 = .ok (.aaload, 1) := by decide +kernel
theorem dXP_prepareRows_16 : decode cXP_prepareRows 16 = .ok (.astore 6, 2) := by decide +kernel
theorem dXP_prepareRows_18 : decode cXP_prepareRows 18 = .ok (.iconst 0, 1) := by decide +kernel
theorem dXP_prepareRows_19 : decode cXP_prepareRows 19 = .ok (.istore 7, 2) := by decide +kernel
theorem dXP_prepareRows_21 : decode cXP_prepareRows 21 = .ok (.iload 7, 2) := by decide +kernel
theorem dXP_prepareRows_23 : decode cXP_prepareRows 23 = .ok (.bipush 16, 2) := by decide +kernel
theorem dXP_prepareRows_25 : decode cXP_prepareRows 25 = .ok (.if_icmp .ge 47, 3) := by decide +kernel
theorem dXP_prepareRows_28 : decode cXP_prepareRows 28 = .ok (.aload_n 0, 1) := by decide +kernel
theorem dXP_prepareRows_29 : decode cXP_prepareRows 29 = .ok (.getfield 22, 3) := by decide +kernel
theorem dXP_prepareRows_32 : decode cXP_prepareRows 32 = .ok (.iload 7, 2) := by decide +kernel
theorem dXP_prepareRows_34 : decode cXP_prepareRows 34 = .ok (.aload_n 0, 1) := by decide +kernel
theorem dXP_prepareRows_35 : decode cXP_prepareRows 35 = .ok (.iload_n 1, 1) := by decide +kernel
theorem dXP_prepareRows_36 : decode cXP_prepareRows 36 = .ok (.iload 7, 2) := by decide +kernel
theorem dXP_prepareRows_38 : decode cXP_prepareRows 38 = .ok (.invokevirtual 53, 3) := by decide +kernel
theorem dXP_prepareRows_41 : decode cXP_prepareRows 41 = .ok (.lastore, 1) := by decide +kernel
theorem dXP_prepareRows_42 : decode cXP_prepareRows 42 = .ok (.aload_n 0, 1) := by decide +kernel
theorem dXP_prepareRows_43 : decode cXP_prepareRows 43 = .ok (.getfield 26, 3) := by decide +kernel
theorem dXP_prepareRows_46 : decode cXP_prepareRows 46 = .ok (.iload 7, 2) := by decide +kernel
theorem dXP_prepareRows_48 : decode cXP_prepareRows 48 = .ok (.aload 6, 2) := by decide +kernel
theorem dXP_prepareRows_50 : decode cXP_prepareRows 50 = .ok (.iload 5, 2) := by decide +kernel
theorem dXP_prepareRows_52 : decode cXP_prepareRows 52 = .ok (.iload 7, 2) := by decide +kernel
theorem dXP_prepareRows_54 : decode cXP_prepareRows 54 = .ok (.invokevirtual 144, 3) := by decide +kernel
theorem dXP_prepareRows_57 : decode cXP_prepareRows 57 = .ok (.aload_n 0, 1) := by decide +kernel
theorem dXP_prepareRows_58 : decode cXP_prepareRows 58 = .ok (.getfield 22, 3) := by decide +kernel
theorem dXP_prepareRows_61 : decode cXP_prepareRows 61 = .ok (.iload 7, 2) := by decide +kernel
theorem dXP_prepareRows_63 : decode cXP_prepareRows 63 = .ok (.laload, 1) := by decide +kernel
theorem dXP_prepareRows_64 : decode cXP_prepareRows 64 = .ok (.lxor, 1) := by decide +kernel
theorem dXP_prepareRows_65 : decode cXP_prepareRows 65 = .ok (.lastore, 1) := by decide +kernel
theorem dXP_prepareRows_66 : decode cXP_prepareRows 66 = .ok (.iinc 7 1, 3) := by decide +kernel
theorem dXP_prepareRows_69 : decode cXP_prepareRows 69 = .ok (.goto (-48), 3) := by decide +kernel
theorem dXP_prepareRows_72 : decode cXP_prepareRows 72 = .ok (.aload_n 0, 1) := by decide +kernel
theorem dXP_prepareRows_73 : decode cXP_prepareRows 73 = .ok (.getfield 22, 3) := by decide +kernel
theorem dXP_prepareRows_76 : decode cXP_prepareRows 76 = .ok (.iload_n 2, 1) := by decide +kernel
theorem dXP_prepareRows_77 : decode cXP_prepareRows 77 = .ok (.lload_n 3, 1) := by decide +kernel
theorem dXP_prepareRows_78 : decode cXP_prepareRows 78 = .ok (.lastore, 1) := by decide +kernel
theorem dXP_prepareRows_79 : decode cXP_prepareRows 79 = .ok (.iconst 0, 1) := by decide +kernel
theorem dXP_prepareRows_80 : decode cXP_prepareRows 80 = .ok (.istore 7, 2) := by decide +kernel
theorem dXP_prepareRows_82 : decode cXP_prepareRows 82 = .ok (.iload 7, 2) := by decide +kernel
theorem dXP_prepareRows_84 : decode cXP_prepareRows 84 = .ok (.bipush 16, 2) := by decide +kernel
theorem dXP_prepareRows_86 : decode cXP_prepareRows 86 = .ok (.if_icmp .ge 31, 3) := by decide +kernel
theorem dXP_prepareRows_89 : decode cXP_prepareRows 89 = .ok (.aload_n 0, 1) := by decide +kernel
theorem dXP_prepareRows_90 : decode cXP_prepareRows 90 = .ok (.getfield 29, 3) := by decide +kernel
theorem dXP_prepareRows_93 : decode cXP_prepareRows 93 = .ok (.iload 7, 2) := by decide +kernel
theorem dXP_prepareRows_95 : decode cXP_prepareRows 95 = .ok (.aload_n 0, 1) := by decide +kernel
theorem dXP_prepareRows_96 : decode cXP_prepareRows 96 = .ok (.getfield 26, 3) := by decide +kernel
theorem dXP_prepareRows_99 : decode cXP_prepareRows 99 = .ok (.iload 7, 2) := by decide +kernel
theorem dXP_prepareRows_101 : decode cXP_prepareRows 101 = .ok (.laload, 1) := by decide +kernel
theorem dXP_prepareRows_102 : decode cXP_prepareRows 102 = .ok (.aload_n 0, 1) := by decide +kernel
theorem dXP_prepareRows_103 : decode cXP_prepareRows 103 = .ok (.getfield 22, 3) := by decide +kernel
theorem dXP_prepareRows_106 : decode cXP_prepareRows 106 = .ok (.iload 7, 2) := by decide +kernel
theorem dXP_prepareRows_108 : decode cXP_prepareRows 108 = .ok (.laload, 1) := by decide +kernel
theorem dXP_prepareRows_109 : decode cXP_prepareRows 109 = .ok (.lxor, 1) := by decide +kernel
theorem dXP_prepareRows_110 : decode cXP_prepareRows 110 = .ok (.lastore, 1) := by decide +kernel
theorem dXP_prepareRows_111 : decode cXP_prepareRows 111 = .ok (.iinc 7 1, 3) := by decide +kernel
theorem dXP_prepareRows_114 : decode cXP_prepareRows 114 = .ok (.goto (-32), 3) := by decide +kernel
theorem dXP_prepareRows_117 : decode cXP_prepareRows 117 = .ok (.return_, 1) := by decide +kernel
def yXP_writeRows : MethodName := ⟨"ParityArray", "writeRows", "(I)V"⟩
abbrev cXP_writeRows : ByteArray := prog_1_method_19_code
def wsXP_writeRows : List Cond := .code yXP_writeRows cXP_writeRows 5 (none : Option Jvm.ClassFile.FieldType) :: pz_G
theorem tcXP_writeRows : (.code yXP_writeRows cXP_writeRows 5 (none : Option Jvm.ClassFile.FieldType) : Cond) ∈ pz_G := tw_230
theorem dXP_writeRows_0 : decode cXP_writeRows 0 = .ok (.iload_n 1, 1) := by decide +kernel
theorem dXP_writeRows_1 : decode cXP_writeRows 1 = .ok (.invokestatic 127, 3) := by decide +kernel
theorem dXP_writeRows_4 : decode cXP_writeRows 4 = .ok (.istore_n 2, 1) := by decide +kernel
theorem dXP_writeRows_5 : decode cXP_writeRows 5 = .ok (.aload_n 0, 1) := by decide +kernel
theorem dXP_writeRows_6 : decode cXP_writeRows 6 = .ok (.getfield 11, 3) := by decide +kernel
theorem dXP_writeRows_9 : decode cXP_writeRows 9 = .ok (.iload_n 2, 1) := by decide +kernel
theorem dXP_writeRows_10 : decode cXP_writeRows 10 = .ok (.invokestatic 131, 3) := by decide +kernel
theorem dXP_writeRows_13 : decode cXP_writeRows 13 = .ok (.aaload, 1) := by decide +kernel
theorem dXP_writeRows_14 : decode cXP_writeRows 14 = .ok (.astore_n 3, 1) := by decide +kernel
theorem dXP_writeRows_15 : decode cXP_writeRows 15 = .ok (.aload_n 0, 1) := by decide +kernel
theorem dXP_writeRows_16 : decode cXP_writeRows 16 = .ok (.getfield 11, 3) := by decide +kernel
theorem dXP_writeRows_19 : decode cXP_writeRows 19 = .ok (.iload_n 1, 1) := by decide +kernel
theorem dXP_writeRows_20 : decode cXP_writeRows 20 = .ok (.invokestatic 138, 3) := by decide +kernel
theorem dXP_writeRows_23 : decode cXP_writeRows 23 = .ok (.aaload, 1) := by decide +kernel
theorem dXP_writeRows_24 : decode cXP_writeRows 24 = .ok (.astore 4, 2) := by decide +kernel
theorem dXP_writeRows_26 : decode cXP_writeRows 26 = .ok (.aload_n 3, 1) := by decide +kernel
theorem dXP_writeRows_27 : decode cXP_writeRows 27 = .ok (.iload_n 2, 1) := by decide +kernel
theorem dXP_writeRows_28 : decode cXP_writeRows 28 = .ok (.invokevirtual 141, 3) := by decide +kernel
theorem dXP_writeRows_31 : decode cXP_writeRows 31 = .ok (.ifCond .eq 22, 3) := by decide +kernel
theorem dXP_writeRows_34 : decode cXP_writeRows 34 = .ok (.aload_n 3, 1) := by decide +kernel
theorem dXP_writeRows_35 : decode cXP_writeRows 35 = .ok (.iload_n 1, 1) := by decide +kernel
theorem dXP_writeRows_36 : decode cXP_writeRows 36 = .ok (.aload_n 0, 1) := by decide +kernel
theorem dXP_writeRows_37 : decode cXP_writeRows 37 = .ok (.getfield 26, 3) := by decide +kernel
theorem dXP_writeRows_40 : decode cXP_writeRows 40 = .ok (.aload_n 0, 1) := by decide +kernel
theorem dXP_writeRows_41 : decode cXP_writeRows 41 = .ok (.getfield 18, 3) := by decide +kernel
theorem dXP_writeRows_44 : decode cXP_writeRows 44 = .ok (.sipush 136, 3) := by decide +kernel
theorem dXP_writeRows_47 : decode cXP_writeRows 47 = .ok (.invokevirtual 151, 3) := by decide +kernel
theorem dXP_writeRows_50 : decode cXP_writeRows 50 = .ok (.invokevirtual 154, 3) := by decide +kernel
theorem dXP_writeRows_53 : decode cXP_writeRows 53 = .ok (.aload 4, 2) := by decide +kernel
theorem dXP_writeRows_55 : decode cXP_writeRows 55 = .ok (.iload_n 2, 1) := by decide +kernel
theorem dXP_writeRows_56 : decode cXP_writeRows 56 = .ok (.invokevirtual 141, 3) := by decide +kernel
theorem dXP_writeRows_59 : decode cXP_writeRows 59 = .ok (.ifCond .eq 23, 3) := by decide +kernel
theorem dXP_writeRows_62 : decode cXP_writeRows 62 = .ok (.aload 4, 2) := by decide +kernel
theorem dXP_writeRows_64 : decode cXP_writeRows 64 = .ok (.iload_n 2, 1) := by decide +kernel
theorem dXP_writeRows_65 : decode cXP_writeRows 65 = .ok (.aload_n 0, 1) := by decide +kernel
theorem dXP_writeRows_66 : decode cXP_writeRows 66 = .ok (.getfield 22, 3) := by decide +kernel
theorem dXP_writeRows_69 : decode cXP_writeRows 69 = .ok (.aload_n 0, 1) := by decide +kernel
theorem dXP_writeRows_70 : decode cXP_writeRows 70 = .ok (.getfield 18, 3) := by decide +kernel
theorem dXP_writeRows_73 : decode cXP_writeRows 73 = .ok (.sipush 128, 3) := by decide +kernel
theorem dXP_writeRows_76 : decode cXP_writeRows 76 = .ok (.invokevirtual 151, 3) := by decide +kernel
theorem dXP_writeRows_79 : decode cXP_writeRows 79 = .ok (.invokevirtual 158, 3) := by decide +kernel
theorem dXP_writeRows_82 : decode cXP_writeRows 82 = .ok (.aload_n 3, 1) := by decide +kernel
theorem dXP_writeRows_83 : decode cXP_writeRows 83 = .ok (.iload_n 2, 1) := by decide +kernel
theorem dXP_writeRows_84 : decode cXP_writeRows 84 = .ok (.invokevirtual 141, 3) := by decide +kernel
theorem dXP_writeRows_87 : decode cXP_writeRows 87 = .ok (.ifCond .eq 22, 3) := by decide +kernel
theorem dXP_writeRows_90 : decode cXP_writeRows 90 = .ok (.aload_n 3, 1) := by decide +kernel
theorem dXP_writeRows_91 : decode cXP_writeRows 91 = .ok (.iload_n 2, 1) := by decide +kernel
theorem dXP_writeRows_92 : decode cXP_writeRows 92 = .ok (.aload_n 0, 1) := by decide +kernel
theorem dXP_writeRows_93 : decode cXP_writeRows 93 = .ok (.getfield 29, 3) := by decide +kernel
theorem dXP_writeRows_96 : decode cXP_writeRows 96 = .ok (.aload_n 0, 1) := by decide +kernel
theorem dXP_writeRows_97 : decode cXP_writeRows 97 = .ok (.getfield 18, 3) := by decide +kernel
theorem dXP_writeRows_100 : decode cXP_writeRows 100 = .ok (.sipush 128, 3) := by decide +kernel
theorem dXP_writeRows_103 : decode cXP_writeRows 103 = .ok (.invokevirtual 151, 3) := by decide +kernel
theorem dXP_writeRows_106 : decode cXP_writeRows 106 = .ok (.invokevirtual 158, 3) := by decide +kernel
theorem dXP_writeRows_109 : decode cXP_writeRows 109 = .ok (.return_, 1) := by decide +kernel
def yXP_get : MethodName := ⟨"ParityArray", "get", "(II)J"⟩
abbrev cXP_get : ByteArray := prog_1_method_3_code
def wsXP_get : List Cond := .code yXP_get cXP_get 3 (some .long) :: pz_G
theorem tcXP_get : (.code yXP_get cXP_get 3 (some .long) : Cond) ∈ pz_G := tw_276
theorem dXP_get_0 : decode cXP_get 0 = .ok (.aload_n 0, 1) := by decide +kernel
theorem dXP_get_1 : decode cXP_get 1 = .ok (.getfield 18, 3) := by decide +kernel
theorem dXP_get_4 : decode cXP_get 4 = .ok (.getfield 33, 3) := by decide +kernel
theorem dXP_get_7 : decode cXP_get 7 = .ok (.ifCond .ne 13, 3) := by decide +kernel
theorem dXP_get_10 : decode cXP_get 10 = .ok (.new 37, 3) := by decide +kernel
theorem dXP_get_13 : decode cXP_get 13 = .ok (.dup, 1) := by decide +kernel
theorem dXP_get_14 : decode cXP_get 14 = .ok (.ldc 39, 2) := by decide +kernel
theorem dXP_get_16 : decode cXP_get 16 = .ok (.invokespecial 41, 3) := by decide +kernel
theorem dXP_get_19 : decode cXP_get 19 = .ok (.athrow, 1) := by decide +kernel
theorem dXP_get_20 : decode cXP_get 20 = .ok (.iload_n 1, 1) := by decide +kernel
theorem dXP_get_21 : decode cXP_get 21 = .ok (.iload_n 2, 1) := by decide +kernel
theorem dXP_get_22 : decode cXP_get 22 = .ok (.invokestatic 44, 3) := by decide +kernel
theorem dXP_get_25 : decode cXP_get 25 = .ok (.ifCond .ne 13, 3) := by decide +kernel
theorem dXP_get_28 : decode cXP_get 28 = .ok (.new 48, 3) := by decide +kernel
theorem dXP_get_31 : decode cXP_get 31 = .ok (.dup, 1) := by decide +kernel
theorem dXP_get_32 : decode cXP_get 32 = .ok (.ldc 50, 2) := by decide +kernel
theorem dXP_get_34 : decode cXP_get 34 = .ok (.invokespecial 52, 3) := by decide +kernel
theorem dXP_get_37 : decode cXP_get 37 = .ok (.athrow, 1) := by decide +kernel
theorem dXP_get_38 : decode cXP_get 38 = .ok (.aload_n 0, 1) := by decide +kernel
theorem dXP_get_39 : decode cXP_get 39 = .ok (.iload_n 1, 1) := by decide +kernel
theorem dXP_get_40 : decode cXP_get 40 = .ok (.iload_n 2, 1) := by decide +kernel
theorem dXP_get_41 : decode cXP_get 41 = .ok (.invokevirtual 53, 3) := by decide +kernel
theorem dXP_get_44 : decode cXP_get 44 = .ok (.lreturn, 1) := by decide +kernel
def yXP_die : MethodName := ⟨"ParityArray", "die", "(I)V"⟩
abbrev cXP_die : ByteArray := prog_1_method_4_code
def wsXP_die : List Cond := .code yXP_die cXP_die 2 (none : Option Jvm.ClassFile.FieldType) :: pz_G
theorem tcXP_die : (.code yXP_die cXP_die 2 (none : Option Jvm.ClassFile.FieldType) : Cond) ∈ pz_G := tw_283
theorem dXP_die_0 : decode cXP_die 0 = .ok (.iload_n 1, 1) := by decide +kernel
theorem dXP_die_1 : decode cXP_die 1 = .ok (.ifCond .lt 8, 3) := by decide +kernel
theorem dXP_die_4 : decode cXP_die 4 = .ok (.iload_n 1, 1) := by decide +kernel
theorem dXP_die_5 : decode cXP_die 5 = .ok (.iconst 5, 1) := by decide +kernel
theorem dXP_die_6 : decode cXP_die 6 = .ok (.if_icmp .lt 13, 3) := by decide +kernel
theorem dXP_die_9 : decode cXP_die 9 = .ok (.new 48, 3) := by decide +kernel
theorem dXP_die_12 : decode cXP_die 12 = .ok (.dup, 1) := by decide +kernel
theorem dXP_die_13 : decode cXP_die 13 = .ok (.ldc 77, 2) := by decide +kernel
theorem dXP_die_15 : decode cXP_die 15 = .ok (.invokespecial 52, 3) := by decide +kernel
theorem dXP_die_18 : decode cXP_die 18 = .ok (.athrow, 1) := by decide +kernel
theorem dXP_die_19 : decode cXP_die 19 = .ok (.aload_n 0, 1) := by decide +kernel
theorem dXP_die_20 : decode cXP_die 20 = .ok (.getfield 18, 3) := by decide +kernel
theorem dXP_die_23 : decode cXP_die 23 = .ok (.getfield 33, 3) := by decide +kernel
theorem dXP_die_26 : decode cXP_die 26 = .ok (.ifCond .ne 13, 3) := by decide +kernel
theorem dXP_die_29 : decode cXP_die 29 = .ok (.new 37, 3) := by decide +kernel
theorem dXP_die_32 : decode cXP_die 32 = .ok (.dup, 1) := by decide +kernel
theorem dXP_die_33 : decode cXP_die 33 = .ok (.ldc 39, 2) := by decide +kernel
theorem dXP_die_35 : decode cXP_die 35 = .ok (.invokespecial 41, 3) := by decide +kernel
theorem dXP_die_38 : decode cXP_die 38 = .ok (.athrow, 1) := by decide +kernel
theorem dXP_die_39 : decode cXP_die 39 = .ok (.aload_n 0, 1) := by decide +kernel
theorem dXP_die_40 : decode cXP_die 40 = .ok (.invokevirtual 79, 3) := by decide +kernel
theorem dXP_die_43 : decode cXP_die 43 = .ok (.iconst (-1), 1) := by decide +kernel
theorem dXP_die_44 : decode cXP_die 44 = .ok (.if_icmp .eq 13, 3) := by decide +kernel
theorem dXP_die_47 : decode cXP_die 47 = .ok (.new 37, 3) := by decide +kernel
theorem dXP_die_50 : decode cXP_die 50 = .ok (.dup, 1) := by decide +kernel
theorem dXP_die_51 : decode cXP_die 51 = .ok (.ldc 83, 2) := by decide +kernel
theorem dXP_die_53 : decode cXP_die 53 = .ok (.invokespecial 41, 3) := by decide +kernel
theorem dXP_die_56 : decode cXP_die 56 = .ok (.athrow, 1) := by decide +kernel
theorem dXP_die_57 : decode cXP_die 57 = .ok (.aload_n 0, 1) := by decide +kernel
theorem dXP_die_58 : decode cXP_die 58 = .ok (.getfield 11, 3) := by decide +kernel
theorem dXP_die_61 : decode cXP_die 61 = .ok (.iload_n 1, 1) := by decide +kernel
theorem dXP_die_62 : decode cXP_die 62 = .ok (.aaload, 1) := by decide +kernel
theorem dXP_die_63 : decode cXP_die 63 = .ok (.invokevirtual 85, 3) := by decide +kernel
theorem dXP_die_66 : decode cXP_die 66 = .ok (.return_, 1) := by decide +kernel
def yXP_unwellDisk : MethodName := ⟨"ParityArray", "unwellDisk", "()I"⟩
abbrev cXP_unwellDisk : ByteArray := prog_1_method_15_code
def wsXP_unwellDisk : List Cond := .code yXP_unwellDisk cXP_unwellDisk 2 (some .int) :: pz_G
theorem tcXP_unwellDisk : (.code yXP_unwellDisk cXP_unwellDisk 2 (some .int) : Cond) ∈ pz_G := tw_288
theorem dXP_unwellDisk_0 : decode cXP_unwellDisk 0 = .ok (.iconst 0, 1) := by decide +kernel
theorem dXP_unwellDisk_1 : decode cXP_unwellDisk 1 = .ok (.istore_n 1, 1) := by decide +kernel
theorem dXP_unwellDisk_2 : decode cXP_unwellDisk 2 = .ok (.iload_n 1, 1) := by decide +kernel
theorem dXP_unwellDisk_3 : decode cXP_unwellDisk 3 = .ok (.iconst 5, 1) := by decide +kernel
theorem dXP_unwellDisk_4 : decode cXP_unwellDisk 4 = .ok (.if_icmp .ge 23, 3) := by decide +kernel
theorem dXP_unwellDisk_7 : decode cXP_unwellDisk 7 = .ok (.aload_n 0, 1) := by decide +kernel
theorem dXP_unwellDisk_8 : decode cXP_unwellDisk 8 = .ok (.getfield 11, 3) := by decide +kernel
theorem dXP_unwellDisk_11 : decode cXP_unwellDisk 11 = .ok (.iload_n 1, 1) := by decide +kernel
theorem dXP_unwellDisk_12 : decode cXP_unwellDisk 12 = .ok (.aaload, 1) := by decide +kernel
theorem dXP_unwellDisk_13 : decode cXP_unwellDisk 13 = .ok (.invokevirtual 134, 3) := by decide +kernel
theorem dXP_unwellDisk_16 : decode cXP_unwellDisk 16 = .ok (.ifCond .ne 5, 3) := by decide +kernel
theorem dXP_unwellDisk_19 : decode cXP_unwellDisk 19 = .ok (.iload_n 1, 1) := by decide +kernel
theorem dXP_unwellDisk_20 : decode cXP_unwellDisk 20 = .ok (.ireturn, 1) := by decide +kernel
theorem dXP_unwellDisk_21 : decode cXP_unwellDisk 21 = .ok (.iinc 1 1, 3) := by decide +kernel
theorem dXP_unwellDisk_24 : decode cXP_unwellDisk 24 = .ok (.goto (-22), 3) := by decide +kernel
theorem dXP_unwellDisk_27 : decode cXP_unwellDisk 27 = .ok (.iconst (-1), 1) := by decide +kernel
theorem dXP_unwellDisk_28 : decode cXP_unwellDisk 28 = .ok (.ireturn, 1) := by decide +kernel
def yXP_replace : MethodName := ⟨"ParityArray", "replace", "()I"⟩
abbrev cXP_replace : ByteArray := prog_1_method_5_code
def wsXP_replace : List Cond := .code yXP_replace cXP_replace 2 (some .int) :: pz_G
theorem tcXP_replace : (.code yXP_replace cXP_replace 2 (some .int) : Cond) ∈ pz_G := tw_307
theorem dXP_replace_0 : decode cXP_replace 0 = .ok (.aload_n 0, 1) := by decide +kernel
theorem dXP_replace_1 : decode cXP_replace 1 = .ok (.invokevirtual 79, 3) := by decide +kernel
theorem dXP_replace_4 : decode cXP_replace 4 = .ok (.istore_n 1, 1) := by decide +kernel
theorem dXP_replace_5 : decode cXP_replace 5 = .ok (.iload_n 1, 1) := by decide +kernel
theorem dXP_replace_6 : decode cXP_replace 6 = .ok (.iconst (-1), 1) := by decide +kernel
theorem dXP_replace_7 : decode cXP_replace 7 = .ok (.if_icmp .eq 15, 3) := by decide +kernel
theorem dXP_replace_10 : decode cXP_replace 10 = .ok (.aload_n 0, 1) := by decide +kernel
theorem dXP_replace_11 : decode cXP_replace 11 = .ok (.getfield 11, 3) := by decide +kernel
theorem dXP_replace_14 : decode cXP_replace 14 = .ok (.iload_n 1, 1) := by decide +kernel
theorem dXP_replace_15 : decode cXP_replace 15 = .ok (.aaload, 1) := by decide +kernel
theorem dXP_replace_16 : decode cXP_replace 16 = .ok (.getfield 88, 3) := by decide +kernel
theorem dXP_replace_19 : decode cXP_replace 19 = .ok (.ifCond .ne 13, 3) := by decide +kernel
theorem dXP_replace_22 : decode cXP_replace 22 = .ok (.new 37, 3) := by decide +kernel
theorem dXP_replace_25 : decode cXP_replace 25 = .ok (.dup, 1) := by decide +kernel
theorem dXP_replace_26 : decode cXP_replace 26 = .ok (.ldc 91, 2) := by decide +kernel
theorem dXP_replace_28 : decode cXP_replace 28 = .ok (.invokespecial 41, 3) := by decide +kernel
theorem dXP_replace_31 : decode cXP_replace 31 = .ok (.athrow, 1) := by decide +kernel
theorem dXP_replace_32 : decode cXP_replace 32 = .ok (.aload_n 0, 1) := by decide +kernel
theorem dXP_replace_33 : decode cXP_replace 33 = .ok (.getfield 11, 3) := by decide +kernel
theorem dXP_replace_36 : decode cXP_replace 36 = .ok (.iload_n 1, 1) := by decide +kernel
theorem dXP_replace_37 : decode cXP_replace 37 = .ok (.aaload, 1) := by decide +kernel
theorem dXP_replace_38 : decode cXP_replace 38 = .ok (.iconst 0, 1) := by decide +kernel
theorem dXP_replace_39 : decode cXP_replace 39 = .ok (.putfield 88, 3) := by decide +kernel
theorem dXP_replace_42 : decode cXP_replace 42 = .ok (.iload_n 1, 1) := by decide +kernel
theorem dXP_replace_43 : decode cXP_replace 43 = .ok (.ireturn, 1) := by decide +kernel
def yXP_rebuild : MethodName := ⟨"ParityArray", "rebuild", "()I"⟩
abbrev cXP_rebuild : ByteArray := prog_1_method_6_code
def wsXP_rebuild : List Cond := .code yXP_rebuild cXP_rebuild 2 (some .int) :: pz_G
theorem tcXP_rebuild : (.code yXP_rebuild cXP_rebuild 2 (some .int) : Cond) ∈ pz_G := tw_315
theorem dXP_rebuild_0 : decode cXP_rebuild 0 = .ok (.aload_n 0, 1) := by decide +kernel
theorem dXP_rebuild_1 : decode cXP_rebuild 1 = .ok (.getfield 18, 3) := by decide +kernel
theorem dXP_rebuild_4 : decode cXP_rebuild 4 = .ok (.getfield 33, 3) := by decide +kernel
theorem dXP_rebuild_7 : decode cXP_rebuild 7 = .ok (.ifCond .ne 13, 3) := by decide +kernel
theorem dXP_rebuild_10 : decode cXP_rebuild 10 = .ok (.new 37, 3) := by decide +kernel
theorem dXP_rebuild_13 : decode cXP_rebuild 13 = .ok (.dup, 1) := by decide +kernel
theorem dXP_rebuild_14 : decode cXP_rebuild 14 = .ok (.ldc 39, 2) := by decide +kernel
theorem dXP_rebuild_16 : decode cXP_rebuild 16 = .ok (.invokespecial 41, 3) := by decide +kernel
theorem dXP_rebuild_19 : decode cXP_rebuild 19 = .ok (.athrow, 1) := by decide +kernel
theorem dXP_rebuild_20 : decode cXP_rebuild 20 = .ok (.aload_n 0, 1) := by decide +kernel
theorem dXP_rebuild_21 : decode cXP_rebuild 21 = .ok (.invokevirtual 79, 3) := by decide +kernel
theorem dXP_rebuild_24 : decode cXP_rebuild 24 = .ok (.istore_n 1, 1) := by decide +kernel
theorem dXP_rebuild_25 : decode cXP_rebuild 25 = .ok (.iload_n 1, 1) := by decide +kernel
theorem dXP_rebuild_26 : decode cXP_rebuild 26 = .ok (.iconst (-1), 1) := by decide +kernel
theorem dXP_rebuild_27 : decode cXP_rebuild 27 = .ok (.if_icmp .eq 15, 3) := by decide +kernel
theorem dXP_rebuild_30 : decode cXP_rebuild 30 = .ok (.aload_n 0, 1) := by decide +kernel
theorem dXP_rebuild_31 : decode cXP_rebuild 31 = .ok (.getfield 11, 3) := by decide +kernel
theorem dXP_rebuild_34 : decode cXP_rebuild 34 = .ok (.iload_n 1, 1) := by decide +kernel
theorem dXP_rebuild_35 : decode cXP_rebuild 35 = .ok (.aaload, 1) := by decide +kernel
theorem dXP_rebuild_36 : decode cXP_rebuild 36 = .ok (.getfield 88, 3) := by decide +kernel
theorem dXP_rebuild_39 : decode cXP_rebuild 39 = .ok (.ifCond .eq 13, 3) := by decide +kernel
theorem dXP_rebuild_42 : decode cXP_rebuild 42 = .ok (.new 37, 3) := by decide +kernel
theorem dXP_rebuild_45 : decode cXP_rebuild 45 = .ok (.dup, 1) := by decide +kernel
theorem dXP_rebuild_46 : decode cXP_rebuild 46 = .ok (.ldc 93, 2) := by decide +kernel
theorem dXP_rebuild_48 : decode cXP_rebuild 48 = .ok (.invokespecial 41, 3) := by decide +kernel
theorem dXP_rebuild_51 : decode cXP_rebuild 51 = .ok (.athrow, 1) := by decide +kernel
theorem dXP_rebuild_52 : decode cXP_rebuild 52 = .ok (.aload_n 0, 1) := by decide +kernel
theorem dXP_rebuild_53 : decode cXP_rebuild 53 = .ok (.iload_n 1, 1) := by decide +kernel
theorem dXP_rebuild_54 : decode cXP_rebuild 54 = .ok (.aload_n 0, 1) := by decide +kernel
theorem dXP_rebuild_55 : decode cXP_rebuild 55 = .ok (.getfield 11, 3) := by decide +kernel
theorem dXP_rebuild_58 : decode cXP_rebuild 58 = .ok (.iload_n 1, 1) := by decide +kernel
theorem dXP_rebuild_59 : decode cXP_rebuild 59 = .ok (.aaload, 1) := by decide +kernel
theorem dXP_rebuild_60 : decode cXP_rebuild 60 = .ok (.getfield 95, 3) := by decide +kernel
theorem dXP_rebuild_63 : decode cXP_rebuild 63 = .ok (.invokevirtual 99, 3) := by decide +kernel
theorem dXP_rebuild_66 : decode cXP_rebuild 66 = .ok (.aload_n 0, 1) := by decide +kernel
theorem dXP_rebuild_67 : decode cXP_rebuild 67 = .ok (.getfield 11, 3) := by decide +kernel
theorem dXP_rebuild_70 : decode cXP_rebuild 70 = .ok (.iload_n 1, 1) := by decide +kernel
theorem dXP_rebuild_71 : decode cXP_rebuild 71 = .ok (.aaload, 1) := by decide +kernel
theorem dXP_rebuild_72 : decode cXP_rebuild 72 = .ok (.dup, 1) := by decide +kernel
theorem dXP_rebuild_73 : decode cXP_rebuild 73 = .ok (.getfield 95, 3) := by decide +kernel
theorem dXP_rebuild_76 : decode cXP_rebuild 76 = .ok (.iconst 1, 1) := by decide +kernel
theorem dXP_rebuild_77 : decode cXP_rebuild 77 = .ok (.iadd, 1) := by decide +kernel
theorem dXP_rebuild_78 : decode cXP_rebuild 78 = .ok (.putfield 95, 3) := by decide +kernel
theorem dXP_rebuild_81 : decode cXP_rebuild 81 = .ok (.sipush 150, 3) := by decide +kernel
theorem dXP_rebuild_84 : decode cXP_rebuild 84 = .ok (.aload_n 0, 1) := by decide +kernel
theorem dXP_rebuild_85 : decode cXP_rebuild 85 = .ok (.getfield 11, 3) := by decide +kernel
theorem dXP_rebuild_88 : decode cXP_rebuild 88 = .ok (.iload_n 1, 1) := by decide +kernel
theorem dXP_rebuild_89 : decode cXP_rebuild 89 = .ok (.aaload, 1) := by decide +kernel
theorem dXP_rebuild_90 : decode cXP_rebuild 90 = .ok (.getfield 95, 3) := by decide +kernel
theorem dXP_rebuild_93 : decode cXP_rebuild 93 = .ok (.isub, 1) := by decide +kernel
theorem dXP_rebuild_94 : decode cXP_rebuild 94 = .ok (.ireturn, 1) := by decide +kernel
def yXP_rebuildStripe : MethodName := ⟨"ParityArray", "rebuildStripe", "(II)V"⟩
abbrev cXP_rebuildStripe : ByteArray := prog_1_method_21_code
def wsXP_rebuildStripe : List Cond := .code yXP_rebuildStripe cXP_rebuildStripe 4 (none : Option Jvm.ClassFile.FieldType) :: pz_G
theorem tcXP_rebuildStripe : (.code yXP_rebuildStripe cXP_rebuildStripe 4 (none : Option Jvm.ClassFile.FieldType) : Cond) ∈ pz_G := tw_320
theorem dXP_rebuildStripe_0 : decode cXP_rebuildStripe 0 = .ok (.iconst 0, 1) := by decide +kernel
theorem dXP_rebuildStripe_1 : decode cXP_rebuildStripe 1 = .ok (.istore_n 3, 1) := by decide +kernel
theorem dXP_rebuildStripe_2 : decode cXP_rebuildStripe 2 = .ok (.iload_n 3, 1) := by decide +kernel
theorem dXP_rebuildStripe_3 : decode cXP_rebuildStripe 3 = .ok (.bipush 16, 2) := by decide +kernel
theorem dXP_rebuildStripe_5 : decode cXP_rebuildStripe 5 = .ok (.if_icmp .ge 22, 3) := by decide +kernel
theorem dXP_rebuildStripe_8 : decode cXP_rebuildStripe 8 = .ok (.aload_n 0, 1) := by decide +kernel
theorem dXP_rebuildStripe_9 : decode cXP_rebuildStripe 9 = .ok (.getfield 22, 3) := by decide +kernel
theorem dXP_rebuildStripe_12 : decode cXP_rebuildStripe 12 = .ok (.iload_n 3, 1) := by decide +kernel
theorem dXP_rebuildStripe_13 : decode cXP_rebuildStripe 13 = .ok (.aload_n 0, 1) := by decide +kernel
theorem dXP_rebuildStripe_14 : decode cXP_rebuildStripe 14 = .ok (.iload_n 1, 1) := by decide +kernel
theorem dXP_rebuildStripe_15 : decode cXP_rebuildStripe 15 = .ok (.iload_n 2, 1) := by decide +kernel
theorem dXP_rebuildStripe_16 : decode cXP_rebuildStripe 16 = .ok (.iload_n 3, 1) := by decide +kernel
theorem dXP_rebuildStripe_17 : decode cXP_rebuildStripe 17 = .ok (.invokevirtual 147, 3) := by decide +kernel
theorem dXP_rebuildStripe_20 : decode cXP_rebuildStripe 20 = .ok (.lastore, 1) := by decide +kernel
theorem dXP_rebuildStripe_21 : decode cXP_rebuildStripe 21 = .ok (.iinc 3 1, 3) := by decide +kernel
theorem dXP_rebuildStripe_24 : decode cXP_rebuildStripe 24 = .ok (.goto (-22), 3) := by decide +kernel
theorem dXP_rebuildStripe_27 : decode cXP_rebuildStripe 27 = .ok (.aload_n 0, 1) := by decide +kernel
theorem dXP_rebuildStripe_28 : decode cXP_rebuildStripe 28 = .ok (.getfield 11, 3) := by decide +kernel
theorem dXP_rebuildStripe_31 : decode cXP_rebuildStripe 31 = .ok (.iload_n 1, 1) := by decide +kernel
theorem dXP_rebuildStripe_32 : decode cXP_rebuildStripe 32 = .ok (.aaload, 1) := by decide +kernel
theorem dXP_rebuildStripe_33 : decode cXP_rebuildStripe 33 = .ok (.iload_n 2, 1) := by decide +kernel
theorem dXP_rebuildStripe_34 : decode cXP_rebuildStripe 34 = .ok (.aload_n 0, 1) := by decide +kernel
theorem dXP_rebuildStripe_35 : decode cXP_rebuildStripe 35 = .ok (.getfield 22, 3) := by decide +kernel
theorem dXP_rebuildStripe_38 : decode cXP_rebuildStripe 38 = .ok (.sipush 128, 3) := by decide +kernel
theorem dXP_rebuildStripe_41 : decode cXP_rebuildStripe 41 = .ok (.invokevirtual 158, 3) := by decide +kernel
theorem dXP_rebuildStripe_44 : decode cXP_rebuildStripe 44 = .ok (.return_, 1) := by decide +kernel
def yXP_power : MethodName := ⟨"ParityArray", "power", "(IIZ)V"⟩
abbrev cXP_power : ByteArray := prog_1_method_7_code
def wsXP_power : List Cond := .code yXP_power cXP_power 4 (none : Option Jvm.ClassFile.FieldType) :: pz_G
theorem tcXP_power : (.code yXP_power cXP_power 4 (none : Option Jvm.ClassFile.FieldType) : Cond) ∈ pz_G := tw_328
theorem dXP_power_0 : decode cXP_power 0 = .ok (.iload_n 1, 1) := by decide +kernel
theorem dXP_power_1 : decode cXP_power 1 = .ok (.ifCond .lt 9, 3) := by decide +kernel
theorem dXP_power_4 : decode cXP_power 4 = .ok (.iload_n 1, 1) := by decide +kernel
theorem dXP_power_5 : decode cXP_power 5 = .ok (.bipush 10, 2) := by decide +kernel
theorem dXP_power_7 : decode cXP_power 7 = .ok (.if_icmp .le 13, 3) := by decide +kernel
theorem dXP_power_10 : decode cXP_power 10 = .ok (.new 103, 3) := by decide +kernel
theorem dXP_power_13 : decode cXP_power 13 = .ok (.dup, 1) := by decide +kernel
theorem dXP_power_14 : decode cXP_power 14 = .ok (.ldc 105, 2) := by decide +kernel
theorem dXP_power_16 : decode cXP_power 16 = .ok (.invokespecial 107, 3) := by decide +kernel
theorem dXP_power_19 : decode cXP_power 19 = .ok (.athrow, 1) := by decide +kernel
theorem dXP_power_20 : decode cXP_power 20 = .ok (.iload_n 2, 1) := by decide +kernel
theorem dXP_power_21 : decode cXP_power 21 = .ok (.ifCond .lt 10, 3) := by decide +kernel
theorem dXP_power_24 : decode cXP_power 24 = .ok (.iload_n 2, 1) := by decide +kernel
theorem dXP_power_25 : decode cXP_power 25 = .ok (.sipush 200, 3) := by decide +kernel
theorem dXP_power_28 : decode cXP_power 28 = .ok (.if_icmp .le 13, 3) := by decide +kernel
theorem dXP_power_31 : decode cXP_power 31 = .ok (.new 103, 3) := by decide +kernel
theorem dXP_power_34 : decode cXP_power 34 = .ok (.dup, 1) := by decide +kernel
theorem dXP_power_35 : decode cXP_power 35 = .ok (.ldc 108, 2) := by decide +kernel
theorem dXP_power_37 : decode cXP_power 37 = .ok (.invokespecial 107, 3) := by decide +kernel
theorem dXP_power_40 : decode cXP_power 40 = .ok (.athrow, 1) := by decide +kernel
theorem dXP_power_41 : decode cXP_power 41 = .ok (.aload_n 0, 1) := by decide +kernel
theorem dXP_power_42 : decode cXP_power 42 = .ok (.getfield 18, 3) := by decide +kernel
theorem dXP_power_45 : decode cXP_power 45 = .ok (.iload_n 1, 1) := by decide +kernel
theorem dXP_power_46 : decode cXP_power 46 = .ok (.iload_n 2, 1) := by decide +kernel
theorem dXP_power_47 : decode cXP_power 47 = .ok (.iload_n 3, 1) := by decide +kernel
theorem dXP_power_48 : decode cXP_power 48 = .ok (.invokevirtual 110, 3) := by decide +kernel
theorem dXP_power_51 : decode cXP_power 51 = .ok (.return_, 1) := by decide +kernel
def yXP_recover : MethodName := ⟨"ParityArray", "recover", "()V"⟩
abbrev cXP_recover : ByteArray := prog_1_method_8_code
def wsXP_recover : List Cond := .code yXP_recover cXP_recover 2 (none : Option Jvm.ClassFile.FieldType) :: pz_G
theorem tcXP_recover : (.code yXP_recover cXP_recover 2 (none : Option Jvm.ClassFile.FieldType) : Cond) ∈ pz_G := tw_356
theorem dXP_recover_0 : decode cXP_recover 0 = .ok (.aload_n 0, 1) := by decide +kernel
theorem dXP_recover_1 : decode cXP_recover 1 = .ok (.getfield 18, 3) := by decide +kernel
theorem dXP_recover_4 : decode cXP_recover 4 = .ok (.iconst 1, 1) := by decide +kernel
theorem dXP_recover_5 : decode cXP_recover 5 = .ok (.putfield 33, 3) := by decide +kernel
theorem dXP_recover_8 : decode cXP_recover 8 = .ok (.aload_n 0, 1) := by decide +kernel
theorem dXP_recover_9 : decode cXP_recover 9 = .ok (.getfield 18, 3) := by decide +kernel
theorem dXP_recover_12 : decode cXP_recover 12 = .ok (.iconst 1, 1) := by decide +kernel
theorem dXP_recover_13 : decode cXP_recover 13 = .ok (.invokevirtual 61, 3) := by decide +kernel
theorem dXP_recover_16 : decode cXP_recover 16 = .ok (.iconst 0, 1) := by decide +kernel
theorem dXP_recover_17 : decode cXP_recover 17 = .ok (.istore_n 1, 1) := by decide +kernel
theorem dXP_recover_18 : decode cXP_recover 18 = .ok (.iload_n 1, 1) := by decide +kernel
theorem dXP_recover_19 : decode cXP_recover 19 = .ok (.iconst 5, 1) := by decide +kernel
theorem dXP_recover_20 : decode cXP_recover 20 = .ok (.if_icmp .ge 19, 3) := by decide +kernel
theorem dXP_recover_23 : decode cXP_recover 23 = .ok (.aload_n 0, 1) := by decide +kernel
theorem dXP_recover_24 : decode cXP_recover 24 = .ok (.aload_n 0, 1) := by decide +kernel
theorem dXP_recover_25 : decode cXP_recover 25 = .ok (.getfield 11, 3) := by decide +kernel
theorem dXP_recover_28 : decode cXP_recover 28 = .ok (.iload_n 1, 1) := by decide +kernel
theorem dXP_recover_29 : decode cXP_recover 29 = .ok (.aaload, 1) := by decide +kernel
theorem dXP_recover_30 : decode cXP_recover 30 = .ok (.invokevirtual 114, 3) := by decide +kernel
theorem dXP_recover_33 : decode cXP_recover 33 = .ok (.iinc 1 1, 3) := by decide +kernel
theorem dXP_recover_36 : decode cXP_recover 36 = .ok (.goto (-18), 3) := by decide +kernel
theorem dXP_recover_39 : decode cXP_recover 39 = .ok (.aload_n 0, 1) := by decide +kernel
theorem dXP_recover_40 : decode cXP_recover 40 = .ok (.getfield 18, 3) := by decide +kernel
theorem dXP_recover_43 : decode cXP_recover 43 = .ok (.invokevirtual 69, 3) := by decide +kernel
theorem dXP_recover_46 : decode cXP_recover 46 = .ok (.aload_n 0, 1) := by decide +kernel
theorem dXP_recover_47 : decode cXP_recover 47 = .ok (.getfield 18, 3) := by decide +kernel
theorem dXP_recover_50 : decode cXP_recover 50 = .ok (.invokevirtual 118, 3) := by decide +kernel
theorem dXP_recover_53 : decode cXP_recover 53 = .ok (.aload_n 0, 1) := by decide +kernel
theorem dXP_recover_54 : decode cXP_recover 54 = .ok (.getfield 18, 3) := by decide +kernel
theorem dXP_recover_57 : decode cXP_recover 57 = .ok (.getfield 33, 3) := by decide +kernel
theorem dXP_recover_60 : decode cXP_recover 60 = .ok (.ifCond .ne 13, 3) := by decide +kernel
theorem dXP_recover_63 : decode cXP_recover 63 = .ok (.new 72, 3) := by decide +kernel
theorem dXP_recover_66 : decode cXP_recover 66 = .ok (.dup, 1) := by decide +kernel
theorem dXP_recover_67 : decode cXP_recover 67 = .ok (.ldc 74, 2) := by decide +kernel
theorem dXP_recover_69 : decode cXP_recover 69 = .ok (.invokespecial 76, 3) := by decide +kernel
theorem dXP_recover_72 : decode cXP_recover 72 = .ok (.athrow, 1) := by decide +kernel
theorem dXP_recover_73 : decode cXP_recover 73 = .ok (.return_, 1) := by decide +kernel
def yXP_mendParity : MethodName := ⟨"ParityArray", "mendParity", "(LParityArray$Disk;)V"⟩
abbrev cXP_mendParity : ByteArray := prog_1_method_20_code
def wsXP_mendParity : List Cond := .code yXP_mendParity cXP_mendParity 6 (none : Option Jvm.ClassFile.FieldType) :: pz_G
theorem tcXP_mendParity : (.code yXP_mendParity cXP_mendParity 6 (none : Option Jvm.ClassFile.FieldType) : Cond) ∈ pz_G := tw_360
theorem dXP_mendParity_0 : decode cXP_mendParity 0 = .ok (.aload_n 1, 1) := by decide +kernel
theorem dXP_mendParity_1 : decode cXP_mendParity 1 = .ok (.getfield 161, 3) := by decide +kernel
theorem dXP_mendParity_4 : decode cXP_mendParity 4 = .ok (.istore_n 2, 1) := by decide +kernel
theorem dXP_mendParity_5 : decode cXP_mendParity 5 = .ok (.iload_n 2, 1) := by decide +kernel
theorem dXP_mendParity_6 : decode cXP_mendParity 6 = .ok (.iconst (-1), 1) := by decide +kernel
theorem dXP_mendParity_7 : decode cXP_mendParity 7 = .ok (.if_icmp .ne 4, 3) := by decide +kernel
theorem dXP_mendParity_10 : decode cXP_mendParity 10 = .ok (.return_, 1) := by decide +kernel
theorem dXP_mendParity_11 : decode cXP_mendParity 11 = .ok (.iload_n 2, 1) := by decide +kernel
theorem dXP_mendParity_12 : decode cXP_mendParity 12 = .ok (.invokestatic 127, 3) := by decide +kernel
theorem dXP_mendParity_15 : decode cXP_mendParity 15 = .ok (.istore_n 3, 1) := by decide +kernel
theorem dXP_mendParity_16 : decode cXP_mendParity 16 = .ok (.aload_n 0, 1) := by decide +kernel
theorem dXP_mendParity_17 : decode cXP_mendParity 17 = .ok (.getfield 11, 3) := by decide +kernel
theorem dXP_mendParity_20 : decode cXP_mendParity 20 = .ok (.iload_n 2, 1) := by decide +kernel
theorem dXP_mendParity_21 : decode cXP_mendParity 21 = .ok (.invokestatic 138, 3) := by decide +kernel
theorem dXP_mendParity_24 : decode cXP_mendParity 24 = .ok (.aaload, 1) := by decide +kernel
theorem dXP_mendParity_25 : decode cXP_mendParity 25 = .ok (.astore 4, 2) := by decide +kernel
theorem dXP_mendParity_27 : decode cXP_mendParity 27 = .ok (.aload 4, 2) := by decide +kernel
theorem dXP_mendParity_29 : decode cXP_mendParity 29 = .ok (.iload_n 3, 1) := by decide +kernel
theorem dXP_mendParity_30 : decode cXP_mendParity 30 = .ok (.invokevirtual 141, 3) := by decide +kernel
theorem dXP_mendParity_33 : decode cXP_mendParity 33 = .ok (.ifCond .ne 4, 3) := by decide +kernel
theorem dXP_mendParity_36 : decode cXP_mendParity 36 = .ok (.return_, 1) := by decide +kernel
theorem dXP_mendParity_37 : decode cXP_mendParity 37 = .ok (.iconst 0, 1) := by decide +kernel
theorem dXP_mendParity_38 : decode cXP_mendParity 38 = .ok (.istore 5, 2) := by decide +kernel
theorem dXP_mendParity_40 : decode cXP_mendParity 40 = .ok (.iload 5, 2) := by decide +kernel
theorem dXP_mendParity_42 : decode cXP_mendParity 42 = .ok (.bipush 16, 2) := by decide +kernel
theorem dXP_mendParity_44 : decode cXP_mendParity 44 = .ok (.if_icmp .ge 32, 3) := by decide +kernel
theorem dXP_mendParity_47 : decode cXP_mendParity 47 = .ok (.aload_n 0, 1) := by decide +kernel
theorem dXP_mendParity_48 : decode cXP_mendParity 48 = .ok (.getfield 29, 3) := by decide +kernel
theorem dXP_mendParity_51 : decode cXP_mendParity 51 = .ok (.iload 5, 2) := by decide +kernel
theorem dXP_mendParity_53 : decode cXP_mendParity 53 = .ok (.aload_n 1, 1) := by decide +kernel
theorem dXP_mendParity_54 : decode cXP_mendParity 54 = .ok (.getfield 164, 3) := by decide +kernel
theorem dXP_mendParity_57 : decode cXP_mendParity 57 = .ok (.iload 5, 2) := by decide +kernel
theorem dXP_mendParity_59 : decode cXP_mendParity 59 = .ok (.laload, 1) := by decide +kernel
theorem dXP_mendParity_60 : decode cXP_mendParity 60 = .ok (.aload 4, 2) := by decide +kernel
theorem dXP_mendParity_62 : decode cXP_mendParity 62 = .ok (.iload_n 3, 1) := by decide +kernel
theorem dXP_mendParity_63 : decode cXP_mendParity 63 = .ok (.iload 5, 2) := by decide +kernel
theorem dXP_mendParity_65 : decode cXP_mendParity 65 = .ok (.invokevirtual 144, 3) := by decide +kernel
theorem dXP_mendParity_68 : decode cXP_mendParity 68 = .ok (.lxor, 1) := by decide +kernel
theorem dXP_mendParity_69 : decode cXP_mendParity 69 = .ok (.lastore, 1) := by decide +kernel
theorem dXP_mendParity_70 : decode cXP_mendParity 70 = .ok (.iinc 5 1, 3) := by decide +kernel
theorem dXP_mendParity_73 : decode cXP_mendParity 73 = .ok (.goto (-33), 3) := by decide +kernel
theorem dXP_mendParity_76 : decode cXP_mendParity 76 = .ok (.aload_n 1, 1) := by decide +kernel
theorem dXP_mendParity_77 : decode cXP_mendParity 77 = .ok (.iload_n 3, 1) := by decide +kernel
theorem dXP_mendParity_78 : decode cXP_mendParity 78 = .ok (.aload_n 0, 1) := by decide +kernel
theorem dXP_mendParity_79 : decode cXP_mendParity 79 = .ok (.getfield 29, 3) := by decide +kernel
theorem dXP_mendParity_82 : decode cXP_mendParity 82 = .ok (.aload_n 0, 1) := by decide +kernel
theorem dXP_mendParity_83 : decode cXP_mendParity 83 = .ok (.getfield 18, 3) := by decide +kernel
theorem dXP_mendParity_86 : decode cXP_mendParity 86 = .ok (.sipush 128, 3) := by decide +kernel
theorem dXP_mendParity_89 : decode cXP_mendParity 89 = .ok (.invokevirtual 151, 3) := by decide +kernel
theorem dXP_mendParity_92 : decode cXP_mendParity 92 = .ok (.invokevirtual 158, 3) := by decide +kernel
theorem dXP_mendParity_95 : decode cXP_mendParity 95 = .ok (.return_, 1) := by decide +kernel
def yXP_told : MethodName := ⟨"ParityArray", "told", "(I)I"⟩
abbrev cXP_told : ByteArray := prog_1_method_9_code
def wsXP_told : List Cond := .code yXP_told cXP_told 3 (some .int) :: pz_G
theorem tcXP_told : (.code yXP_told cXP_told 3 (some .int) : Cond) ∈ pz_G := tw_371
theorem dXP_told_0 : decode cXP_told 0 = .ok (.aload_n 0, 1) := by decide +kernel
theorem dXP_told_1 : decode cXP_told 1 = .ok (.invokevirtual 79, 3) := by decide +kernel
theorem dXP_told_4 : decode cXP_told 4 = .ok (.istore_n 2, 1) := by decide +kernel
theorem dXP_told_5 : decode cXP_told 5 = .ok (.iload_n 1, 1) := by decide +kernel
theorem dXP_told_6 : decode cXP_told 6 = .ok (.tableswitch 90 0 3 #[30, 46, 48, 71], 30) := by decide +kernel
theorem dXP_told_36 : decode cXP_told 36 = .ok (.aload_n 0, 1) := by decide +kernel
theorem dXP_told_37 : decode cXP_told 37 = .ok (.getfield 18, 3) := by decide +kernel
theorem dXP_told_40 : decode cXP_told 40 = .ok (.getfield 33, 3) := by decide +kernel
theorem dXP_told_43 : decode cXP_told 43 = .ok (.ifCond .eq 7, 3) := by decide +kernel
theorem dXP_told_46 : decode cXP_told 46 = .ok (.iconst 1, 1) := by decide +kernel
theorem dXP_told_47 : decode cXP_told 47 = .ok (.goto 4, 3) := by decide +kernel
theorem dXP_told_50 : decode cXP_told 50 = .ok (.iconst 0, 1) := by decide +kernel
theorem dXP_told_51 : decode cXP_told 51 = .ok (.ireturn, 1) := by decide +kernel
theorem dXP_told_52 : decode cXP_told 52 = .ok (.iload_n 2, 1) := by decide +kernel
theorem dXP_told_53 : decode cXP_told 53 = .ok (.ireturn, 1) := by decide +kernel
theorem dXP_told_54 : decode cXP_told 54 = .ok (.iload_n 2, 1) := by decide +kernel
theorem dXP_told_55 : decode cXP_told 55 = .ok (.iconst (-1), 1) := by decide +kernel
theorem dXP_told_56 : decode cXP_told 56 = .ok (.if_icmp .eq 19, 3) := by decide +kernel
theorem dXP_told_59 : decode cXP_told 59 = .ok (.aload_n 0, 1) := by decide +kernel
theorem dXP_told_60 : decode cXP_told 60 = .ok (.getfield 11, 3) := by decide +kernel
theorem dXP_told_63 : decode cXP_told 63 = .ok (.iload_n 2, 1) := by decide +kernel
theorem dXP_told_64 : decode cXP_told 64 = .ok (.aaload, 1) := by decide +kernel
theorem dXP_told_65 : decode cXP_told 65 = .ok (.getfield 88, 3) := by decide +kernel
theorem dXP_told_68 : decode cXP_told 68 = .ok (.ifCond .ne 7, 3) := by decide +kernel
theorem dXP_told_71 : decode cXP_told 71 = .ok (.iconst 1, 1) := by decide +kernel
theorem dXP_told_72 : decode cXP_told 72 = .ok (.goto 4, 3) := by decide +kernel
theorem dXP_told_75 : decode cXP_told 75 = .ok (.iconst 0, 1) := by decide +kernel
theorem dXP_told_76 : decode cXP_told 76 = .ok (.ireturn, 1) := by decide +kernel
theorem dXP_told_77 : decode cXP_told 77 = .ok (.iload_n 2, 1) := by decide +kernel
theorem dXP_told_78 : decode cXP_told 78 = .ok (.iconst (-1), 1) := by decide +kernel
theorem dXP_told_79 : decode cXP_told 79 = .ok (.if_icmp .eq 15, 3) := by decide +kernel
theorem dXP_told_82 : decode cXP_told 82 = .ok (.aload_n 0, 1) := by decide +kernel
theorem dXP_told_83 : decode cXP_told 83 = .ok (.getfield 11, 3) := by decide +kernel
theorem dXP_told_86 : decode cXP_told 86 = .ok (.iload_n 2, 1) := by decide +kernel
theorem dXP_told_87 : decode cXP_told 87 = .ok (.aaload, 1) := by decide +kernel
theorem dXP_told_88 : decode cXP_told 88 = .ok (.getfield 95, 3) := by decide +kernel
theorem dXP_told_91 : decode cXP_told 91 = .ok (.goto 4, 3) := by decide +kernel
theorem dXP_told_94 : decode cXP_told 94 = .ok (.iconst 0, 1) := by decide +kernel
theorem dXP_told_95 : decode cXP_told 95 = .ok (.ireturn, 1) := by decide +kernel
theorem dXP_told_96 : decode cXP_told 96 = .ok (.new 103, 3) := by decide +kernel
theorem dXP_told_99 : decode cXP_told 99 = .ok (.dup, 1) := by decide +kernel
theorem dXP_told_100 : decode cXP_told 100 = .ok (.ldc 121, 2) := by decide +kernel
theorem dXP_told_102 : decode cXP_told 102 = .ok (.invokespecial 107, 3) := by decide +kernel
theorem dXP_told_105 : decode cXP_told 105 = .ok (.athrow, 1) := by decide +kernel
def yXP_check : MethodName := ⟨"ParityArray", "check", "()I"⟩
abbrev cXP_check : ByteArray := prog_1_method_10_code
def wsXP_check : List Cond := .code yXP_check cXP_check 3 (some .int) :: pz_G
theorem tcXP_check : (.code yXP_check cXP_check 3 (some .int) : Cond) ∈ pz_G := tw_379
theorem dXP_check_0 : decode cXP_check 0 = .ok (.aload_n 0, 1) := by decide +kernel
theorem dXP_check_1 : decode cXP_check 1 = .ok (.getfield 18, 3) := by decide +kernel
theorem dXP_check_4 : decode cXP_check 4 = .ok (.getfield 33, 3) := by decide +kernel
theorem dXP_check_7 : decode cXP_check 7 = .ok (.ifCond .ne 13, 3) := by decide +kernel
theorem dXP_check_10 : decode cXP_check 10 = .ok (.new 37, 3) := by decide +kernel
theorem dXP_check_13 : decode cXP_check 13 = .ok (.dup, 1) := by decide +kernel
theorem dXP_check_14 : decode cXP_check 14 = .ok (.ldc 39, 2) := by decide +kernel
theorem dXP_check_16 : decode cXP_check 16 = .ok (.invokespecial 41, 3) := by decide +kernel
theorem dXP_check_19 : decode cXP_check 19 = .ok (.athrow, 1) := by decide +kernel
theorem dXP_check_20 : decode cXP_check 20 = .ok (.aload_n 0, 1) := by decide +kernel
theorem dXP_check_21 : decode cXP_check 21 = .ok (.invokevirtual 79, 3) := by decide +kernel
theorem dXP_check_24 : decode cXP_check 24 = .ok (.iconst (-1), 1) := by decide +kernel
theorem dXP_check_25 : decode cXP_check 25 = .ok (.if_icmp .eq 5, 3) := by decide +kernel
theorem dXP_check_28 : decode cXP_check 28 = .ok (.iconst 0, 1) := by decide +kernel
theorem dXP_check_29 : decode cXP_check 29 = .ok (.ireturn, 1) := by decide +kernel
theorem dXP_check_30 : decode cXP_check 30 = .ok (.iconst 0, 1) := by decide +kernel
theorem dXP_check_31 : decode cXP_check 31 = .ok (.istore_n 1, 1) := by decide +kernel
theorem dXP_check_32 : decode cXP_check 32 = .ok (.iconst 0, 1) := by decide +kernel
theorem dXP_check_33 : decode cXP_check 33 = .ok (.istore_n 2, 1) := by decide +kernel
theorem dXP_check_34 : decode cXP_check 34 = .ok (.iload_n 2, 1) := by decide +kernel
theorem dXP_check_35 : decode cXP_check 35 = .ok (.sipush 150, 3) := by decide +kernel
theorem dXP_check_38 : decode cXP_check 38 = .ok (.if_icmp .ge 20, 3) := by decide +kernel
theorem dXP_check_41 : decode cXP_check 41 = .ok (.aload_n 0, 1) := by decide +kernel
theorem dXP_check_42 : decode cXP_check 42 = .ok (.iload_n 2, 1) := by decide +kernel
theorem dXP_check_43 : decode cXP_check 43 = .ok (.invokevirtual 123, 3) := by decide +kernel
theorem dXP_check_46 : decode cXP_check 46 = .ok (.ifCond .ne 6, 3) := by decide +kernel
theorem dXP_check_49 : decode cXP_check 49 = .ok (.iinc 1 1, 3) := by decide +kernel
theorem dXP_check_52 : decode cXP_check 52 = .ok (.iinc 2 1, 3) := by decide +kernel
theorem dXP_check_55 : decode cXP_check 55 = .ok (.goto (-21), 3) := by decide +kernel
theorem dXP_check_58 : decode cXP_check 58 = .ok (.iload_n 1, 1) := by decide +kernel
theorem dXP_check_59 : decode cXP_check 59 = .ok (.ireturn, 1) := by decide +kernel
def yXP_isParityRight : MethodName := ⟨"ParityArray", "isParityRight", "(I)Z"⟩
abbrev cXP_isParityRight : ByteArray := prog_1_method_22_code
def wsXP_isParityRight : List Cond := .code yXP_isParityRight cXP_isParityRight 4 (some .boolean) :: pz_G
theorem tcXP_isParityRight : (.code yXP_isParityRight cXP_isParityRight 4 (some .boolean) : Cond) ∈ pz_G := tw_383
theorem dXP_isParityRight_0 : decode cXP_isParityRight 0 = .ok (.iload_n 1, 1) := by decide +kernel
theorem dXP_isParityRight_1 : decode cXP_isParityRight 1 = .ok (.invokestatic 131, 3) := by decide +kernel
theorem dXP_isParityRight_4 : decode cXP_isParityRight 4 = .ok (.istore_n 2, 1) := by decide +kernel
theorem dXP_isParityRight_5 : decode cXP_isParityRight 5 = .ok (.iconst 0, 1) := by decide +kernel
theorem dXP_isParityRight_6 : decode cXP_isParityRight 6 = .ok (.istore_n 3, 1) := by decide +kernel
theorem dXP_isParityRight_7 : decode cXP_isParityRight 7 = .ok (.iload_n 3, 1) := by decide +kernel
theorem dXP_isParityRight_8 : decode cXP_isParityRight 8 = .ok (.bipush 16, 2) := by decide +kernel
theorem dXP_isParityRight_10 : decode cXP_isParityRight 10 = .ok (.if_icmp .ge 33, 3) := by decide +kernel
theorem dXP_isParityRight_13 : decode cXP_isParityRight 13 = .ok (.aload_n 0, 1) := by decide +kernel
theorem dXP_isParityRight_14 : decode cXP_isParityRight 14 = .ok (.getfield 11, 3) := by decide +kernel
theorem dXP_isParityRight_17 : decode cXP_isParityRight 17 = .ok (.iload_n 2, 1) := by decide +kernel
theorem dXP_isParityRight_18 : decode cXP_isParityRight 18 = .ok (.aaload, 1) := by decide +kernel
theorem dXP_isParityRight_19 : decode cXP_isParityRight 19 = .ok (.iload_n 1, 1) := by decide +kernel
theorem dXP_isParityRight_20 : decode cXP_isParityRight 20 = .ok (.iload_n 3, 1) := by decide +kernel
theorem dXP_isParityRight_21 : decode cXP_isParityRight 21 = .ok (.invokevirtual 144, 3) := by decide +kernel
theorem dXP_isParityRight_24 : decode cXP_isParityRight 24 = .ok (.aload_n 0, 1) := by decide +kernel
theorem dXP_isParityRight_25 : decode cXP_isParityRight 25 = .ok (.iload_n 2, 1) := by decide +kernel
theorem dXP_isParityRight_26 : decode cXP_isParityRight 26 = .ok (.iload_n 1, 1) := by decide +kernel
theorem dXP_isParityRight_27 : decode cXP_isParityRight 27 = .ok (.iload_n 3, 1) := by decide +kernel
theorem dXP_isParityRight_28 : decode cXP_isParityRight 28 = .ok (.invokevirtual 147, 3) := by decide +kernel
theorem dXP_isParityRight_31 : decode cXP_isParityRight 31 = .ok (.lcmp, 1) := by decide +kernel
theorem dXP_isParityRight_32 : decode cXP_isParityRight 32 = .ok (.ifCond .eq 5, 3) := by decide +kernel
theorem dXP_isParityRight_35 : decode cXP_isParityRight 35 = .ok (.iconst 0, 1) := by decide +kernel
theorem dXP_isParityRight_36 : decode cXP_isParityRight 36 = .ok (.ireturn, 1) := by decide +kernel
theorem dXP_isParityRight_37 : decode cXP_isParityRight 37 = .ok (.iinc 3 1, 3) := by decide +kernel
theorem dXP_isParityRight_40 : decode cXP_isParityRight 40 = .ok (.goto (-33), 3) := by decide +kernel
theorem dXP_isParityRight_43 : decode cXP_isParityRight 43 = .ok (.iconst 1, 1) := by decide +kernel
theorem dXP_isParityRight_44 : decode cXP_isParityRight 44 = .ok (.ireturn, 1) := by decide +kernel
end
section
/-! methods: names, code, words, decode rows (written by a program) -/
def yXM_init : MethodName := ⟨"ParityArrayModel", "<init>", "()V"⟩
abbrev cXM_init : ByteArray := prog_5_method_1_code
def wsXM_init : List Cond := .code yXM_init cXM_init 1 (none : Option Jvm.ClassFile.FieldType) :: pz_G
theorem tcXM_init : (.code yXM_init cXM_init 1 (none : Option Jvm.ClassFile.FieldType) : Cond) ∈ pz_G := tw_388
theorem dXM_init_0 : decode cXM_init 0 = .ok (.aload_n 0, 1) := by decide +kernel
theorem dXM_init_1 : decode cXM_init 1 = .ok (.invokespecial 1, 3) := by decide +kernel
theorem dXM_init_4 : decode cXM_init 4 = .ok (.aload_n 0, 1) := by decide +kernel
theorem dXM_init_5 : decode cXM_init 5 = .ok (.ldc 7, 2) := by decide +kernel
theorem dXM_init_7 : decode cXM_init 7 = .ok (.newarray .byte, 2) := by decide +kernel
theorem dXM_init_9 : decode cXM_init 9 = .ok (.putfield 8, 3) := by decide +kernel
theorem dXM_init_12 : decode cXM_init 12 = .ok (.aload_n 0, 1) := by decide +kernel
theorem dXM_init_13 : decode cXM_init 13 = .ok (.iconst 1, 1) := by decide +kernel
theorem dXM_init_14 : decode cXM_init 14 = .ok (.putfield 14, 3) := by decide +kernel
theorem dXM_init_17 : decode cXM_init 17 = .ok (.aload_n 0, 1) := by decide +kernel
theorem dXM_init_18 : decode cXM_init 18 = .ok (.iconst (-1), 1) := by decide +kernel
theorem dXM_init_19 : decode cXM_init 19 = .ok (.putfield 18, 3) := by decide +kernel
theorem dXM_init_22 : decode cXM_init 22 = .ok (.return_, 1) := by decide +kernel
def yXM_thrown : MethodName := ⟨"ParityArrayModel", "thrown", "()I"⟩
abbrev cXM_thrown : ByteArray := prog_5_method_2_code
def wsXM_thrown : List Cond := .code yXM_thrown cXM_thrown 1 (some .int) :: pz_G
theorem tcXM_thrown : (.code yXM_thrown cXM_thrown 1 (some .int) : Cond) ∈ pz_G := tw_422
theorem dXM_thrown_0 : decode cXM_thrown 0 = .ok (.aload_n 0, 1) := by decide +kernel
theorem dXM_thrown_1 : decode cXM_thrown 1 = .ok (.getfield 22, 3) := by decide +kernel
theorem dXM_thrown_4 : decode cXM_thrown 4 = .ok (.ireturn, 1) := by decide +kernel
def yXM_set : MethodName := ⟨"ParityArrayModel", "set", "(IIJ)J"⟩
abbrev cXM_set : ByteArray := prog_5_method_7_code
def wsXM_set : List Cond := .code yXM_set cXM_set 11 (some .long) :: pz_G
theorem tcXM_set : (.code yXM_set cXM_set 11 (some .long) : Cond) ∈ pz_G := tw_426
theorem dXM_set_0 : decode cXM_set 0 = .ok (.aload_n 0, 1) := by decide +kernel
theorem dXM_set_1 : decode cXM_set 1 = .ok (.getfield 14, 3) := by decide +kernel
theorem dXM_set_4 : decode cXM_set 4 = .ok (.ifCond .ne 10, 3) := by decide +kernel
theorem dXM_set_7 : decode cXM_set 7 = .ok (.aload_n 0, 1) := by decide +kernel
theorem dXM_set_8 : decode cXM_set 8 = .ok (.iconst 1, 1) := by decide +kernel
theorem dXM_set_9 : decode cXM_set 9 = .ok (.invokevirtual 41, 3) := by decide +kernel
theorem dXM_set_12 : decode cXM_set 12 = .ok (.i2l, 1) := by decide +kernel
theorem dXM_set_13 : decode cXM_set 13 = .ok (.lreturn, 1) := by decide +kernel
theorem dXM_set_14 : decode cXM_set 14 = .ok (.iload_n 1, 1) := by decide +kernel
theorem dXM_set_15 : decode cXM_set 15 = .ok (.ifCond .lt 20, 3) := by decide +kernel
theorem dXM_set_18 : decode cXM_set 18 = .ok (.iload_n 1, 1) := by decide +kernel
theorem dXM_set_19 : decode cXM_set 19 = .ok (.sipush 600, 3) := by decide +kernel
theorem dXM_set_22 : decode cXM_set 22 = .ok (.if_icmp .ge 13, 3) := by decide +kernel
theorem dXM_set_25 : decode cXM_set 25 = .ok (.iload_n 2, 1) := by decide +kernel
theorem dXM_set_26 : decode cXM_set 26 = .ok (.ifCond .lt 9, 3) := by decide +kernel
theorem dXM_set_29 : decode cXM_set 29 = .ok (.iload_n 2, 1) := by decide +kernel
theorem dXM_set_30 : decode cXM_set 30 = .ok (.bipush 16, 2) := by decide +kernel
theorem dXM_set_32 : decode cXM_set 32 = .ok (.if_icmp .lt 10, 3) := by decide +kernel
theorem dXM_set_35 : decode cXM_set 35 = .ok (.aload_n 0, 1) := by decide +kernel
theorem dXM_set_36 : decode cXM_set 36 = .ok (.iconst 2, 1) := by decide +kernel
theorem dXM_set_37 : decode cXM_set 37 = .ok (.invokevirtual 41, 3) := by decide +kernel
theorem dXM_set_40 : decode cXM_set 40 = .ok (.i2l, 1) := by decide +kernel
theorem dXM_set_41 : decode cXM_set 41 = .ok (.lreturn, 1) := by decide +kernel
theorem dXM_set_42 : decode cXM_set 42 = .ok (.iload_n 1, 1) := by decide +kernel
theorem dXM_set_43 : decode cXM_set 43 = .ok (.sipush 128, 3) := by decide +kernel
theorem dXM_set_46 : decode cXM_set 46 = .ok (.imul, 1) := by decide +kernel
theorem dXM_set_47 : decode cXM_set 47 = .ok (.bipush 8, 2) := by decide +kernel
theorem dXM_set_49 : decode cXM_set 49 = .ok (.iload_n 2, 1) := by decide +kernel
theorem dXM_set_50 : decode cXM_set 50 = .ok (.imul, 1) := by decide +kernel
theorem dXM_set_51 : decode cXM_set 51 = .ok (.iadd, 1) := by decide +kernel
theorem dXM_set_52 : decode cXM_set 52 = .ok (.istore 5, 2) := by decide +kernel
theorem dXM_set_54 : decode cXM_set 54 = .ok (.aload_n 0, 1) := by decide +kernel
theorem dXM_set_55 : decode cXM_set 55 = .ok (.iload 5, 2) := by decide +kernel
theorem dXM_set_57 : decode cXM_set 57 = .ok (.invokevirtual 45, 3) := by decide +kernel
theorem dXM_set_60 : decode cXM_set 60 = .ok (.lstore 6, 2) := by decide +kernel
theorem dXM_set_62 : decode cXM_set 62 = .ok (.aload_n 0, 1) := by decide +kernel
theorem dXM_set_63 : decode cXM_set 63 = .ok (.getfield 49, 3) := by decide +kernel
theorem dXM_set_66 : decode cXM_set 66 = .ok (.iconst 1, 1) := by decide +kernel
theorem dXM_set_67 : decode cXM_set 67 = .ok (.if_icmp .ne 7, 3) := by decide +kernel
theorem dXM_set_70 : decode cXM_set 70 = .ok (.iconst 1, 1) := by decide +kernel
theorem dXM_set_71 : decode cXM_set 71 = .ok (.goto 4, 3) := by decide +kernel
theorem dXM_set_74 : decode cXM_set 74 = .ok (.iconst 0, 1) := by decide +kernel
theorem dXM_set_75 : decode cXM_set 75 = .ok (.istore 8, 2) := by decide +kernel
theorem dXM_set_77 : decode cXM_set 77 = .ok (.iload 8, 2) := by decide +kernel
theorem dXM_set_79 : decode cXM_set 79 = .ok (.ifCond .eq 11, 3) := by decide +kernel
theorem dXM_set_82 : decode cXM_set 82 = .ok (.aload_n 0, 1) := by decide +kernel
theorem dXM_set_83 : decode cXM_set 83 = .ok (.iload_n 1, 1) := by decide +kernel
theorem dXM_set_84 : decode cXM_set 84 = .ok (.invokevirtual 51, 3) := by decide +kernel
theorem dXM_set_87 : decode cXM_set 87 = .ok (.goto 6, 3) := by decide +kernel
theorem dXM_set_90 : decode cXM_set 90 = .ok (.sipush 128, 3) := by decide +kernel
theorem dXM_set_93 : decode cXM_set 93 = .ok (.istore 9, 2) := by decide +kernel
theorem dXM_set_95 : decode cXM_set 95 = .ok (.iconst 0, 1) := by decide +kernel
theorem dXM_set_96 : decode cXM_set 96 = .ok (.istore 10, 2) := by decide +kernel
theorem dXM_set_98 : decode cXM_set 98 = .ok (.iload 10, 2) := by decide +kernel
theorem dXM_set_100 : decode cXM_set 100 = .ok (.bipush 8, 2) := by decide +kernel
theorem dXM_set_102 : decode cXM_set 102 = .ok (.if_icmp .ge 43, 3) := by decide +kernel
theorem dXM_set_105 : decode cXM_set 105 = .ok (.bipush 8, 2) := by decide +kernel
theorem dXM_set_107 : decode cXM_set 107 = .ok (.iload_n 2, 1) := by decide +kernel
theorem dXM_set_108 : decode cXM_set 108 = .ok (.imul, 1) := by decide +kernel
theorem dXM_set_109 : decode cXM_set 109 = .ok (.iload 10, 2) := by decide +kernel
theorem dXM_set_111 : decode cXM_set 111 = .ok (.iadd, 1) := by decide +kernel
theorem dXM_set_112 : decode cXM_set 112 = .ok (.iload 9, 2) := by decide +kernel
theorem dXM_set_114 : decode cXM_set 114 = .ok (.if_icmp .ge 25, 3) := by decide +kernel
theorem dXM_set_117 : decode cXM_set 117 = .ok (.aload_n 0, 1) := by decide +kernel
theorem dXM_set_118 : decode cXM_set 118 = .ok (.getfield 8, 3) := by decide +kernel
theorem dXM_set_121 : decode cXM_set 121 = .ok (.iload 5, 2) := by decide +kernel
theorem dXM_set_123 : decode cXM_set 123 = .ok (.iload 10, 2) := by decide +kernel
theorem dXM_set_125 : decode cXM_set 125 = .ok (.iadd, 1) := by decide +kernel
theorem dXM_set_126 : decode cXM_set 126 = .ok (.lload_n 3, 1) := by decide +kernel
theorem dXM_set_127 : decode cXM_set 127 = .ok (.bipush 56, 2) := by decide +kernel
theorem dXM_set_129 : decode cXM_set 129 = .ok (.bipush 8, 2) := by decide +kernel
theorem dXM_set_131 : decode cXM_set 131 = .ok (.iload 10, 2) := by decide +kernel
theorem dXM_set_133 : decode cXM_set 133 = .ok (.imul, 1) := by decide +kernel
theorem dXM_set_134 : decode cXM_set 134 = .ok (.isub, 1) := by decide +kernel
theorem dXM_set_135 : decode cXM_set 135 = .ok (.lshr, 1) := by decide +kernel
theorem dXM_set_136 : decode cXM_set 136 = .ok (.l2i, 1) := by decide +kernel
theorem dXM_set_137 : decode cXM_set 137 = .ok (.i2b, 1) := by decide +kernel
theorem dXM_set_138 : decode cXM_set 138 = .ok (.bastore, 1) := by decide +kernel
theorem dXM_set_139 : decode cXM_set 139 = .ok (.iinc 10 1, 3) := by decide +kernel
theorem dXM_set_142 : decode cXM_set 142 = .ok (.goto (-44), 3) := by decide +kernel
theorem dXM_set_145 : decode cXM_set 145 = .ok (.aload_n 0, 1) := by decide +kernel
theorem dXM_set_146 : decode cXM_set 146 = .ok (.iload 8, 2) := by decide +kernel
theorem dXM_set_148 : decode cXM_set 148 = .ok (.ifCond .eq 7, 3) := by decide +kernel
theorem dXM_set_151 : decode cXM_set 151 = .ok (.iconst 3, 1) := by decide +kernel
theorem dXM_set_152 : decode cXM_set 152 = .ok (.goto 4, 3) := by decide +kernel
theorem dXM_set_155 : decode cXM_set 155 = .ok (.iconst 0, 1) := by decide +kernel
theorem dXM_set_156 : decode cXM_set 156 = .ok (.putfield 22, 3) := by decide +kernel
theorem dXM_set_159 : decode cXM_set 159 = .ok (.iload 8, 2) := by decide +kernel
theorem dXM_set_161 : decode cXM_set 161 = .ok (.ifCond .ne 6, 3) := by decide +kernel
theorem dXM_set_164 : decode cXM_set 164 = .ok (.lload 6, 2) := by decide +kernel
theorem dXM_set_166 : decode cXM_set 166 = .ok (.lreturn, 1) := by decide +kernel
theorem dXM_set_167 : decode cXM_set 167 = .ok (.aload_n 0, 1) := by decide +kernel
theorem dXM_set_168 : decode cXM_set 168 = .ok (.iconst 0, 1) := by decide +kernel
theorem dXM_set_169 : decode cXM_set 169 = .ok (.putfield 49, 3) := by decide +kernel
theorem dXM_set_172 : decode cXM_set 172 = .ok (.aload_n 0, 1) := by decide +kernel
theorem dXM_set_173 : decode cXM_set 173 = .ok (.iconst 0, 1) := by decide +kernel
theorem dXM_set_174 : decode cXM_set 174 = .ok (.putfield 14, 3) := by decide +kernel
theorem dXM_set_177 : decode cXM_set 177 = .ok (.lconst 0, 1) := by decide +kernel
theorem dXM_set_178 : decode cXM_set 178 = .ok (.lreturn, 1) := by decide +kernel
def yXM_fails : MethodName := ⟨"ParityArrayModel", "fails", "(I)I"⟩
abbrev cXM_fails : ByteArray := prog_5_method_3_code
def wsXM_fails : List Cond := .code yXM_fails cXM_fails 2 (some .int) :: pz_G
theorem tcXM_fails : (.code yXM_fails cXM_fails 2 (some .int) : Cond) ∈ pz_G := tw_430
theorem dXM_fails_0 : decode cXM_fails 0 = .ok (.aload_n 0, 1) := by decide +kernel
theorem dXM_fails_1 : decode cXM_fails 1 = .ok (.iload_n 1, 1) := by decide +kernel
theorem dXM_fails_2 : decode cXM_fails 2 = .ok (.putfield 22, 3) := by decide +kernel
theorem dXM_fails_5 : decode cXM_fails 5 = .ok (.iconst 0, 1) := by decide +kernel
theorem dXM_fails_6 : decode cXM_fails 6 = .ok (.ireturn, 1) := by decide +kernel
def yXM_read : MethodName := ⟨"ParityArrayModel", "read", "(I)J"⟩
abbrev cXM_read : ByteArray := prog_5_method_6_code
def wsXM_read : List Cond := .code yXM_read cXM_read 5 (some .long) :: pz_G
theorem tcXM_read : (.code yXM_read cXM_read 5 (some .long) : Cond) ∈ pz_G := tw_434
theorem dXM_read_0 : decode cXM_read 0 = .ok (.lconst 0, 1) := by decide +kernel
theorem dXM_read_1 : decode cXM_read 1 = .ok (.lstore_n 2, 1) := by decide +kernel
theorem dXM_read_2 : decode cXM_read 2 = .ok (.iconst 0, 1) := by decide +kernel
theorem dXM_read_3 : decode cXM_read 3 = .ok (.istore 4, 2) := by decide +kernel
theorem dXM_read_5 : decode cXM_read 5 = .ok (.iload 4, 2) := by decide +kernel
theorem dXM_read_7 : decode cXM_read 7 = .ok (.bipush 8, 2) := by decide +kernel
theorem dXM_read_9 : decode cXM_read 9 = .ok (.if_icmp .ge 29, 3) := by decide +kernel
theorem dXM_read_12 : decode cXM_read 12 = .ok (.lload_n 2, 1) := by decide +kernel
theorem dXM_read_13 : decode cXM_read 13 = .ok (.bipush 8, 2) := by decide +kernel
theorem dXM_read_15 : decode cXM_read 15 = .ok (.lshl, 1) := by decide +kernel
theorem dXM_read_16 : decode cXM_read 16 = .ok (.aload_n 0, 1) := by decide +kernel
theorem dXM_read_17 : decode cXM_read 17 = .ok (.getfield 8, 3) := by decide +kernel
theorem dXM_read_20 : decode cXM_read 20 = .ok (.iload_n 1, 1) := by decide +kernel
theorem dXM_read_21 : decode cXM_read 21 = .ok (.iload 4, 2) := by decide +kernel
theorem dXM_read_23 : decode cXM_read 23 = .ok (.iadd, 1) := by decide +kernel
theorem dXM_read_24 : decode cXM_read 24 = .ok (.baload, 1) := by decide +kernel
theorem dXM_read_25 : decode cXM_read 25 = .ok (.sipush 255, 3) := by decide +kernel
theorem dXM_read_28 : decode cXM_read 28 = .ok (.iand, 1) := by decide +kernel
theorem dXM_read_29 : decode cXM_read 29 = .ok (.i2l, 1) := by decide +kernel
theorem dXM_read_30 : decode cXM_read 30 = .ok (.lor, 1) := by decide +kernel
theorem dXM_read_31 : decode cXM_read 31 = .ok (.lstore_n 2, 1) := by decide +kernel
theorem dXM_read_32 : decode cXM_read 32 = .ok (.iinc 4 1, 3) := by decide +kernel
theorem dXM_read_35 : decode cXM_read 35 = .ok (.goto (-30), 3) := by decide +kernel
theorem dXM_read_38 : decode cXM_read 38 = .ok (.lload_n 2, 1) := by decide +kernel
theorem dXM_read_39 : decode cXM_read 39 = .ok (.lreturn, 1) := by decide +kernel
def yXM_fresh : MethodName := ⟨"ParityArrayModel", "fresh", "(I)I"⟩
abbrev cXM_fresh : ByteArray := prog_5_method_5_code
def wsXM_fresh : List Cond := .code yXM_fresh cXM_fresh 4 (some .int) :: pz_G
theorem tcXM_fresh : (.code yXM_fresh cXM_fresh 4 (some .int) : Cond) ∈ pz_G := tw_438
theorem dXM_fresh_0 : decode cXM_fresh 0 = .ok (.iload_n 1, 1) := by decide +kernel
theorem dXM_fresh_1 : decode cXM_fresh 1 = .ok (.iconst 4, 1) := by decide +kernel
theorem dXM_fresh_2 : decode cXM_fresh 2 = .ok (.idiv, 1) := by decide +kernel
theorem dXM_fresh_3 : decode cXM_fresh 3 = .ok (.istore_n 2, 1) := by decide +kernel
theorem dXM_fresh_4 : decode cXM_fresh 4 = .ok (.aload_n 0, 1) := by decide +kernel
theorem dXM_fresh_5 : decode cXM_fresh 5 = .ok (.iload_n 2, 1) := by decide +kernel
theorem dXM_fresh_6 : decode cXM_fresh 6 = .ok (.iconst 5, 1) := by decide +kernel
theorem dXM_fresh_7 : decode cXM_fresh 7 = .ok (.irem, 1) := by decide +kernel
theorem dXM_fresh_8 : decode cXM_fresh 8 = .ok (.iload_n 2, 1) := by decide +kernel
theorem dXM_fresh_9 : decode cXM_fresh 9 = .ok (.invokevirtual 31, 3) := by decide +kernel
theorem dXM_fresh_12 : decode cXM_fresh 12 = .ok (.ifCond .eq 7, 3) := by decide +kernel
theorem dXM_fresh_15 : decode cXM_fresh 15 = .ok (.iconst 1, 1) := by decide +kernel
theorem dXM_fresh_16 : decode cXM_fresh 16 = .ok (.goto 4, 3) := by decide +kernel
theorem dXM_fresh_19 : decode cXM_fresh 19 = .ok (.iconst 0, 1) := by decide +kernel
theorem dXM_fresh_20 : decode cXM_fresh 20 = .ok (.istore_n 3, 1) := by decide +kernel
theorem dXM_fresh_21 : decode cXM_fresh 21 = .ok (.aload_n 0, 1) := by decide +kernel
theorem dXM_fresh_22 : decode cXM_fresh 22 = .ok (.getfield 35, 3) := by decide +kernel
theorem dXM_fresh_25 : decode cXM_fresh 25 = .ok (.iload_n 3, 1) := by decide +kernel
theorem dXM_fresh_26 : decode cXM_fresh 26 = .ok (.if_icmp .ge 5, 3) := by decide +kernel
theorem dXM_fresh_29 : decode cXM_fresh 29 = .ok (.iconst 0, 1) := by decide +kernel
theorem dXM_fresh_30 : decode cXM_fresh 30 = .ok (.ireturn, 1) := by decide +kernel
theorem dXM_fresh_31 : decode cXM_fresh 31 = .ok (.aload_n 0, 1) := by decide +kernel
theorem dXM_fresh_32 : decode cXM_fresh 32 = .ok (.getfield 35, 3) := by decide +kernel
theorem dXM_fresh_35 : decode cXM_fresh 35 = .ok (.iload_n 3, 1) := by decide +kernel
theorem dXM_fresh_36 : decode cXM_fresh 36 = .ok (.if_icmp .le 7, 3) := by decide +kernel
theorem dXM_fresh_39 : decode cXM_fresh 39 = .ok (.sipush 128, 3) := by decide +kernel
theorem dXM_fresh_42 : decode cXM_fresh 42 = .ok (.ireturn, 1) := by decide +kernel
theorem dXM_fresh_43 : decode cXM_fresh 43 = .ok (.aload_n 0, 1) := by decide +kernel
theorem dXM_fresh_44 : decode cXM_fresh 44 = .ok (.getfield 38, 3) := by decide +kernel
theorem dXM_fresh_47 : decode cXM_fresh 47 = .ok (.sipush 128, 3) := by decide +kernel
theorem dXM_fresh_50 : decode cXM_fresh 50 = .ok (.if_icmp .ge 10, 3) := by decide +kernel
theorem dXM_fresh_53 : decode cXM_fresh 53 = .ok (.aload_n 0, 1) := by decide +kernel
theorem dXM_fresh_54 : decode cXM_fresh 54 = .ok (.getfield 38, 3) := by decide +kernel
theorem dXM_fresh_57 : decode cXM_fresh 57 = .ok (.goto 6, 3) := by decide +kernel
theorem dXM_fresh_60 : decode cXM_fresh 60 = .ok (.sipush 128, 3) := by decide +kernel
theorem dXM_fresh_63 : decode cXM_fresh 63 = .ok (.ireturn, 1) := by decide +kernel
def yXM_isThere : MethodName := ⟨"ParityArrayModel", "isThere", "(II)Z"⟩
abbrev cXM_isThere : ByteArray := prog_5_method_4_code
def wsXM_isThere : List Cond := .code yXM_isThere cXM_isThere 3 (some .boolean) :: pz_G
theorem tcXM_isThere : (.code yXM_isThere cXM_isThere 3 (some .boolean) : Cond) ∈ pz_G := tw_442
theorem dXM_isThere_0 : decode cXM_isThere 0 = .ok (.iload_n 1, 1) := by decide +kernel
theorem dXM_isThere_1 : decode cXM_isThere 1 = .ok (.aload_n 0, 1) := by decide +kernel
theorem dXM_isThere_2 : decode cXM_isThere 2 = .ok (.getfield 18, 3) := by decide +kernel
theorem dXM_isThere_5 : decode cXM_isThere 5 = .ok (.if_icmp .ne 18, 3) := by decide +kernel
theorem dXM_isThere_8 : decode cXM_isThere 8 = .ok (.aload_n 0, 1) := by decide +kernel
theorem dXM_isThere_9 : decode cXM_isThere 9 = .ok (.getfield 25, 3) := by decide +kernel
theorem dXM_isThere_12 : decode cXM_isThere 12 = .ok (.ifCond .eq 15, 3) := by decide +kernel
theorem dXM_isThere_15 : decode cXM_isThere 15 = .ok (.iload_n 2, 1) := by decide +kernel
theorem dXM_isThere_16 : decode cXM_isThere 16 = .ok (.aload_n 0, 1) := by decide +kernel
theorem dXM_isThere_17 : decode cXM_isThere 17 = .ok (.getfield 28, 3) := by decide +kernel
theorem dXM_isThere_20 : decode cXM_isThere 20 = .ok (.if_icmp .ge 7, 3) := by decide +kernel
theorem dXM_isThere_23 : decode cXM_isThere 23 = .ok (.iconst 1, 1) := by decide +kernel
theorem dXM_isThere_24 : decode cXM_isThere 24 = .ok (.goto 4, 3) := by decide +kernel
theorem dXM_isThere_27 : decode cXM_isThere 27 = .ok (.iconst 0, 1) := by decide +kernel
theorem dXM_isThere_28 : decode cXM_isThere 28 = .ok (.ireturn, 1) := by decide +kernel
def yXM_get : MethodName := ⟨"ParityArrayModel", "get", "(II)J"⟩
abbrev cXM_get : ByteArray := prog_5_method_8_code
def wsXM_get : List Cond := .code yXM_get cXM_get 3 (some .long) :: pz_G
theorem tcXM_get : (.code yXM_get cXM_get 3 (some .long) : Cond) ∈ pz_G := tw_446
theorem dXM_get_0 : decode cXM_get 0 = .ok (.aload_n 0, 1) := by decide +kernel
theorem dXM_get_1 : decode cXM_get 1 = .ok (.getfield 14, 3) := by decide +kernel
theorem dXM_get_4 : decode cXM_get 4 = .ok (.ifCond .ne 10, 3) := by decide +kernel
theorem dXM_get_7 : decode cXM_get 7 = .ok (.aload_n 0, 1) := by decide +kernel
theorem dXM_get_8 : decode cXM_get 8 = .ok (.iconst 1, 1) := by decide +kernel
theorem dXM_get_9 : decode cXM_get 9 = .ok (.invokevirtual 41, 3) := by decide +kernel
theorem dXM_get_12 : decode cXM_get 12 = .ok (.i2l, 1) := by decide +kernel
theorem dXM_get_13 : decode cXM_get 13 = .ok (.lreturn, 1) := by decide +kernel
theorem dXM_get_14 : decode cXM_get 14 = .ok (.iload_n 1, 1) := by decide +kernel
theorem dXM_get_15 : decode cXM_get 15 = .ok (.ifCond .lt 20, 3) := by decide +kernel
theorem dXM_get_18 : decode cXM_get 18 = .ok (.iload_n 1, 1) := by decide +kernel
theorem dXM_get_19 : decode cXM_get 19 = .ok (.sipush 600, 3) := by decide +kernel
theorem dXM_get_22 : decode cXM_get 22 = .ok (.if_icmp .ge 13, 3) := by decide +kernel
theorem dXM_get_25 : decode cXM_get 25 = .ok (.iload_n 2, 1) := by decide +kernel
theorem dXM_get_26 : decode cXM_get 26 = .ok (.ifCond .lt 9, 3) := by decide +kernel
theorem dXM_get_29 : decode cXM_get 29 = .ok (.iload_n 2, 1) := by decide +kernel
theorem dXM_get_30 : decode cXM_get 30 = .ok (.bipush 16, 2) := by decide +kernel
theorem dXM_get_32 : decode cXM_get 32 = .ok (.if_icmp .lt 10, 3) := by decide +kernel
theorem dXM_get_35 : decode cXM_get 35 = .ok (.aload_n 0, 1) := by decide +kernel
theorem dXM_get_36 : decode cXM_get 36 = .ok (.iconst 2, 1) := by decide +kernel
theorem dXM_get_37 : decode cXM_get 37 = .ok (.invokevirtual 41, 3) := by decide +kernel
theorem dXM_get_40 : decode cXM_get 40 = .ok (.i2l, 1) := by decide +kernel
theorem dXM_get_41 : decode cXM_get 41 = .ok (.lreturn, 1) := by decide +kernel
theorem dXM_get_42 : decode cXM_get 42 = .ok (.aload_n 0, 1) := by decide +kernel
theorem dXM_get_43 : decode cXM_get 43 = .ok (.iconst 0, 1) := by decide +kernel
theorem dXM_get_44 : decode cXM_get 44 = .ok (.putfield 22, 3) := by decide +kernel
theorem dXM_get_47 : decode cXM_get 47 = .ok (.aload_n 0, 1) := by decide +kernel
theorem dXM_get_48 : decode cXM_get 48 = .ok (.iload_n 1, 1) := by decide +kernel
theorem dXM_get_49 : decode cXM_get 49 = .ok (.sipush 128, 3) := by decide +kernel
theorem dXM_get_52 : decode cXM_get 52 = .ok (.imul, 1) := by decide +kernel
theorem dXM_get_53 : decode cXM_get 53 = .ok (.bipush 8, 2) := by decide +kernel
theorem dXM_get_55 : decode cXM_get 55 = .ok (.iload_n 2, 1) := by decide +kernel
theorem dXM_get_56 : decode cXM_get 56 = .ok (.imul, 1) := by decide +kernel
theorem dXM_get_57 : decode cXM_get 57 = .ok (.iadd, 1) := by decide +kernel
theorem dXM_get_58 : decode cXM_get 58 = .ok (.invokevirtual 45, 3) := by decide +kernel
theorem dXM_get_61 : decode cXM_get 61 = .ok (.lreturn, 1) := by decide +kernel
def yXM_die : MethodName := ⟨"ParityArrayModel", "die", "(I)V"⟩
abbrev cXM_die : ByteArray := prog_5_method_9_code
def wsXM_die : List Cond := .code yXM_die cXM_die 2 (none : Option Jvm.ClassFile.FieldType) :: pz_G
theorem tcXM_die : (.code yXM_die cXM_die 2 (none : Option Jvm.ClassFile.FieldType) : Cond) ∈ pz_G := tw_450
theorem dXM_die_0 : decode cXM_die 0 = .ok (.aload_n 0, 1) := by decide +kernel
theorem dXM_die_1 : decode cXM_die 1 = .ok (.iload_n 1, 1) := by decide +kernel
theorem dXM_die_2 : decode cXM_die 2 = .ok (.ifCond .lt 8, 3) := by decide +kernel
theorem dXM_die_5 : decode cXM_die 5 = .ok (.iload_n 1, 1) := by decide +kernel
theorem dXM_die_6 : decode cXM_die 6 = .ok (.iconst 4, 1) := by decide +kernel
theorem dXM_die_7 : decode cXM_die 7 = .ok (.if_icmp .le 7, 3) := by decide +kernel
theorem dXM_die_10 : decode cXM_die 10 = .ok (.iconst 1, 1) := by decide +kernel
theorem dXM_die_11 : decode cXM_die 11 = .ok (.goto 23, 3) := by decide +kernel
theorem dXM_die_14 : decode cXM_die 14 = .ok (.aload_n 0, 1) := by decide +kernel
theorem dXM_die_15 : decode cXM_die 15 = .ok (.getfield 14, 3) := by decide +kernel
theorem dXM_die_18 : decode cXM_die 18 = .ok (.ifCond .eq 11, 3) := by decide +kernel
theorem dXM_die_21 : decode cXM_die 21 = .ok (.aload_n 0, 1) := by decide +kernel
theorem dXM_die_22 : decode cXM_die 22 = .ok (.getfield 18, 3) := by decide +kernel
theorem dXM_die_25 : decode cXM_die 25 = .ok (.iconst (-1), 1) := by decide +kernel
theorem dXM_die_26 : decode cXM_die 26 = .ok (.if_icmp .eq 7, 3) := by decide +kernel
theorem dXM_die_29 : decode cXM_die 29 = .ok (.iconst 2, 1) := by decide +kernel
theorem dXM_die_30 : decode cXM_die 30 = .ok (.goto 4, 3) := by decide +kernel
theorem dXM_die_33 : decode cXM_die 33 = .ok (.iconst 0, 1) := by decide +kernel
theorem dXM_die_34 : decode cXM_die 34 = .ok (.putfield 22, 3) := by decide +kernel
theorem dXM_die_37 : decode cXM_die 37 = .ok (.aload_n 0, 1) := by decide +kernel
theorem dXM_die_38 : decode cXM_die 38 = .ok (.getfield 22, 3) := by decide +kernel
theorem dXM_die_41 : decode cXM_die 41 = .ok (.ifCond .eq 4, 3) := by decide +kernel
theorem dXM_die_44 : decode cXM_die 44 = .ok (.return_, 1) := by decide +kernel
theorem dXM_die_45 : decode cXM_die 45 = .ok (.aload_n 0, 1) := by decide +kernel
theorem dXM_die_46 : decode cXM_die 46 = .ok (.iload_n 1, 1) := by decide +kernel
theorem dXM_die_47 : decode cXM_die 47 = .ok (.putfield 18, 3) := by decide +kernel
theorem dXM_die_50 : decode cXM_die 50 = .ok (.aload_n 0, 1) := by decide +kernel
theorem dXM_die_51 : decode cXM_die 51 = .ok (.iconst 0, 1) := by decide +kernel
theorem dXM_die_52 : decode cXM_die 52 = .ok (.putfield 25, 3) := by decide +kernel
theorem dXM_die_55 : decode cXM_die 55 = .ok (.aload_n 0, 1) := by decide +kernel
theorem dXM_die_56 : decode cXM_die 56 = .ok (.iconst 0, 1) := by decide +kernel
theorem dXM_die_57 : decode cXM_die 57 = .ok (.putfield 28, 3) := by decide +kernel
theorem dXM_die_60 : decode cXM_die 60 = .ok (.return_, 1) := by decide +kernel
def yXM_replace : MethodName := ⟨"ParityArrayModel", "replace", "()I"⟩
abbrev cXM_replace : ByteArray := prog_5_method_10_code
def wsXM_replace : List Cond := .code yXM_replace cXM_replace 1 (some .int) :: pz_G
theorem tcXM_replace : (.code yXM_replace cXM_replace 1 (some .int) : Cond) ∈ pz_G := tw_454
theorem dXM_replace_0 : decode cXM_replace 0 = .ok (.aload_n 0, 1) := by decide +kernel
theorem dXM_replace_1 : decode cXM_replace 1 = .ok (.getfield 18, 3) := by decide +kernel
theorem dXM_replace_4 : decode cXM_replace 4 = .ok (.iconst (-1), 1) := by decide +kernel
theorem dXM_replace_5 : decode cXM_replace 5 = .ok (.if_icmp .eq 10, 3) := by decide +kernel
theorem dXM_replace_8 : decode cXM_replace 8 = .ok (.aload_n 0, 1) := by decide +kernel
theorem dXM_replace_9 : decode cXM_replace 9 = .ok (.getfield 25, 3) := by decide +kernel
theorem dXM_replace_12 : decode cXM_replace 12 = .ok (.ifCond .eq 9, 3) := by decide +kernel
theorem dXM_replace_15 : decode cXM_replace 15 = .ok (.aload_n 0, 1) := by decide +kernel
theorem dXM_replace_16 : decode cXM_replace 16 = .ok (.iconst 1, 1) := by decide +kernel
theorem dXM_replace_17 : decode cXM_replace 17 = .ok (.invokevirtual 41, 3) := by decide +kernel
theorem dXM_replace_20 : decode cXM_replace 20 = .ok (.ireturn, 1) := by decide +kernel
theorem dXM_replace_21 : decode cXM_replace 21 = .ok (.aload_n 0, 1) := by decide +kernel
theorem dXM_replace_22 : decode cXM_replace 22 = .ok (.iconst 0, 1) := by decide +kernel
theorem dXM_replace_23 : decode cXM_replace 23 = .ok (.putfield 22, 3) := by decide +kernel
theorem dXM_replace_26 : decode cXM_replace 26 = .ok (.aload_n 0, 1) := by decide +kernel
theorem dXM_replace_27 : decode cXM_replace 27 = .ok (.iconst 1, 1) := by decide +kernel
theorem dXM_replace_28 : decode cXM_replace 28 = .ok (.putfield 25, 3) := by decide +kernel
theorem dXM_replace_31 : decode cXM_replace 31 = .ok (.aload_n 0, 1) := by decide +kernel
theorem dXM_replace_32 : decode cXM_replace 32 = .ok (.getfield 18, 3) := by decide +kernel
theorem dXM_replace_35 : decode cXM_replace 35 = .ok (.ireturn, 1) := by decide +kernel
def yXM_rebuild : MethodName := ⟨"ParityArrayModel", "rebuild", "()I"⟩
abbrev cXM_rebuild : ByteArray := prog_5_method_11_code
def wsXM_rebuild : List Cond := .code yXM_rebuild cXM_rebuild 2 (some .int) :: pz_G
theorem tcXM_rebuild : (.code yXM_rebuild cXM_rebuild 2 (some .int) : Cond) ∈ pz_G := tw_458
theorem dXM_rebuild_0 : decode cXM_rebuild 0 = .ok (.aload_n 0, 1) := by decide +kernel
theorem dXM_rebuild_1 : decode cXM_rebuild 1 = .ok (.getfield 14, 3) := by decide +kernel
theorem dXM_rebuild_4 : decode cXM_rebuild 4 = .ok (.ifCond .eq 18, 3) := by decide +kernel
theorem dXM_rebuild_7 : decode cXM_rebuild 7 = .ok (.aload_n 0, 1) := by decide +kernel
theorem dXM_rebuild_8 : decode cXM_rebuild 8 = .ok (.getfield 18, 3) := by decide +kernel
theorem dXM_rebuild_11 : decode cXM_rebuild 11 = .ok (.iconst (-1), 1) := by decide +kernel
theorem dXM_rebuild_12 : decode cXM_rebuild 12 = .ok (.if_icmp .eq 10, 3) := by decide +kernel
theorem dXM_rebuild_15 : decode cXM_rebuild 15 = .ok (.aload_n 0, 1) := by decide +kernel
theorem dXM_rebuild_16 : decode cXM_rebuild 16 = .ok (.getfield 25, 3) := by decide +kernel
theorem dXM_rebuild_19 : decode cXM_rebuild 19 = .ok (.ifCond .ne 9, 3) := by decide +kernel
theorem dXM_rebuild_22 : decode cXM_rebuild 22 = .ok (.aload_n 0, 1) := by decide +kernel
theorem dXM_rebuild_23 : decode cXM_rebuild 23 = .ok (.iconst 1, 1) := by decide +kernel
theorem dXM_rebuild_24 : decode cXM_rebuild 24 = .ok (.invokevirtual 41, 3) := by decide +kernel
theorem dXM_rebuild_27 : decode cXM_rebuild 27 = .ok (.ireturn, 1) := by decide +kernel
theorem dXM_rebuild_28 : decode cXM_rebuild 28 = .ok (.aload_n 0, 1) := by decide +kernel
theorem dXM_rebuild_29 : decode cXM_rebuild 29 = .ok (.iconst 0, 1) := by decide +kernel
theorem dXM_rebuild_30 : decode cXM_rebuild 30 = .ok (.putfield 22, 3) := by decide +kernel
theorem dXM_rebuild_33 : decode cXM_rebuild 33 = .ok (.aload_n 0, 1) := by decide +kernel
theorem dXM_rebuild_34 : decode cXM_rebuild 34 = .ok (.dup, 1) := by decide +kernel
theorem dXM_rebuild_35 : decode cXM_rebuild 35 = .ok (.getfield 28, 3) := by decide +kernel
theorem dXM_rebuild_38 : decode cXM_rebuild 38 = .ok (.iconst 1, 1) := by decide +kernel
theorem dXM_rebuild_39 : decode cXM_rebuild 39 = .ok (.iadd, 1) := by decide +kernel
theorem dXM_rebuild_40 : decode cXM_rebuild 40 = .ok (.putfield 28, 3) := by decide +kernel
theorem dXM_rebuild_43 : decode cXM_rebuild 43 = .ok (.sipush 150, 3) := by decide +kernel
theorem dXM_rebuild_46 : decode cXM_rebuild 46 = .ok (.aload_n 0, 1) := by decide +kernel
theorem dXM_rebuild_47 : decode cXM_rebuild 47 = .ok (.getfield 28, 3) := by decide +kernel
theorem dXM_rebuild_50 : decode cXM_rebuild 50 = .ok (.isub, 1) := by decide +kernel
theorem dXM_rebuild_51 : decode cXM_rebuild 51 = .ok (.istore_n 1, 1) := by decide +kernel
theorem dXM_rebuild_52 : decode cXM_rebuild 52 = .ok (.iload_n 1, 1) := by decide +kernel
theorem dXM_rebuild_53 : decode cXM_rebuild 53 = .ok (.ifCond .le 5, 3) := by decide +kernel
theorem dXM_rebuild_56 : decode cXM_rebuild 56 = .ok (.iload_n 1, 1) := by decide +kernel
theorem dXM_rebuild_57 : decode cXM_rebuild 57 = .ok (.ireturn, 1) := by decide +kernel
theorem dXM_rebuild_58 : decode cXM_rebuild 58 = .ok (.aload_n 0, 1) := by decide +kernel
theorem dXM_rebuild_59 : decode cXM_rebuild 59 = .ok (.iconst (-1), 1) := by decide +kernel
theorem dXM_rebuild_60 : decode cXM_rebuild 60 = .ok (.putfield 18, 3) := by decide +kernel
theorem dXM_rebuild_63 : decode cXM_rebuild 63 = .ok (.aload_n 0, 1) := by decide +kernel
theorem dXM_rebuild_64 : decode cXM_rebuild 64 = .ok (.iconst 0, 1) := by decide +kernel
theorem dXM_rebuild_65 : decode cXM_rebuild 65 = .ok (.putfield 25, 3) := by decide +kernel
theorem dXM_rebuild_68 : decode cXM_rebuild 68 = .ok (.aload_n 0, 1) := by decide +kernel
theorem dXM_rebuild_69 : decode cXM_rebuild 69 = .ok (.iconst 0, 1) := by decide +kernel
theorem dXM_rebuild_70 : decode cXM_rebuild 70 = .ok (.putfield 28, 3) := by decide +kernel
theorem dXM_rebuild_73 : decode cXM_rebuild 73 = .ok (.iconst 0, 1) := by decide +kernel
theorem dXM_rebuild_74 : decode cXM_rebuild 74 = .ok (.ireturn, 1) := by decide +kernel
def yXM_power : MethodName := ⟨"ParityArrayModel", "power", "(IIZ)V"⟩
abbrev cXM_power : ByteArray := prog_5_method_12_code
def wsXM_power : List Cond := .code yXM_power cXM_power 4 (none : Option Jvm.ClassFile.FieldType) :: pz_G
theorem tcXM_power : (.code yXM_power cXM_power 4 (none : Option Jvm.ClassFile.FieldType) : Cond) ∈ pz_G := tw_462
theorem dXM_power_0 : decode cXM_power 0 = .ok (.aload_n 0, 1) := by decide +kernel
theorem dXM_power_1 : decode cXM_power 1 = .ok (.iload_n 1, 1) := by decide +kernel
theorem dXM_power_2 : decode cXM_power 2 = .ok (.ifCond .lt 20, 3) := by decide +kernel
theorem dXM_power_5 : decode cXM_power 5 = .ok (.iload_n 1, 1) := by decide +kernel
theorem dXM_power_6 : decode cXM_power 6 = .ok (.bipush 10, 2) := by decide +kernel
theorem dXM_power_8 : decode cXM_power 8 = .ok (.if_icmp .gt 14, 3) := by decide +kernel
theorem dXM_power_11 : decode cXM_power 11 = .ok (.iload_n 2, 1) := by decide +kernel
theorem dXM_power_12 : decode cXM_power 12 = .ok (.ifCond .lt 10, 3) := by decide +kernel
theorem dXM_power_15 : decode cXM_power 15 = .ok (.iload_n 2, 1) := by decide +kernel
theorem dXM_power_16 : decode cXM_power 16 = .ok (.sipush 200, 3) := by decide +kernel
theorem dXM_power_19 : decode cXM_power 19 = .ok (.if_icmp .le 7, 3) := by decide +kernel
theorem dXM_power_22 : decode cXM_power 22 = .ok (.iconst 1, 1) := by decide +kernel
theorem dXM_power_23 : decode cXM_power 23 = .ok (.goto 4, 3) := by decide +kernel
theorem dXM_power_26 : decode cXM_power 26 = .ok (.iconst 0, 1) := by decide +kernel
theorem dXM_power_27 : decode cXM_power 27 = .ok (.putfield 22, 3) := by decide +kernel
theorem dXM_power_30 : decode cXM_power 30 = .ok (.aload_n 0, 1) := by decide +kernel
theorem dXM_power_31 : decode cXM_power 31 = .ok (.getfield 22, 3) := by decide +kernel
theorem dXM_power_34 : decode cXM_power 34 = .ok (.ifCond .eq 4, 3) := by decide +kernel
theorem dXM_power_37 : decode cXM_power 37 = .ok (.return_, 1) := by decide +kernel
theorem dXM_power_38 : decode cXM_power 38 = .ok (.aload_n 0, 1) := by decide +kernel
theorem dXM_power_39 : decode cXM_power 39 = .ok (.iload_n 3, 1) := by decide +kernel
theorem dXM_power_40 : decode cXM_power 40 = .ok (.ifCond .eq 7, 3) := by decide +kernel
theorem dXM_power_43 : decode cXM_power 43 = .ok (.iconst 2, 1) := by decide +kernel
theorem dXM_power_44 : decode cXM_power 44 = .ok (.goto 4, 3) := by decide +kernel
theorem dXM_power_47 : decode cXM_power 47 = .ok (.iconst 1, 1) := by decide +kernel
theorem dXM_power_48 : decode cXM_power 48 = .ok (.putfield 49, 3) := by decide +kernel
theorem dXM_power_51 : decode cXM_power 51 = .ok (.aload_n 0, 1) := by decide +kernel
theorem dXM_power_52 : decode cXM_power 52 = .ok (.iload_n 1, 1) := by decide +kernel
theorem dXM_power_53 : decode cXM_power 53 = .ok (.putfield 35, 3) := by decide +kernel
theorem dXM_power_56 : decode cXM_power 56 = .ok (.aload_n 0, 1) := by decide +kernel
theorem dXM_power_57 : decode cXM_power 57 = .ok (.iload_n 2, 1) := by decide +kernel
theorem dXM_power_58 : decode cXM_power 58 = .ok (.putfield 38, 3) := by decide +kernel
theorem dXM_power_61 : decode cXM_power 61 = .ok (.return_, 1) := by decide +kernel
def yXM_recover : MethodName := ⟨"ParityArrayModel", "recover", "()V"⟩
abbrev cXM_recover : ByteArray := prog_5_method_13_code
def wsXM_recover : List Cond := .code yXM_recover cXM_recover 1 (none : Option Jvm.ClassFile.FieldType) :: pz_G
theorem tcXM_recover : (.code yXM_recover cXM_recover 1 (none : Option Jvm.ClassFile.FieldType) : Cond) ∈ pz_G := tw_466
theorem dXM_recover_0 : decode cXM_recover 0 = .ok (.aload_n 0, 1) := by decide +kernel
theorem dXM_recover_1 : decode cXM_recover 1 = .ok (.aload_n 0, 1) := by decide +kernel
theorem dXM_recover_2 : decode cXM_recover 2 = .ok (.getfield 49, 3) := by decide +kernel
theorem dXM_recover_5 : decode cXM_recover 5 = .ok (.iconst 2, 1) := by decide +kernel
theorem dXM_recover_6 : decode cXM_recover 6 = .ok (.if_icmp .eq 7, 3) := by decide +kernel
theorem dXM_recover_9 : decode cXM_recover 9 = .ok (.iconst 1, 1) := by decide +kernel
theorem dXM_recover_10 : decode cXM_recover 10 = .ok (.goto 4, 3) := by decide +kernel
theorem dXM_recover_13 : decode cXM_recover 13 = .ok (.iconst 0, 1) := by decide +kernel
theorem dXM_recover_14 : decode cXM_recover 14 = .ok (.putfield 14, 3) := by decide +kernel
theorem dXM_recover_17 : decode cXM_recover 17 = .ok (.aload_n 0, 1) := by decide +kernel
theorem dXM_recover_18 : decode cXM_recover 18 = .ok (.aload_n 0, 1) := by decide +kernel
theorem dXM_recover_19 : decode cXM_recover 19 = .ok (.getfield 14, 3) := by decide +kernel
theorem dXM_recover_22 : decode cXM_recover 22 = .ok (.ifCond .eq 7, 3) := by decide +kernel
theorem dXM_recover_25 : decode cXM_recover 25 = .ok (.iconst 0, 1) := by decide +kernel
theorem dXM_recover_26 : decode cXM_recover 26 = .ok (.goto 4, 3) := by decide +kernel
theorem dXM_recover_29 : decode cXM_recover 29 = .ok (.iconst 1, 1) := by decide +kernel
theorem dXM_recover_30 : decode cXM_recover 30 = .ok (.putfield 22, 3) := by decide +kernel
theorem dXM_recover_33 : decode cXM_recover 33 = .ok (.aload_n 0, 1) := by decide +kernel
theorem dXM_recover_34 : decode cXM_recover 34 = .ok (.iconst 0, 1) := by decide +kernel
theorem dXM_recover_35 : decode cXM_recover 35 = .ok (.putfield 49, 3) := by decide +kernel
theorem dXM_recover_38 : decode cXM_recover 38 = .ok (.return_, 1) := by decide +kernel
def yXM_told : MethodName := ⟨"ParityArrayModel", "told", "(I)I"⟩
abbrev cXM_told : ByteArray := prog_5_method_14_code
def wsXM_told : List Cond := .code yXM_told cXM_told 2 (some .int) :: pz_G
theorem tcXM_told : (.code yXM_told cXM_told 2 (some .int) : Cond) ∈ pz_G := tw_470
theorem dXM_told_0 : decode cXM_told 0 = .ok (.iload_n 1, 1) := by decide +kernel
theorem dXM_told_1 : decode cXM_told 1 = .ok (.ifCond .lt 8, 3) := by decide +kernel
theorem dXM_told_4 : decode cXM_told 4 = .ok (.iload_n 1, 1) := by decide +kernel
theorem dXM_told_5 : decode cXM_told 5 = .ok (.iconst 3, 1) := by decide +kernel
theorem dXM_told_6 : decode cXM_told 6 = .ok (.if_icmp .le 9, 3) := by decide +kernel
theorem dXM_told_9 : decode cXM_told 9 = .ok (.aload_n 0, 1) := by decide +kernel
theorem dXM_told_10 : decode cXM_told 10 = .ok (.iconst 1, 1) := by decide +kernel
theorem dXM_told_11 : decode cXM_told 11 = .ok (.invokevirtual 41, 3) := by decide +kernel
theorem dXM_told_14 : decode cXM_told 14 = .ok (.ireturn, 1) := by decide +kernel
theorem dXM_told_15 : decode cXM_told 15 = .ok (.aload_n 0, 1) := by decide +kernel
theorem dXM_told_16 : decode cXM_told 16 = .ok (.iconst 0, 1) := by decide +kernel
theorem dXM_told_17 : decode cXM_told 17 = .ok (.putfield 22, 3) := by decide +kernel
theorem dXM_told_20 : decode cXM_told 20 = .ok (.iload_n 1, 1) := by decide +kernel
theorem dXM_told_21 : decode cXM_told 21 = .ok (.ifCond .ne 18, 3) := by decide +kernel
theorem dXM_told_24 : decode cXM_told 24 = .ok (.aload_n 0, 1) := by decide +kernel
theorem dXM_told_25 : decode cXM_told 25 = .ok (.getfield 14, 3) := by decide +kernel
theorem dXM_told_28 : decode cXM_told 28 = .ok (.ifCond .eq 7, 3) := by decide +kernel
theorem dXM_told_31 : decode cXM_told 31 = .ok (.iconst 1, 1) := by decide +kernel
theorem dXM_told_32 : decode cXM_told 32 = .ok (.goto 43, 3) := by decide +kernel
theorem dXM_told_35 : decode cXM_told 35 = .ok (.iconst 0, 1) := by decide +kernel
theorem dXM_told_36 : decode cXM_told 36 = .ok (.goto 39, 3) := by decide +kernel
theorem dXM_told_39 : decode cXM_told 39 = .ok (.iload_n 1, 1) := by decide +kernel
theorem dXM_told_40 : decode cXM_told 40 = .ok (.iconst 1, 1) := by decide +kernel
theorem dXM_told_41 : decode cXM_told 41 = .ok (.if_icmp .ne 10, 3) := by decide +kernel
theorem dXM_told_44 : decode cXM_told 44 = .ok (.aload_n 0, 1) := by decide +kernel
theorem dXM_told_45 : decode cXM_told 45 = .ok (.getfield 18, 3) := by decide +kernel
theorem dXM_told_48 : decode cXM_told 48 = .ok (.goto 27, 3) := by decide +kernel
theorem dXM_told_51 : decode cXM_told 51 = .ok (.iload_n 1, 1) := by decide +kernel
theorem dXM_told_52 : decode cXM_told 52 = .ok (.iconst 2, 1) := by decide +kernel
theorem dXM_told_53 : decode cXM_told 53 = .ok (.if_icmp .ne 18, 3) := by decide +kernel
theorem dXM_told_56 : decode cXM_told 56 = .ok (.aload_n 0, 1) := by decide +kernel
theorem dXM_told_57 : decode cXM_told 57 = .ok (.getfield 25, 3) := by decide +kernel
theorem dXM_told_60 : decode cXM_told 60 = .ok (.ifCond .eq 7, 3) := by decide +kernel
theorem dXM_told_63 : decode cXM_told 63 = .ok (.iconst 1, 1) := by decide +kernel
theorem dXM_told_64 : decode cXM_told 64 = .ok (.goto 11, 3) := by decide +kernel
theorem dXM_told_67 : decode cXM_told 67 = .ok (.iconst 0, 1) := by decide +kernel
theorem dXM_told_68 : decode cXM_told 68 = .ok (.goto 7, 3) := by decide +kernel
theorem dXM_told_71 : decode cXM_told 71 = .ok (.aload_n 0, 1) := by decide +kernel
theorem dXM_told_72 : decode cXM_told 72 = .ok (.getfield 28, 3) := by decide +kernel
theorem dXM_told_75 : decode cXM_told 75 = .ok (.ireturn, 1) := by decide +kernel
def yXM_check : MethodName := ⟨"ParityArrayModel", "check", "()I"⟩
abbrev cXM_check : ByteArray := prog_5_method_15_code
def wsXM_check : List Cond := .code yXM_check cXM_check 1 (some .int) :: pz_G
theorem tcXM_check : (.code yXM_check cXM_check 1 (some .int) : Cond) ∈ pz_G := tw_474
theorem dXM_check_0 : decode cXM_check 0 = .ok (.aload_n 0, 1) := by decide +kernel
theorem dXM_check_1 : decode cXM_check 1 = .ok (.aload_n 0, 1) := by decide +kernel
theorem dXM_check_2 : decode cXM_check 2 = .ok (.getfield 14, 3) := by decide +kernel
theorem dXM_check_5 : decode cXM_check 5 = .ok (.ifCond .eq 7, 3) := by decide +kernel
theorem dXM_check_8 : decode cXM_check 8 = .ok (.iconst 0, 1) := by decide +kernel
theorem dXM_check_9 : decode cXM_check 9 = .ok (.goto 4, 3) := by decide +kernel
theorem dXM_check_12 : decode cXM_check 12 = .ok (.iconst 1, 1) := by decide +kernel
theorem dXM_check_13 : decode cXM_check 13 = .ok (.putfield 22, 3) := by decide +kernel
theorem dXM_check_16 : decode cXM_check 16 = .ok (.iconst 0, 1) := by decide +kernel
theorem dXM_check_17 : decode cXM_check 17 = .ok (.ireturn, 1) := by decide +kernel
end
section
/-! methods: names, code, words, decode rows (written by a program) -/
def yXL_set : MethodName := ⟨"ParityArrayLaw", "set", "(LParityArray;IIJ[J)I"⟩
abbrev cXL_set : ByteArray := method_3_code
def wsXL_set : List Cond := .codeWith yXL_set cXL_set 7 (some .int) [(0, 11, 14, 13), (0, 11, 18, 15), (0, 11, 22, 17)] :: pz_G
theorem dXL_set_0 : decode cXL_set 0 = .ok (.aload 5, 2) := by decide +kernel
theorem dXL_set_2 : decode cXL_set 2 = .ok (.iconst 0, 1) := by decide +kernel
theorem dXL_set_3 : decode cXL_set 3 = .ok (.aload_n 0, 1) := by decide +kernel
theorem dXL_set_4 : decode cXL_set 4 = .ok (.iload_n 1, 1) := by decide +kernel
theorem dXL_set_5 : decode cXL_set 5 = .ok (.iload_n 2, 1) := by decide +kernel
theorem dXL_set_6 : decode cXL_set 6 = .ok (.lload_n 3, 1) := by decide +kernel
theorem dXL_set_7 : decode cXL_set 7 = .ok (.invokevirtual 7, 3) := by decide +kernel
theorem dXL_set_10 : decode cXL_set 10 = .ok (.lastore, 1) := by decide +kernel
theorem dXL_set_11 : decode cXL_set 11 = .ok (.goto 15, 3) := by decide +kernel
theorem dXL_set_14 : decode cXL_set 14 = .ok (.astore 6, 2) := by decide +kernel
theorem dXL_set_16 : decode cXL_set 16 = .ok (.iconst 1, 1) := by decide +kernel
theorem dXL_set_17 : decode cXL_set 17 = .ok (.ireturn, 1) := by decide +kernel
theorem dXL_set_18 : decode cXL_set 18 = .ok (.astore 6, 2) := by decide +kernel
theorem dXL_set_20 : decode cXL_set 20 = .ok (.iconst 2, 1) := by decide +kernel
theorem dXL_set_21 : decode cXL_set 21 = .ok (.ireturn, 1) := by decide +kernel
theorem dXL_set_22 : decode cXL_set 22 = .ok (.astore 6, 2) := by decide +kernel
theorem dXL_set_24 : decode cXL_set 24 = .ok (.iconst 3, 1) := by decide +kernel
theorem dXL_set_25 : decode cXL_set 25 = .ok (.ireturn, 1) := by decide +kernel
theorem dXL_set_26 : decode cXL_set 26 = .ok (.iconst 0, 1) := by decide +kernel
theorem dXL_set_27 : decode cXL_set 27 = .ok (.ireturn, 1) := by decide +kernel
def yXL_get : MethodName := ⟨"ParityArrayLaw", "get", "(LParityArray;II[J)I"⟩
abbrev cXL_get : ByteArray := method_4_code
def wsXL_get : List Cond := .codeWith yXL_get cXL_get 5 (some .int) [(0, 9, 12, 13), (0, 9, 16, 15)] :: pz_G
theorem dXL_get_0 : decode cXL_get 0 = .ok (.aload_n 3, 1) := by decide +kernel
theorem dXL_get_1 : decode cXL_get 1 = .ok (.iconst 0, 1) := by decide +kernel
theorem dXL_get_2 : decode cXL_get 2 = .ok (.aload_n 0, 1) := by decide +kernel
theorem dXL_get_3 : decode cXL_get 3 = .ok (.iload_n 1, 1) := by decide +kernel
theorem dXL_get_4 : decode cXL_get 4 = .ok (.iload_n 2, 1) := by decide +kernel
theorem dXL_get_5 : decode cXL_get 5 = .ok (.invokevirtual 19, 3) := by decide +kernel
theorem dXL_get_8 : decode cXL_get 8 = .ok (.lastore, 1) := by decide +kernel
theorem dXL_get_9 : decode cXL_get 9 = .ok (.goto 11, 3) := by decide +kernel
theorem dXL_get_12 : decode cXL_get 12 = .ok (.astore 4, 2) := by decide +kernel
theorem dXL_get_14 : decode cXL_get 14 = .ok (.iconst 1, 1) := by decide +kernel
theorem dXL_get_15 : decode cXL_get 15 = .ok (.ireturn, 1) := by decide +kernel
theorem dXL_get_16 : decode cXL_get 16 = .ok (.astore 4, 2) := by decide +kernel
theorem dXL_get_18 : decode cXL_get 18 = .ok (.iconst 2, 1) := by decide +kernel
theorem dXL_get_19 : decode cXL_get 19 = .ok (.ireturn, 1) := by decide +kernel
theorem dXL_get_20 : decode cXL_get 20 = .ok (.iconst 0, 1) := by decide +kernel
theorem dXL_get_21 : decode cXL_get 21 = .ok (.ireturn, 1) := by decide +kernel
def yXL_die : MethodName := ⟨"ParityArrayLaw", "die", "(LParityArray;I)I"⟩
abbrev cXL_die : ByteArray := method_5_code
def wsXL_die : List Cond := .codeWith yXL_die cXL_die 3 (some .int) [(0, 5, 8, 15), (0, 5, 11, 13)] :: pz_G
theorem dXL_die_0 : decode cXL_die 0 = .ok (.aload_n 0, 1) := by decide +kernel
theorem dXL_die_1 : decode cXL_die 1 = .ok (.iload_n 1, 1) := by decide +kernel
theorem dXL_die_2 : decode cXL_die 2 = .ok (.invokevirtual 23, 3) := by decide +kernel
theorem dXL_die_5 : decode cXL_die 5 = .ok (.goto 9, 3) := by decide +kernel
theorem dXL_die_8 : decode cXL_die 8 = .ok (.astore_n 2, 1) := by decide +kernel
theorem dXL_die_9 : decode cXL_die 9 = .ok (.iconst 1, 1) := by decide +kernel
theorem dXL_die_10 : decode cXL_die 10 = .ok (.ireturn, 1) := by decide +kernel
theorem dXL_die_11 : decode cXL_die 11 = .ok (.astore_n 2, 1) := by decide +kernel
theorem dXL_die_12 : decode cXL_die 12 = .ok (.iconst 2, 1) := by decide +kernel
theorem dXL_die_13 : decode cXL_die 13 = .ok (.ireturn, 1) := by decide +kernel
theorem dXL_die_14 : decode cXL_die 14 = .ok (.iconst 0, 1) := by decide +kernel
theorem dXL_die_15 : decode cXL_die 15 = .ok (.ireturn, 1) := by decide +kernel
def yXL_replace : MethodName := ⟨"ParityArrayLaw", "replace", "(LParityArray;[J)I"⟩
abbrev cXL_replace : ByteArray := method_6_code
def wsXL_replace : List Cond := .codeWith yXL_replace cXL_replace 3 (some .int) [(0, 8, 11, 13)] :: pz_G
theorem dXL_replace_0 : decode cXL_replace 0 = .ok (.aload_n 1, 1) := by decide +kernel
theorem dXL_replace_1 : decode cXL_replace 1 = .ok (.iconst 0, 1) := by decide +kernel
theorem dXL_replace_2 : decode cXL_replace 2 = .ok (.aload_n 0, 1) := by decide +kernel
theorem dXL_replace_3 : decode cXL_replace 3 = .ok (.invokevirtual 27, 3) := by decide +kernel
theorem dXL_replace_6 : decode cXL_replace 6 = .ok (.i2l, 1) := by decide +kernel
theorem dXL_replace_7 : decode cXL_replace 7 = .ok (.lastore, 1) := by decide +kernel
theorem dXL_replace_8 : decode cXL_replace 8 = .ok (.goto 6, 3) := by decide +kernel
theorem dXL_replace_11 : decode cXL_replace 11 = .ok (.astore_n 2, 1) := by decide +kernel
theorem dXL_replace_12 : decode cXL_replace 12 = .ok (.iconst 1, 1) := by decide +kernel
theorem dXL_replace_13 : decode cXL_replace 13 = .ok (.ireturn, 1) := by decide +kernel
theorem dXL_replace_14 : decode cXL_replace 14 = .ok (.iconst 0, 1) := by decide +kernel
theorem dXL_replace_15 : decode cXL_replace 15 = .ok (.ireturn, 1) := by decide +kernel
def yXL_rebuild : MethodName := ⟨"ParityArrayLaw", "rebuild", "(LParityArray;[J)I"⟩
abbrev cXL_rebuild : ByteArray := method_7_code
def wsXL_rebuild : List Cond := .codeWith yXL_rebuild cXL_rebuild 3 (some .int) [(0, 8, 11, 13)] :: pz_G
theorem dXL_rebuild_0 : decode cXL_rebuild 0 = .ok (.aload_n 1, 1) := by decide +kernel
theorem dXL_rebuild_1 : decode cXL_rebuild 1 = .ok (.iconst 0, 1) := by decide +kernel
theorem dXL_rebuild_2 : decode cXL_rebuild 2 = .ok (.aload_n 0, 1) := by decide +kernel
theorem dXL_rebuild_3 : decode cXL_rebuild 3 = .ok (.invokevirtual 31, 3) := by decide +kernel
theorem dXL_rebuild_6 : decode cXL_rebuild 6 = .ok (.i2l, 1) := by decide +kernel
theorem dXL_rebuild_7 : decode cXL_rebuild 7 = .ok (.lastore, 1) := by decide +kernel
theorem dXL_rebuild_8 : decode cXL_rebuild 8 = .ok (.goto 6, 3) := by decide +kernel
theorem dXL_rebuild_11 : decode cXL_rebuild 11 = .ok (.astore_n 2, 1) := by decide +kernel
theorem dXL_rebuild_12 : decode cXL_rebuild 12 = .ok (.iconst 1, 1) := by decide +kernel
theorem dXL_rebuild_13 : decode cXL_rebuild 13 = .ok (.ireturn, 1) := by decide +kernel
theorem dXL_rebuild_14 : decode cXL_rebuild 14 = .ok (.iconst 0, 1) := by decide +kernel
theorem dXL_rebuild_15 : decode cXL_rebuild 15 = .ok (.ireturn, 1) := by decide +kernel
def yXL_power : MethodName := ⟨"ParityArrayLaw", "power", "(LParityArray;IIZ)I"⟩
abbrev cXL_power : ByteArray := method_8_code
def wsXL_power : List Cond := .codeWith yXL_power cXL_power 5 (some .int) [(0, 7, 10, 38)] :: pz_G
theorem dXL_power_0 : decode cXL_power 0 = .ok (.aload_n 0, 1) := by decide +kernel
theorem dXL_power_1 : decode cXL_power 1 = .ok (.iload_n 1, 1) := by decide +kernel
theorem dXL_power_2 : decode cXL_power 2 = .ok (.iload_n 2, 1) := by decide +kernel
theorem dXL_power_3 : decode cXL_power 3 = .ok (.iload_n 3, 1) := by decide +kernel
theorem dXL_power_4 : decode cXL_power 4 = .ok (.invokevirtual 34, 3) := by decide +kernel
theorem dXL_power_7 : decode cXL_power 7 = .ok (.goto 7, 3) := by decide +kernel
theorem dXL_power_10 : decode cXL_power 10 = .ok (.astore 4, 2) := by decide +kernel
theorem dXL_power_12 : decode cXL_power 12 = .ok (.iconst 1, 1) := by decide +kernel
theorem dXL_power_13 : decode cXL_power 13 = .ok (.ireturn, 1) := by decide +kernel
theorem dXL_power_14 : decode cXL_power 14 = .ok (.iconst 0, 1) := by decide +kernel
theorem dXL_power_15 : decode cXL_power 15 = .ok (.ireturn, 1) := by decide +kernel
def yXL_recover : MethodName := ⟨"ParityArrayLaw", "recover", "(LParityArray;)I"⟩
abbrev cXL_recover : ByteArray := method_9_code
def wsXL_recover : List Cond := .codeWith yXL_recover cXL_recover 2 (some .int) [(0, 4, 7, 17)] :: pz_G
theorem dXL_recover_0 : decode cXL_recover 0 = .ok (.aload_n 0, 1) := by decide +kernel
theorem dXL_recover_1 : decode cXL_recover 1 = .ok (.invokevirtual 40, 3) := by decide +kernel
theorem dXL_recover_4 : decode cXL_recover 4 = .ok (.goto 6, 3) := by decide +kernel
theorem dXL_recover_7 : decode cXL_recover 7 = .ok (.astore_n 1, 1) := by decide +kernel
theorem dXL_recover_8 : decode cXL_recover 8 = .ok (.iconst 1, 1) := by decide +kernel
theorem dXL_recover_9 : decode cXL_recover 9 = .ok (.ireturn, 1) := by decide +kernel
theorem dXL_recover_10 : decode cXL_recover 10 = .ok (.iconst 0, 1) := by decide +kernel
theorem dXL_recover_11 : decode cXL_recover 11 = .ok (.ireturn, 1) := by decide +kernel
def yXL_told : MethodName := ⟨"ParityArrayLaw", "told", "(LParityArray;I[J)I"⟩
abbrev cXL_told : ByteArray := method_10_code
def wsXL_told : List Cond := .codeWith yXL_told cXL_told 4 (some .int) [(0, 9, 12, 38)] :: pz_G
theorem dXL_told_0 : decode cXL_told 0 = .ok (.aload_n 2, 1) := by decide +kernel
theorem dXL_told_1 : decode cXL_told 1 = .ok (.iconst 0, 1) := by decide +kernel
theorem dXL_told_2 : decode cXL_told 2 = .ok (.aload_n 0, 1) := by decide +kernel
theorem dXL_told_3 : decode cXL_told 3 = .ok (.iload_n 1, 1) := by decide +kernel
theorem dXL_told_4 : decode cXL_told 4 = .ok (.invokevirtual 43, 3) := by decide +kernel
theorem dXL_told_7 : decode cXL_told 7 = .ok (.i2l, 1) := by decide +kernel
theorem dXL_told_8 : decode cXL_told 8 = .ok (.lastore, 1) := by decide +kernel
theorem dXL_told_9 : decode cXL_told 9 = .ok (.goto 6, 3) := by decide +kernel
theorem dXL_told_12 : decode cXL_told 12 = .ok (.astore_n 3, 1) := by decide +kernel
theorem dXL_told_13 : decode cXL_told 13 = .ok (.iconst 1, 1) := by decide +kernel
theorem dXL_told_14 : decode cXL_told 14 = .ok (.ireturn, 1) := by decide +kernel
theorem dXL_told_15 : decode cXL_told 15 = .ok (.iconst 0, 1) := by decide +kernel
theorem dXL_told_16 : decode cXL_told 16 = .ok (.ireturn, 1) := by decide +kernel
def yXL_check : MethodName := ⟨"ParityArrayLaw", "check", "(LParityArray;[J)I"⟩
abbrev cXL_check : ByteArray := method_11_code
def wsXL_check : List Cond := .codeWith yXL_check cXL_check 3 (some .int) [(0, 8, 11, 13)] :: pz_G
theorem dXL_check_0 : decode cXL_check 0 = .ok (.aload_n 1, 1) := by decide +kernel
theorem dXL_check_1 : decode cXL_check 1 = .ok (.iconst 0, 1) := by decide +kernel
theorem dXL_check_2 : decode cXL_check 2 = .ok (.aload_n 0, 1) := by decide +kernel
theorem dXL_check_3 : decode cXL_check 3 = .ok (.invokevirtual 47, 3) := by decide +kernel
theorem dXL_check_6 : decode cXL_check 6 = .ok (.i2l, 1) := by decide +kernel
theorem dXL_check_7 : decode cXL_check 7 = .ok (.lastore, 1) := by decide +kernel
theorem dXL_check_8 : decode cXL_check 8 = .ok (.goto 6, 3) := by decide +kernel
theorem dXL_check_11 : decode cXL_check 11 = .ok (.astore_n 2, 1) := by decide +kernel
theorem dXL_check_12 : decode cXL_check 12 = .ok (.iconst 1, 1) := by decide +kernel
theorem dXL_check_13 : decode cXL_check 13 = .ok (.ireturn, 1) := by decide +kernel
theorem dXL_check_14 : decode cXL_check 14 = .ok (.iconst 0, 1) := by decide +kernel
theorem dXL_check_15 : decode cXL_check 15 = .ok (.ireturn, 1) := by decide +kernel
end
section
/-! rows of use: a loop, a call's start, a world kept -/
section PZL
variable {p : Program} {l : Launch} {e : Env} {R : Room} {s : State} {m : MethodId} {args : Array Value} {below : List Frame} {meth : Method} {c : Code} {H H1 : Heap} {Q : State → Prop}
theorem pz_loop {pc : Nat} {st : List Value} (cf sf : Nat → Nat) (N : Nat) (I : Nat → Array Slot → Heap → List Loc → Prop)
    (hs : ∀ (k : Nat) (ls : Array Slot) (H : Heap) (locs : List Loc), k < N → I k ls H locs → (∀ (ls' : Array Slot) (H' : Heap) (locs' : List Loc), I (k + 1) ls' H' locs' → W p l e R s m args below meth c H' locs' (cf (k + 1)) (sf (k + 1)) Q (F0 m pc ls' st)) → W p l e R s m args below meth c H locs (cf k) (sf k) Q (F0 m pc ls st))
    (hx : ∀ (ls : Array Slot) (H : Heap) (locs : List Loc), I N ls H locs → W p l e R s m args below meth c H locs (cf N) (sf N) Q (F0 m pc ls st)) :
    ∀ (d k : Nat), k + d = N → ∀ (ls : Array Slot) (H : Heap) (locs : List Loc), I k ls H locs → W p l e R s m args below meth c H locs (cf k) (sf k) Q (F0 m pc ls st) := by
  intro d
  induction d with
  | zero =>
    intro k hk ls H locs h
    obtain rfl : k = N := by omega
    exact hx ls H locs h
  | succ d ih =>
    intro k hk ls H locs h
    exact hs k ls H locs (by omega) h (fun ls' H' locs' h' => ih (k + 1) (by omega) ls' H' locs' h')
theorem pz_preV {C : String} {b : Nat} {As : List Value} {D : va_G} {cl : List vw_C} {ws : va_W} {tys : List (ClassId × FieldType)} (hr : ∃ cellB : Cell, H[b]? = some cellB ∧ cellB.vm.isStatics = false ∧ s.vm.findClass C = some cellB.cls) (hP : va_P D cl ws H) (hK : va_K D cl tys s) :
    PreV s H C b (va_Pc (.ref b :: As) (fun U => va_P D cl ws U.heap ∧ va_K D cl tys U)) As :=
  ⟨fun a U g mk q => ⟨q.1, q.2.1, va_K.moved (u := U) (U := U.calling g mk a) (Vm.Alike.refl U.vm) q.2.2⟩, hr, fun U hU hW => ⟨rfl, by rw [hU]; exact hP, va_K.moved hW.alike hK⟩⟩
theorem pz_preVw {C : String} {b : Nat} {As : List Value} {D : va_G} {cl : List vw_C} {ws : va_W} {A : Nat → Prop} {tys : List (ClassId × FieldType)} (hr : ∃ cellB : Cell, H[b]? = some cellB ∧ cellB.vm.isStatics = false ∧ s.vm.findClass C = some cellB.cls) (hP : va_P D cl ws H) (hK : va_K D cl tys s) (hD : va_D A ws) :
    PreV s H C b (va_Pc (.ref b :: As) (fun U => U.heap.size = H.size ∧ va_P D cl ws U.heap ∧ va_K D cl tys U ∧ va_D (fun _ => True) ws)) As :=
  ⟨fun a U g mk q => ⟨q.1, q.2.1, q.2.2.1, va_K.moved (u := U) (U := U.calling g mk a) (Vm.Alike.refl U.vm) q.2.2.2.1, q.2.2.2.2⟩, hr, fun U hU hW => ⟨rfl, by rw [hU], by rw [hU]; exact hP, va_K.moved hW.alike hK, hD.weaken fun _ _ _ _ => trivial⟩⟩
theorem pz_preS {As : List Value} {D : va_G} {cl : List vw_C} {ws : va_W} {tys : List (ClassId × FieldType)} (hP : va_P D cl ws H) (hK : va_K D cl tys s) :
    PreS s H (va_Pc As (fun U => va_P D cl ws U.heap ∧ va_K D cl tys U)) As :=
  ⟨fun a U g mk q => ⟨q.1, q.2.1, va_K.moved (u := U) (U := U.calling g mk a) (Vm.Alike.refl U.vm) q.2.2⟩, fun U hU hW => ⟨rfl, by rw [hU]; exact hP, va_K.moved hW.alike hK⟩⟩
theorem pz_preSw {As : List Value} {D : va_G} {cl : List vw_C} {ws : va_W} {A : Nat → Prop} {tys : List (ClassId × FieldType)} (hP : va_P D cl ws H) (hK : va_K D cl tys s) (hD : va_D A ws) :
    PreS s H (va_Pc As (fun U => U.heap.size = H.size ∧ va_P D cl ws U.heap ∧ va_K D cl tys U ∧ va_D (fun _ => True) ws)) As :=
  ⟨fun a U g mk q => ⟨q.1, q.2.1, q.2.2.1, va_K.moved (u := U) (U := U.calling g mk a) (Vm.Alike.refl U.vm) q.2.2.2.1, q.2.2.2.2⟩, fun U hU hW => ⟨rfl, by rw [hU], by rw [hU]; exact hP, va_K.moved hW.alike hK, hD.weaken fun _ _ _ _ => trivial⟩⟩
theorem pz_preVwN {C : String} {b : Nat} {As : List Value} {D : va_G} {cl : List vw_C} {ws : va_W} {A : Nat → Prop} {tys : List (ClassId × FieldType)} (hr : ∃ cellB : Cell, H[b]? = some cellB ∧ cellB.vm.isStatics = false ∧ s.vm.findClass C = some cellB.cls) (hP : va_P D cl ws H) (hK : va_K D cl tys s) (hD : va_D A ws) (hN : pz_NW s) :
    PreV s H C b (va_Pc (.ref b :: As) (fun U => U.heap.size = H.size ∧ va_P D cl ws U.heap ∧ va_K D cl tys U ∧ va_D (fun _ => True) ws ∧ pz_NW U)) As :=
  ⟨fun a U g mk q => ⟨q.1, q.2.1, q.2.2.1, va_K.moved (u := U) (U := U.calling g mk a) (Vm.Alike.refl U.vm) q.2.2.2.1, q.2.2.2.2.1, pz_NW.same (u := U) (U := U.calling g mk a) rfl q.2.2.2.2.2⟩, hr, fun U hU hW => ⟨rfl, by rw [hU], by rw [hU]; exact hP, va_K.moved hW.alike hK, hD.weaken (fun _ _ _ _ => trivial), hN.warm hW⟩⟩
theorem pz_sameJ {D : va_G} {cl : List vw_C} {tys : List (ClassId × FieldType)} (hK : va_K D cl tys s) {i j : Nat} {c1 c2 : ClassId} (h1 : tys[i]? = some (c1, .long)) (h2 : tys[j]? = some (c2, .long)) : c1 = c2 := by
  have a := va_nm_long (hK.2 i _ h1).2
  have b := va_nm_long (hK.2 j _ h2).2
  rw [a] at b
  exact Option.some.inj b
theorem pz_preS0 {As : List Value} : PreS s H (va_Pc As (fun _ => True)) As := ⟨fun a U g mk q => q, fun U hU hW => ⟨rfl, trivial⟩⟩
theorem pz_keep {D : va_G} {cl : List vw_C} {ws : va_W} (hP : va_P D cl ws H) (hk : ∀ q : Nat, q < H.size → ¬ False → H1[q]? = H[q]?) : va_P D cl ws H1 := hP.kept fun k q hq => hk q.1 ((hP k q hq).lt) (fun h => h)
end PZL
theorem pz_nar (b : Bool) : narrow .boolean (.int (pz_b b)) = .int (pz_b b) := by cases b <;> rfl
theorem pz_fit (b : Bool) : fits .boolean (.int (pz_b b)) = true := by cases b <;> rfl
theorem pz_b0 {b : Bool} : pz_b b = 0 ↔ b = false := by cases b <;> decide
theorem pz_b1 {b : Bool} : pz_b b = 1 ↔ b = true := by cases b <;> decide
theorem pz_b_inj {a b : Bool} : pz_b a = pz_b b ↔ a = b := by cases a <;> cases b <;> decide
theorem pz_bn {b : Bool} (h : ¬ pz_b b = 0) : b = true := by cases b; exact absurd rfl h; rfl
theorem pz_min {a b : Nat} (ha : a < 2 ^ 31) (hb : b < 2 ^ 31) : (if nI b < nI a then nI b else nI a) = nI (min a b) := by
  by_cases h : b < a
  · rw [if_pos ((nI_ltI hb ha).mpr h), Nat.min_eq_right (by omega)]
  · rw [if_neg (fun h9 => h ((nI_ltI hb ha).mp h9)), Nat.min_eq_left (by omega)]
/-! a row written by arraycopy and one mixed long is pz_wr -/
theorem pz_mask_m : ∀ r, r < 8 → ((-1 : Int64).toUInt64 >>> ((nI (r * 8)).toInt64.toUInt64 &&& Int64.toUInt64 63)).toInt64 = pz_mask r := by decide +kernel
theorem pz_wr_eq0 {f row : Nat → Int64} {s b : Nat} (hb : b ≤ 128) (h : b % 8 = 0) : va_cpy row f 0 (s * 16) (b / 8) = pz_wr f s row b := by
  funext j
  unfold pz_wr va_cpy pz_cut
  by_cases g : 16 * s ≤ j ∧ j < 16 * s + 16
  · rw [if_pos g]
    by_cases g2 : s * 16 ≤ j ∧ j < s * 16 + b / 8
    · rw [if_pos g2, if_pos (by omega), show 0 + (j - s * 16) = j - 16 * s by omega]
    · rw [if_neg g2, if_neg (by omega), if_pos (by omega)]
  · rw [if_neg g, if_neg (by omega)]
theorem pz_wr_eq1 {f row : Nat → Int64} {s b : Nat} (hb : b ≤ 128) (h : 0 < b % 8) : vp_updL (va_cpy row f 0 (s * 16) (b / 8)) (s * 16 + b / 8) ((row (b / 8) &&& (pz_mask (b % 8) ^^^ (-1))) ||| (va_cpy row f 0 (s * 16) (b / 8) (s * 16 + b / 8) &&& pz_mask (b % 8))) = pz_wr f s row b := by
  funext j
  by_cases e : j = s * 16 + b / 8
  · subst e
    rw [pk_uLs]
    unfold pz_wr pz_cut
    rw [if_pos (by omega), if_neg (by omega), if_neg (by omega), pk_cpy_out (by omega), show s * 16 + b / 8 - 16 * s = b / 8 by omega, show b - 8 * (b / 8) = b % 8 by omega]
    rfl
  · rw [pk_uLn e]
    unfold pz_wr va_cpy pz_cut
    by_cases g : 16 * s ≤ j ∧ j < 16 * s + 16
    · rw [if_pos g]
      by_cases g2 : s * 16 ≤ j ∧ j < s * 16 + b / 8
      · rw [if_pos g2, if_pos (by omega), show 0 + (j - s * 16) = j - 16 * s by omega]
      · rw [if_neg g2, if_neg (by omega), if_pos (by omega)]
    · rw [if_neg g, if_neg (by omega)]
end
section
/-! Disk and Supply: worlds and contracts (laid by a program) -/
def pz_DW (h0 aR aC : Nat) (cJ : ClassId) (x : pz_Dk) : va_W := [(h0, .inr (0, [.ref aR, .ref aC, .int (pz_o (pz_rb x)), .int (pz_b (pz_dd x)), .int (nI (pz_th x))])), (aR, .inl (cJ, 2400, .inr (.inl (pz_R x)))), (aC, .inl (cJ, 16, .inr (.inl (pz_rc x))))]
def pz_SW (h0 : Nat) (x : pz_Su) : va_W := [(h0, .inr (1, [.int (pz_b (pz_on x)), .int (pz_b (pz_pl x)), .int (pz_b (pz_pr x)), .int (nI (pz_cw x)), .int (nI (pz_cb x)), .int (pz_b (pz_fa x)), .int (nI (pz_wc x))]))]
set_option maxHeartbeats 4000000 in
set_option maxRecDepth 100000 in
/-- is it WELL -/
theorem c_XD_isWell (l : Launch) (dC : Nat → ClassId) (dI : Nat → Nat → Nat) (h0 aR aC : Nat) (cJ : ClassId) (x : pz_Dk) (ht : pz_th x ≤ 150) : Met l yXD_isWell wsXD_isWell ({ frames := 0, cells := 0, slots := 0, locals := 0 }) (va_Pc [.ref h0] (fun U => va_P (dC, dI) vwCl (pz_DW h0 aR aC cJ x) U.heap ∧ va_K (dC, dI) vwCl [(cJ, .long)] U)) (va_Qi (fun (r : Int32) (u : Unit) => r = pz_b (decide (pz_th x = 150))) (fun _ _ => True) (fun _ => False)) 0 0 (fun _ => False) := by
  refine Met.ofW (cc := cXD_isWell) (maxL := 1) (ret := (some .boolean)) (by decide) rfl ?_
  intro p e s m args below meth c s₁ B hml hv
  obtain ⟨rfl, hP, hK⟩ := hv
  have hx := B.exec
  have hb := B.bytes
  have hr := B.returns
  have hts := atoms_spec (ws := wsXD_isWell) B.pre
  have hown : s.vm.findClass "ParityArray$Disk" = some m.cls := findClass_of_methodNamed B.named
  have hlocks := B.notSynchronized
  have hS : va_S (fun _ => False) s.heap s.heap [] := va_S.rf
  have hl := lv_entry ([.ref h0]) (n := 1) (Nat.le_of_ble_eq_true rfl)
  rw [lg_entry_eq]
  generalize (lg_sl ([.ref h0]) ++ List.replicate (1 - (lg_sl ([.ref h0])).length) Slot.unset).toArray = ls at hl ⊢
  have hl : lv_has ls 1 [(0, .ref h0)] := hl
  have hP : va_P (dC, dI) vwCl [(h0, .inr (0, [.ref aR, .ref aC, .int (pz_o (pz_rb x)), .int (pz_b (pz_dd x)), .int (nI (pz_th x))])), (aR, .inl (cJ, 2400, .inr (.inl (pz_R x)))), (aC, .inl (cJ, 16, .inr (.inl (pz_rc x))))] s.heap := hP
  refine lv_aload_n hx hb dXD_isWell_0 rfl (lv_at hl 0 rfl) ?_
  refine va_get (D := (dC, dI)) (ci := 0) (v := .int (nI (pz_th x))) (C := "ParityArray$Disk") (T := TXD) (N := 5) hx hb hts (fun w h => List.mem_cons_of_mem _ (inXD w h)) hown hK hP 0 rfl rfl 4 (by decide) (hts _ (List.mem_cons_of_mem _ tw_66)) (fun _ h9 => h9) rfl dXD_isWell_1 ?_
  refine lv_sipush (v := nI 150) hx hb dXD_isWell_4 (by decide) ?_
  refine lv_icmp_ne (tgt := 14) hx hb dXD_isWell_7 (by decide) (fun hc => ?_) (fun hc => ?_)
  · have hc : ¬ (pz_th x) = 150 := fun h9 => hc ((nI_eq (a := (pz_th x)) (b := 150) (by omega) (by omega)).mpr h9)
    refine lv_iconst (v := nI 0) hx hb dXD_isWell_14 (by decide) ?_
    exact W.zret (v := nI 0) hx hb hr rfl (fun t ht hW => ⟨⟨_, (), rfl, by rw [decide_eq_false hc]; rfl, trivial⟩, hS.F ht⟩) hS.2.2 dXD_isWell_15
  · have hc : (pz_th x) = 150 := (nI_eq (a := (pz_th x)) (b := 150) (by omega) (by omega)).mp hc
    refine lv_iconst (v := nI 1) hx hb dXD_isWell_10 (by decide) ?_
    refine lv_goto (tgt := 15) hx hb dXD_isWell_11 (by decide) ?_
    exact W.zret (v := nI 1) hx hb hr rfl (fun t ht hW => ⟨⟨_, (), rfl, by rw [decide_eq_true hc]; rfl, trivial⟩, hS.F ht⟩) hS.2.2 dXD_isWell_15

set_option maxHeartbeats 4000000 in
set_option maxRecDepth 100000 in
/-- is stripe s0 THERE -/
theorem c_XD_isThere (l : Launch) (dC : Nat → ClassId) (dI : Nat → Nat → Nat) (h0 aR aC : Nat) (cJ : ClassId) (x : pz_Dk) (s0 : Nat) (ht : pz_th x ≤ 150) (hs0 : s0 < 150) : Met l yXD_isThere wsXD_isThere ({ frames := 0, cells := 0, slots := 0, locals := 0 }) (va_Pc [.ref h0, .int (nI s0)] (fun U => va_P (dC, dI) vwCl (pz_DW h0 aR aC cJ x) U.heap ∧ va_K (dC, dI) vwCl [(cJ, .long)] U)) (va_Qi (fun (r : Int32) (u : Unit) => r = pz_b (decide (s0 < pz_th x))) (fun _ _ => True) (fun _ => False)) 0 0 (fun _ => False) := by
  refine Met.ofW (cc := cXD_isThere) (maxL := 2) (ret := (some .boolean)) (by decide) rfl ?_
  intro p e s m args below meth c s₁ B hml hv
  obtain ⟨rfl, hP, hK⟩ := hv
  have hx := B.exec
  have hb := B.bytes
  have hr := B.returns
  have hts := atoms_spec (ws := wsXD_isThere) B.pre
  have hown : s.vm.findClass "ParityArray$Disk" = some m.cls := findClass_of_methodNamed B.named
  have hlocks := B.notSynchronized
  have hS : va_S (fun _ => False) s.heap s.heap [] := va_S.rf
  have hl := lv_entry ([.ref h0, .int (nI s0)]) (n := 2) (Nat.le_of_ble_eq_true rfl)
  rw [lg_entry_eq]
  generalize (lg_sl ([.ref h0, .int (nI s0)]) ++ List.replicate (2 - (lg_sl ([.ref h0, .int (nI s0)])).length) Slot.unset).toArray = ls at hl ⊢
  have hl : lv_has ls 2 [(0, .ref h0), (1, .int (nI s0))] := hl
  have hP : va_P (dC, dI) vwCl [(h0, .inr (0, [.ref aR, .ref aC, .int (pz_o (pz_rb x)), .int (pz_b (pz_dd x)), .int (nI (pz_th x))])), (aR, .inl (cJ, 2400, .inr (.inl (pz_R x)))), (aC, .inl (cJ, 16, .inr (.inl (pz_rc x))))] s.heap := hP
  refine lv_iload_n hx hb dXD_isThere_0 rfl (lv_at hl 1 rfl) ?_
  refine lv_aload_n hx hb dXD_isThere_1 rfl (lv_at hl 0 rfl) ?_
  refine va_get (D := (dC, dI)) (ci := 0) (v := .int (nI (pz_th x))) (C := "ParityArray$Disk") (T := TXD) (N := 5) hx hb hts (fun w h => List.mem_cons_of_mem _ (inXD w h)) hown hK hP 0 rfl rfl 4 (by decide) (hts _ (List.mem_cons_of_mem _ tw_66)) (fun _ h9 => h9) rfl dXD_isThere_2 ?_
  refine lv_icmp_ge (tgt := 12) hx hb dXD_isThere_5 (by decide) (fun hc => ?_) (fun hc => ?_)
  · have hc : (pz_th x) ≤ s0 := (nI_leI (a := (pz_th x)) (b := s0) (by omega) (by omega)).mp hc
    refine lv_iconst (v := nI 0) hx hb dXD_isThere_12 (by decide) ?_
    exact W.zret (v := nI 0) hx hb hr rfl (fun t ht hW => ⟨⟨_, (), rfl, by rw [decide_eq_false (by omega)]; rfl, trivial⟩, hS.F ht⟩) hS.2.2 dXD_isThere_13
  · have hc : ¬ (pz_th x) ≤ s0 := fun h9 => hc ((nI_leI (a := (pz_th x)) (b := s0) (by omega) (by omega)).mpr h9)
    refine lv_iconst (v := nI 1) hx hb dXD_isThere_8 (by decide) ?_
    refine lv_goto (tgt := 13) hx hb dXD_isThere_9 (by decide) ?_
    exact W.zret (v := nI 1) hx hb hr rfl (fun t ht hW => ⟨⟨_, (), rfl, by rw [decide_eq_true (by omega)]; rfl, trivial⟩, hS.F ht⟩) hS.2.2 dXD_isThere_13

set_option maxHeartbeats 4000000 in
set_option maxRecDepth 100000 in
/-- long i0 of stripe s0 -/
theorem c_XD_longAt (l : Launch) (dC : Nat → ClassId) (dI : Nat → Nat → Nat) (h0 aR aC : Nat) (cJ : ClassId) (x : pz_Dk) (s0 i0 : Nat) (hs0 : s0 < 150) (hi0 : i0 < 16) : Met l yXD_longAt wsXD_longAt ({ frames := 0, cells := 0, slots := 0, locals := 0 }) (va_Pc [.ref h0, .int (nI s0), .int (nI i0)] (fun U => va_P (dC, dI) vwCl (pz_DW h0 aR aC cJ x) U.heap ∧ va_K (dC, dI) vwCl [(cJ, .long)] U)) (va_Ql (fun (r : Int64) (u : Unit) => r = pz_R x (16 * s0 + i0)) (fun _ _ => True) (fun _ => False)) 0 0 (fun _ => False) := by
  refine Met.ofW (cc := cXD_longAt) (maxL := 3) (ret := (some .long)) (by decide) rfl ?_
  intro p e s m args below meth c s₁ B hml hv
  obtain ⟨rfl, hP, hK⟩ := hv
  have hx := B.exec
  have hb := B.bytes
  have hr := B.returns
  have hts := atoms_spec (ws := wsXD_longAt) B.pre
  have hown : s.vm.findClass "ParityArray$Disk" = some m.cls := findClass_of_methodNamed B.named
  have hlocks := B.notSynchronized
  have hS : va_S (fun _ => False) s.heap s.heap [] := va_S.rf
  have hl := lv_entry ([.ref h0, .int (nI s0), .int (nI i0)]) (n := 3) (Nat.le_of_ble_eq_true rfl)
  rw [lg_entry_eq]
  generalize (lg_sl ([.ref h0, .int (nI s0), .int (nI i0)]) ++ List.replicate (3 - (lg_sl ([.ref h0, .int (nI s0), .int (nI i0)])).length) Slot.unset).toArray = ls at hl ⊢
  have hl : lv_has ls 3 [(0, .ref h0), (1, .int (nI s0)), (2, .int (nI i0))] := hl
  have hP : va_P (dC, dI) vwCl [(h0, .inr (0, [.ref aR, .ref aC, .int (pz_o (pz_rb x)), .int (pz_b (pz_dd x)), .int (nI (pz_th x))])), (aR, .inl (cJ, 2400, .inr (.inl (pz_R x)))), (aC, .inl (cJ, 16, .inr (.inl (pz_rc x))))] s.heap := hP
  refine lv_aload_n hx hb dXD_longAt_0 rfl (lv_at hl 0 rfl) ?_
  refine va_get (D := (dC, dI)) (ci := 0) (v := .ref aR) (C := "ParityArray$Disk") (T := TXD) (N := 5) hx hb hts (fun w h => List.mem_cons_of_mem _ (inXD w h)) hown hK hP 0 rfl rfl 0 (by decide) (hts _ (List.mem_cons_of_mem _ tw_59)) (fun _ h9 => h9) rfl dXD_longAt_1 ?_
  refine lv_iload_n hx hb dXD_longAt_4 rfl (lv_at hl 1 rfl) ?_
  refine lv_bipush (v := nI 16) hx hb dXD_longAt_5 (by decide) ?_
  refine lv_imul hx hb dXD_longAt_7 ?_
  refine lv_topi (nm_r (pk_mul s0 16) ?_)
  refine lv_iload_n hx hb dXD_longAt_8 rfl (lv_at hl 2 rfl) ?_
  refine lv_iadd hx hb dXD_longAt_9 ?_
  refine lv_topi (nm_r (nI_add (s0 * 16) i0) ?_)
  refine va_lald hx hb hK hP 1 0 rfl rfl (vp_in_nI (by omega) (by decide)) dXD_longAt_10 ?_
  refine lv_topl (nm_r (congrArg (pz_R x) (nI_clamp (by omega))) ?_)
  exact W.lret (v := (pz_R x) ((s0 * 16) + i0)) hx hb hr (fun t ht hW => ⟨⟨_, (), rfl, congrArg (pz_R x) (by omega), trivial⟩, hS.F ht⟩) hS.2.2 dXD_longAt_11

set_option maxHeartbeats 4000000 in
set_option maxRecDepth 100000 in
/-- a plan -/
theorem c_XS_plan (l : Launch) (dC : Nat → ClassId) (dI : Nat → Nat → Nat) (sz : Nat) (h0 : Nat) (x : pz_Su) (k0 b0 : Nat) (r0 : Bool) : Met l yXS_plan wsXS_plan ({ frames := 0, cells := 0, slots := 0, locals := 0 }) (va_Pc [.ref h0, .int (nI k0), .int (nI b0), .int (pz_b r0)] (fun U => U.heap.size = sz ∧ va_P (dC, dI) vwCl (pz_SW h0 x) U.heap ∧ va_K (dC, dI) vwCl [] U ∧ va_D (fun _ => True) (pz_SW h0 x))) (va_Qv (fun (u : pz_Su) => u = (pz_on x, true, r0, k0, b0, pz_fa x, pz_wc x)) (fun u t => va_P (dC, dI) vwCl (pz_SW h0 u) t.heap ∧ va_K (dC, dI) vwCl [] t ∧ va_D (va_A (pz_SW h0 x) sz) (pz_SW h0 u)) (va_A (pz_SW h0 x) sz)) 0 0 (va_A (pz_SW h0 x) sz) := by
  refine Met.ofW (cc := cXS_plan) (maxL := 4) (ret := none) (by decide) rfl ?_
  intro p e s m args below meth c s₁ B hml hv
  obtain ⟨rfl, hsz, hP, hK, hD0⟩ := hv
  have hx := B.exec
  have hb := B.bytes
  have hr := B.returns
  have hts := atoms_spec (ws := wsXS_plan) B.pre
  have hown : s.vm.findClass "ParityArray$Supply" = some m.cls := findClass_of_methodNamed B.named
  have hlocks := B.notSynchronized
  subst hsz
  have hD := hD0.self (sz := s.heap.size)
  generalize hAe : va_A (pz_SW h0 x) s.heap.size = A at hD ⊢
  have hA : ∀ q : Nat, s.heap.size ≤ q → A q := fun q h => by rw [← hAe]; exact Or.inr h
  have hS : va_S A s.heap s.heap [] := va_S.rf
  have hl := lv_entry ([.ref h0, .int (nI k0), .int (nI b0), .int (pz_b r0)]) (n := 4) (Nat.le_of_ble_eq_true rfl)
  rw [lg_entry_eq]
  generalize (lg_sl ([.ref h0, .int (nI k0), .int (nI b0), .int (pz_b r0)]) ++ List.replicate (4 - (lg_sl ([.ref h0, .int (nI k0), .int (nI b0), .int (pz_b r0)])).length) Slot.unset).toArray = ls at hl ⊢
  have hl : lv_has ls 4 [(0, .ref h0), (1, .int (nI k0)), (2, .int (nI b0)), (3, .int (pz_b r0))] := hl
  have hP : va_P (dC, dI) vwCl [(h0, .inr (1, [.int (pz_b (pz_on x)), .int (pz_b (pz_pl x)), .int (pz_b (pz_pr x)), .int (nI (pz_cw x)), .int (nI (pz_cb x)), .int (pz_b (pz_fa x)), .int (nI (pz_wc x))]))] s.heap := hP
  have hD : va_D A [(h0, .inr (1, [.int (pz_b (pz_on x)), .int (pz_b (pz_pl x)), .int (pz_b (pz_pr x)), .int (nI (pz_cw x)), .int (nI (pz_cb x)), .int (pz_b (pz_fa x)), .int (nI (pz_wc x))]))] := hD
  refine lv_aload_n hx hb dXS_plan_0 rfl (lv_at hl 0 rfl) ?_
  refine lv_iconst (v := nI 1) hx hb dXS_plan_1 (by decide) ?_
  refine va_put (D := (dC, dI)) (ci := 1) (v := .int (nI 1)) (ty := .boolean) (C := "ParityArray$Supply") (T := TXS) (N := 7) hx hb hts (fun w h => List.mem_cons_of_mem _ (inXS w h)) tyXS tyXS_ok nmXS hown hK hP hD hS 0 rfl rfl 1 (by decide) (hts _ (List.mem_cons_of_mem _ tw_33)) (fun _ h9 => h9) rfl (by decide +kernel) rfl rfl (Nat.le_of_ble_eq_true rfl) dXS_plan_2 (fun H locs hP hD hS => ?_)
  have hP : va_P (dC, dI) vwCl [(h0, .inr (1, [.int (pz_b (pz_on x)), .int (pz_b true), .int (pz_b (pz_pr x)), .int (nI (pz_cw x)), .int (nI (pz_cb x)), .int (pz_b (pz_fa x)), .int (nI (pz_wc x))]))] H := hP
  have hD : va_D A [(h0, .inr (1, [.int (pz_b (pz_on x)), .int (pz_b true), .int (pz_b (pz_pr x)), .int (nI (pz_cw x)), .int (nI (pz_cb x)), .int (pz_b (pz_fa x)), .int (nI (pz_wc x))]))] := hD
  refine lv_aload_n hx hb dXS_plan_5 rfl (lv_at hl 0 rfl) ?_
  refine lv_iload_n hx hb dXS_plan_6 rfl (lv_at hl 3 rfl) ?_
  refine va_put (D := (dC, dI)) (ci := 1) (v := .int (pz_b r0)) (ty := .boolean) (C := "ParityArray$Supply") (T := TXS) (N := 7) hx hb hts (fun w h => List.mem_cons_of_mem _ (inXS w h)) tyXS tyXS_ok nmXS hown hK hP hD hS 0 rfl rfl 2 (by decide) (hts _ (List.mem_cons_of_mem _ tw_34)) (fun _ h9 => h9) rfl (by decide +kernel) (pz_nar _) (pz_fit _) (Nat.le_of_ble_eq_true rfl) dXS_plan_7 (fun H locs hP hD hS => ?_)
  have hP : va_P (dC, dI) vwCl [(h0, .inr (1, [.int (pz_b (pz_on x)), .int (pz_b true), .int (pz_b r0), .int (nI (pz_cw x)), .int (nI (pz_cb x)), .int (pz_b (pz_fa x)), .int (nI (pz_wc x))]))] H := hP
  have hD : va_D A [(h0, .inr (1, [.int (pz_b (pz_on x)), .int (pz_b true), .int (pz_b r0), .int (nI (pz_cw x)), .int (nI (pz_cb x)), .int (pz_b (pz_fa x)), .int (nI (pz_wc x))]))] := hD
  refine lv_aload_n hx hb dXS_plan_10 rfl (lv_at hl 0 rfl) ?_
  refine lv_iload_n hx hb dXS_plan_11 rfl (lv_at hl 1 rfl) ?_
  refine va_put (D := (dC, dI)) (ci := 1) (v := .int (nI k0)) (ty := .int) (C := "ParityArray$Supply") (T := TXS) (N := 7) hx hb hts (fun w h => List.mem_cons_of_mem _ (inXS w h)) tyXS tyXS_ok nmXS hown hK hP hD hS 0 rfl rfl 3 (by decide) (hts _ (List.mem_cons_of_mem _ tw_35)) (fun _ h9 => h9) rfl (by decide +kernel) rfl rfl (Nat.le_of_ble_eq_true rfl) dXS_plan_12 (fun H locs hP hD hS => ?_)
  have hP : va_P (dC, dI) vwCl [(h0, .inr (1, [.int (pz_b (pz_on x)), .int (pz_b true), .int (pz_b r0), .int (nI k0), .int (nI (pz_cb x)), .int (pz_b (pz_fa x)), .int (nI (pz_wc x))]))] H := hP
  have hD : va_D A [(h0, .inr (1, [.int (pz_b (pz_on x)), .int (pz_b true), .int (pz_b r0), .int (nI k0), .int (nI (pz_cb x)), .int (pz_b (pz_fa x)), .int (nI (pz_wc x))]))] := hD
  refine lv_aload_n hx hb dXS_plan_15 rfl (lv_at hl 0 rfl) ?_
  refine lv_iload_n hx hb dXS_plan_16 rfl (lv_at hl 2 rfl) ?_
  refine va_put (D := (dC, dI)) (ci := 1) (v := .int (nI b0)) (ty := .int) (C := "ParityArray$Supply") (T := TXS) (N := 7) hx hb hts (fun w h => List.mem_cons_of_mem _ (inXS w h)) tyXS tyXS_ok nmXS hown hK hP hD hS 0 rfl rfl 4 (by decide) (hts _ (List.mem_cons_of_mem _ tw_36)) (fun _ h9 => h9) rfl (by decide +kernel) rfl rfl (Nat.le_of_ble_eq_true rfl) dXS_plan_17 (fun H locs hP hD hS => ?_)
  have hP : va_P (dC, dI) vwCl [(h0, .inr (1, [.int (pz_b (pz_on x)), .int (pz_b true), .int (pz_b r0), .int (nI k0), .int (nI b0), .int (pz_b (pz_fa x)), .int (nI (pz_wc x))]))] H := hP
  have hD : va_D A [(h0, .inr (1, [.int (pz_b (pz_on x)), .int (pz_b true), .int (pz_b r0), .int (nI k0), .int (nI b0), .int (pz_b (pz_fa x)), .int (nI (pz_wc x))]))] := hD
  exact W.vret hx hb hr (fun t ht hW => ⟨⟨(pz_on x, true, r0, k0, b0, pz_fa x, pz_wc x), rfl, rfl, by rw [ht]; exact hP, va_K.moved hW.alike hK, hAe ▸ hD⟩, hS.F ht⟩) hS.2.2 dXS_plan_20

set_option maxHeartbeats 4000000 in
set_option maxRecDepth 100000 in
/-- the plan forgotten -/
theorem c_XS_forgetPlan (l : Launch) (dC : Nat → ClassId) (dI : Nat → Nat → Nat) (sz : Nat) (h0 : Nat) (x : pz_Su) : Met l yXS_forgetPlan wsXS_forgetPlan ({ frames := 0, cells := 0, slots := 0, locals := 0 }) (va_Pc [.ref h0] (fun U => U.heap.size = sz ∧ va_P (dC, dI) vwCl (pz_SW h0 x) U.heap ∧ va_K (dC, dI) vwCl [] U ∧ va_D (fun _ => True) (pz_SW h0 x))) (va_Qv (fun (u : pz_Su) => u = pz_fgt x) (fun u t => va_P (dC, dI) vwCl (pz_SW h0 u) t.heap ∧ va_K (dC, dI) vwCl [] t ∧ va_D (va_A (pz_SW h0 x) sz) (pz_SW h0 u)) (va_A (pz_SW h0 x) sz)) 0 0 (va_A (pz_SW h0 x) sz) := by
  refine Met.ofW (cc := cXS_forgetPlan) (maxL := 1) (ret := none) (by decide) rfl ?_
  intro p e s m args below meth c s₁ B hml hv
  obtain ⟨rfl, hsz, hP, hK, hD0⟩ := hv
  have hx := B.exec
  have hb := B.bytes
  have hr := B.returns
  have hts := atoms_spec (ws := wsXS_forgetPlan) B.pre
  have hown : s.vm.findClass "ParityArray$Supply" = some m.cls := findClass_of_methodNamed B.named
  have hlocks := B.notSynchronized
  subst hsz
  have hD := hD0.self (sz := s.heap.size)
  generalize hAe : va_A (pz_SW h0 x) s.heap.size = A at hD ⊢
  have hA : ∀ q : Nat, s.heap.size ≤ q → A q := fun q h => by rw [← hAe]; exact Or.inr h
  have hS : va_S A s.heap s.heap [] := va_S.rf
  have hl := lv_entry ([.ref h0]) (n := 1) (Nat.le_of_ble_eq_true rfl)
  rw [lg_entry_eq]
  generalize (lg_sl ([.ref h0]) ++ List.replicate (1 - (lg_sl ([.ref h0])).length) Slot.unset).toArray = ls at hl ⊢
  have hl : lv_has ls 1 [(0, .ref h0)] := hl
  have hP : va_P (dC, dI) vwCl [(h0, .inr (1, [.int (pz_b (pz_on x)), .int (pz_b (pz_pl x)), .int (pz_b (pz_pr x)), .int (nI (pz_cw x)), .int (nI (pz_cb x)), .int (pz_b (pz_fa x)), .int (nI (pz_wc x))]))] s.heap := hP
  have hD : va_D A [(h0, .inr (1, [.int (pz_b (pz_on x)), .int (pz_b (pz_pl x)), .int (pz_b (pz_pr x)), .int (nI (pz_cw x)), .int (nI (pz_cb x)), .int (pz_b (pz_fa x)), .int (nI (pz_wc x))]))] := hD
  refine lv_aload_n hx hb dXS_forgetPlan_0 rfl (lv_at hl 0 rfl) ?_
  refine lv_iconst (v := nI 0) hx hb dXS_forgetPlan_1 (by decide) ?_
  refine va_put (D := (dC, dI)) (ci := 1) (v := .int (nI 0)) (ty := .boolean) (C := "ParityArray$Supply") (T := TXS) (N := 7) hx hb hts (fun w h => List.mem_cons_of_mem _ (inXS w h)) tyXS tyXS_ok nmXS hown hK hP hD hS 0 rfl rfl 1 (by decide) (hts _ (List.mem_cons_of_mem _ tw_33)) (fun _ h9 => h9) rfl (by decide +kernel) rfl rfl (Nat.le_of_ble_eq_true rfl) dXS_forgetPlan_2 (fun H locs hP hD hS => ?_)
  have hP : va_P (dC, dI) vwCl [(h0, .inr (1, [.int (pz_b (pz_on x)), .int (pz_b false), .int (pz_b (pz_pr x)), .int (nI (pz_cw x)), .int (nI (pz_cb x)), .int (pz_b (pz_fa x)), .int (nI (pz_wc x))]))] H := hP
  have hD : va_D A [(h0, .inr (1, [.int (pz_b (pz_on x)), .int (pz_b false), .int (pz_b (pz_pr x)), .int (nI (pz_cw x)), .int (nI (pz_cb x)), .int (pz_b (pz_fa x)), .int (nI (pz_wc x))]))] := hD
  exact W.vret hx hb hr (fun t ht hW => ⟨⟨pz_fgt x, rfl, rfl, by rw [ht]; exact hP, va_K.moved hW.alike hK, hAe ▸ hD⟩, hS.F ht⟩) hS.2.2 dXS_forgetPlan_5

set_option maxHeartbeats 4000000 in
set_option maxRecDepth 100000 in
/-- a set or a recover begins -/
theorem c_XS_begin (l : Launch) (dC : Nat → ClassId) (dI : Nat → Nat → Nat) (sz : Nat) (h0 : Nat) (x : pz_Su) (r0 : Bool) : Met l yXS_begin wsXS_begin ({ frames := 0, cells := 0, slots := 0, locals := 0 }) (va_Pc [.ref h0, .int (pz_b r0)] (fun U => U.heap.size = sz ∧ va_P (dC, dI) vwCl (pz_SW h0 x) U.heap ∧ va_K (dC, dI) vwCl [] U ∧ va_D (fun _ => True) (pz_SW h0 x))) (va_Qv (fun (u : pz_Su) => u = pz_beg r0 x) (fun u t => va_P (dC, dI) vwCl (pz_SW h0 u) t.heap ∧ va_K (dC, dI) vwCl [] t ∧ va_D (va_A (pz_SW h0 x) sz) (pz_SW h0 u)) (va_A (pz_SW h0 x) sz)) 0 0 (va_A (pz_SW h0 x) sz) := by
  refine Met.ofW (cc := cXS_begin) (maxL := 2) (ret := none) (by decide) rfl ?_
  intro p e s m args below meth c s₁ B hml hv
  obtain ⟨rfl, hsz, hP, hK, hD0⟩ := hv
  have hx := B.exec
  have hb := B.bytes
  have hr := B.returns
  have hts := atoms_spec (ws := wsXS_begin) B.pre
  have hown : s.vm.findClass "ParityArray$Supply" = some m.cls := findClass_of_methodNamed B.named
  have hlocks := B.notSynchronized
  subst hsz
  have hD := hD0.self (sz := s.heap.size)
  generalize hAe : va_A (pz_SW h0 x) s.heap.size = A at hD ⊢
  have hA : ∀ q : Nat, s.heap.size ≤ q → A q := fun q h => by rw [← hAe]; exact Or.inr h
  have hS : va_S A s.heap s.heap [] := va_S.rf
  have hl := lv_entry ([.ref h0, .int (pz_b r0)]) (n := 2) (Nat.le_of_ble_eq_true rfl)
  rw [lg_entry_eq]
  generalize (lg_sl ([.ref h0, .int (pz_b r0)]) ++ List.replicate (2 - (lg_sl ([.ref h0, .int (pz_b r0)])).length) Slot.unset).toArray = ls at hl ⊢
  have hl : lv_has ls 2 [(0, .ref h0), (1, .int (pz_b r0))] := hl
  have hP : va_P (dC, dI) vwCl [(h0, .inr (1, [.int (pz_b (pz_on x)), .int (pz_b (pz_pl x)), .int (pz_b (pz_pr x)), .int (nI (pz_cw x)), .int (nI (pz_cb x)), .int (pz_b (pz_fa x)), .int (nI (pz_wc x))]))] s.heap := hP
  have hD : va_D A [(h0, .inr (1, [.int (pz_b (pz_on x)), .int (pz_b (pz_pl x)), .int (pz_b (pz_pr x)), .int (nI (pz_cw x)), .int (nI (pz_cb x)), .int (pz_b (pz_fa x)), .int (nI (pz_wc x))]))] := hD
  refine lv_aload_n hx hb dXS_begin_0 rfl (lv_at hl 0 rfl) ?_
  refine lv_aload_n hx hb dXS_begin_1 rfl (lv_at hl 0 rfl) ?_
  refine va_get (D := (dC, dI)) (ci := 1) (v := .int (pz_b (pz_pl x))) (C := "ParityArray$Supply") (T := TXS) (N := 7) hx hb hts (fun w h => List.mem_cons_of_mem _ (inXS w h)) hown hK hP 0 rfl rfl 1 (by decide) (hts _ (List.mem_cons_of_mem _ tw_33)) (fun _ h9 => h9) rfl dXS_begin_2 ?_
  refine lv_if_eq (tgt := 20) hx hb dXS_begin_5 (by decide) (fun hc => ?_) (fun hc => ?_)
  · have hc : (pz_pl x) = false := pz_b0.mp hc
    refine lv_iconst (v := nI 0) hx hb dXS_begin_20 (by decide) ?_
    refine va_put (D := (dC, dI)) (ci := 1) (v := .int (nI 0)) (ty := .boolean) (C := "ParityArray$Supply") (T := TXS) (N := 7) hx hb hts (fun w h => List.mem_cons_of_mem _ (inXS w h)) tyXS tyXS_ok nmXS hown hK hP hD hS 0 rfl rfl 5 (by decide) (hts _ (List.mem_cons_of_mem _ tw_37)) (fun _ h9 => h9) rfl (by decide +kernel) rfl rfl (Nat.le_of_ble_eq_true rfl) dXS_begin_21 (fun H locs hP hD hS => ?_)
    have hP : va_P (dC, dI) vwCl [(h0, .inr (1, [.int (pz_b (pz_on x)), .int (pz_b (pz_pl x)), .int (pz_b (pz_pr x)), .int (nI (pz_cw x)), .int (nI (pz_cb x)), .int (pz_b false), .int (nI (pz_wc x))]))] H := hP
    have hD : va_D A [(h0, .inr (1, [.int (pz_b (pz_on x)), .int (pz_b (pz_pl x)), .int (pz_b (pz_pr x)), .int (nI (pz_cw x)), .int (nI (pz_cb x)), .int (pz_b false), .int (nI (pz_wc x))]))] := hD
    refine lv_aload_n hx hb dXS_begin_24 rfl (lv_at hl 0 rfl) ?_
    refine lv_iconst (v := nI 0) hx hb dXS_begin_25 (by decide) ?_
    refine va_put (D := (dC, dI)) (ci := 1) (v := .int (nI 0)) (ty := .int) (C := "ParityArray$Supply") (T := TXS) (N := 7) hx hb hts (fun w h => List.mem_cons_of_mem _ (inXS w h)) tyXS tyXS_ok nmXS hown hK hP hD hS 0 rfl rfl 6 (by decide) (hts _ (List.mem_cons_of_mem _ tw_38)) (fun _ h9 => h9) rfl (by decide +kernel) rfl rfl (Nat.le_of_ble_eq_true rfl) dXS_begin_26 (fun H locs hP hD hS => ?_)
    have hP : va_P (dC, dI) vwCl [(h0, .inr (1, [.int (pz_b (pz_on x)), .int (pz_b (pz_pl x)), .int (pz_b (pz_pr x)), .int (nI (pz_cw x)), .int (nI (pz_cb x)), .int (pz_b false), .int (nI 0)]))] H := hP
    have hD : va_D A [(h0, .inr (1, [.int (pz_b (pz_on x)), .int (pz_b (pz_pl x)), .int (pz_b (pz_pr x)), .int (nI (pz_cw x)), .int (nI (pz_cb x)), .int (pz_b false), .int (nI 0)]))] := hD
    exact W.vret hx hb hr (fun t ht hW => ⟨⟨(pz_on x, pz_pl x, pz_pr x, pz_cw x, pz_cb x, false, 0), rfl, by unfold pz_beg; rw [show (x.2.1 && (x.2.2.1 == r0)) = false from by rw [show x.2.1 = false from hc]; rfl], by rw [ht]; exact hP, va_K.moved hW.alike hK, hAe ▸ hD⟩, hS.F ht⟩) hS.2.2 dXS_begin_29
  · have hc : (pz_pl x) = true := pz_bn hc
    have hpl := hc
    refine lv_aload_n hx hb dXS_begin_8 rfl (lv_at hl 0 rfl) ?_
    refine va_get (D := (dC, dI)) (ci := 1) (v := .int (pz_b (pz_pr x))) (C := "ParityArray$Supply") (T := TXS) (N := 7) hx hb hts (fun w h => List.mem_cons_of_mem _ (inXS w h)) hown hK hP 0 rfl rfl 2 (by decide) (hts _ (List.mem_cons_of_mem _ tw_34)) (fun _ h9 => h9) rfl dXS_begin_9 ?_
    refine lv_iload_n hx hb dXS_begin_12 rfl (lv_at hl 1 rfl) ?_
    refine lv_icmp_ne (tgt := 20) hx hb dXS_begin_13 (by decide) (fun hc => ?_) (fun hc => ?_)
    · have hc : ¬ (pz_pr x) = r0 := fun h9 => hc (pz_b_inj.mpr h9)
      refine lv_iconst (v := nI 0) hx hb dXS_begin_20 (by decide) ?_
      refine va_put (D := (dC, dI)) (ci := 1) (v := .int (nI 0)) (ty := .boolean) (C := "ParityArray$Supply") (T := TXS) (N := 7) hx hb hts (fun w h => List.mem_cons_of_mem _ (inXS w h)) tyXS tyXS_ok nmXS hown hK hP hD hS 0 rfl rfl 5 (by decide) (hts _ (List.mem_cons_of_mem _ tw_37)) (fun _ h9 => h9) rfl (by decide +kernel) rfl rfl (Nat.le_of_ble_eq_true rfl) dXS_begin_21 (fun H locs hP hD hS => ?_)
      have hP : va_P (dC, dI) vwCl [(h0, .inr (1, [.int (pz_b (pz_on x)), .int (pz_b (pz_pl x)), .int (pz_b (pz_pr x)), .int (nI (pz_cw x)), .int (nI (pz_cb x)), .int (pz_b false), .int (nI (pz_wc x))]))] H := hP
      have hD : va_D A [(h0, .inr (1, [.int (pz_b (pz_on x)), .int (pz_b (pz_pl x)), .int (pz_b (pz_pr x)), .int (nI (pz_cw x)), .int (nI (pz_cb x)), .int (pz_b false), .int (nI (pz_wc x))]))] := hD
      refine lv_aload_n hx hb dXS_begin_24 rfl (lv_at hl 0 rfl) ?_
      refine lv_iconst (v := nI 0) hx hb dXS_begin_25 (by decide) ?_
      refine va_put (D := (dC, dI)) (ci := 1) (v := .int (nI 0)) (ty := .int) (C := "ParityArray$Supply") (T := TXS) (N := 7) hx hb hts (fun w h => List.mem_cons_of_mem _ (inXS w h)) tyXS tyXS_ok nmXS hown hK hP hD hS 0 rfl rfl 6 (by decide) (hts _ (List.mem_cons_of_mem _ tw_38)) (fun _ h9 => h9) rfl (by decide +kernel) rfl rfl (Nat.le_of_ble_eq_true rfl) dXS_begin_26 (fun H locs hP hD hS => ?_)
      have hP : va_P (dC, dI) vwCl [(h0, .inr (1, [.int (pz_b (pz_on x)), .int (pz_b (pz_pl x)), .int (pz_b (pz_pr x)), .int (nI (pz_cw x)), .int (nI (pz_cb x)), .int (pz_b false), .int (nI 0)]))] H := hP
      have hD : va_D A [(h0, .inr (1, [.int (pz_b (pz_on x)), .int (pz_b (pz_pl x)), .int (pz_b (pz_pr x)), .int (nI (pz_cw x)), .int (nI (pz_cb x)), .int (pz_b false), .int (nI 0)]))] := hD
      exact W.vret hx hb hr (fun t ht hW => ⟨⟨(pz_on x, pz_pl x, pz_pr x, pz_cw x, pz_cb x, false, 0), rfl, by unfold pz_beg; rw [show (x.2.1 && (x.2.2.1 == r0)) = false from by rw [show x.2.1 = true from hpl]; simp; exact hc], by rw [ht]; exact hP, va_K.moved hW.alike hK, hAe ▸ hD⟩, hS.F ht⟩) hS.2.2 dXS_begin_29
    · have hc : (pz_pr x) = r0 := pz_b_inj.mp hc
      refine lv_iconst (v := nI 1) hx hb dXS_begin_16 (by decide) ?_
      refine lv_goto (tgt := 21) hx hb dXS_begin_17 (by decide) ?_
      refine va_put (D := (dC, dI)) (ci := 1) (v := .int (nI 1)) (ty := .boolean) (C := "ParityArray$Supply") (T := TXS) (N := 7) hx hb hts (fun w h => List.mem_cons_of_mem _ (inXS w h)) tyXS tyXS_ok nmXS hown hK hP hD hS 0 rfl rfl 5 (by decide) (hts _ (List.mem_cons_of_mem _ tw_37)) (fun _ h9 => h9) rfl (by decide +kernel) rfl rfl (Nat.le_of_ble_eq_true rfl) dXS_begin_21 (fun H locs hP hD hS => ?_)
      have hP : va_P (dC, dI) vwCl [(h0, .inr (1, [.int (pz_b (pz_on x)), .int (pz_b (pz_pl x)), .int (pz_b (pz_pr x)), .int (nI (pz_cw x)), .int (nI (pz_cb x)), .int (pz_b true), .int (nI (pz_wc x))]))] H := hP
      have hD : va_D A [(h0, .inr (1, [.int (pz_b (pz_on x)), .int (pz_b (pz_pl x)), .int (pz_b (pz_pr x)), .int (nI (pz_cw x)), .int (nI (pz_cb x)), .int (pz_b true), .int (nI (pz_wc x))]))] := hD
      refine lv_aload_n hx hb dXS_begin_24 rfl (lv_at hl 0 rfl) ?_
      refine lv_iconst (v := nI 0) hx hb dXS_begin_25 (by decide) ?_
      refine va_put (D := (dC, dI)) (ci := 1) (v := .int (nI 0)) (ty := .int) (C := "ParityArray$Supply") (T := TXS) (N := 7) hx hb hts (fun w h => List.mem_cons_of_mem _ (inXS w h)) tyXS tyXS_ok nmXS hown hK hP hD hS 0 rfl rfl 6 (by decide) (hts _ (List.mem_cons_of_mem _ tw_38)) (fun _ h9 => h9) rfl (by decide +kernel) rfl rfl (Nat.le_of_ble_eq_true rfl) dXS_begin_26 (fun H locs hP hD hS => ?_)
      have hP : va_P (dC, dI) vwCl [(h0, .inr (1, [.int (pz_b (pz_on x)), .int (pz_b (pz_pl x)), .int (pz_b (pz_pr x)), .int (nI (pz_cw x)), .int (nI (pz_cb x)), .int (pz_b true), .int (nI 0)]))] H := hP
      have hD : va_D A [(h0, .inr (1, [.int (pz_b (pz_on x)), .int (pz_b (pz_pl x)), .int (pz_b (pz_pr x)), .int (nI (pz_cw x)), .int (nI (pz_cb x)), .int (pz_b true), .int (nI 0)]))] := hD
      exact W.vret hx hb hr (fun t ht hW => ⟨⟨(pz_on x, pz_pl x, pz_pr x, pz_cw x, pz_cb x, true, 0), rfl, by unfold pz_beg; rw [show (x.2.1 && (x.2.2.1 == r0)) = true from by rw [show x.2.1 = true from hpl]; simp; exact hc], by rw [ht]; exact hP, va_K.moved hW.alike hK, hAe ▸ hD⟩, hS.F ht⟩) hS.2.2 dXS_begin_29

set_option maxHeartbeats 4000000 in
set_option maxRecDepth 100000 in
/-- a set or a recover ends -/
theorem c_XS_end (l : Launch) (dC : Nat → ClassId) (dI : Nat → Nat → Nat) (sz : Nat) (h0 : Nat) (x : pz_Su) : Met l yXS_end wsXS_end ({ frames := 0, cells := 0, slots := 0, locals := 0 }) (va_Pc [.ref h0] (fun U => U.heap.size = sz ∧ va_P (dC, dI) vwCl (pz_SW h0 x) U.heap ∧ va_K (dC, dI) vwCl [] U ∧ va_D (fun _ => True) (pz_SW h0 x))) (va_Qv (fun (u : pz_Su) => u = pz_end x) (fun u t => va_P (dC, dI) vwCl (pz_SW h0 u) t.heap ∧ va_K (dC, dI) vwCl [] t ∧ va_D (va_A (pz_SW h0 x) sz) (pz_SW h0 u)) (va_A (pz_SW h0 x) sz)) 0 0 (va_A (pz_SW h0 x) sz) := by
  refine Met.ofW (cc := cXS_end) (maxL := 1) (ret := none) (by decide) rfl ?_
  intro p e s m args below meth c s₁ B hml hv
  obtain ⟨rfl, hsz, hP, hK, hD0⟩ := hv
  have hx := B.exec
  have hb := B.bytes
  have hr := B.returns
  have hts := atoms_spec (ws := wsXS_end) B.pre
  have hown : s.vm.findClass "ParityArray$Supply" = some m.cls := findClass_of_methodNamed B.named
  have hlocks := B.notSynchronized
  subst hsz
  have hD := hD0.self (sz := s.heap.size)
  generalize hAe : va_A (pz_SW h0 x) s.heap.size = A at hD ⊢
  have hA : ∀ q : Nat, s.heap.size ≤ q → A q := fun q h => by rw [← hAe]; exact Or.inr h
  have hS : va_S A s.heap s.heap [] := va_S.rf
  have hl := lv_entry ([.ref h0]) (n := 1) (Nat.le_of_ble_eq_true rfl)
  rw [lg_entry_eq]
  generalize (lg_sl ([.ref h0]) ++ List.replicate (1 - (lg_sl ([.ref h0])).length) Slot.unset).toArray = ls at hl ⊢
  have hl : lv_has ls 1 [(0, .ref h0)] := hl
  have hP : va_P (dC, dI) vwCl [(h0, .inr (1, [.int (pz_b (pz_on x)), .int (pz_b (pz_pl x)), .int (pz_b (pz_pr x)), .int (nI (pz_cw x)), .int (nI (pz_cb x)), .int (pz_b (pz_fa x)), .int (nI (pz_wc x))]))] s.heap := hP
  have hD : va_D A [(h0, .inr (1, [.int (pz_b (pz_on x)), .int (pz_b (pz_pl x)), .int (pz_b (pz_pr x)), .int (nI (pz_cw x)), .int (nI (pz_cb x)), .int (pz_b (pz_fa x)), .int (nI (pz_wc x))]))] := hD
  refine lv_aload_n hx hb dXS_end_0 rfl (lv_at hl 0 rfl) ?_
  refine va_get (D := (dC, dI)) (ci := 1) (v := .int (pz_b (pz_fa x))) (C := "ParityArray$Supply") (T := TXS) (N := 7) hx hb hts (fun w h => List.mem_cons_of_mem _ (inXS w h)) hown hK hP 0 rfl rfl 5 (by decide) (hts _ (List.mem_cons_of_mem _ tw_37)) (fun _ h9 => h9) rfl dXS_end_1 ?_
  refine lv_if_eq (tgt := 22) hx hb dXS_end_4 (by decide) (fun hc => ?_) (fun hc => ?_)
  · have hc : (pz_fa x) = false := pz_b0.mp hc
    exact W.vret hx hb hr (fun t ht hW => ⟨⟨x, rfl, by unfold pz_end; rw [if_neg (by rw [hc]; decide)], by rw [ht]; exact hP, va_K.moved hW.alike hK, hAe ▸ hD⟩, hS.F ht⟩) hS.2.2 dXS_end_22
  · have hc : (pz_fa x) = true := pz_bn hc
    refine lv_aload_n hx hb dXS_end_7 rfl (lv_at hl 0 rfl) ?_
    refine lv_iconst (v := nI 0) hx hb dXS_end_8 (by decide) ?_
    refine va_put (D := (dC, dI)) (ci := 1) (v := .int (nI 0)) (ty := .boolean) (C := "ParityArray$Supply") (T := TXS) (N := 7) hx hb hts (fun w h => List.mem_cons_of_mem _ (inXS w h)) tyXS tyXS_ok nmXS hown hK hP hD hS 0 rfl rfl 0 (by decide) (hts _ (List.mem_cons_of_mem _ tw_31)) (fun _ h9 => h9) rfl (by decide +kernel) rfl rfl (Nat.le_of_ble_eq_true rfl) dXS_end_9 (fun H locs hP hD hS => ?_)
    have hP : va_P (dC, dI) vwCl [(h0, .inr (1, [.int (pz_b false), .int (pz_b (pz_pl x)), .int (pz_b (pz_pr x)), .int (nI (pz_cw x)), .int (nI (pz_cb x)), .int (pz_b (pz_fa x)), .int (nI (pz_wc x))]))] H := hP
    have hD : va_D A [(h0, .inr (1, [.int (pz_b false), .int (pz_b (pz_pl x)), .int (pz_b (pz_pr x)), .int (nI (pz_cw x)), .int (nI (pz_cb x)), .int (pz_b (pz_fa x)), .int (nI (pz_wc x))]))] := hD
    refine lv_aload_n hx hb dXS_end_12 rfl (lv_at hl 0 rfl) ?_
    refine lv_iconst (v := nI 0) hx hb dXS_end_13 (by decide) ?_
    refine va_put (D := (dC, dI)) (ci := 1) (v := .int (nI 0)) (ty := .boolean) (C := "ParityArray$Supply") (T := TXS) (N := 7) hx hb hts (fun w h => List.mem_cons_of_mem _ (inXS w h)) tyXS tyXS_ok nmXS hown hK hP hD hS 0 rfl rfl 1 (by decide) (hts _ (List.mem_cons_of_mem _ tw_33)) (fun _ h9 => h9) rfl (by decide +kernel) rfl rfl (Nat.le_of_ble_eq_true rfl) dXS_end_14 (fun H locs hP hD hS => ?_)
    have hP : va_P (dC, dI) vwCl [(h0, .inr (1, [.int (pz_b false), .int (pz_b false), .int (pz_b (pz_pr x)), .int (nI (pz_cw x)), .int (nI (pz_cb x)), .int (pz_b (pz_fa x)), .int (nI (pz_wc x))]))] H := hP
    have hD : va_D A [(h0, .inr (1, [.int (pz_b false), .int (pz_b false), .int (pz_b (pz_pr x)), .int (nI (pz_cw x)), .int (nI (pz_cb x)), .int (pz_b (pz_fa x)), .int (nI (pz_wc x))]))] := hD
    refine lv_aload_n hx hb dXS_end_17 rfl (lv_at hl 0 rfl) ?_
    refine lv_iconst (v := nI 0) hx hb dXS_end_18 (by decide) ?_
    refine va_put (D := (dC, dI)) (ci := 1) (v := .int (nI 0)) (ty := .boolean) (C := "ParityArray$Supply") (T := TXS) (N := 7) hx hb hts (fun w h => List.mem_cons_of_mem _ (inXS w h)) tyXS tyXS_ok nmXS hown hK hP hD hS 0 rfl rfl 5 (by decide) (hts _ (List.mem_cons_of_mem _ tw_37)) (fun _ h9 => h9) rfl (by decide +kernel) rfl rfl (Nat.le_of_ble_eq_true rfl) dXS_end_19 (fun H locs hP hD hS => ?_)
    have hP : va_P (dC, dI) vwCl [(h0, .inr (1, [.int (pz_b false), .int (pz_b false), .int (pz_b (pz_pr x)), .int (nI (pz_cw x)), .int (nI (pz_cb x)), .int (pz_b false), .int (nI (pz_wc x))]))] H := hP
    have hD : va_D A [(h0, .inr (1, [.int (pz_b false), .int (pz_b false), .int (pz_b (pz_pr x)), .int (nI (pz_cw x)), .int (nI (pz_cb x)), .int (pz_b false), .int (nI (pz_wc x))]))] := hD
    exact W.vret hx hb hr (fun t ht hW => ⟨⟨(false, false, pz_pr x, pz_cw x, pz_cb x, false, pz_wc x), rfl, by unfold pz_end; rw [if_pos hc], by rw [ht]; exact hP, va_K.moved hW.alike hK, hAe ▸ hD⟩, hS.F ht⟩) hS.2.2 dXS_end_22

set_option maxHeartbeats 4000000 in
set_option maxRecDepth 100000 in
/-- how many bytes come through -/
theorem c_XS_letThrough (l : Launch) (dC : Nat → ClassId) (dI : Nat → Nat → Nat) (sz : Nat) (h0 : Nat) (x : pz_Su) (k0 : Nat) (hk0 : k0 ≤ 136) (hcw : pz_cw x ≤ 10) (hcb : pz_cb x ≤ 200) (hwc : pz_wc x < 100) : Met l yXS_letThrough wsXS_letThrough ({ frames := 1, cells := 0, slots := 0, locals := 40 }) (va_Pc [.ref h0, .int (nI k0)] (fun U => U.heap.size = sz ∧ va_P (dC, dI) vwCl (pz_SW h0 x) U.heap ∧ va_K (dC, dI) vwCl [] U ∧ va_D (fun _ => True) (pz_SW h0 x))) (va_Qi (fun (r : Int32) (u : pz_Su) => r = nI (pz_let k0 x).1 ∧ u = (pz_let k0 x).2) (fun u t => va_P (dC, dI) vwCl (pz_SW h0 u) t.heap ∧ va_K (dC, dI) vwCl [] t ∧ va_D (va_A (pz_SW h0 x) sz) (pz_SW h0 u)) (va_A (pz_SW h0 x) sz)) 0 0 (va_A (pz_SW h0 x) sz) := by
  refine Met.ofW (cc := cXS_letThrough) (maxL := 2) (ret := (some .int)) (by decide) rfl ?_
  intro p e s m args below meth c s₁ B hml hv
  obtain ⟨rfl, hsz, hP, hK, hD0⟩ := hv
  have hx := B.exec
  have hb := B.bytes
  have hr := B.returns
  have hts := atoms_spec (ws := wsXS_letThrough) B.pre
  have hown : s.vm.findClass "ParityArray$Supply" = some m.cls := findClass_of_methodNamed B.named
  have hlocks := B.notSynchronized
  subst hsz
  have hD := hD0.self (sz := s.heap.size)
  generalize hAe : va_A (pz_SW h0 x) s.heap.size = A at hD ⊢
  have hA : ∀ q : Nat, s.heap.size ≤ q → A q := fun q h => by rw [← hAe]; exact Or.inr h
  have hS : va_S A s.heap s.heap [] := va_S.rf
  have hl := lv_entry ([.ref h0, .int (nI k0)]) (n := 2) (Nat.le_of_ble_eq_true rfl)
  rw [lg_entry_eq]
  generalize (lg_sl ([.ref h0, .int (nI k0)]) ++ List.replicate (2 - (lg_sl ([.ref h0, .int (nI k0)])).length) Slot.unset).toArray = ls at hl ⊢
  have hl : lv_has ls 2 [(0, .ref h0), (1, .int (nI k0))] := hl
  have hP : va_P (dC, dI) vwCl [(h0, .inr (1, [.int (pz_b (pz_on x)), .int (pz_b (pz_pl x)), .int (pz_b (pz_pr x)), .int (nI (pz_cw x)), .int (nI (pz_cb x)), .int (pz_b (pz_fa x)), .int (nI (pz_wc x))]))] s.heap := hP
  have hD : va_D A [(h0, .inr (1, [.int (pz_b (pz_on x)), .int (pz_b (pz_pl x)), .int (pz_b (pz_pr x)), .int (nI (pz_cw x)), .int (nI (pz_cb x)), .int (pz_b (pz_fa x)), .int (nI (pz_wc x))]))] := hD
  refine lv_aload_n hx hb dXS_letThrough_0 rfl (lv_at hl 0 rfl) ?_
  refine va_get (D := (dC, dI)) (ci := 1) (v := .int (pz_b (pz_on x))) (C := "ParityArray$Supply") (T := TXS) (N := 7) hx hb hts (fun w h => List.mem_cons_of_mem _ (inXS w h)) hown hK hP 0 rfl rfl 0 (by decide) (hts _ (List.mem_cons_of_mem _ tw_31)) (fun _ h9 => h9) rfl dXS_letThrough_1 ?_
  refine lv_if_ne (tgt := 9) hx hb dXS_letThrough_4 (by decide) (fun hc => ?_) (fun hc => ?_)
  · have hc : (pz_on x) = true := pz_bn hc
    have hon := hc
    refine lv_aload_n hx hb dXS_letThrough_9 rfl (lv_at hl 0 rfl) ?_
    refine va_get (D := (dC, dI)) (ci := 1) (v := .int (pz_b (pz_fa x))) (C := "ParityArray$Supply") (T := TXS) (N := 7) hx hb hts (fun w h => List.mem_cons_of_mem _ (inXS w h)) hown hK hP 0 rfl rfl 5 (by decide) (hts _ (List.mem_cons_of_mem _ tw_37)) (fun _ h9 => h9) rfl dXS_letThrough_10 ?_
    refine lv_if_eq (tgt := 41) hx hb dXS_letThrough_13 (by decide) (fun hc => ?_) (fun hc => ?_)
    · have hc : (pz_fa x) = false := pz_b0.mp hc
      refine lv_aload_n hx hb dXS_letThrough_41 rfl (lv_at hl 0 rfl) ?_
      refine lv_dup hx hb dXS_letThrough_42 rfl ?_
      refine va_get (D := (dC, dI)) (ci := 1) (v := .int (nI (pz_wc x))) (C := "ParityArray$Supply") (T := TXS) (N := 7) hx hb hts (fun w h => List.mem_cons_of_mem _ (inXS w h)) hown hK hP 0 rfl rfl 6 (by decide) (hts _ (List.mem_cons_of_mem _ tw_38)) (fun _ h9 => h9) rfl dXS_letThrough_43 ?_
      refine lv_iconst (v := nI 1) hx hb dXS_letThrough_46 (by decide) ?_
      refine lv_iadd hx hb dXS_letThrough_47 ?_
      refine lv_topi (nm_r (nI_add (pz_wc x) 1) ?_)
      refine va_put (D := (dC, dI)) (ci := 1) (v := .int (nI ((pz_wc x) + 1))) (ty := .int) (C := "ParityArray$Supply") (T := TXS) (N := 7) hx hb hts (fun w h => List.mem_cons_of_mem _ (inXS w h)) tyXS tyXS_ok nmXS hown hK hP hD hS 0 rfl rfl 6 (by decide) (hts _ (List.mem_cons_of_mem _ tw_38)) (fun _ h9 => h9) rfl (by decide +kernel) rfl rfl (Nat.le_of_ble_eq_true rfl) dXS_letThrough_48 (fun H locs hP hD hS => ?_)
      have hP : va_P (dC, dI) vwCl [(h0, .inr (1, [.int (pz_b (pz_on x)), .int (pz_b (pz_pl x)), .int (pz_b (pz_pr x)), .int (nI (pz_cw x)), .int (nI (pz_cb x)), .int (pz_b (pz_fa x)), .int (nI ((pz_wc x) + 1))]))] H := hP
      have hD : va_D A [(h0, .inr (1, [.int (pz_b (pz_on x)), .int (pz_b (pz_pl x)), .int (pz_b (pz_pr x)), .int (nI (pz_cw x)), .int (nI (pz_cb x)), .int (pz_b (pz_fa x)), .int (nI ((pz_wc x) + 1))]))] := hD
      refine lv_iload_n hx hb dXS_letThrough_51 rfl (lv_at hl 1 rfl) ?_
      exact W.iret (v := nI k0) hx hb hr (fun t ht hW => ⟨⟨_, (pz_on x, pz_pl x, pz_pr x, pz_cw x, pz_cb x, pz_fa x, pz_wc x + 1), rfl, by unfold pz_let; rw [if_neg (by rw [hon]; decide), if_neg (fun h9 => by rw [hc] at h9; exact absurd h9.1 (by decide))]; exact ⟨rfl, rfl⟩, by rw [ht]; exact hP, va_K.moved hW.alike hK, hAe ▸ hD⟩, hS.F ht⟩) hS.2.2 dXS_letThrough_52
    · have hc : (pz_fa x) = true := pz_bn hc
      have hfa := hc
      refine lv_aload_n hx hb dXS_letThrough_16 rfl (lv_at hl 0 rfl) ?_
      refine va_get (D := (dC, dI)) (ci := 1) (v := .int (nI (pz_wc x))) (C := "ParityArray$Supply") (T := TXS) (N := 7) hx hb hts (fun w h => List.mem_cons_of_mem _ (inXS w h)) hown hK hP 0 rfl rfl 6 (by decide) (hts _ (List.mem_cons_of_mem _ tw_38)) (fun _ h9 => h9) rfl dXS_letThrough_17 ?_
      refine lv_aload_n hx hb dXS_letThrough_20 rfl (lv_at hl 0 rfl) ?_
      refine va_get (D := (dC, dI)) (ci := 1) (v := .int (nI (pz_cw x))) (C := "ParityArray$Supply") (T := TXS) (N := 7) hx hb hts (fun w h => List.mem_cons_of_mem _ (inXS w h)) hown hK hP 0 rfl rfl 3 (by decide) (hts _ (List.mem_cons_of_mem _ tw_35)) (fun _ h9 => h9) rfl dXS_letThrough_21 ?_
      refine lv_icmp_ne (tgt := 41) hx hb dXS_letThrough_24 (by decide) (fun hc => ?_) (fun hc => ?_)
      · have hc : ¬ (pz_wc x) = (pz_cw x) := fun h9 => hc ((nI_eq (a := (pz_wc x)) (b := (pz_cw x)) (by omega) (by omega)).mpr h9)
        refine lv_aload_n hx hb dXS_letThrough_41 rfl (lv_at hl 0 rfl) ?_
        refine lv_dup hx hb dXS_letThrough_42 rfl ?_
        refine va_get (D := (dC, dI)) (ci := 1) (v := .int (nI (pz_wc x))) (C := "ParityArray$Supply") (T := TXS) (N := 7) hx hb hts (fun w h => List.mem_cons_of_mem _ (inXS w h)) hown hK hP 0 rfl rfl 6 (by decide) (hts _ (List.mem_cons_of_mem _ tw_38)) (fun _ h9 => h9) rfl dXS_letThrough_43 ?_
        refine lv_iconst (v := nI 1) hx hb dXS_letThrough_46 (by decide) ?_
        refine lv_iadd hx hb dXS_letThrough_47 ?_
        refine lv_topi (nm_r (nI_add (pz_wc x) 1) ?_)
        refine va_put (D := (dC, dI)) (ci := 1) (v := .int (nI ((pz_wc x) + 1))) (ty := .int) (C := "ParityArray$Supply") (T := TXS) (N := 7) hx hb hts (fun w h => List.mem_cons_of_mem _ (inXS w h)) tyXS tyXS_ok nmXS hown hK hP hD hS 0 rfl rfl 6 (by decide) (hts _ (List.mem_cons_of_mem _ tw_38)) (fun _ h9 => h9) rfl (by decide +kernel) rfl rfl (Nat.le_of_ble_eq_true rfl) dXS_letThrough_48 (fun H locs hP hD hS => ?_)
        have hP : va_P (dC, dI) vwCl [(h0, .inr (1, [.int (pz_b (pz_on x)), .int (pz_b (pz_pl x)), .int (pz_b (pz_pr x)), .int (nI (pz_cw x)), .int (nI (pz_cb x)), .int (pz_b (pz_fa x)), .int (nI ((pz_wc x) + 1))]))] H := hP
        have hD : va_D A [(h0, .inr (1, [.int (pz_b (pz_on x)), .int (pz_b (pz_pl x)), .int (pz_b (pz_pr x)), .int (nI (pz_cw x)), .int (nI (pz_cb x)), .int (pz_b (pz_fa x)), .int (nI ((pz_wc x) + 1))]))] := hD
        refine lv_iload_n hx hb dXS_letThrough_51 rfl (lv_at hl 1 rfl) ?_
        exact W.iret (v := nI k0) hx hb hr (fun t ht hW => ⟨⟨_, (pz_on x, pz_pl x, pz_pr x, pz_cw x, pz_cb x, pz_fa x, pz_wc x + 1), rfl, by unfold pz_let; rw [if_neg (by rw [hon]; decide), if_neg (fun h9 => hc h9.2)]; exact ⟨rfl, rfl⟩, by rw [ht]; exact hP, va_K.moved hW.alike hK, hAe ▸ hD⟩, hS.F ht⟩) hS.2.2 dXS_letThrough_52
      · have hc : (pz_wc x) = (pz_cw x) := (nI_eq (a := (pz_wc x)) (b := (pz_cw x)) (by omega) (by omega)).mp hc
        refine lv_aload_n hx hb dXS_letThrough_27 rfl (lv_at hl 0 rfl) ?_
        refine lv_iconst (v := nI 0) hx hb dXS_letThrough_28 (by decide) ?_
        refine va_put (D := (dC, dI)) (ci := 1) (v := .int (nI 0)) (ty := .boolean) (C := "ParityArray$Supply") (T := TXS) (N := 7) hx hb hts (fun w h => List.mem_cons_of_mem _ (inXS w h)) tyXS tyXS_ok nmXS hown hK hP hD hS 0 rfl rfl 0 (by decide) (hts _ (List.mem_cons_of_mem _ tw_31)) (fun _ h9 => h9) rfl (by decide +kernel) rfl rfl (Nat.le_of_ble_eq_true rfl) dXS_letThrough_29 (fun H locs hP hD hS => ?_)
        have hP : va_P (dC, dI) vwCl [(h0, .inr (1, [.int (pz_b false), .int (pz_b (pz_pl x)), .int (pz_b (pz_pr x)), .int (nI (pz_cw x)), .int (nI (pz_cb x)), .int (pz_b (pz_fa x)), .int (nI (pz_wc x))]))] H := hP
        have hD : va_D A [(h0, .inr (1, [.int (pz_b false), .int (pz_b (pz_pl x)), .int (pz_b (pz_pr x)), .int (nI (pz_cw x)), .int (nI (pz_cb x)), .int (pz_b (pz_fa x)), .int (nI (pz_wc x))]))] := hD
        refine lv_aload_n hx hb dXS_letThrough_32 rfl (lv_at hl 0 rfl) ?_
        refine va_get (D := (dC, dI)) (ci := 1) (v := .int (nI (pz_cb x))) (C := "ParityArray$Supply") (T := TXS) (N := 7) hx hb hts (fun w h => List.mem_cons_of_mem _ (inXS w h)) hown hK hP 0 rfl rfl 4 (by decide) (hts _ (List.mem_cons_of_mem _ tw_36)) (fun _ h9 => h9) rfl dXS_letThrough_33 ?_
        refine lv_iload_n hx hb dXS_letThrough_36 rfl (lv_at hl 1 rfl) ?_
        refine va_mmin hx hb (by rw [hml]; exact hl.1.symm) hown (hts _ (List.mem_cons_of_mem _ tw_235)) (hts _ (List.mem_cons_of_mem _ tw_236)) (hts _ (List.mem_cons_of_mem _ tw_10)) (hts _ (List.mem_cons_of_mem _ tw_237)) (Nat.le_of_ble_eq_true rfl) (Nat.le_of_ble_eq_true rfl) (Nat.zero_le _) (Nat.zero_le _) dXS_letThrough_37 ?_
        refine lv_topi (nm_r (pz_min (by omega) (by omega)) ?_)
        exact W.iret (v := nI (min (pz_cb x) k0)) hx hb hr (fun t ht hW => ⟨⟨_, (false, x.2), rfl, by unfold pz_let; rw [if_neg (by rw [hon]; decide), if_pos ⟨hfa, hc⟩]; exact ⟨rfl, rfl⟩, by rw [ht]; exact hP, va_K.moved hW.alike hK, hAe ▸ hD⟩, hS.F ht⟩) hS.2.2 dXS_letThrough_40
  · have hc : (pz_on x) = false := pz_b0.mp hc
    refine lv_iconst (v := nI 0) hx hb dXS_letThrough_7 (by decide) ?_
    exact W.iret (v := nI 0) hx hb hr (fun t ht hW => ⟨⟨_, x, rfl, by unfold pz_let; rw [if_pos hc]; exact ⟨rfl, rfl⟩, by rw [ht]; exact hP, va_K.moved hW.alike hK, hAe ▸ hD⟩, hS.F ht⟩) hS.2.2 dXS_letThrough_8
end
section
/-! Disk: the writers (laid by a program) -/
def pz_DR (h0 aR aC : Nat) (cJ : ClassId) (x : pz_Dk) (aW : Nat) (row : Nat → Int64) : va_W := [(h0, .inr (0, [.ref aR, .ref aC, .int (pz_o (pz_rb x)), .int (pz_b (pz_dd x)), .int (nI (pz_th x))])), (aR, .inl (cJ, 2400, .inr (.inl (pz_R x)))), (aC, .inl (cJ, 16, .inr (.inl (pz_rc x)))), (aW, .inl (cJ, 16, .inr (.inl row)))]
set_option maxHeartbeats 4000000 in
set_option maxRecDepth 100000 in
/-- a record written -/
theorem c_XD_writeRecord (l : Launch) (dC : Nat → ClassId) (dI : Nat → Nat → Nat) (sz : Nat) (h0 aR aC : Nat) (cJ : ClassId) (x : pz_Dk) (aW : Nat) (row : Nat → Int64) (n0 b0 : Nat) (hn0 : n0 < 600) (hb0 : b0 ≤ 136) : Met l yXD_writeRecord wsXD_writeRecord ({ frames := 1, cells := 0, slots := 0, locals := 80 }) (va_Pc [.ref h0, .int (nI n0), .ref aW, .int (nI b0)] (fun U => U.heap.size = sz ∧ va_P (dC, dI) vwCl (pz_DR h0 aR aC cJ x aW row) U.heap ∧ va_K (dC, dI) vwCl [(cJ, .long)] U ∧ va_D (fun _ => True) (pz_DR h0 aR aC cJ x aW row))) (va_Qv (fun (u : pz_Dk) => u = pz_drec x n0 row b0) (fun u t => va_P (dC, dI) vwCl (pz_DR h0 aR aC cJ u aW row) t.heap ∧ va_K (dC, dI) vwCl [(cJ, .long)] t ∧ va_D (va_A (pz_DR h0 aR aC cJ x aW row) sz) (pz_DR h0 aR aC cJ u aW row)) (va_A (pz_DR h0 aR aC cJ x aW row) sz)) 0 0 (va_A (pz_DR h0 aR aC cJ x aW row) sz) := by
  refine Met.ofW (cc := cXD_writeRecord) (maxL := 4) (ret := none) (by decide) rfl ?_
  intro p e s m args below meth c s₁ B hml hv
  obtain ⟨rfl, hsz, hP, hK, hD0⟩ := hv
  have hx := B.exec
  have hb := B.bytes
  have hr := B.returns
  have hts := atoms_spec (ws := wsXD_writeRecord) B.pre
  have hown : s.vm.findClass "ParityArray$Disk" = some m.cls := findClass_of_methodNamed B.named
  have hlocks := B.notSynchronized
  subst hsz
  have hD := hD0.self (sz := s.heap.size)
  generalize hAe : va_A (pz_DR h0 aR aC cJ x aW row) s.heap.size = A at hD ⊢
  have hA : ∀ q : Nat, s.heap.size ≤ q → A q := fun q h => by rw [← hAe]; exact Or.inr h
  have hS : va_S A s.heap s.heap [] := va_S.rf
  have hl := lv_entry ([.ref h0, .int (nI n0), .ref aW, .int (nI b0)]) (n := 4) (Nat.le_of_ble_eq_true rfl)
  rw [lg_entry_eq]
  generalize (lg_sl ([.ref h0, .int (nI n0), .ref aW, .int (nI b0)]) ++ List.replicate (4 - (lg_sl ([.ref h0, .int (nI n0), .ref aW, .int (nI b0)])).length) Slot.unset).toArray = ls at hl ⊢
  have hl : lv_has ls 4 [(0, .ref h0), (1, .int (nI n0)), (2, .ref aW), (3, .int (nI b0))] := hl
  have hP : va_P (dC, dI) vwCl [(h0, .inr (0, [.ref aR, .ref aC, .int (pz_o (pz_rb x)), .int (pz_b (pz_dd x)), .int (nI (pz_th x))])), (aR, .inl (cJ, 2400, .inr (.inl (pz_R x)))), (aC, .inl (cJ, 16, .inr (.inl (pz_rc x)))), (aW, .inl (cJ, 16, .inr (.inl row)))] s.heap := hP
  have hD : va_D A [(h0, .inr (0, [.ref aR, .ref aC, .int (pz_o (pz_rb x)), .int (pz_b (pz_dd x)), .int (nI (pz_th x))])), (aR, .inl (cJ, 2400, .inr (.inl (pz_R x)))), (aC, .inl (cJ, 16, .inr (.inl (pz_rc x)))), (aW, .inl (cJ, 16, .inr (.inl row)))] := hD
  refine lv_iload_n hx hb dXD_writeRecord_0 rfl (lv_at hl 3 rfl) ?_
  refine lv_sipush (v := nI 136) hx hb dXD_writeRecord_1 (by decide) ?_
  refine lv_icmp_ge (tgt := 13) hx hb dXD_writeRecord_4 (by decide) (fun hc => ?_) (fun hc => ?_)
  · have hc : 136 ≤ b0 := (nI_leI (a := 136) (b := b0) (by omega) (by omega)).mp hc
    refine lv_aload_n hx hb dXD_writeRecord_13 rfl (lv_at hl 2 rfl) ?_
    refine lv_iconst (v := nI 0) hx hb dXD_writeRecord_14 (by decide) ?_
    refine lv_aload_n hx hb dXD_writeRecord_15 rfl (lv_at hl 0 rfl) ?_
    refine va_get (D := (dC, dI)) (ci := 0) (v := .ref aC) (C := "ParityArray$Disk") (T := TXD) (N := 5) hx hb hts (fun w h => List.mem_cons_of_mem _ (inXD w h)) hown hK hP 0 rfl rfl 1 (by decide) (hts _ (List.mem_cons_of_mem _ tw_60)) (fun _ h9 => h9) rfl dXD_writeRecord_16 ?_
    refine lv_iconst (v := nI 0) hx hb dXD_writeRecord_19 (by decide) ?_
    refine lv_bipush (v := nI 16) hx hb dXD_writeRecord_20 (by decide) ?_
    refine va_copyl hx hb (hml.trans hl.1.symm) hown (hts _ (List.mem_cons_of_mem _ tw_242)) (hts _ (List.mem_cons_of_mem _ tw_244)) (hts _ (List.mem_cons_of_mem _ tw_243)) (hts _ (List.mem_cons_of_mem _ tw_11)) hK hP hD hS 3 2 0 0 rfl rfl rfl rfl rfl (nI_pos (by omega)) (nI_pos (by omega)) (nI_pos (by omega)) (by rw [nI_clamp (show 0 < 2 ^ 31 by omega), nI_clamp (show 16 < 2 ^ 31 by omega)]; omega) (by rw [nI_clamp (show 0 < 2 ^ 31 by omega), nI_clamp (show 16 < 2 ^ 31 by omega)]; omega) (fun i _ => rfl) (Nat.le_of_ble_eq_true rfl) (Nat.le_of_ble_eq_true rfl) dXD_writeRecord_22 (fun H locs hP hD hS => ?_)
    rw [nI_clamp (show 0 < 2 ^ 31 by omega), nI_clamp (show 16 < 2 ^ 31 by omega)] at hP hD
    have hP : va_P (dC, dI) vwCl [(h0, .inr (0, [.ref aR, .ref aC, .int (pz_o (pz_rb x)), .int (pz_b (pz_dd x)), .int (nI (pz_th x))])), (aR, .inl (cJ, 2400, .inr (.inl (pz_R x)))), (aC, .inl (cJ, 16, .inr (.inl (va_cpy row (pz_rc x) 0 0 16)))), (aW, .inl (cJ, 16, .inr (.inl row)))] H := hP
    have hD : va_D A [(h0, .inr (0, [.ref aR, .ref aC, .int (pz_o (pz_rb x)), .int (pz_b (pz_dd x)), .int (nI (pz_th x))])), (aR, .inl (cJ, 2400, .inr (.inl (pz_R x)))), (aC, .inl (cJ, 16, .inr (.inl (va_cpy row (pz_rc x) 0 0 16)))), (aW, .inl (cJ, 16, .inr (.inl row)))] := hD
    refine lv_aload_n hx hb dXD_writeRecord_25 rfl (lv_at hl 0 rfl) ?_
    refine lv_iload_n hx hb dXD_writeRecord_26 rfl (lv_at hl 1 rfl) ?_
    refine va_put (D := (dC, dI)) (ci := 0) (v := .int (nI n0)) (ty := .int) (C := "ParityArray$Disk") (T := TXD) (N := 5) hx hb hts (fun w h => List.mem_cons_of_mem _ (inXD w h)) tyXD tyXD_ok nmXD hown hK hP hD hS 0 rfl rfl 2 (by decide) (hts _ (List.mem_cons_of_mem _ tw_62)) (fun _ h9 => h9) rfl (by decide +kernel) rfl rfl (Nat.le_of_ble_eq_true rfl) dXD_writeRecord_27 (fun H locs hP hD hS => ?_)
    have hP : va_P (dC, dI) vwCl [(h0, .inr (0, [.ref aR, .ref aC, .int (nI n0), .int (pz_b (pz_dd x)), .int (nI (pz_th x))])), (aR, .inl (cJ, 2400, .inr (.inl (pz_R x)))), (aC, .inl (cJ, 16, .inr (.inl (va_cpy row (pz_rc x) 0 0 16)))), (aW, .inl (cJ, 16, .inr (.inl row)))] H := hP
    have hD : va_D A [(h0, .inr (0, [.ref aR, .ref aC, .int (nI n0), .int (pz_b (pz_dd x)), .int (nI (pz_th x))])), (aR, .inl (cJ, 2400, .inr (.inl (pz_R x)))), (aC, .inl (cJ, 16, .inr (.inl (va_cpy row (pz_rc x) 0 0 16)))), (aW, .inl (cJ, 16, .inr (.inl row)))] := hD
    exact W.vret hx hb hr (fun t ht hW => ⟨⟨(pz_R x, va_cpy row (pz_rc x) 0 0 16, some n0, pz_dd x, pz_th x), rfl, by unfold pz_drec; rw [if_neg (by omega)], by rw [ht]; exact hP, va_K.moved hW.alike hK, hAe ▸ hD⟩, hS.F ht⟩) hS.2.2 dXD_writeRecord_30
  · have hc : ¬ 136 ≤ b0 := fun h9 => hc ((nI_leI (a := 136) (b := b0) (by omega) (by omega)).mpr h9)
    refine lv_aload_n hx hb dXD_writeRecord_7 rfl (lv_at hl 0 rfl) ?_
    refine lv_iconst (v := (-1)) hx hb dXD_writeRecord_8 (by decide) ?_
    refine va_put (D := (dC, dI)) (ci := 0) (v := .int (-1)) (ty := .int) (C := "ParityArray$Disk") (T := TXD) (N := 5) hx hb hts (fun w h => List.mem_cons_of_mem _ (inXD w h)) tyXD tyXD_ok nmXD hown hK hP hD hS 0 rfl rfl 2 (by decide) (hts _ (List.mem_cons_of_mem _ tw_62)) (fun _ h9 => h9) rfl (by decide +kernel) rfl rfl (Nat.le_of_ble_eq_true rfl) dXD_writeRecord_9 (fun H locs hP hD hS => ?_)
    have hP : va_P (dC, dI) vwCl [(h0, .inr (0, [.ref aR, .ref aC, .int (-1), .int (pz_b (pz_dd x)), .int (nI (pz_th x))])), (aR, .inl (cJ, 2400, .inr (.inl (pz_R x)))), (aC, .inl (cJ, 16, .inr (.inl (pz_rc x)))), (aW, .inl (cJ, 16, .inr (.inl row)))] H := hP
    have hD : va_D A [(h0, .inr (0, [.ref aR, .ref aC, .int (-1), .int (pz_b (pz_dd x)), .int (nI (pz_th x))])), (aR, .inl (cJ, 2400, .inr (.inl (pz_R x)))), (aC, .inl (cJ, 16, .inr (.inl (pz_rc x)))), (aW, .inl (cJ, 16, .inr (.inl row)))] := hD
    exact W.vret hx hb hr (fun t ht hW => ⟨⟨(pz_R x, pz_rc x, none, pz_dd x, pz_th x), rfl, by unfold pz_drec; rw [if_pos (by omega)], by rw [ht]; exact hP, va_K.moved hW.alike hK, hAe ▸ hD⟩, hS.F ht⟩) hS.2.2 dXD_writeRecord_12

set_option maxHeartbeats 4000000 in
set_option maxRecDepth 100000 in
/-- a row written up to byte b0 -/
theorem c_XD_writeRow (l : Launch) (dC : Nat → ClassId) (dI : Nat → Nat → Nat) (sz : Nat) (h0 aR aC : Nat) (cJ : ClassId) (x : pz_Dk) (aW : Nat) (row : Nat → Int64) (s0 b0 : Nat) (hs0 : s0 < 150) (hb0 : b0 ≤ 128) : Met l yXD_writeRow wsXD_writeRow ({ frames := 1, cells := 0, slots := 0, locals := 80 }) (va_Pc [.ref h0, .int (nI s0), .ref aW, .int (nI b0)] (fun U => U.heap.size = sz ∧ va_P (dC, dI) vwCl (pz_DR h0 aR aC cJ x aW row) U.heap ∧ va_K (dC, dI) vwCl [(cJ, .long)] U ∧ va_D (fun _ => True) (pz_DR h0 aR aC cJ x aW row))) (va_Qv (fun (u : pz_Dk) => u = pz_dwr x s0 row b0) (fun u t => va_P (dC, dI) vwCl (pz_DR h0 aR aC cJ u aW row) t.heap ∧ va_K (dC, dI) vwCl [(cJ, .long)] t ∧ va_D (va_A (pz_DR h0 aR aC cJ x aW row) sz) (pz_DR h0 aR aC cJ u aW row)) (va_A (pz_DR h0 aR aC cJ x aW row) sz)) 0 0 (va_A (pz_DR h0 aR aC cJ x aW row) sz) := by
  refine Met.ofW (cc := cXD_writeRow) (maxL := 9) (ret := none) (by decide) rfl ?_
  intro p e s m args below meth c s₁ B hml hv
  obtain ⟨rfl, hsz, hP, hK, hD0⟩ := hv
  have hx := B.exec
  have hb := B.bytes
  have hr := B.returns
  have hts := atoms_spec (ws := wsXD_writeRow) B.pre
  have hown : s.vm.findClass "ParityArray$Disk" = some m.cls := findClass_of_methodNamed B.named
  have hlocks := B.notSynchronized
  subst hsz
  have hD := hD0.self (sz := s.heap.size)
  generalize hAe : va_A (pz_DR h0 aR aC cJ x aW row) s.heap.size = A at hD ⊢
  have hA : ∀ q : Nat, s.heap.size ≤ q → A q := fun q h => by rw [← hAe]; exact Or.inr h
  have hS : va_S A s.heap s.heap [] := va_S.rf
  have hl := lv_entry ([.ref h0, .int (nI s0), .ref aW, .int (nI b0)]) (n := 9) (Nat.le_of_ble_eq_true rfl)
  rw [lg_entry_eq]
  generalize (lg_sl ([.ref h0, .int (nI s0), .ref aW, .int (nI b0)]) ++ List.replicate (9 - (lg_sl ([.ref h0, .int (nI s0), .ref aW, .int (nI b0)])).length) Slot.unset).toArray = ls at hl ⊢
  have hl : lv_has ls 9 [(0, .ref h0), (1, .int (nI s0)), (2, .ref aW), (3, .int (nI b0))] := hl
  have hP : va_P (dC, dI) vwCl [(h0, .inr (0, [.ref aR, .ref aC, .int (pz_o (pz_rb x)), .int (pz_b (pz_dd x)), .int (nI (pz_th x))])), (aR, .inl (cJ, 2400, .inr (.inl (pz_R x)))), (aC, .inl (cJ, 16, .inr (.inl (pz_rc x)))), (aW, .inl (cJ, 16, .inr (.inl row)))] s.heap := hP
  have hD : va_D A [(h0, .inr (0, [.ref aR, .ref aC, .int (pz_o (pz_rb x)), .int (pz_b (pz_dd x)), .int (nI (pz_th x))])), (aR, .inl (cJ, 2400, .inr (.inl (pz_R x)))), (aC, .inl (cJ, 16, .inr (.inl (pz_rc x)))), (aW, .inl (cJ, 16, .inr (.inl row)))] := hD
  refine lv_iload_n hx hb dXD_writeRow_0 rfl (lv_at hl 1 rfl) ?_
  refine lv_bipush (v := nI 16) hx hb dXD_writeRow_1 (by decide) ?_
  refine lv_imul hx hb dXD_writeRow_3 ?_
  refine lv_topi (nm_r (pk_mul s0 16) ?_)
  refine lv_istore hx hb dXD_writeRow_4 hl (by decide) rfl (fun ls hl => ?_)
  have hl : lv_has ls 9 [(4, .int (nI (s0 * 16))), (0, .ref h0), (1, .int (nI s0)), (2, .ref aW), (3, .int (nI b0))] := hl
  refine lv_iload_n hx hb dXD_writeRow_6 rfl (lv_at hl 4 rfl) ?_
  refine lv_bipush (v := nI 8) hx hb dXD_writeRow_7 (by decide) ?_
  refine lv_idiv hx hb dXD_writeRow_9 (by decide) ?_
  refine lv_topi (nm_r (pk_div (by omega) (by decide) (by decide)) ?_)
  refine lv_istore hx hb dXD_writeRow_10 hl (by decide) rfl (fun ls hl => ?_)
  have hl : lv_has ls 9 [(5, .int (nI (b0 / 8))), (4, .int (nI (s0 * 16))), (0, .ref h0), (1, .int (nI s0)), (2, .ref aW), (3, .int (nI b0))] := hl
  refine lv_iload_n hx hb dXD_writeRow_12 rfl (lv_at hl 5 rfl) ?_
  refine lv_bipush (v := nI 8) hx hb dXD_writeRow_13 (by decide) ?_
  refine lv_irem hx hb dXD_writeRow_15 (by decide) ?_
  refine lv_topi (nm_r (pk_rem (by omega) (by decide) (by decide)) ?_)
  refine lv_istore hx hb dXD_writeRow_16 hl (by decide) rfl (fun ls hl => ?_)
  have hl : lv_has ls 9 [(6, .int (nI (b0 % 8))), (5, .int (nI (b0 / 8))), (4, .int (nI (s0 * 16))), (0, .ref h0), (1, .int (nI s0)), (2, .ref aW), (3, .int (nI b0))] := hl
  refine lv_aload_n hx hb dXD_writeRow_18 rfl (lv_at hl 5 rfl) ?_
  refine lv_iconst (v := nI 0) hx hb dXD_writeRow_19 (by decide) ?_
  refine lv_aload_n hx hb dXD_writeRow_20 rfl (lv_at hl 3 rfl) ?_
  refine va_get (D := (dC, dI)) (ci := 0) (v := .ref aR) (C := "ParityArray$Disk") (T := TXD) (N := 5) hx hb hts (fun w h => List.mem_cons_of_mem _ (inXD w h)) hown hK hP 0 rfl rfl 0 (by decide) (hts _ (List.mem_cons_of_mem _ tw_59)) (fun _ h9 => h9) rfl dXD_writeRow_21 ?_
  refine lv_iload hx hb dXD_writeRow_24 (lv_at hl 2 rfl) ?_
  refine lv_iload hx hb dXD_writeRow_26 (lv_at hl 1 rfl) ?_
  refine va_copyl hx hb (hml.trans hl.1.symm) hown (hts _ (List.mem_cons_of_mem _ tw_242)) (hts _ (List.mem_cons_of_mem _ tw_244)) (hts _ (List.mem_cons_of_mem _ tw_243)) (hts _ (List.mem_cons_of_mem _ tw_11)) hK hP hD hS 3 1 0 0 rfl rfl rfl rfl rfl (nI_pos (by omega)) (nI_pos (by omega)) (nI_pos (by omega)) (by rw [nI_clamp (show 0 < 2 ^ 31 by omega), nI_clamp (show b0 / 8 < 2 ^ 31 by omega)]; omega) (by rw [nI_clamp (show s0 * 16 < 2 ^ 31 by omega), nI_clamp (show b0 / 8 < 2 ^ 31 by omega)]; omega) (fun i _ => rfl) (Nat.le_of_ble_eq_true rfl) (Nat.le_of_ble_eq_true rfl) dXD_writeRow_28 (fun H locs hP hD hS => ?_)
  rw [nI_clamp (show 0 < 2 ^ 31 by omega), nI_clamp (show s0 * 16 < 2 ^ 31 by omega), nI_clamp (show b0 / 8 < 2 ^ 31 by omega)] at hP hD
  have hP : va_P (dC, dI) vwCl [(h0, .inr (0, [.ref aR, .ref aC, .int (pz_o (pz_rb x)), .int (pz_b (pz_dd x)), .int (nI (pz_th x))])), (aR, .inl (cJ, 2400, .inr (.inl (va_cpy row (pz_R x) 0 (s0 * 16) (b0 / 8))))), (aC, .inl (cJ, 16, .inr (.inl (pz_rc x)))), (aW, .inl (cJ, 16, .inr (.inl row)))] H := hP
  have hD : va_D A [(h0, .inr (0, [.ref aR, .ref aC, .int (pz_o (pz_rb x)), .int (pz_b (pz_dd x)), .int (nI (pz_th x))])), (aR, .inl (cJ, 2400, .inr (.inl (va_cpy row (pz_R x) 0 (s0 * 16) (b0 / 8))))), (aC, .inl (cJ, 16, .inr (.inl (pz_rc x)))), (aW, .inl (cJ, 16, .inr (.inl row)))] := hD
  refine lv_iload hx hb dXD_writeRow_31 (lv_at hl 0 rfl) ?_
  refine lv_if_le (tgt := 82) hx hb dXD_writeRow_33 (by decide) (fun hc => ?_) (fun hc => ?_)
  · have hc : (b0 % 8) ≤ 0 := (nI_leI (a := (b0 % 8)) (b := 0) (by omega) (by omega)).mp hc
    rw [pz_wr_eq0 hb0 (by omega)] at hP hD
    exact W.vret hx hb hr (fun t ht hW => ⟨⟨(pz_wr (pz_R x) s0 row b0, x.2), rfl, rfl, by rw [ht]; exact hP, va_K.moved hW.alike hK, hAe ▸ hD⟩, hS.F ht⟩) hS.2.2 dXD_writeRow_82
  · have hc : ¬ (b0 % 8) ≤ 0 := fun h9 => hc ((nI_leI (a := (b0 % 8)) (b := 0) (by omega) (by omega)).mpr h9)
    refine lv_ldc2 hx hb hown (hts _ (List.mem_cons_of_mem _ tw_249)) dXD_writeRow_36 ?_
    refine lv_iload hx hb dXD_writeRow_39 (lv_at hl 0 rfl) ?_
    refine lv_bipush (v := nI 8) hx hb dXD_writeRow_41 (by decide) ?_
    refine lv_imul hx hb dXD_writeRow_43 ?_
    refine lv_topi (nm_r (pk_mul (b0 % 8) 8) ?_)
    refine lv_lushr (v := pz_mask (b0 % 8)) hx hb dXD_writeRow_44 (pz_mask_m (b0 % 8) (by omega)) ?_
    refine lv_lstore hx hb dXD_writeRow_45 hl (by decide) rfl (fun ls hl => ?_)
    have hl : lv_has ls 9 [(7, .long (pz_mask (b0 % 8))), (6, .int (nI (b0 % 8))), (5, .int (nI (b0 / 8))), (4, .int (nI (s0 * 16))), (0, .ref h0), (1, .int (nI s0)), (2, .ref aW), (3, .int (nI b0))] := hl
    refine lv_aload_n hx hb dXD_writeRow_47 rfl (lv_at hl 4 rfl) ?_
    refine va_get (D := (dC, dI)) (ci := 0) (v := .ref aR) (C := "ParityArray$Disk") (T := TXD) (N := 5) hx hb hts (fun w h => List.mem_cons_of_mem _ (inXD w h)) hown hK hP 0 rfl rfl 0 (by decide) (hts _ (List.mem_cons_of_mem _ tw_59)) (fun _ h9 => h9) rfl dXD_writeRow_48 ?_
    refine lv_iload hx hb dXD_writeRow_51 (lv_at hl 3 rfl) ?_
    refine lv_iload hx hb dXD_writeRow_53 (lv_at hl 2 rfl) ?_
    refine lv_iadd hx hb dXD_writeRow_55 ?_
    refine lv_topi (nm_r (nI_add (s0 * 16) (b0 / 8)) ?_)
    refine lv_aload_n hx hb dXD_writeRow_56 rfl (lv_at hl 6 rfl) ?_
    refine lv_iload hx hb dXD_writeRow_57 (lv_at hl 2 rfl) ?_
    refine va_lald hx hb hK hP 3 0 rfl rfl (vp_in_nI (by omega) (by decide)) dXD_writeRow_59 ?_
    refine lv_topl (nm_r (congrArg row (nI_clamp (by omega))) ?_)
    refine lv_lload hx hb dXD_writeRow_60 (lv_at hl 0 rfl) ?_
    refine lv_ldc2 hx hb hown (hts _ (List.mem_cons_of_mem _ tw_249)) dXD_writeRow_62 ?_
    refine lv_lxor hx hb dXD_writeRow_65 ?_
    refine lv_land hx hb dXD_writeRow_66 ?_
    refine lv_aload_n hx hb dXD_writeRow_67 rfl (lv_at hl 4 rfl) ?_
    refine va_get (D := (dC, dI)) (ci := 0) (v := .ref aR) (C := "ParityArray$Disk") (T := TXD) (N := 5) hx hb hts (fun w h => List.mem_cons_of_mem _ (inXD w h)) hown hK hP 0 rfl rfl 0 (by decide) (hts _ (List.mem_cons_of_mem _ tw_59)) (fun _ h9 => h9) rfl dXD_writeRow_68 ?_
    refine lv_iload hx hb dXD_writeRow_71 (lv_at hl 3 rfl) ?_
    refine lv_iload hx hb dXD_writeRow_73 (lv_at hl 2 rfl) ?_
    refine lv_iadd hx hb dXD_writeRow_75 ?_
    refine lv_topi (nm_r (nI_add (s0 * 16) (b0 / 8)) ?_)
    refine va_lald hx hb hK hP 1 0 rfl rfl (vp_in_nI (by omega) (by decide)) dXD_writeRow_76 ?_
    refine lv_topl (nm_r (congrArg (va_cpy row (pz_R x) 0 (s0 * 16) (b0 / 8)) (nI_clamp (by omega))) ?_)
    refine lv_lload hx hb dXD_writeRow_77 (lv_at hl 0 rfl) ?_
    refine lv_land hx hb dXD_writeRow_79 ?_
    refine lv_lor hx hb dXD_writeRow_80 ?_
    refine va_last hx hb hK hP hD hS 1 0 rfl rfl (vp_in_nI (by omega) (by decide)) dXD_writeRow_81 (fun H locs hP hD hS => ?_)
    rw [nI_clamp (show (s0 * 16) + (b0 / 8) < 2 ^ 31 by omega)] at hP hD
    have hP : va_P (dC, dI) vwCl [(h0, .inr (0, [.ref aR, .ref aC, .int (pz_o (pz_rb x)), .int (pz_b (pz_dd x)), .int (nI (pz_th x))])), (aR, .inl (cJ, 2400, .inr (.inl (vp_updL (va_cpy row (pz_R x) 0 (s0 * 16) (b0 / 8)) ((s0 * 16) + (b0 / 8)) (((row (b0 / 8)) &&& ((pz_mask (b0 % 8)) ^^^ (-1))) ||| (((va_cpy row (pz_R x) 0 (s0 * 16) (b0 / 8)) ((s0 * 16) + (b0 / 8))) &&& (pz_mask (b0 % 8)))))))), (aC, .inl (cJ, 16, .inr (.inl (pz_rc x)))), (aW, .inl (cJ, 16, .inr (.inl row)))] H := hP
    have hD : va_D A [(h0, .inr (0, [.ref aR, .ref aC, .int (pz_o (pz_rb x)), .int (pz_b (pz_dd x)), .int (nI (pz_th x))])), (aR, .inl (cJ, 2400, .inr (.inl (vp_updL (va_cpy row (pz_R x) 0 (s0 * 16) (b0 / 8)) ((s0 * 16) + (b0 / 8)) (((row (b0 / 8)) &&& ((pz_mask (b0 % 8)) ^^^ (-1))) ||| (((va_cpy row (pz_R x) 0 (s0 * 16) (b0 / 8)) ((s0 * 16) + (b0 / 8))) &&& (pz_mask (b0 % 8)))))))), (aC, .inl (cJ, 16, .inr (.inl (pz_rc x)))), (aW, .inl (cJ, 16, .inr (.inl row)))] := hD
    rw [pz_wr_eq1 hb0 (by omega)] at hP hD
    exact W.vret hx hb hr (fun t ht hW => ⟨⟨(pz_wr (pz_R x) s0 row b0, x.2), rfl, rfl, by rw [ht]; exact hP, va_K.moved hW.alike hK, hAe ▸ hD⟩, hS.F ht⟩) hS.2.2 dXD_writeRow_82
end
section
/-! the world of a ParityArray: its cells, a disk of it cut out and put back (laid by a program) -/
abbrev pz_Ad : Type := Nat × Nat × Nat × Nat × Nat × Nat × (Nat → Nat × Nat × Nat)
abbrev pz_ax (a : pz_Ad) : Nat := a.1
abbrev pz_ad (a : pz_Ad) : Nat := a.2.1
abbrev pz_as (a : pz_Ad) : Nat := a.2.2.1
abbrev pz_ab (a : pz_Ad) : Nat := a.2.2.2.1
abbrev pz_ap (a : pz_Ad) : Nat := a.2.2.2.2.1
abbrev pz_ay (a : pz_Ad) : Nat := a.2.2.2.2.2.1
abbrev pz_da (a : pz_Ad) : Nat → Nat × Nat × Nat := a.2.2.2.2.2.2
def pz_df (a : pz_Ad) : Nat → Option Nat := fun k => if k < 5 then some (pz_da a k).1 else none
theorem pz_df_lt (a : pz_Ad) {d : Nat} (hd : d < 5) : pz_df a d = some (pz_da a d).1 := by unfold pz_df; rw [if_pos hd]
def pz_XW (a : pz_Ad) (cJ cD : ClassId) (dk : Nat → pz_Dk) (su : pz_Su) (bl pt py : Nat → Int64) : va_W := [(pz_ax a, .inr (2, [.ref (pz_ad a), .ref (pz_as a), .ref (pz_ab a), .ref (pz_ap a), .ref (pz_ay a)])), (pz_ad a, .inl (cD, 5, .inr (.inr (.inr (.inr (pz_df a)))))), (pz_as a, .inr (1, [.int (pz_b (pz_on su)), .int (pz_b (pz_pl su)), .int (pz_b (pz_pr su)), .int (nI (pz_cw su)), .int (nI (pz_cb su)), .int (pz_b (pz_fa su)), .int (nI (pz_wc su))])), (pz_ab a, .inl (cJ, 16, .inr (.inl bl))), (pz_ap a, .inl (cJ, 16, .inr (.inl pt))), (pz_ay a, .inl (cJ, 16, .inr (.inl py))), ((pz_da a 0).1, .inr (0, [.ref ((pz_da a 0).2.1), .ref ((pz_da a 0).2.2), .int (pz_o (pz_rb (dk 0))), .int (pz_b (pz_dd (dk 0))), .int (nI (pz_th (dk 0)))])), ((pz_da a 0).2.1, .inl (cJ, 2400, .inr (.inl (pz_R (dk 0))))), ((pz_da a 0).2.2, .inl (cJ, 16, .inr (.inl (pz_rc (dk 0))))), ((pz_da a 1).1, .inr (0, [.ref ((pz_da a 1).2.1), .ref ((pz_da a 1).2.2), .int (pz_o (pz_rb (dk 1))), .int (pz_b (pz_dd (dk 1))), .int (nI (pz_th (dk 1)))])), ((pz_da a 1).2.1, .inl (cJ, 2400, .inr (.inl (pz_R (dk 1))))), ((pz_da a 1).2.2, .inl (cJ, 16, .inr (.inl (pz_rc (dk 1))))), ((pz_da a 2).1, .inr (0, [.ref ((pz_da a 2).2.1), .ref ((pz_da a 2).2.2), .int (pz_o (pz_rb (dk 2))), .int (pz_b (pz_dd (dk 2))), .int (nI (pz_th (dk 2)))])), ((pz_da a 2).2.1, .inl (cJ, 2400, .inr (.inl (pz_R (dk 2))))), ((pz_da a 2).2.2, .inl (cJ, 16, .inr (.inl (pz_rc (dk 2))))), ((pz_da a 3).1, .inr (0, [.ref ((pz_da a 3).2.1), .ref ((pz_da a 3).2.2), .int (pz_o (pz_rb (dk 3))), .int (pz_b (pz_dd (dk 3))), .int (nI (pz_th (dk 3)))])), ((pz_da a 3).2.1, .inl (cJ, 2400, .inr (.inl (pz_R (dk 3))))), ((pz_da a 3).2.2, .inl (cJ, 16, .inr (.inl (pz_rc (dk 3))))), ((pz_da a 4).1, .inr (0, [.ref ((pz_da a 4).2.1), .ref ((pz_da a 4).2.2), .int (pz_o (pz_rb (dk 4))), .int (pz_b (pz_dd (dk 4))), .int (nI (pz_th (dk 4)))])), ((pz_da a 4).2.1, .inl (cJ, 2400, .inr (.inl (pz_R (dk 4))))), ((pz_da a 4).2.2, .inl (cJ, 16, .inr (.inl (pz_rc (dk 4)))))]
set_option maxHeartbeats 4000000 in
set_option maxRecDepth 100000 in
theorem pz_Xd_P {a : pz_Ad} {cJ cD : ClassId} {dk : Nat → pz_Dk} {su : pz_Su} {bl pt py : Nat → Int64} {D : va_G} {H : Heap} {d : Nat} (hd : d < 5) (hP : va_P D vwCl (pz_XW a cJ cD dk su bl pt py) H) : va_P D vwCl (pz_DW (pz_da a d).1 (pz_da a d).2.1 (pz_da a d).2.2 cJ (dk d)) H := by
  match d, hd with
  | 0, _ => exact hP.sub [6, 7, 8] rfl
  | 1, _ => exact hP.sub [9, 10, 11] rfl
  | 2, _ => exact hP.sub [12, 13, 14] rfl
  | 3, _ => exact hP.sub [15, 16, 17] rfl
  | 4, _ => exact hP.sub [18, 19, 20] rfl
  | d + 5, h => exact absurd h (by omega)
set_option maxHeartbeats 4000000 in
set_option maxRecDepth 100000 in
theorem pz_Xd_D {a : pz_Ad} {cJ cD : ClassId} {dk : Nat → pz_Dk} {su : pz_Su} {bl pt py : Nat → Int64} {A : Nat → Prop} {d : Nat} (hd : d < 5) (hD : va_D A (pz_XW a cJ cD dk su bl pt py)) : va_D A (pz_DW (pz_da a d).1 (pz_da a d).2.1 (pz_da a d).2.2 cJ (dk d)) := by
  match d, hd with
  | 0, _ => exact hD.sub [6, 7, 8] (by decide) rfl
  | 1, _ => exact hD.sub [9, 10, 11] (by decide) rfl
  | 2, _ => exact hD.sub [12, 13, 14] (by decide) rfl
  | 3, _ => exact hD.sub [15, 16, 17] (by decide) rfl
  | 4, _ => exact hD.sub [18, 19, 20] (by decide) rfl
  | d + 5, h => exact absurd h (by omega)
set_option maxHeartbeats 4000000 in
set_option maxRecDepth 100000 in
theorem pz_Xd_F {a : pz_Ad} {cJ cD : ClassId} {dk : Nat → pz_Dk} {su : pz_Su} {bl pt py : Nat → Int64} {H : Heap} {A : Nat → Prop} {d : Nat} {H0 : Heap} {locs : List Loc} (hd : d < 5) (hD : va_D A (pz_XW a cJ cD dk su bl pt py)) (hS : va_S A H0 H locs) (hA : ∀ q, H0.size ≤ q → A q) : ∀ q, va_A (pz_DW (pz_da a d).1 (pz_da a d).2.1 (pz_da a d).2.2 cJ (dk d)) H.size q → A q := by
  match d, hd with
  | 0, _ => exact va_free hD hS hA [6, 7, 8] rfl
  | 1, _ => exact va_free hD hS hA [9, 10, 11] rfl
  | 2, _ => exact va_free hD hS hA [12, 13, 14] rfl
  | 3, _ => exact va_free hD hS hA [15, 16, 17] rfl
  | 4, _ => exact va_free hD hS hA [18, 19, 20] rfl
  | d + 5, h => exact absurd h (by omega)
set_option maxHeartbeats 4000000 in
set_option maxRecDepth 100000 in
theorem pz_Xd_J {a : pz_Ad} {cJ cD : ClassId} {dk : Nat → pz_Dk} {su : pz_Su} {bl pt py : Nat → Int64} {D : va_G} {H : Heap} {A : Nat → Prop} {d : Nat} {H1 : Heap} {x' : pz_Dk} (hd : d < 5) (hP : va_P D vwCl (pz_XW a cJ cD dk su bl pt py) H) (hD : va_D A (pz_XW a cJ cD dk su bl pt py)) (hk : ∀ q : Nat, q < H.size → ¬ va_A (pz_DW (pz_da a d).1 (pz_da a d).2.1 (pz_da a d).2.2 cJ (dk d)) H.size q → H1[q]? = H[q]?) (hF : ∀ q, va_A (pz_DW (pz_da a d).1 (pz_da a d).2.1 (pz_da a d).2.2 cJ (dk d)) H.size q → A q) (hP1 : va_P D vwCl (pz_DW (pz_da a d).1 (pz_da a d).2.1 (pz_da a d).2.2 cJ x') H1) (hD1 : va_D (va_A (pz_DW (pz_da a d).1 (pz_da a d).2.1 (pz_da a d).2.2 cJ (dk d)) H.size) (pz_DW (pz_da a d).1 (pz_da a d).2.1 (pz_da a d).2.2 cJ x')) : va_P D vwCl (pz_XW a cJ cD (va_up dk d x') su bl pt py) H1 ∧ va_D A (pz_XW a cJ cD (va_up dk d x') su bl pt py) := by
  match d, hd with
  | 0, _ => 
    obtain ⟨hP2, hD2⟩ := va_join (wr := [(pz_ax a, .inr (2, [.ref (pz_ad a), .ref (pz_as a), .ref (pz_ab a), .ref (pz_ap a), .ref (pz_ay a)])), (pz_ad a, .inl (cD, 5, .inr (.inr (.inr (.inr (pz_df a)))))), (pz_as a, .inr (1, [.int (pz_b (pz_on su)), .int (pz_b (pz_pl su)), .int (pz_b (pz_pr su)), .int (nI (pz_cw su)), .int (nI (pz_cb su)), .int (pz_b (pz_fa su)), .int (nI (pz_wc su))])), (pz_ab a, .inl (cJ, 16, .inr (.inl bl))), (pz_ap a, .inl (cJ, 16, .inr (.inl pt))), (pz_ay a, .inl (cJ, 16, .inr (.inl py))), ((pz_da a 1).1, .inr (0, [.ref ((pz_da a 1).2.1), .ref ((pz_da a 1).2.2), .int (pz_o (pz_rb (dk 1))), .int (pz_b (pz_dd (dk 1))), .int (nI (pz_th (dk 1)))])), ((pz_da a 1).2.1, .inl (cJ, 2400, .inr (.inl (pz_R (dk 1))))), ((pz_da a 1).2.2, .inl (cJ, 16, .inr (.inl (pz_rc (dk 1))))), ((pz_da a 2).1, .inr (0, [.ref ((pz_da a 2).2.1), .ref ((pz_da a 2).2.2), .int (pz_o (pz_rb (dk 2))), .int (pz_b (pz_dd (dk 2))), .int (nI (pz_th (dk 2)))])), ((pz_da a 2).2.1, .inl (cJ, 2400, .inr (.inl (pz_R (dk 2))))), ((pz_da a 2).2.2, .inl (cJ, 16, .inr (.inl (pz_rc (dk 2))))), ((pz_da a 3).1, .inr (0, [.ref ((pz_da a 3).2.1), .ref ((pz_da a 3).2.2), .int (pz_o (pz_rb (dk 3))), .int (pz_b (pz_dd (dk 3))), .int (nI (pz_th (dk 3)))])), ((pz_da a 3).2.1, .inl (cJ, 2400, .inr (.inl (pz_R (dk 3))))), ((pz_da a 3).2.2, .inl (cJ, 16, .inr (.inl (pz_rc (dk 3))))), ((pz_da a 4).1, .inr (0, [.ref ((pz_da a 4).2.1), .ref ((pz_da a 4).2.2), .int (pz_o (pz_rb (dk 4))), .int (pz_b (pz_dd (dk 4))), .int (nI (pz_th (dk 4)))])), ((pz_da a 4).2.1, .inl (cJ, 2400, .inr (.inl (pz_R (dk 4))))), ((pz_da a 4).2.2, .inl (cJ, 16, .inr (.inl (pz_rc (dk 4)))))]) (w1 := pz_DW (pz_da a 0).1 (pz_da a 0).2.1 (pz_da a 0).2.2 cJ x') hP hD [6, 7, 8] [0, 1, 2, 3, 4, 5, 9, 10, 11, 12, 13, 14, 15, 16, 17, 18, 19, 20] rfl rfl (by decide) (by decide) hk hF hP1 hD1
    exact ⟨hP2.sub [0, 1, 2, 3, 4, 5, 18, 19, 20, 6, 7, 8, 9, 10, 11, 12, 13, 14, 15, 16, 17] rfl, hD2.sub [0, 1, 2, 3, 4, 5, 18, 19, 20, 6, 7, 8, 9, 10, 11, 12, 13, 14, 15, 16, 17] (by decide) rfl⟩
  | 1, _ => 
    obtain ⟨hP2, hD2⟩ := va_join (wr := [(pz_ax a, .inr (2, [.ref (pz_ad a), .ref (pz_as a), .ref (pz_ab a), .ref (pz_ap a), .ref (pz_ay a)])), (pz_ad a, .inl (cD, 5, .inr (.inr (.inr (.inr (pz_df a)))))), (pz_as a, .inr (1, [.int (pz_b (pz_on su)), .int (pz_b (pz_pl su)), .int (pz_b (pz_pr su)), .int (nI (pz_cw su)), .int (nI (pz_cb su)), .int (pz_b (pz_fa su)), .int (nI (pz_wc su))])), (pz_ab a, .inl (cJ, 16, .inr (.inl bl))), (pz_ap a, .inl (cJ, 16, .inr (.inl pt))), (pz_ay a, .inl (cJ, 16, .inr (.inl py))), ((pz_da a 0).1, .inr (0, [.ref ((pz_da a 0).2.1), .ref ((pz_da a 0).2.2), .int (pz_o (pz_rb (dk 0))), .int (pz_b (pz_dd (dk 0))), .int (nI (pz_th (dk 0)))])), ((pz_da a 0).2.1, .inl (cJ, 2400, .inr (.inl (pz_R (dk 0))))), ((pz_da a 0).2.2, .inl (cJ, 16, .inr (.inl (pz_rc (dk 0))))), ((pz_da a 2).1, .inr (0, [.ref ((pz_da a 2).2.1), .ref ((pz_da a 2).2.2), .int (pz_o (pz_rb (dk 2))), .int (pz_b (pz_dd (dk 2))), .int (nI (pz_th (dk 2)))])), ((pz_da a 2).2.1, .inl (cJ, 2400, .inr (.inl (pz_R (dk 2))))), ((pz_da a 2).2.2, .inl (cJ, 16, .inr (.inl (pz_rc (dk 2))))), ((pz_da a 3).1, .inr (0, [.ref ((pz_da a 3).2.1), .ref ((pz_da a 3).2.2), .int (pz_o (pz_rb (dk 3))), .int (pz_b (pz_dd (dk 3))), .int (nI (pz_th (dk 3)))])), ((pz_da a 3).2.1, .inl (cJ, 2400, .inr (.inl (pz_R (dk 3))))), ((pz_da a 3).2.2, .inl (cJ, 16, .inr (.inl (pz_rc (dk 3))))), ((pz_da a 4).1, .inr (0, [.ref ((pz_da a 4).2.1), .ref ((pz_da a 4).2.2), .int (pz_o (pz_rb (dk 4))), .int (pz_b (pz_dd (dk 4))), .int (nI (pz_th (dk 4)))])), ((pz_da a 4).2.1, .inl (cJ, 2400, .inr (.inl (pz_R (dk 4))))), ((pz_da a 4).2.2, .inl (cJ, 16, .inr (.inl (pz_rc (dk 4)))))]) (w1 := pz_DW (pz_da a 1).1 (pz_da a 1).2.1 (pz_da a 1).2.2 cJ x') hP hD [9, 10, 11] [0, 1, 2, 3, 4, 5, 6, 7, 8, 12, 13, 14, 15, 16, 17, 18, 19, 20] rfl rfl (by decide) (by decide) hk hF hP1 hD1
    exact ⟨hP2.sub [0, 1, 2, 3, 4, 5, 6, 7, 8, 18, 19, 20, 9, 10, 11, 12, 13, 14, 15, 16, 17] rfl, hD2.sub [0, 1, 2, 3, 4, 5, 6, 7, 8, 18, 19, 20, 9, 10, 11, 12, 13, 14, 15, 16, 17] (by decide) rfl⟩
  | 2, _ => 
    obtain ⟨hP2, hD2⟩ := va_join (wr := [(pz_ax a, .inr (2, [.ref (pz_ad a), .ref (pz_as a), .ref (pz_ab a), .ref (pz_ap a), .ref (pz_ay a)])), (pz_ad a, .inl (cD, 5, .inr (.inr (.inr (.inr (pz_df a)))))), (pz_as a, .inr (1, [.int (pz_b (pz_on su)), .int (pz_b (pz_pl su)), .int (pz_b (pz_pr su)), .int (nI (pz_cw su)), .int (nI (pz_cb su)), .int (pz_b (pz_fa su)), .int (nI (pz_wc su))])), (pz_ab a, .inl (cJ, 16, .inr (.inl bl))), (pz_ap a, .inl (cJ, 16, .inr (.inl pt))), (pz_ay a, .inl (cJ, 16, .inr (.inl py))), ((pz_da a 0).1, .inr (0, [.ref ((pz_da a 0).2.1), .ref ((pz_da a 0).2.2), .int (pz_o (pz_rb (dk 0))), .int (pz_b (pz_dd (dk 0))), .int (nI (pz_th (dk 0)))])), ((pz_da a 0).2.1, .inl (cJ, 2400, .inr (.inl (pz_R (dk 0))))), ((pz_da a 0).2.2, .inl (cJ, 16, .inr (.inl (pz_rc (dk 0))))), ((pz_da a 1).1, .inr (0, [.ref ((pz_da a 1).2.1), .ref ((pz_da a 1).2.2), .int (pz_o (pz_rb (dk 1))), .int (pz_b (pz_dd (dk 1))), .int (nI (pz_th (dk 1)))])), ((pz_da a 1).2.1, .inl (cJ, 2400, .inr (.inl (pz_R (dk 1))))), ((pz_da a 1).2.2, .inl (cJ, 16, .inr (.inl (pz_rc (dk 1))))), ((pz_da a 3).1, .inr (0, [.ref ((pz_da a 3).2.1), .ref ((pz_da a 3).2.2), .int (pz_o (pz_rb (dk 3))), .int (pz_b (pz_dd (dk 3))), .int (nI (pz_th (dk 3)))])), ((pz_da a 3).2.1, .inl (cJ, 2400, .inr (.inl (pz_R (dk 3))))), ((pz_da a 3).2.2, .inl (cJ, 16, .inr (.inl (pz_rc (dk 3))))), ((pz_da a 4).1, .inr (0, [.ref ((pz_da a 4).2.1), .ref ((pz_da a 4).2.2), .int (pz_o (pz_rb (dk 4))), .int (pz_b (pz_dd (dk 4))), .int (nI (pz_th (dk 4)))])), ((pz_da a 4).2.1, .inl (cJ, 2400, .inr (.inl (pz_R (dk 4))))), ((pz_da a 4).2.2, .inl (cJ, 16, .inr (.inl (pz_rc (dk 4)))))]) (w1 := pz_DW (pz_da a 2).1 (pz_da a 2).2.1 (pz_da a 2).2.2 cJ x') hP hD [12, 13, 14] [0, 1, 2, 3, 4, 5, 6, 7, 8, 9, 10, 11, 15, 16, 17, 18, 19, 20] rfl rfl (by decide) (by decide) hk hF hP1 hD1
    exact ⟨hP2.sub [0, 1, 2, 3, 4, 5, 6, 7, 8, 9, 10, 11, 18, 19, 20, 12, 13, 14, 15, 16, 17] rfl, hD2.sub [0, 1, 2, 3, 4, 5, 6, 7, 8, 9, 10, 11, 18, 19, 20, 12, 13, 14, 15, 16, 17] (by decide) rfl⟩
  | 3, _ => 
    obtain ⟨hP2, hD2⟩ := va_join (wr := [(pz_ax a, .inr (2, [.ref (pz_ad a), .ref (pz_as a), .ref (pz_ab a), .ref (pz_ap a), .ref (pz_ay a)])), (pz_ad a, .inl (cD, 5, .inr (.inr (.inr (.inr (pz_df a)))))), (pz_as a, .inr (1, [.int (pz_b (pz_on su)), .int (pz_b (pz_pl su)), .int (pz_b (pz_pr su)), .int (nI (pz_cw su)), .int (nI (pz_cb su)), .int (pz_b (pz_fa su)), .int (nI (pz_wc su))])), (pz_ab a, .inl (cJ, 16, .inr (.inl bl))), (pz_ap a, .inl (cJ, 16, .inr (.inl pt))), (pz_ay a, .inl (cJ, 16, .inr (.inl py))), ((pz_da a 0).1, .inr (0, [.ref ((pz_da a 0).2.1), .ref ((pz_da a 0).2.2), .int (pz_o (pz_rb (dk 0))), .int (pz_b (pz_dd (dk 0))), .int (nI (pz_th (dk 0)))])), ((pz_da a 0).2.1, .inl (cJ, 2400, .inr (.inl (pz_R (dk 0))))), ((pz_da a 0).2.2, .inl (cJ, 16, .inr (.inl (pz_rc (dk 0))))), ((pz_da a 1).1, .inr (0, [.ref ((pz_da a 1).2.1), .ref ((pz_da a 1).2.2), .int (pz_o (pz_rb (dk 1))), .int (pz_b (pz_dd (dk 1))), .int (nI (pz_th (dk 1)))])), ((pz_da a 1).2.1, .inl (cJ, 2400, .inr (.inl (pz_R (dk 1))))), ((pz_da a 1).2.2, .inl (cJ, 16, .inr (.inl (pz_rc (dk 1))))), ((pz_da a 2).1, .inr (0, [.ref ((pz_da a 2).2.1), .ref ((pz_da a 2).2.2), .int (pz_o (pz_rb (dk 2))), .int (pz_b (pz_dd (dk 2))), .int (nI (pz_th (dk 2)))])), ((pz_da a 2).2.1, .inl (cJ, 2400, .inr (.inl (pz_R (dk 2))))), ((pz_da a 2).2.2, .inl (cJ, 16, .inr (.inl (pz_rc (dk 2))))), ((pz_da a 4).1, .inr (0, [.ref ((pz_da a 4).2.1), .ref ((pz_da a 4).2.2), .int (pz_o (pz_rb (dk 4))), .int (pz_b (pz_dd (dk 4))), .int (nI (pz_th (dk 4)))])), ((pz_da a 4).2.1, .inl (cJ, 2400, .inr (.inl (pz_R (dk 4))))), ((pz_da a 4).2.2, .inl (cJ, 16, .inr (.inl (pz_rc (dk 4)))))]) (w1 := pz_DW (pz_da a 3).1 (pz_da a 3).2.1 (pz_da a 3).2.2 cJ x') hP hD [15, 16, 17] [0, 1, 2, 3, 4, 5, 6, 7, 8, 9, 10, 11, 12, 13, 14, 18, 19, 20] rfl rfl (by decide) (by decide) hk hF hP1 hD1
    exact ⟨hP2.sub [0, 1, 2, 3, 4, 5, 6, 7, 8, 9, 10, 11, 12, 13, 14, 18, 19, 20, 15, 16, 17] rfl, hD2.sub [0, 1, 2, 3, 4, 5, 6, 7, 8, 9, 10, 11, 12, 13, 14, 18, 19, 20, 15, 16, 17] (by decide) rfl⟩
  | 4, _ => 
    obtain ⟨hP2, hD2⟩ := va_join (wr := [(pz_ax a, .inr (2, [.ref (pz_ad a), .ref (pz_as a), .ref (pz_ab a), .ref (pz_ap a), .ref (pz_ay a)])), (pz_ad a, .inl (cD, 5, .inr (.inr (.inr (.inr (pz_df a)))))), (pz_as a, .inr (1, [.int (pz_b (pz_on su)), .int (pz_b (pz_pl su)), .int (pz_b (pz_pr su)), .int (nI (pz_cw su)), .int (nI (pz_cb su)), .int (pz_b (pz_fa su)), .int (nI (pz_wc su))])), (pz_ab a, .inl (cJ, 16, .inr (.inl bl))), (pz_ap a, .inl (cJ, 16, .inr (.inl pt))), (pz_ay a, .inl (cJ, 16, .inr (.inl py))), ((pz_da a 0).1, .inr (0, [.ref ((pz_da a 0).2.1), .ref ((pz_da a 0).2.2), .int (pz_o (pz_rb (dk 0))), .int (pz_b (pz_dd (dk 0))), .int (nI (pz_th (dk 0)))])), ((pz_da a 0).2.1, .inl (cJ, 2400, .inr (.inl (pz_R (dk 0))))), ((pz_da a 0).2.2, .inl (cJ, 16, .inr (.inl (pz_rc (dk 0))))), ((pz_da a 1).1, .inr (0, [.ref ((pz_da a 1).2.1), .ref ((pz_da a 1).2.2), .int (pz_o (pz_rb (dk 1))), .int (pz_b (pz_dd (dk 1))), .int (nI (pz_th (dk 1)))])), ((pz_da a 1).2.1, .inl (cJ, 2400, .inr (.inl (pz_R (dk 1))))), ((pz_da a 1).2.2, .inl (cJ, 16, .inr (.inl (pz_rc (dk 1))))), ((pz_da a 2).1, .inr (0, [.ref ((pz_da a 2).2.1), .ref ((pz_da a 2).2.2), .int (pz_o (pz_rb (dk 2))), .int (pz_b (pz_dd (dk 2))), .int (nI (pz_th (dk 2)))])), ((pz_da a 2).2.1, .inl (cJ, 2400, .inr (.inl (pz_R (dk 2))))), ((pz_da a 2).2.2, .inl (cJ, 16, .inr (.inl (pz_rc (dk 2))))), ((pz_da a 3).1, .inr (0, [.ref ((pz_da a 3).2.1), .ref ((pz_da a 3).2.2), .int (pz_o (pz_rb (dk 3))), .int (pz_b (pz_dd (dk 3))), .int (nI (pz_th (dk 3)))])), ((pz_da a 3).2.1, .inl (cJ, 2400, .inr (.inl (pz_R (dk 3))))), ((pz_da a 3).2.2, .inl (cJ, 16, .inr (.inl (pz_rc (dk 3)))))]) (w1 := pz_DW (pz_da a 4).1 (pz_da a 4).2.1 (pz_da a 4).2.2 cJ x') hP hD [18, 19, 20] [0, 1, 2, 3, 4, 5, 6, 7, 8, 9, 10, 11, 12, 13, 14, 15, 16, 17] rfl rfl (by decide) (by decide) hk hF hP1 hD1
    exact ⟨hP2.sub [0, 1, 2, 3, 4, 5, 6, 7, 8, 9, 10, 11, 12, 13, 14, 15, 16, 17, 18, 19, 20] rfl, hD2.sub [0, 1, 2, 3, 4, 5, 6, 7, 8, 9, 10, 11, 12, 13, 14, 15, 16, 17, 18, 19, 20] (by decide) rfl⟩
  | d + 5, h => exact absurd h (by omega)
set_option maxHeartbeats 4000000 in
set_option maxRecDepth 100000 in
theorem pz_Xb_P {a : pz_Ad} {cJ cD : ClassId} {dk : Nat → pz_Dk} {su : pz_Su} {bl pt py : Nat → Int64} {D : va_G} {H : Heap} {d : Nat} (hd : d < 5) (hP : va_P D vwCl (pz_XW a cJ cD dk su bl pt py) H) : va_P D vwCl (pz_DR (pz_da a d).1 (pz_da a d).2.1 (pz_da a d).2.2 cJ (dk d) (pz_ab a) bl) H := by
  match d, hd with
  | 0, _ => exact hP.sub [6, 7, 8, 3] rfl
  | 1, _ => exact hP.sub [9, 10, 11, 3] rfl
  | 2, _ => exact hP.sub [12, 13, 14, 3] rfl
  | 3, _ => exact hP.sub [15, 16, 17, 3] rfl
  | 4, _ => exact hP.sub [18, 19, 20, 3] rfl
  | d + 5, h => exact absurd h (by omega)
set_option maxHeartbeats 4000000 in
set_option maxRecDepth 100000 in
theorem pz_Xb_D {a : pz_Ad} {cJ cD : ClassId} {dk : Nat → pz_Dk} {su : pz_Su} {bl pt py : Nat → Int64} {A : Nat → Prop} {d : Nat} (hd : d < 5) (hD : va_D A (pz_XW a cJ cD dk su bl pt py)) : va_D A (pz_DR (pz_da a d).1 (pz_da a d).2.1 (pz_da a d).2.2 cJ (dk d) (pz_ab a) bl) := by
  match d, hd with
  | 0, _ => exact hD.sub [6, 7, 8, 3] (by decide) rfl
  | 1, _ => exact hD.sub [9, 10, 11, 3] (by decide) rfl
  | 2, _ => exact hD.sub [12, 13, 14, 3] (by decide) rfl
  | 3, _ => exact hD.sub [15, 16, 17, 3] (by decide) rfl
  | 4, _ => exact hD.sub [18, 19, 20, 3] (by decide) rfl
  | d + 5, h => exact absurd h (by omega)
set_option maxHeartbeats 4000000 in
set_option maxRecDepth 100000 in
theorem pz_Xb_F {a : pz_Ad} {cJ cD : ClassId} {dk : Nat → pz_Dk} {su : pz_Su} {bl pt py : Nat → Int64} {H : Heap} {A : Nat → Prop} {d : Nat} {H0 : Heap} {locs : List Loc} (hd : d < 5) (hD : va_D A (pz_XW a cJ cD dk su bl pt py)) (hS : va_S A H0 H locs) (hA : ∀ q, H0.size ≤ q → A q) : ∀ q, va_A (pz_DR (pz_da a d).1 (pz_da a d).2.1 (pz_da a d).2.2 cJ (dk d) (pz_ab a) bl) H.size q → A q := by
  match d, hd with
  | 0, _ => exact va_free hD hS hA [6, 7, 8, 3] rfl
  | 1, _ => exact va_free hD hS hA [9, 10, 11, 3] rfl
  | 2, _ => exact va_free hD hS hA [12, 13, 14, 3] rfl
  | 3, _ => exact va_free hD hS hA [15, 16, 17, 3] rfl
  | 4, _ => exact va_free hD hS hA [18, 19, 20, 3] rfl
  | d + 5, h => exact absurd h (by omega)
set_option maxHeartbeats 4000000 in
set_option maxRecDepth 100000 in
theorem pz_Xb_J {a : pz_Ad} {cJ cD : ClassId} {dk : Nat → pz_Dk} {su : pz_Su} {bl pt py : Nat → Int64} {D : va_G} {H : Heap} {A : Nat → Prop} {d : Nat} {H1 : Heap} {x' : pz_Dk} (hd : d < 5) (hP : va_P D vwCl (pz_XW a cJ cD dk su bl pt py) H) (hD : va_D A (pz_XW a cJ cD dk su bl pt py)) (hk : ∀ q : Nat, q < H.size → ¬ va_A (pz_DR (pz_da a d).1 (pz_da a d).2.1 (pz_da a d).2.2 cJ (dk d) (pz_ab a) bl) H.size q → H1[q]? = H[q]?) (hF : ∀ q, va_A (pz_DR (pz_da a d).1 (pz_da a d).2.1 (pz_da a d).2.2 cJ (dk d) (pz_ab a) bl) H.size q → A q) (hP1 : va_P D vwCl (pz_DR (pz_da a d).1 (pz_da a d).2.1 (pz_da a d).2.2 cJ x' (pz_ab a) bl) H1) (hD1 : va_D (va_A (pz_DR (pz_da a d).1 (pz_da a d).2.1 (pz_da a d).2.2 cJ (dk d) (pz_ab a) bl) H.size) (pz_DR (pz_da a d).1 (pz_da a d).2.1 (pz_da a d).2.2 cJ x' (pz_ab a) bl)) : va_P D vwCl (pz_XW a cJ cD (va_up dk d x') su bl pt py) H1 ∧ va_D A (pz_XW a cJ cD (va_up dk d x') su bl pt py) := by
  match d, hd with
  | 0, _ => 
    obtain ⟨hP2, hD2⟩ := va_join (wr := [(pz_ax a, .inr (2, [.ref (pz_ad a), .ref (pz_as a), .ref (pz_ab a), .ref (pz_ap a), .ref (pz_ay a)])), (pz_ad a, .inl (cD, 5, .inr (.inr (.inr (.inr (pz_df a)))))), (pz_as a, .inr (1, [.int (pz_b (pz_on su)), .int (pz_b (pz_pl su)), .int (pz_b (pz_pr su)), .int (nI (pz_cw su)), .int (nI (pz_cb su)), .int (pz_b (pz_fa su)), .int (nI (pz_wc su))])), (pz_ap a, .inl (cJ, 16, .inr (.inl pt))), (pz_ay a, .inl (cJ, 16, .inr (.inl py))), ((pz_da a 1).1, .inr (0, [.ref ((pz_da a 1).2.1), .ref ((pz_da a 1).2.2), .int (pz_o (pz_rb (dk 1))), .int (pz_b (pz_dd (dk 1))), .int (nI (pz_th (dk 1)))])), ((pz_da a 1).2.1, .inl (cJ, 2400, .inr (.inl (pz_R (dk 1))))), ((pz_da a 1).2.2, .inl (cJ, 16, .inr (.inl (pz_rc (dk 1))))), ((pz_da a 2).1, .inr (0, [.ref ((pz_da a 2).2.1), .ref ((pz_da a 2).2.2), .int (pz_o (pz_rb (dk 2))), .int (pz_b (pz_dd (dk 2))), .int (nI (pz_th (dk 2)))])), ((pz_da a 2).2.1, .inl (cJ, 2400, .inr (.inl (pz_R (dk 2))))), ((pz_da a 2).2.2, .inl (cJ, 16, .inr (.inl (pz_rc (dk 2))))), ((pz_da a 3).1, .inr (0, [.ref ((pz_da a 3).2.1), .ref ((pz_da a 3).2.2), .int (pz_o (pz_rb (dk 3))), .int (pz_b (pz_dd (dk 3))), .int (nI (pz_th (dk 3)))])), ((pz_da a 3).2.1, .inl (cJ, 2400, .inr (.inl (pz_R (dk 3))))), ((pz_da a 3).2.2, .inl (cJ, 16, .inr (.inl (pz_rc (dk 3))))), ((pz_da a 4).1, .inr (0, [.ref ((pz_da a 4).2.1), .ref ((pz_da a 4).2.2), .int (pz_o (pz_rb (dk 4))), .int (pz_b (pz_dd (dk 4))), .int (nI (pz_th (dk 4)))])), ((pz_da a 4).2.1, .inl (cJ, 2400, .inr (.inl (pz_R (dk 4))))), ((pz_da a 4).2.2, .inl (cJ, 16, .inr (.inl (pz_rc (dk 4)))))]) (w1 := pz_DR (pz_da a 0).1 (pz_da a 0).2.1 (pz_da a 0).2.2 cJ x' (pz_ab a) bl) hP hD [6, 7, 8, 3] [0, 1, 2, 4, 5, 9, 10, 11, 12, 13, 14, 15, 16, 17, 18, 19, 20] rfl rfl (by decide) (by decide) hk hF hP1 hD1
    exact ⟨hP2.sub [0, 1, 2, 20, 3, 4, 17, 18, 19, 5, 6, 7, 8, 9, 10, 11, 12, 13, 14, 15, 16] rfl, hD2.sub [0, 1, 2, 20, 3, 4, 17, 18, 19, 5, 6, 7, 8, 9, 10, 11, 12, 13, 14, 15, 16] (by decide) rfl⟩
  | 1, _ => 
    obtain ⟨hP2, hD2⟩ := va_join (wr := [(pz_ax a, .inr (2, [.ref (pz_ad a), .ref (pz_as a), .ref (pz_ab a), .ref (pz_ap a), .ref (pz_ay a)])), (pz_ad a, .inl (cD, 5, .inr (.inr (.inr (.inr (pz_df a)))))), (pz_as a, .inr (1, [.int (pz_b (pz_on su)), .int (pz_b (pz_pl su)), .int (pz_b (pz_pr su)), .int (nI (pz_cw su)), .int (nI (pz_cb su)), .int (pz_b (pz_fa su)), .int (nI (pz_wc su))])), (pz_ap a, .inl (cJ, 16, .inr (.inl pt))), (pz_ay a, .inl (cJ, 16, .inr (.inl py))), ((pz_da a 0).1, .inr (0, [.ref ((pz_da a 0).2.1), .ref ((pz_da a 0).2.2), .int (pz_o (pz_rb (dk 0))), .int (pz_b (pz_dd (dk 0))), .int (nI (pz_th (dk 0)))])), ((pz_da a 0).2.1, .inl (cJ, 2400, .inr (.inl (pz_R (dk 0))))), ((pz_da a 0).2.2, .inl (cJ, 16, .inr (.inl (pz_rc (dk 0))))), ((pz_da a 2).1, .inr (0, [.ref ((pz_da a 2).2.1), .ref ((pz_da a 2).2.2), .int (pz_o (pz_rb (dk 2))), .int (pz_b (pz_dd (dk 2))), .int (nI (pz_th (dk 2)))])), ((pz_da a 2).2.1, .inl (cJ, 2400, .inr (.inl (pz_R (dk 2))))), ((pz_da a 2).2.2, .inl (cJ, 16, .inr (.inl (pz_rc (dk 2))))), ((pz_da a 3).1, .inr (0, [.ref ((pz_da a 3).2.1), .ref ((pz_da a 3).2.2), .int (pz_o (pz_rb (dk 3))), .int (pz_b (pz_dd (dk 3))), .int (nI (pz_th (dk 3)))])), ((pz_da a 3).2.1, .inl (cJ, 2400, .inr (.inl (pz_R (dk 3))))), ((pz_da a 3).2.2, .inl (cJ, 16, .inr (.inl (pz_rc (dk 3))))), ((pz_da a 4).1, .inr (0, [.ref ((pz_da a 4).2.1), .ref ((pz_da a 4).2.2), .int (pz_o (pz_rb (dk 4))), .int (pz_b (pz_dd (dk 4))), .int (nI (pz_th (dk 4)))])), ((pz_da a 4).2.1, .inl (cJ, 2400, .inr (.inl (pz_R (dk 4))))), ((pz_da a 4).2.2, .inl (cJ, 16, .inr (.inl (pz_rc (dk 4)))))]) (w1 := pz_DR (pz_da a 1).1 (pz_da a 1).2.1 (pz_da a 1).2.2 cJ x' (pz_ab a) bl) hP hD [9, 10, 11, 3] [0, 1, 2, 4, 5, 6, 7, 8, 12, 13, 14, 15, 16, 17, 18, 19, 20] rfl rfl (by decide) (by decide) hk hF hP1 hD1
    exact ⟨hP2.sub [0, 1, 2, 20, 3, 4, 5, 6, 7, 17, 18, 19, 8, 9, 10, 11, 12, 13, 14, 15, 16] rfl, hD2.sub [0, 1, 2, 20, 3, 4, 5, 6, 7, 17, 18, 19, 8, 9, 10, 11, 12, 13, 14, 15, 16] (by decide) rfl⟩
  | 2, _ => 
    obtain ⟨hP2, hD2⟩ := va_join (wr := [(pz_ax a, .inr (2, [.ref (pz_ad a), .ref (pz_as a), .ref (pz_ab a), .ref (pz_ap a), .ref (pz_ay a)])), (pz_ad a, .inl (cD, 5, .inr (.inr (.inr (.inr (pz_df a)))))), (pz_as a, .inr (1, [.int (pz_b (pz_on su)), .int (pz_b (pz_pl su)), .int (pz_b (pz_pr su)), .int (nI (pz_cw su)), .int (nI (pz_cb su)), .int (pz_b (pz_fa su)), .int (nI (pz_wc su))])), (pz_ap a, .inl (cJ, 16, .inr (.inl pt))), (pz_ay a, .inl (cJ, 16, .inr (.inl py))), ((pz_da a 0).1, .inr (0, [.ref ((pz_da a 0).2.1), .ref ((pz_da a 0).2.2), .int (pz_o (pz_rb (dk 0))), .int (pz_b (pz_dd (dk 0))), .int (nI (pz_th (dk 0)))])), ((pz_da a 0).2.1, .inl (cJ, 2400, .inr (.inl (pz_R (dk 0))))), ((pz_da a 0).2.2, .inl (cJ, 16, .inr (.inl (pz_rc (dk 0))))), ((pz_da a 1).1, .inr (0, [.ref ((pz_da a 1).2.1), .ref ((pz_da a 1).2.2), .int (pz_o (pz_rb (dk 1))), .int (pz_b (pz_dd (dk 1))), .int (nI (pz_th (dk 1)))])), ((pz_da a 1).2.1, .inl (cJ, 2400, .inr (.inl (pz_R (dk 1))))), ((pz_da a 1).2.2, .inl (cJ, 16, .inr (.inl (pz_rc (dk 1))))), ((pz_da a 3).1, .inr (0, [.ref ((pz_da a 3).2.1), .ref ((pz_da a 3).2.2), .int (pz_o (pz_rb (dk 3))), .int (pz_b (pz_dd (dk 3))), .int (nI (pz_th (dk 3)))])), ((pz_da a 3).2.1, .inl (cJ, 2400, .inr (.inl (pz_R (dk 3))))), ((pz_da a 3).2.2, .inl (cJ, 16, .inr (.inl (pz_rc (dk 3))))), ((pz_da a 4).1, .inr (0, [.ref ((pz_da a 4).2.1), .ref ((pz_da a 4).2.2), .int (pz_o (pz_rb (dk 4))), .int (pz_b (pz_dd (dk 4))), .int (nI (pz_th (dk 4)))])), ((pz_da a 4).2.1, .inl (cJ, 2400, .inr (.inl (pz_R (dk 4))))), ((pz_da a 4).2.2, .inl (cJ, 16, .inr (.inl (pz_rc (dk 4)))))]) (w1 := pz_DR (pz_da a 2).1 (pz_da a 2).2.1 (pz_da a 2).2.2 cJ x' (pz_ab a) bl) hP hD [12, 13, 14, 3] [0, 1, 2, 4, 5, 6, 7, 8, 9, 10, 11, 15, 16, 17, 18, 19, 20] rfl rfl (by decide) (by decide) hk hF hP1 hD1
    exact ⟨hP2.sub [0, 1, 2, 20, 3, 4, 5, 6, 7, 8, 9, 10, 17, 18, 19, 11, 12, 13, 14, 15, 16] rfl, hD2.sub [0, 1, 2, 20, 3, 4, 5, 6, 7, 8, 9, 10, 17, 18, 19, 11, 12, 13, 14, 15, 16] (by decide) rfl⟩
  | 3, _ => 
    obtain ⟨hP2, hD2⟩ := va_join (wr := [(pz_ax a, .inr (2, [.ref (pz_ad a), .ref (pz_as a), .ref (pz_ab a), .ref (pz_ap a), .ref (pz_ay a)])), (pz_ad a, .inl (cD, 5, .inr (.inr (.inr (.inr (pz_df a)))))), (pz_as a, .inr (1, [.int (pz_b (pz_on su)), .int (pz_b (pz_pl su)), .int (pz_b (pz_pr su)), .int (nI (pz_cw su)), .int (nI (pz_cb su)), .int (pz_b (pz_fa su)), .int (nI (pz_wc su))])), (pz_ap a, .inl (cJ, 16, .inr (.inl pt))), (pz_ay a, .inl (cJ, 16, .inr (.inl py))), ((pz_da a 0).1, .inr (0, [.ref ((pz_da a 0).2.1), .ref ((pz_da a 0).2.2), .int (pz_o (pz_rb (dk 0))), .int (pz_b (pz_dd (dk 0))), .int (nI (pz_th (dk 0)))])), ((pz_da a 0).2.1, .inl (cJ, 2400, .inr (.inl (pz_R (dk 0))))), ((pz_da a 0).2.2, .inl (cJ, 16, .inr (.inl (pz_rc (dk 0))))), ((pz_da a 1).1, .inr (0, [.ref ((pz_da a 1).2.1), .ref ((pz_da a 1).2.2), .int (pz_o (pz_rb (dk 1))), .int (pz_b (pz_dd (dk 1))), .int (nI (pz_th (dk 1)))])), ((pz_da a 1).2.1, .inl (cJ, 2400, .inr (.inl (pz_R (dk 1))))), ((pz_da a 1).2.2, .inl (cJ, 16, .inr (.inl (pz_rc (dk 1))))), ((pz_da a 2).1, .inr (0, [.ref ((pz_da a 2).2.1), .ref ((pz_da a 2).2.2), .int (pz_o (pz_rb (dk 2))), .int (pz_b (pz_dd (dk 2))), .int (nI (pz_th (dk 2)))])), ((pz_da a 2).2.1, .inl (cJ, 2400, .inr (.inl (pz_R (dk 2))))), ((pz_da a 2).2.2, .inl (cJ, 16, .inr (.inl (pz_rc (dk 2))))), ((pz_da a 4).1, .inr (0, [.ref ((pz_da a 4).2.1), .ref ((pz_da a 4).2.2), .int (pz_o (pz_rb (dk 4))), .int (pz_b (pz_dd (dk 4))), .int (nI (pz_th (dk 4)))])), ((pz_da a 4).2.1, .inl (cJ, 2400, .inr (.inl (pz_R (dk 4))))), ((pz_da a 4).2.2, .inl (cJ, 16, .inr (.inl (pz_rc (dk 4)))))]) (w1 := pz_DR (pz_da a 3).1 (pz_da a 3).2.1 (pz_da a 3).2.2 cJ x' (pz_ab a) bl) hP hD [15, 16, 17, 3] [0, 1, 2, 4, 5, 6, 7, 8, 9, 10, 11, 12, 13, 14, 18, 19, 20] rfl rfl (by decide) (by decide) hk hF hP1 hD1
    exact ⟨hP2.sub [0, 1, 2, 20, 3, 4, 5, 6, 7, 8, 9, 10, 11, 12, 13, 17, 18, 19, 14, 15, 16] rfl, hD2.sub [0, 1, 2, 20, 3, 4, 5, 6, 7, 8, 9, 10, 11, 12, 13, 17, 18, 19, 14, 15, 16] (by decide) rfl⟩
  | 4, _ => 
    obtain ⟨hP2, hD2⟩ := va_join (wr := [(pz_ax a, .inr (2, [.ref (pz_ad a), .ref (pz_as a), .ref (pz_ab a), .ref (pz_ap a), .ref (pz_ay a)])), (pz_ad a, .inl (cD, 5, .inr (.inr (.inr (.inr (pz_df a)))))), (pz_as a, .inr (1, [.int (pz_b (pz_on su)), .int (pz_b (pz_pl su)), .int (pz_b (pz_pr su)), .int (nI (pz_cw su)), .int (nI (pz_cb su)), .int (pz_b (pz_fa su)), .int (nI (pz_wc su))])), (pz_ap a, .inl (cJ, 16, .inr (.inl pt))), (pz_ay a, .inl (cJ, 16, .inr (.inl py))), ((pz_da a 0).1, .inr (0, [.ref ((pz_da a 0).2.1), .ref ((pz_da a 0).2.2), .int (pz_o (pz_rb (dk 0))), .int (pz_b (pz_dd (dk 0))), .int (nI (pz_th (dk 0)))])), ((pz_da a 0).2.1, .inl (cJ, 2400, .inr (.inl (pz_R (dk 0))))), ((pz_da a 0).2.2, .inl (cJ, 16, .inr (.inl (pz_rc (dk 0))))), ((pz_da a 1).1, .inr (0, [.ref ((pz_da a 1).2.1), .ref ((pz_da a 1).2.2), .int (pz_o (pz_rb (dk 1))), .int (pz_b (pz_dd (dk 1))), .int (nI (pz_th (dk 1)))])), ((pz_da a 1).2.1, .inl (cJ, 2400, .inr (.inl (pz_R (dk 1))))), ((pz_da a 1).2.2, .inl (cJ, 16, .inr (.inl (pz_rc (dk 1))))), ((pz_da a 2).1, .inr (0, [.ref ((pz_da a 2).2.1), .ref ((pz_da a 2).2.2), .int (pz_o (pz_rb (dk 2))), .int (pz_b (pz_dd (dk 2))), .int (nI (pz_th (dk 2)))])), ((pz_da a 2).2.1, .inl (cJ, 2400, .inr (.inl (pz_R (dk 2))))), ((pz_da a 2).2.2, .inl (cJ, 16, .inr (.inl (pz_rc (dk 2))))), ((pz_da a 3).1, .inr (0, [.ref ((pz_da a 3).2.1), .ref ((pz_da a 3).2.2), .int (pz_o (pz_rb (dk 3))), .int (pz_b (pz_dd (dk 3))), .int (nI (pz_th (dk 3)))])), ((pz_da a 3).2.1, .inl (cJ, 2400, .inr (.inl (pz_R (dk 3))))), ((pz_da a 3).2.2, .inl (cJ, 16, .inr (.inl (pz_rc (dk 3)))))]) (w1 := pz_DR (pz_da a 4).1 (pz_da a 4).2.1 (pz_da a 4).2.2 cJ x' (pz_ab a) bl) hP hD [18, 19, 20, 3] [0, 1, 2, 4, 5, 6, 7, 8, 9, 10, 11, 12, 13, 14, 15, 16, 17] rfl rfl (by decide) (by decide) hk hF hP1 hD1
    exact ⟨hP2.sub [0, 1, 2, 20, 3, 4, 5, 6, 7, 8, 9, 10, 11, 12, 13, 14, 15, 16, 17, 18, 19] rfl, hD2.sub [0, 1, 2, 20, 3, 4, 5, 6, 7, 8, 9, 10, 11, 12, 13, 14, 15, 16, 17, 18, 19] (by decide) rfl⟩
  | d + 5, h => exact absurd h (by omega)
set_option maxHeartbeats 4000000 in
set_option maxRecDepth 100000 in
theorem pz_Xp_P {a : pz_Ad} {cJ cD : ClassId} {dk : Nat → pz_Dk} {su : pz_Su} {bl pt py : Nat → Int64} {D : va_G} {H : Heap} {d : Nat} (hd : d < 5) (hP : va_P D vwCl (pz_XW a cJ cD dk su bl pt py) H) : va_P D vwCl (pz_DR (pz_da a d).1 (pz_da a d).2.1 (pz_da a d).2.2 cJ (dk d) (pz_ap a) pt) H := by
  match d, hd with
  | 0, _ => exact hP.sub [6, 7, 8, 4] rfl
  | 1, _ => exact hP.sub [9, 10, 11, 4] rfl
  | 2, _ => exact hP.sub [12, 13, 14, 4] rfl
  | 3, _ => exact hP.sub [15, 16, 17, 4] rfl
  | 4, _ => exact hP.sub [18, 19, 20, 4] rfl
  | d + 5, h => exact absurd h (by omega)
set_option maxHeartbeats 4000000 in
set_option maxRecDepth 100000 in
theorem pz_Xp_D {a : pz_Ad} {cJ cD : ClassId} {dk : Nat → pz_Dk} {su : pz_Su} {bl pt py : Nat → Int64} {A : Nat → Prop} {d : Nat} (hd : d < 5) (hD : va_D A (pz_XW a cJ cD dk su bl pt py)) : va_D A (pz_DR (pz_da a d).1 (pz_da a d).2.1 (pz_da a d).2.2 cJ (dk d) (pz_ap a) pt) := by
  match d, hd with
  | 0, _ => exact hD.sub [6, 7, 8, 4] (by decide) rfl
  | 1, _ => exact hD.sub [9, 10, 11, 4] (by decide) rfl
  | 2, _ => exact hD.sub [12, 13, 14, 4] (by decide) rfl
  | 3, _ => exact hD.sub [15, 16, 17, 4] (by decide) rfl
  | 4, _ => exact hD.sub [18, 19, 20, 4] (by decide) rfl
  | d + 5, h => exact absurd h (by omega)
set_option maxHeartbeats 4000000 in
set_option maxRecDepth 100000 in
theorem pz_Xp_F {a : pz_Ad} {cJ cD : ClassId} {dk : Nat → pz_Dk} {su : pz_Su} {bl pt py : Nat → Int64} {H : Heap} {A : Nat → Prop} {d : Nat} {H0 : Heap} {locs : List Loc} (hd : d < 5) (hD : va_D A (pz_XW a cJ cD dk su bl pt py)) (hS : va_S A H0 H locs) (hA : ∀ q, H0.size ≤ q → A q) : ∀ q, va_A (pz_DR (pz_da a d).1 (pz_da a d).2.1 (pz_da a d).2.2 cJ (dk d) (pz_ap a) pt) H.size q → A q := by
  match d, hd with
  | 0, _ => exact va_free hD hS hA [6, 7, 8, 4] rfl
  | 1, _ => exact va_free hD hS hA [9, 10, 11, 4] rfl
  | 2, _ => exact va_free hD hS hA [12, 13, 14, 4] rfl
  | 3, _ => exact va_free hD hS hA [15, 16, 17, 4] rfl
  | 4, _ => exact va_free hD hS hA [18, 19, 20, 4] rfl
  | d + 5, h => exact absurd h (by omega)
set_option maxHeartbeats 4000000 in
set_option maxRecDepth 100000 in
theorem pz_Xp_J {a : pz_Ad} {cJ cD : ClassId} {dk : Nat → pz_Dk} {su : pz_Su} {bl pt py : Nat → Int64} {D : va_G} {H : Heap} {A : Nat → Prop} {d : Nat} {H1 : Heap} {x' : pz_Dk} (hd : d < 5) (hP : va_P D vwCl (pz_XW a cJ cD dk su bl pt py) H) (hD : va_D A (pz_XW a cJ cD dk su bl pt py)) (hk : ∀ q : Nat, q < H.size → ¬ va_A (pz_DR (pz_da a d).1 (pz_da a d).2.1 (pz_da a d).2.2 cJ (dk d) (pz_ap a) pt) H.size q → H1[q]? = H[q]?) (hF : ∀ q, va_A (pz_DR (pz_da a d).1 (pz_da a d).2.1 (pz_da a d).2.2 cJ (dk d) (pz_ap a) pt) H.size q → A q) (hP1 : va_P D vwCl (pz_DR (pz_da a d).1 (pz_da a d).2.1 (pz_da a d).2.2 cJ x' (pz_ap a) pt) H1) (hD1 : va_D (va_A (pz_DR (pz_da a d).1 (pz_da a d).2.1 (pz_da a d).2.2 cJ (dk d) (pz_ap a) pt) H.size) (pz_DR (pz_da a d).1 (pz_da a d).2.1 (pz_da a d).2.2 cJ x' (pz_ap a) pt)) : va_P D vwCl (pz_XW a cJ cD (va_up dk d x') su bl pt py) H1 ∧ va_D A (pz_XW a cJ cD (va_up dk d x') su bl pt py) := by
  match d, hd with
  | 0, _ => 
    obtain ⟨hP2, hD2⟩ := va_join (wr := [(pz_ax a, .inr (2, [.ref (pz_ad a), .ref (pz_as a), .ref (pz_ab a), .ref (pz_ap a), .ref (pz_ay a)])), (pz_ad a, .inl (cD, 5, .inr (.inr (.inr (.inr (pz_df a)))))), (pz_as a, .inr (1, [.int (pz_b (pz_on su)), .int (pz_b (pz_pl su)), .int (pz_b (pz_pr su)), .int (nI (pz_cw su)), .int (nI (pz_cb su)), .int (pz_b (pz_fa su)), .int (nI (pz_wc su))])), (pz_ab a, .inl (cJ, 16, .inr (.inl bl))), (pz_ay a, .inl (cJ, 16, .inr (.inl py))), ((pz_da a 1).1, .inr (0, [.ref ((pz_da a 1).2.1), .ref ((pz_da a 1).2.2), .int (pz_o (pz_rb (dk 1))), .int (pz_b (pz_dd (dk 1))), .int (nI (pz_th (dk 1)))])), ((pz_da a 1).2.1, .inl (cJ, 2400, .inr (.inl (pz_R (dk 1))))), ((pz_da a 1).2.2, .inl (cJ, 16, .inr (.inl (pz_rc (dk 1))))), ((pz_da a 2).1, .inr (0, [.ref ((pz_da a 2).2.1), .ref ((pz_da a 2).2.2), .int (pz_o (pz_rb (dk 2))), .int (pz_b (pz_dd (dk 2))), .int (nI (pz_th (dk 2)))])), ((pz_da a 2).2.1, .inl (cJ, 2400, .inr (.inl (pz_R (dk 2))))), ((pz_da a 2).2.2, .inl (cJ, 16, .inr (.inl (pz_rc (dk 2))))), ((pz_da a 3).1, .inr (0, [.ref ((pz_da a 3).2.1), .ref ((pz_da a 3).2.2), .int (pz_o (pz_rb (dk 3))), .int (pz_b (pz_dd (dk 3))), .int (nI (pz_th (dk 3)))])), ((pz_da a 3).2.1, .inl (cJ, 2400, .inr (.inl (pz_R (dk 3))))), ((pz_da a 3).2.2, .inl (cJ, 16, .inr (.inl (pz_rc (dk 3))))), ((pz_da a 4).1, .inr (0, [.ref ((pz_da a 4).2.1), .ref ((pz_da a 4).2.2), .int (pz_o (pz_rb (dk 4))), .int (pz_b (pz_dd (dk 4))), .int (nI (pz_th (dk 4)))])), ((pz_da a 4).2.1, .inl (cJ, 2400, .inr (.inl (pz_R (dk 4))))), ((pz_da a 4).2.2, .inl (cJ, 16, .inr (.inl (pz_rc (dk 4)))))]) (w1 := pz_DR (pz_da a 0).1 (pz_da a 0).2.1 (pz_da a 0).2.2 cJ x' (pz_ap a) pt) hP hD [6, 7, 8, 4] [0, 1, 2, 3, 5, 9, 10, 11, 12, 13, 14, 15, 16, 17, 18, 19, 20] rfl rfl (by decide) (by decide) hk hF hP1 hD1
    exact ⟨hP2.sub [0, 1, 2, 3, 20, 4, 17, 18, 19, 5, 6, 7, 8, 9, 10, 11, 12, 13, 14, 15, 16] rfl, hD2.sub [0, 1, 2, 3, 20, 4, 17, 18, 19, 5, 6, 7, 8, 9, 10, 11, 12, 13, 14, 15, 16] (by decide) rfl⟩
  | 1, _ => 
    obtain ⟨hP2, hD2⟩ := va_join (wr := [(pz_ax a, .inr (2, [.ref (pz_ad a), .ref (pz_as a), .ref (pz_ab a), .ref (pz_ap a), .ref (pz_ay a)])), (pz_ad a, .inl (cD, 5, .inr (.inr (.inr (.inr (pz_df a)))))), (pz_as a, .inr (1, [.int (pz_b (pz_on su)), .int (pz_b (pz_pl su)), .int (pz_b (pz_pr su)), .int (nI (pz_cw su)), .int (nI (pz_cb su)), .int (pz_b (pz_fa su)), .int (nI (pz_wc su))])), (pz_ab a, .inl (cJ, 16, .inr (.inl bl))), (pz_ay a, .inl (cJ, 16, .inr (.inl py))), ((pz_da a 0).1, .inr (0, [.ref ((pz_da a 0).2.1), .ref ((pz_da a 0).2.2), .int (pz_o (pz_rb (dk 0))), .int (pz_b (pz_dd (dk 0))), .int (nI (pz_th (dk 0)))])), ((pz_da a 0).2.1, .inl (cJ, 2400, .inr (.inl (pz_R (dk 0))))), ((pz_da a 0).2.2, .inl (cJ, 16, .inr (.inl (pz_rc (dk 0))))), ((pz_da a 2).1, .inr (0, [.ref ((pz_da a 2).2.1), .ref ((pz_da a 2).2.2), .int (pz_o (pz_rb (dk 2))), .int (pz_b (pz_dd (dk 2))), .int (nI (pz_th (dk 2)))])), ((pz_da a 2).2.1, .inl (cJ, 2400, .inr (.inl (pz_R (dk 2))))), ((pz_da a 2).2.2, .inl (cJ, 16, .inr (.inl (pz_rc (dk 2))))), ((pz_da a 3).1, .inr (0, [.ref ((pz_da a 3).2.1), .ref ((pz_da a 3).2.2), .int (pz_o (pz_rb (dk 3))), .int (pz_b (pz_dd (dk 3))), .int (nI (pz_th (dk 3)))])), ((pz_da a 3).2.1, .inl (cJ, 2400, .inr (.inl (pz_R (dk 3))))), ((pz_da a 3).2.2, .inl (cJ, 16, .inr (.inl (pz_rc (dk 3))))), ((pz_da a 4).1, .inr (0, [.ref ((pz_da a 4).2.1), .ref ((pz_da a 4).2.2), .int (pz_o (pz_rb (dk 4))), .int (pz_b (pz_dd (dk 4))), .int (nI (pz_th (dk 4)))])), ((pz_da a 4).2.1, .inl (cJ, 2400, .inr (.inl (pz_R (dk 4))))), ((pz_da a 4).2.2, .inl (cJ, 16, .inr (.inl (pz_rc (dk 4)))))]) (w1 := pz_DR (pz_da a 1).1 (pz_da a 1).2.1 (pz_da a 1).2.2 cJ x' (pz_ap a) pt) hP hD [9, 10, 11, 4] [0, 1, 2, 3, 5, 6, 7, 8, 12, 13, 14, 15, 16, 17, 18, 19, 20] rfl rfl (by decide) (by decide) hk hF hP1 hD1
    exact ⟨hP2.sub [0, 1, 2, 3, 20, 4, 5, 6, 7, 17, 18, 19, 8, 9, 10, 11, 12, 13, 14, 15, 16] rfl, hD2.sub [0, 1, 2, 3, 20, 4, 5, 6, 7, 17, 18, 19, 8, 9, 10, 11, 12, 13, 14, 15, 16] (by decide) rfl⟩
  | 2, _ => 
    obtain ⟨hP2, hD2⟩ := va_join (wr := [(pz_ax a, .inr (2, [.ref (pz_ad a), .ref (pz_as a), .ref (pz_ab a), .ref (pz_ap a), .ref (pz_ay a)])), (pz_ad a, .inl (cD, 5, .inr (.inr (.inr (.inr (pz_df a)))))), (pz_as a, .inr (1, [.int (pz_b (pz_on su)), .int (pz_b (pz_pl su)), .int (pz_b (pz_pr su)), .int (nI (pz_cw su)), .int (nI (pz_cb su)), .int (pz_b (pz_fa su)), .int (nI (pz_wc su))])), (pz_ab a, .inl (cJ, 16, .inr (.inl bl))), (pz_ay a, .inl (cJ, 16, .inr (.inl py))), ((pz_da a 0).1, .inr (0, [.ref ((pz_da a 0).2.1), .ref ((pz_da a 0).2.2), .int (pz_o (pz_rb (dk 0))), .int (pz_b (pz_dd (dk 0))), .int (nI (pz_th (dk 0)))])), ((pz_da a 0).2.1, .inl (cJ, 2400, .inr (.inl (pz_R (dk 0))))), ((pz_da a 0).2.2, .inl (cJ, 16, .inr (.inl (pz_rc (dk 0))))), ((pz_da a 1).1, .inr (0, [.ref ((pz_da a 1).2.1), .ref ((pz_da a 1).2.2), .int (pz_o (pz_rb (dk 1))), .int (pz_b (pz_dd (dk 1))), .int (nI (pz_th (dk 1)))])), ((pz_da a 1).2.1, .inl (cJ, 2400, .inr (.inl (pz_R (dk 1))))), ((pz_da a 1).2.2, .inl (cJ, 16, .inr (.inl (pz_rc (dk 1))))), ((pz_da a 3).1, .inr (0, [.ref ((pz_da a 3).2.1), .ref ((pz_da a 3).2.2), .int (pz_o (pz_rb (dk 3))), .int (pz_b (pz_dd (dk 3))), .int (nI (pz_th (dk 3)))])), ((pz_da a 3).2.1, .inl (cJ, 2400, .inr (.inl (pz_R (dk 3))))), ((pz_da a 3).2.2, .inl (cJ, 16, .inr (.inl (pz_rc (dk 3))))), ((pz_da a 4).1, .inr (0, [.ref ((pz_da a 4).2.1), .ref ((pz_da a 4).2.2), .int (pz_o (pz_rb (dk 4))), .int (pz_b (pz_dd (dk 4))), .int (nI (pz_th (dk 4)))])), ((pz_da a 4).2.1, .inl (cJ, 2400, .inr (.inl (pz_R (dk 4))))), ((pz_da a 4).2.2, .inl (cJ, 16, .inr (.inl (pz_rc (dk 4)))))]) (w1 := pz_DR (pz_da a 2).1 (pz_da a 2).2.1 (pz_da a 2).2.2 cJ x' (pz_ap a) pt) hP hD [12, 13, 14, 4] [0, 1, 2, 3, 5, 6, 7, 8, 9, 10, 11, 15, 16, 17, 18, 19, 20] rfl rfl (by decide) (by decide) hk hF hP1 hD1
    exact ⟨hP2.sub [0, 1, 2, 3, 20, 4, 5, 6, 7, 8, 9, 10, 17, 18, 19, 11, 12, 13, 14, 15, 16] rfl, hD2.sub [0, 1, 2, 3, 20, 4, 5, 6, 7, 8, 9, 10, 17, 18, 19, 11, 12, 13, 14, 15, 16] (by decide) rfl⟩
  | 3, _ => 
    obtain ⟨hP2, hD2⟩ := va_join (wr := [(pz_ax a, .inr (2, [.ref (pz_ad a), .ref (pz_as a), .ref (pz_ab a), .ref (pz_ap a), .ref (pz_ay a)])), (pz_ad a, .inl (cD, 5, .inr (.inr (.inr (.inr (pz_df a)))))), (pz_as a, .inr (1, [.int (pz_b (pz_on su)), .int (pz_b (pz_pl su)), .int (pz_b (pz_pr su)), .int (nI (pz_cw su)), .int (nI (pz_cb su)), .int (pz_b (pz_fa su)), .int (nI (pz_wc su))])), (pz_ab a, .inl (cJ, 16, .inr (.inl bl))), (pz_ay a, .inl (cJ, 16, .inr (.inl py))), ((pz_da a 0).1, .inr (0, [.ref ((pz_da a 0).2.1), .ref ((pz_da a 0).2.2), .int (pz_o (pz_rb (dk 0))), .int (pz_b (pz_dd (dk 0))), .int (nI (pz_th (dk 0)))])), ((pz_da a 0).2.1, .inl (cJ, 2400, .inr (.inl (pz_R (dk 0))))), ((pz_da a 0).2.2, .inl (cJ, 16, .inr (.inl (pz_rc (dk 0))))), ((pz_da a 1).1, .inr (0, [.ref ((pz_da a 1).2.1), .ref ((pz_da a 1).2.2), .int (pz_o (pz_rb (dk 1))), .int (pz_b (pz_dd (dk 1))), .int (nI (pz_th (dk 1)))])), ((pz_da a 1).2.1, .inl (cJ, 2400, .inr (.inl (pz_R (dk 1))))), ((pz_da a 1).2.2, .inl (cJ, 16, .inr (.inl (pz_rc (dk 1))))), ((pz_da a 2).1, .inr (0, [.ref ((pz_da a 2).2.1), .ref ((pz_da a 2).2.2), .int (pz_o (pz_rb (dk 2))), .int (pz_b (pz_dd (dk 2))), .int (nI (pz_th (dk 2)))])), ((pz_da a 2).2.1, .inl (cJ, 2400, .inr (.inl (pz_R (dk 2))))), ((pz_da a 2).2.2, .inl (cJ, 16, .inr (.inl (pz_rc (dk 2))))), ((pz_da a 4).1, .inr (0, [.ref ((pz_da a 4).2.1), .ref ((pz_da a 4).2.2), .int (pz_o (pz_rb (dk 4))), .int (pz_b (pz_dd (dk 4))), .int (nI (pz_th (dk 4)))])), ((pz_da a 4).2.1, .inl (cJ, 2400, .inr (.inl (pz_R (dk 4))))), ((pz_da a 4).2.2, .inl (cJ, 16, .inr (.inl (pz_rc (dk 4)))))]) (w1 := pz_DR (pz_da a 3).1 (pz_da a 3).2.1 (pz_da a 3).2.2 cJ x' (pz_ap a) pt) hP hD [15, 16, 17, 4] [0, 1, 2, 3, 5, 6, 7, 8, 9, 10, 11, 12, 13, 14, 18, 19, 20] rfl rfl (by decide) (by decide) hk hF hP1 hD1
    exact ⟨hP2.sub [0, 1, 2, 3, 20, 4, 5, 6, 7, 8, 9, 10, 11, 12, 13, 17, 18, 19, 14, 15, 16] rfl, hD2.sub [0, 1, 2, 3, 20, 4, 5, 6, 7, 8, 9, 10, 11, 12, 13, 17, 18, 19, 14, 15, 16] (by decide) rfl⟩
  | 4, _ => 
    obtain ⟨hP2, hD2⟩ := va_join (wr := [(pz_ax a, .inr (2, [.ref (pz_ad a), .ref (pz_as a), .ref (pz_ab a), .ref (pz_ap a), .ref (pz_ay a)])), (pz_ad a, .inl (cD, 5, .inr (.inr (.inr (.inr (pz_df a)))))), (pz_as a, .inr (1, [.int (pz_b (pz_on su)), .int (pz_b (pz_pl su)), .int (pz_b (pz_pr su)), .int (nI (pz_cw su)), .int (nI (pz_cb su)), .int (pz_b (pz_fa su)), .int (nI (pz_wc su))])), (pz_ab a, .inl (cJ, 16, .inr (.inl bl))), (pz_ay a, .inl (cJ, 16, .inr (.inl py))), ((pz_da a 0).1, .inr (0, [.ref ((pz_da a 0).2.1), .ref ((pz_da a 0).2.2), .int (pz_o (pz_rb (dk 0))), .int (pz_b (pz_dd (dk 0))), .int (nI (pz_th (dk 0)))])), ((pz_da a 0).2.1, .inl (cJ, 2400, .inr (.inl (pz_R (dk 0))))), ((pz_da a 0).2.2, .inl (cJ, 16, .inr (.inl (pz_rc (dk 0))))), ((pz_da a 1).1, .inr (0, [.ref ((pz_da a 1).2.1), .ref ((pz_da a 1).2.2), .int (pz_o (pz_rb (dk 1))), .int (pz_b (pz_dd (dk 1))), .int (nI (pz_th (dk 1)))])), ((pz_da a 1).2.1, .inl (cJ, 2400, .inr (.inl (pz_R (dk 1))))), ((pz_da a 1).2.2, .inl (cJ, 16, .inr (.inl (pz_rc (dk 1))))), ((pz_da a 2).1, .inr (0, [.ref ((pz_da a 2).2.1), .ref ((pz_da a 2).2.2), .int (pz_o (pz_rb (dk 2))), .int (pz_b (pz_dd (dk 2))), .int (nI (pz_th (dk 2)))])), ((pz_da a 2).2.1, .inl (cJ, 2400, .inr (.inl (pz_R (dk 2))))), ((pz_da a 2).2.2, .inl (cJ, 16, .inr (.inl (pz_rc (dk 2))))), ((pz_da a 3).1, .inr (0, [.ref ((pz_da a 3).2.1), .ref ((pz_da a 3).2.2), .int (pz_o (pz_rb (dk 3))), .int (pz_b (pz_dd (dk 3))), .int (nI (pz_th (dk 3)))])), ((pz_da a 3).2.1, .inl (cJ, 2400, .inr (.inl (pz_R (dk 3))))), ((pz_da a 3).2.2, .inl (cJ, 16, .inr (.inl (pz_rc (dk 3)))))]) (w1 := pz_DR (pz_da a 4).1 (pz_da a 4).2.1 (pz_da a 4).2.2 cJ x' (pz_ap a) pt) hP hD [18, 19, 20, 4] [0, 1, 2, 3, 5, 6, 7, 8, 9, 10, 11, 12, 13, 14, 15, 16, 17] rfl rfl (by decide) (by decide) hk hF hP1 hD1
    exact ⟨hP2.sub [0, 1, 2, 3, 20, 4, 5, 6, 7, 8, 9, 10, 11, 12, 13, 14, 15, 16, 17, 18, 19] rfl, hD2.sub [0, 1, 2, 3, 20, 4, 5, 6, 7, 8, 9, 10, 11, 12, 13, 14, 15, 16, 17, 18, 19] (by decide) rfl⟩
  | d + 5, h => exact absurd h (by omega)
set_option maxHeartbeats 4000000 in
set_option maxRecDepth 100000 in
theorem pz_Xy_P {a : pz_Ad} {cJ cD : ClassId} {dk : Nat → pz_Dk} {su : pz_Su} {bl pt py : Nat → Int64} {D : va_G} {H : Heap} {d : Nat} (hd : d < 5) (hP : va_P D vwCl (pz_XW a cJ cD dk su bl pt py) H) : va_P D vwCl (pz_DR (pz_da a d).1 (pz_da a d).2.1 (pz_da a d).2.2 cJ (dk d) (pz_ay a) py) H := by
  match d, hd with
  | 0, _ => exact hP.sub [6, 7, 8, 5] rfl
  | 1, _ => exact hP.sub [9, 10, 11, 5] rfl
  | 2, _ => exact hP.sub [12, 13, 14, 5] rfl
  | 3, _ => exact hP.sub [15, 16, 17, 5] rfl
  | 4, _ => exact hP.sub [18, 19, 20, 5] rfl
  | d + 5, h => exact absurd h (by omega)
set_option maxHeartbeats 4000000 in
set_option maxRecDepth 100000 in
theorem pz_Xy_D {a : pz_Ad} {cJ cD : ClassId} {dk : Nat → pz_Dk} {su : pz_Su} {bl pt py : Nat → Int64} {A : Nat → Prop} {d : Nat} (hd : d < 5) (hD : va_D A (pz_XW a cJ cD dk su bl pt py)) : va_D A (pz_DR (pz_da a d).1 (pz_da a d).2.1 (pz_da a d).2.2 cJ (dk d) (pz_ay a) py) := by
  match d, hd with
  | 0, _ => exact hD.sub [6, 7, 8, 5] (by decide) rfl
  | 1, _ => exact hD.sub [9, 10, 11, 5] (by decide) rfl
  | 2, _ => exact hD.sub [12, 13, 14, 5] (by decide) rfl
  | 3, _ => exact hD.sub [15, 16, 17, 5] (by decide) rfl
  | 4, _ => exact hD.sub [18, 19, 20, 5] (by decide) rfl
  | d + 5, h => exact absurd h (by omega)
set_option maxHeartbeats 4000000 in
set_option maxRecDepth 100000 in
theorem pz_Xy_F {a : pz_Ad} {cJ cD : ClassId} {dk : Nat → pz_Dk} {su : pz_Su} {bl pt py : Nat → Int64} {H : Heap} {A : Nat → Prop} {d : Nat} {H0 : Heap} {locs : List Loc} (hd : d < 5) (hD : va_D A (pz_XW a cJ cD dk su bl pt py)) (hS : va_S A H0 H locs) (hA : ∀ q, H0.size ≤ q → A q) : ∀ q, va_A (pz_DR (pz_da a d).1 (pz_da a d).2.1 (pz_da a d).2.2 cJ (dk d) (pz_ay a) py) H.size q → A q := by
  match d, hd with
  | 0, _ => exact va_free hD hS hA [6, 7, 8, 5] rfl
  | 1, _ => exact va_free hD hS hA [9, 10, 11, 5] rfl
  | 2, _ => exact va_free hD hS hA [12, 13, 14, 5] rfl
  | 3, _ => exact va_free hD hS hA [15, 16, 17, 5] rfl
  | 4, _ => exact va_free hD hS hA [18, 19, 20, 5] rfl
  | d + 5, h => exact absurd h (by omega)
set_option maxHeartbeats 4000000 in
set_option maxRecDepth 100000 in
theorem pz_Xy_J {a : pz_Ad} {cJ cD : ClassId} {dk : Nat → pz_Dk} {su : pz_Su} {bl pt py : Nat → Int64} {D : va_G} {H : Heap} {A : Nat → Prop} {d : Nat} {H1 : Heap} {x' : pz_Dk} (hd : d < 5) (hP : va_P D vwCl (pz_XW a cJ cD dk su bl pt py) H) (hD : va_D A (pz_XW a cJ cD dk su bl pt py)) (hk : ∀ q : Nat, q < H.size → ¬ va_A (pz_DR (pz_da a d).1 (pz_da a d).2.1 (pz_da a d).2.2 cJ (dk d) (pz_ay a) py) H.size q → H1[q]? = H[q]?) (hF : ∀ q, va_A (pz_DR (pz_da a d).1 (pz_da a d).2.1 (pz_da a d).2.2 cJ (dk d) (pz_ay a) py) H.size q → A q) (hP1 : va_P D vwCl (pz_DR (pz_da a d).1 (pz_da a d).2.1 (pz_da a d).2.2 cJ x' (pz_ay a) py) H1) (hD1 : va_D (va_A (pz_DR (pz_da a d).1 (pz_da a d).2.1 (pz_da a d).2.2 cJ (dk d) (pz_ay a) py) H.size) (pz_DR (pz_da a d).1 (pz_da a d).2.1 (pz_da a d).2.2 cJ x' (pz_ay a) py)) : va_P D vwCl (pz_XW a cJ cD (va_up dk d x') su bl pt py) H1 ∧ va_D A (pz_XW a cJ cD (va_up dk d x') su bl pt py) := by
  match d, hd with
  | 0, _ => 
    obtain ⟨hP2, hD2⟩ := va_join (wr := [(pz_ax a, .inr (2, [.ref (pz_ad a), .ref (pz_as a), .ref (pz_ab a), .ref (pz_ap a), .ref (pz_ay a)])), (pz_ad a, .inl (cD, 5, .inr (.inr (.inr (.inr (pz_df a)))))), (pz_as a, .inr (1, [.int (pz_b (pz_on su)), .int (pz_b (pz_pl su)), .int (pz_b (pz_pr su)), .int (nI (pz_cw su)), .int (nI (pz_cb su)), .int (pz_b (pz_fa su)), .int (nI (pz_wc su))])), (pz_ab a, .inl (cJ, 16, .inr (.inl bl))), (pz_ap a, .inl (cJ, 16, .inr (.inl pt))), ((pz_da a 1).1, .inr (0, [.ref ((pz_da a 1).2.1), .ref ((pz_da a 1).2.2), .int (pz_o (pz_rb (dk 1))), .int (pz_b (pz_dd (dk 1))), .int (nI (pz_th (dk 1)))])), ((pz_da a 1).2.1, .inl (cJ, 2400, .inr (.inl (pz_R (dk 1))))), ((pz_da a 1).2.2, .inl (cJ, 16, .inr (.inl (pz_rc (dk 1))))), ((pz_da a 2).1, .inr (0, [.ref ((pz_da a 2).2.1), .ref ((pz_da a 2).2.2), .int (pz_o (pz_rb (dk 2))), .int (pz_b (pz_dd (dk 2))), .int (nI (pz_th (dk 2)))])), ((pz_da a 2).2.1, .inl (cJ, 2400, .inr (.inl (pz_R (dk 2))))), ((pz_da a 2).2.2, .inl (cJ, 16, .inr (.inl (pz_rc (dk 2))))), ((pz_da a 3).1, .inr (0, [.ref ((pz_da a 3).2.1), .ref ((pz_da a 3).2.2), .int (pz_o (pz_rb (dk 3))), .int (pz_b (pz_dd (dk 3))), .int (nI (pz_th (dk 3)))])), ((pz_da a 3).2.1, .inl (cJ, 2400, .inr (.inl (pz_R (dk 3))))), ((pz_da a 3).2.2, .inl (cJ, 16, .inr (.inl (pz_rc (dk 3))))), ((pz_da a 4).1, .inr (0, [.ref ((pz_da a 4).2.1), .ref ((pz_da a 4).2.2), .int (pz_o (pz_rb (dk 4))), .int (pz_b (pz_dd (dk 4))), .int (nI (pz_th (dk 4)))])), ((pz_da a 4).2.1, .inl (cJ, 2400, .inr (.inl (pz_R (dk 4))))), ((pz_da a 4).2.2, .inl (cJ, 16, .inr (.inl (pz_rc (dk 4)))))]) (w1 := pz_DR (pz_da a 0).1 (pz_da a 0).2.1 (pz_da a 0).2.2 cJ x' (pz_ay a) py) hP hD [6, 7, 8, 5] [0, 1, 2, 3, 4, 9, 10, 11, 12, 13, 14, 15, 16, 17, 18, 19, 20] rfl rfl (by decide) (by decide) hk hF hP1 hD1
    exact ⟨hP2.sub [0, 1, 2, 3, 4, 20, 17, 18, 19, 5, 6, 7, 8, 9, 10, 11, 12, 13, 14, 15, 16] rfl, hD2.sub [0, 1, 2, 3, 4, 20, 17, 18, 19, 5, 6, 7, 8, 9, 10, 11, 12, 13, 14, 15, 16] (by decide) rfl⟩
  | 1, _ => 
    obtain ⟨hP2, hD2⟩ := va_join (wr := [(pz_ax a, .inr (2, [.ref (pz_ad a), .ref (pz_as a), .ref (pz_ab a), .ref (pz_ap a), .ref (pz_ay a)])), (pz_ad a, .inl (cD, 5, .inr (.inr (.inr (.inr (pz_df a)))))), (pz_as a, .inr (1, [.int (pz_b (pz_on su)), .int (pz_b (pz_pl su)), .int (pz_b (pz_pr su)), .int (nI (pz_cw su)), .int (nI (pz_cb su)), .int (pz_b (pz_fa su)), .int (nI (pz_wc su))])), (pz_ab a, .inl (cJ, 16, .inr (.inl bl))), (pz_ap a, .inl (cJ, 16, .inr (.inl pt))), ((pz_da a 0).1, .inr (0, [.ref ((pz_da a 0).2.1), .ref ((pz_da a 0).2.2), .int (pz_o (pz_rb (dk 0))), .int (pz_b (pz_dd (dk 0))), .int (nI (pz_th (dk 0)))])), ((pz_da a 0).2.1, .inl (cJ, 2400, .inr (.inl (pz_R (dk 0))))), ((pz_da a 0).2.2, .inl (cJ, 16, .inr (.inl (pz_rc (dk 0))))), ((pz_da a 2).1, .inr (0, [.ref ((pz_da a 2).2.1), .ref ((pz_da a 2).2.2), .int (pz_o (pz_rb (dk 2))), .int (pz_b (pz_dd (dk 2))), .int (nI (pz_th (dk 2)))])), ((pz_da a 2).2.1, .inl (cJ, 2400, .inr (.inl (pz_R (dk 2))))), ((pz_da a 2).2.2, .inl (cJ, 16, .inr (.inl (pz_rc (dk 2))))), ((pz_da a 3).1, .inr (0, [.ref ((pz_da a 3).2.1), .ref ((pz_da a 3).2.2), .int (pz_o (pz_rb (dk 3))), .int (pz_b (pz_dd (dk 3))), .int (nI (pz_th (dk 3)))])), ((pz_da a 3).2.1, .inl (cJ, 2400, .inr (.inl (pz_R (dk 3))))), ((pz_da a 3).2.2, .inl (cJ, 16, .inr (.inl (pz_rc (dk 3))))), ((pz_da a 4).1, .inr (0, [.ref ((pz_da a 4).2.1), .ref ((pz_da a 4).2.2), .int (pz_o (pz_rb (dk 4))), .int (pz_b (pz_dd (dk 4))), .int (nI (pz_th (dk 4)))])), ((pz_da a 4).2.1, .inl (cJ, 2400, .inr (.inl (pz_R (dk 4))))), ((pz_da a 4).2.2, .inl (cJ, 16, .inr (.inl (pz_rc (dk 4)))))]) (w1 := pz_DR (pz_da a 1).1 (pz_da a 1).2.1 (pz_da a 1).2.2 cJ x' (pz_ay a) py) hP hD [9, 10, 11, 5] [0, 1, 2, 3, 4, 6, 7, 8, 12, 13, 14, 15, 16, 17, 18, 19, 20] rfl rfl (by decide) (by decide) hk hF hP1 hD1
    exact ⟨hP2.sub [0, 1, 2, 3, 4, 20, 5, 6, 7, 17, 18, 19, 8, 9, 10, 11, 12, 13, 14, 15, 16] rfl, hD2.sub [0, 1, 2, 3, 4, 20, 5, 6, 7, 17, 18, 19, 8, 9, 10, 11, 12, 13, 14, 15, 16] (by decide) rfl⟩
  | 2, _ => 
    obtain ⟨hP2, hD2⟩ := va_join (wr := [(pz_ax a, .inr (2, [.ref (pz_ad a), .ref (pz_as a), .ref (pz_ab a), .ref (pz_ap a), .ref (pz_ay a)])), (pz_ad a, .inl (cD, 5, .inr (.inr (.inr (.inr (pz_df a)))))), (pz_as a, .inr (1, [.int (pz_b (pz_on su)), .int (pz_b (pz_pl su)), .int (pz_b (pz_pr su)), .int (nI (pz_cw su)), .int (nI (pz_cb su)), .int (pz_b (pz_fa su)), .int (nI (pz_wc su))])), (pz_ab a, .inl (cJ, 16, .inr (.inl bl))), (pz_ap a, .inl (cJ, 16, .inr (.inl pt))), ((pz_da a 0).1, .inr (0, [.ref ((pz_da a 0).2.1), .ref ((pz_da a 0).2.2), .int (pz_o (pz_rb (dk 0))), .int (pz_b (pz_dd (dk 0))), .int (nI (pz_th (dk 0)))])), ((pz_da a 0).2.1, .inl (cJ, 2400, .inr (.inl (pz_R (dk 0))))), ((pz_da a 0).2.2, .inl (cJ, 16, .inr (.inl (pz_rc (dk 0))))), ((pz_da a 1).1, .inr (0, [.ref ((pz_da a 1).2.1), .ref ((pz_da a 1).2.2), .int (pz_o (pz_rb (dk 1))), .int (pz_b (pz_dd (dk 1))), .int (nI (pz_th (dk 1)))])), ((pz_da a 1).2.1, .inl (cJ, 2400, .inr (.inl (pz_R (dk 1))))), ((pz_da a 1).2.2, .inl (cJ, 16, .inr (.inl (pz_rc (dk 1))))), ((pz_da a 3).1, .inr (0, [.ref ((pz_da a 3).2.1), .ref ((pz_da a 3).2.2), .int (pz_o (pz_rb (dk 3))), .int (pz_b (pz_dd (dk 3))), .int (nI (pz_th (dk 3)))])), ((pz_da a 3).2.1, .inl (cJ, 2400, .inr (.inl (pz_R (dk 3))))), ((pz_da a 3).2.2, .inl (cJ, 16, .inr (.inl (pz_rc (dk 3))))), ((pz_da a 4).1, .inr (0, [.ref ((pz_da a 4).2.1), .ref ((pz_da a 4).2.2), .int (pz_o (pz_rb (dk 4))), .int (pz_b (pz_dd (dk 4))), .int (nI (pz_th (dk 4)))])), ((pz_da a 4).2.1, .inl (cJ, 2400, .inr (.inl (pz_R (dk 4))))), ((pz_da a 4).2.2, .inl (cJ, 16, .inr (.inl (pz_rc (dk 4)))))]) (w1 := pz_DR (pz_da a 2).1 (pz_da a 2).2.1 (pz_da a 2).2.2 cJ x' (pz_ay a) py) hP hD [12, 13, 14, 5] [0, 1, 2, 3, 4, 6, 7, 8, 9, 10, 11, 15, 16, 17, 18, 19, 20] rfl rfl (by decide) (by decide) hk hF hP1 hD1
    exact ⟨hP2.sub [0, 1, 2, 3, 4, 20, 5, 6, 7, 8, 9, 10, 17, 18, 19, 11, 12, 13, 14, 15, 16] rfl, hD2.sub [0, 1, 2, 3, 4, 20, 5, 6, 7, 8, 9, 10, 17, 18, 19, 11, 12, 13, 14, 15, 16] (by decide) rfl⟩
  | 3, _ => 
    obtain ⟨hP2, hD2⟩ := va_join (wr := [(pz_ax a, .inr (2, [.ref (pz_ad a), .ref (pz_as a), .ref (pz_ab a), .ref (pz_ap a), .ref (pz_ay a)])), (pz_ad a, .inl (cD, 5, .inr (.inr (.inr (.inr (pz_df a)))))), (pz_as a, .inr (1, [.int (pz_b (pz_on su)), .int (pz_b (pz_pl su)), .int (pz_b (pz_pr su)), .int (nI (pz_cw su)), .int (nI (pz_cb su)), .int (pz_b (pz_fa su)), .int (nI (pz_wc su))])), (pz_ab a, .inl (cJ, 16, .inr (.inl bl))), (pz_ap a, .inl (cJ, 16, .inr (.inl pt))), ((pz_da a 0).1, .inr (0, [.ref ((pz_da a 0).2.1), .ref ((pz_da a 0).2.2), .int (pz_o (pz_rb (dk 0))), .int (pz_b (pz_dd (dk 0))), .int (nI (pz_th (dk 0)))])), ((pz_da a 0).2.1, .inl (cJ, 2400, .inr (.inl (pz_R (dk 0))))), ((pz_da a 0).2.2, .inl (cJ, 16, .inr (.inl (pz_rc (dk 0))))), ((pz_da a 1).1, .inr (0, [.ref ((pz_da a 1).2.1), .ref ((pz_da a 1).2.2), .int (pz_o (pz_rb (dk 1))), .int (pz_b (pz_dd (dk 1))), .int (nI (pz_th (dk 1)))])), ((pz_da a 1).2.1, .inl (cJ, 2400, .inr (.inl (pz_R (dk 1))))), ((pz_da a 1).2.2, .inl (cJ, 16, .inr (.inl (pz_rc (dk 1))))), ((pz_da a 2).1, .inr (0, [.ref ((pz_da a 2).2.1), .ref ((pz_da a 2).2.2), .int (pz_o (pz_rb (dk 2))), .int (pz_b (pz_dd (dk 2))), .int (nI (pz_th (dk 2)))])), ((pz_da a 2).2.1, .inl (cJ, 2400, .inr (.inl (pz_R (dk 2))))), ((pz_da a 2).2.2, .inl (cJ, 16, .inr (.inl (pz_rc (dk 2))))), ((pz_da a 4).1, .inr (0, [.ref ((pz_da a 4).2.1), .ref ((pz_da a 4).2.2), .int (pz_o (pz_rb (dk 4))), .int (pz_b (pz_dd (dk 4))), .int (nI (pz_th (dk 4)))])), ((pz_da a 4).2.1, .inl (cJ, 2400, .inr (.inl (pz_R (dk 4))))), ((pz_da a 4).2.2, .inl (cJ, 16, .inr (.inl (pz_rc (dk 4)))))]) (w1 := pz_DR (pz_da a 3).1 (pz_da a 3).2.1 (pz_da a 3).2.2 cJ x' (pz_ay a) py) hP hD [15, 16, 17, 5] [0, 1, 2, 3, 4, 6, 7, 8, 9, 10, 11, 12, 13, 14, 18, 19, 20] rfl rfl (by decide) (by decide) hk hF hP1 hD1
    exact ⟨hP2.sub [0, 1, 2, 3, 4, 20, 5, 6, 7, 8, 9, 10, 11, 12, 13, 17, 18, 19, 14, 15, 16] rfl, hD2.sub [0, 1, 2, 3, 4, 20, 5, 6, 7, 8, 9, 10, 11, 12, 13, 17, 18, 19, 14, 15, 16] (by decide) rfl⟩
  | 4, _ => 
    obtain ⟨hP2, hD2⟩ := va_join (wr := [(pz_ax a, .inr (2, [.ref (pz_ad a), .ref (pz_as a), .ref (pz_ab a), .ref (pz_ap a), .ref (pz_ay a)])), (pz_ad a, .inl (cD, 5, .inr (.inr (.inr (.inr (pz_df a)))))), (pz_as a, .inr (1, [.int (pz_b (pz_on su)), .int (pz_b (pz_pl su)), .int (pz_b (pz_pr su)), .int (nI (pz_cw su)), .int (nI (pz_cb su)), .int (pz_b (pz_fa su)), .int (nI (pz_wc su))])), (pz_ab a, .inl (cJ, 16, .inr (.inl bl))), (pz_ap a, .inl (cJ, 16, .inr (.inl pt))), ((pz_da a 0).1, .inr (0, [.ref ((pz_da a 0).2.1), .ref ((pz_da a 0).2.2), .int (pz_o (pz_rb (dk 0))), .int (pz_b (pz_dd (dk 0))), .int (nI (pz_th (dk 0)))])), ((pz_da a 0).2.1, .inl (cJ, 2400, .inr (.inl (pz_R (dk 0))))), ((pz_da a 0).2.2, .inl (cJ, 16, .inr (.inl (pz_rc (dk 0))))), ((pz_da a 1).1, .inr (0, [.ref ((pz_da a 1).2.1), .ref ((pz_da a 1).2.2), .int (pz_o (pz_rb (dk 1))), .int (pz_b (pz_dd (dk 1))), .int (nI (pz_th (dk 1)))])), ((pz_da a 1).2.1, .inl (cJ, 2400, .inr (.inl (pz_R (dk 1))))), ((pz_da a 1).2.2, .inl (cJ, 16, .inr (.inl (pz_rc (dk 1))))), ((pz_da a 2).1, .inr (0, [.ref ((pz_da a 2).2.1), .ref ((pz_da a 2).2.2), .int (pz_o (pz_rb (dk 2))), .int (pz_b (pz_dd (dk 2))), .int (nI (pz_th (dk 2)))])), ((pz_da a 2).2.1, .inl (cJ, 2400, .inr (.inl (pz_R (dk 2))))), ((pz_da a 2).2.2, .inl (cJ, 16, .inr (.inl (pz_rc (dk 2))))), ((pz_da a 3).1, .inr (0, [.ref ((pz_da a 3).2.1), .ref ((pz_da a 3).2.2), .int (pz_o (pz_rb (dk 3))), .int (pz_b (pz_dd (dk 3))), .int (nI (pz_th (dk 3)))])), ((pz_da a 3).2.1, .inl (cJ, 2400, .inr (.inl (pz_R (dk 3))))), ((pz_da a 3).2.2, .inl (cJ, 16, .inr (.inl (pz_rc (dk 3)))))]) (w1 := pz_DR (pz_da a 4).1 (pz_da a 4).2.1 (pz_da a 4).2.2 cJ x' (pz_ay a) py) hP hD [18, 19, 20, 5] [0, 1, 2, 3, 4, 6, 7, 8, 9, 10, 11, 12, 13, 14, 15, 16, 17] rfl rfl (by decide) (by decide) hk hF hP1 hD1
    exact ⟨hP2.sub [0, 1, 2, 3, 4, 20, 5, 6, 7, 8, 9, 10, 11, 12, 13, 14, 15, 16, 17, 18, 19] rfl, hD2.sub [0, 1, 2, 3, 4, 20, 5, 6, 7, 8, 9, 10, 11, 12, 13, 14, 15, 16, 17, 18, 19] (by decide) rfl⟩
  | d + 5, h => exact absurd h (by omega)
theorem pz_Xs_P {a : pz_Ad} {cJ cD : ClassId} {dk : Nat → pz_Dk} {su : pz_Su} {bl pt py : Nat → Int64} {D : va_G} {H : Heap} (hP : va_P D vwCl (pz_XW a cJ cD dk su bl pt py) H) : va_P D vwCl (pz_SW (pz_as a) su) H := hP.sub [2] rfl
theorem pz_Xs_D {a : pz_Ad} {cJ cD : ClassId} {dk : Nat → pz_Dk} {su : pz_Su} {bl pt py : Nat → Int64} {A : Nat → Prop} (hD : va_D A (pz_XW a cJ cD dk su bl pt py)) : va_D A (pz_SW (pz_as a) su) := hD.sub [2] (by decide) rfl
theorem pz_Xs_F {a : pz_Ad} {cJ cD : ClassId} {dk : Nat → pz_Dk} {su : pz_Su} {bl pt py : Nat → Int64} {H : Heap} {A : Nat → Prop} {H0 : Heap} {locs : List Loc} (hD : va_D A (pz_XW a cJ cD dk su bl pt py)) (hS : va_S A H0 H locs) (hA : ∀ q, H0.size ≤ q → A q) : ∀ q, va_A (pz_SW (pz_as a) su) H.size q → A q := va_free hD hS hA [2] rfl
set_option maxHeartbeats 4000000 in
set_option maxRecDepth 100000 in
theorem pz_Xs_J {a : pz_Ad} {cJ cD : ClassId} {dk : Nat → pz_Dk} {su : pz_Su} {bl pt py : Nat → Int64} {D : va_G} {H : Heap} {A : Nat → Prop} {H1 : Heap} {su' : pz_Su} (hP : va_P D vwCl (pz_XW a cJ cD dk su bl pt py) H) (hD : va_D A (pz_XW a cJ cD dk su bl pt py)) (hk : ∀ q : Nat, q < H.size → ¬ va_A (pz_SW (pz_as a) su) H.size q → H1[q]? = H[q]?) (hF : ∀ q, va_A (pz_SW (pz_as a) su) H.size q → A q) (hP1 : va_P D vwCl (pz_SW (pz_as a) su') H1) (hD1 : va_D (va_A (pz_SW (pz_as a) su) H.size) (pz_SW (pz_as a) su')) : va_P D vwCl (pz_XW a cJ cD dk su' bl pt py) H1 ∧ va_D A (pz_XW a cJ cD dk su' bl pt py) := by
  obtain ⟨hP2, hD2⟩ := va_join (wr := [(pz_ax a, .inr (2, [.ref (pz_ad a), .ref (pz_as a), .ref (pz_ab a), .ref (pz_ap a), .ref (pz_ay a)])), (pz_ad a, .inl (cD, 5, .inr (.inr (.inr (.inr (pz_df a)))))), (pz_ab a, .inl (cJ, 16, .inr (.inl bl))), (pz_ap a, .inl (cJ, 16, .inr (.inl pt))), (pz_ay a, .inl (cJ, 16, .inr (.inl py))), ((pz_da a 0).1, .inr (0, [.ref ((pz_da a 0).2.1), .ref ((pz_da a 0).2.2), .int (pz_o (pz_rb (dk 0))), .int (pz_b (pz_dd (dk 0))), .int (nI (pz_th (dk 0)))])), ((pz_da a 0).2.1, .inl (cJ, 2400, .inr (.inl (pz_R (dk 0))))), ((pz_da a 0).2.2, .inl (cJ, 16, .inr (.inl (pz_rc (dk 0))))), ((pz_da a 1).1, .inr (0, [.ref ((pz_da a 1).2.1), .ref ((pz_da a 1).2.2), .int (pz_o (pz_rb (dk 1))), .int (pz_b (pz_dd (dk 1))), .int (nI (pz_th (dk 1)))])), ((pz_da a 1).2.1, .inl (cJ, 2400, .inr (.inl (pz_R (dk 1))))), ((pz_da a 1).2.2, .inl (cJ, 16, .inr (.inl (pz_rc (dk 1))))), ((pz_da a 2).1, .inr (0, [.ref ((pz_da a 2).2.1), .ref ((pz_da a 2).2.2), .int (pz_o (pz_rb (dk 2))), .int (pz_b (pz_dd (dk 2))), .int (nI (pz_th (dk 2)))])), ((pz_da a 2).2.1, .inl (cJ, 2400, .inr (.inl (pz_R (dk 2))))), ((pz_da a 2).2.2, .inl (cJ, 16, .inr (.inl (pz_rc (dk 2))))), ((pz_da a 3).1, .inr (0, [.ref ((pz_da a 3).2.1), .ref ((pz_da a 3).2.2), .int (pz_o (pz_rb (dk 3))), .int (pz_b (pz_dd (dk 3))), .int (nI (pz_th (dk 3)))])), ((pz_da a 3).2.1, .inl (cJ, 2400, .inr (.inl (pz_R (dk 3))))), ((pz_da a 3).2.2, .inl (cJ, 16, .inr (.inl (pz_rc (dk 3))))), ((pz_da a 4).1, .inr (0, [.ref ((pz_da a 4).2.1), .ref ((pz_da a 4).2.2), .int (pz_o (pz_rb (dk 4))), .int (pz_b (pz_dd (dk 4))), .int (nI (pz_th (dk 4)))])), ((pz_da a 4).2.1, .inl (cJ, 2400, .inr (.inl (pz_R (dk 4))))), ((pz_da a 4).2.2, .inl (cJ, 16, .inr (.inl (pz_rc (dk 4)))))]) (w1 := pz_SW (pz_as a) su') hP hD [2] [0, 1, 3, 4, 5, 6, 7, 8, 9, 10, 11, 12, 13, 14, 15, 16, 17, 18, 19, 20] rfl rfl (by decide) (by decide) hk hF hP1 hD1
  exact ⟨hP2.sub [0, 1, 20, 2, 3, 4, 5, 6, 7, 8, 9, 10, 11, 12, 13, 14, 15, 16, 17, 18, 19] rfl, hD2.sub [0, 1, 20, 2, 3, 4, 5, 6, 7, 8, 9, 10, 11, 12, 13, 14, 15, 16, 17, 18, 19] (by decide) rfl⟩
set_option maxHeartbeats 4000000 in
set_option maxRecDepth 100000 in
theorem pz_X_o {a : pz_Ad} {cJ cD : ClassId} {dk : Nat → pz_Dk} {su : pz_Su} {bl pt py : Nat → Int64} {d : Nat} (hd : d < 5) : (pz_XW a cJ cD dk su bl pt py)[6 + 3 * d]? = some (((pz_da a d).1, .inr (0, [.ref ((pz_da a d).2.1), .ref ((pz_da a d).2.2), .int (pz_o (pz_rb (dk d))), .int (pz_b (pz_dd (dk d))), .int (nI (pz_th (dk d)))]))) := by
  match d, hd with
  | 0, _ => rfl
  | 1, _ => rfl
  | 2, _ => rfl
  | 3, _ => rfl
  | 4, _ => rfl
  | d + 5, h => exact absurd h (by omega)
set_option maxHeartbeats 4000000 in
set_option maxRecDepth 100000 in
theorem pz_X_r {a : pz_Ad} {cJ cD : ClassId} {dk : Nat → pz_Dk} {su : pz_Su} {bl pt py : Nat → Int64} {d : Nat} (hd : d < 5) : (pz_XW a cJ cD dk su bl pt py)[7 + 3 * d]? = some (((pz_da a d).2.1, .inl (cJ, 2400, .inr (.inl (pz_R (dk d)))))) := by
  match d, hd with
  | 0, _ => rfl
  | 1, _ => rfl
  | 2, _ => rfl
  | 3, _ => rfl
  | 4, _ => rfl
  | d + 5, h => exact absurd h (by omega)
set_option maxHeartbeats 4000000 in
set_option maxRecDepth 100000 in
theorem pz_X_c {a : pz_Ad} {cJ cD : ClassId} {dk : Nat → pz_Dk} {su : pz_Su} {bl pt py : Nat → Int64} {d : Nat} (hd : d < 5) : (pz_XW a cJ cD dk su bl pt py)[8 + 3 * d]? = some (((pz_da a d).2.2, .inl (cJ, 16, .inr (.inl (pz_rc (dk d)))))) := by
  match d, hd with
  | 0, _ => rfl
  | 1, _ => rfl
  | 2, _ => rfl
  | 3, _ => rfl
  | 4, _ => rfl
  | d + 5, h => exact absurd h (by omega)
set_option maxHeartbeats 4000000 in
set_option maxRecDepth 100000 in
theorem pz_X_set {a : pz_Ad} {cJ cD : ClassId} {dk : Nat → pz_Dk} {su : pz_Su} {bl pt py : Nat → Int64} {d : Nat} (hd : d < 5) (rb : Option Nat) (dd : Bool) (th : Nat) : (pz_XW a cJ cD dk su bl pt py).set (6 + 3 * d) ((pz_da a d).1, .inr (0, [.ref (pz_da a d).2.1, .ref (pz_da a d).2.2, .int (pz_o rb), .int (pz_b dd), .int (nI th)])) = pz_XW a cJ cD (va_up dk d (pz_R (dk d), pz_rc (dk d), rb, dd, th)) su bl pt py := by
  match d, hd with
  | 0, _ => rfl
  | 1, _ => rfl
  | 2, _ => rfl
  | 3, _ => rfl
  | 4, _ => rfl
  | d + 5, h => exact absurd h (by omega)
section PZX
variable {p : Program} {l : Launch} {e : Env} {R : Room} {s : State} {m : MethodId} {args : Array Value} {below : List Frame} {meth : Method} {c : Code} {H : Heap} {locs : List Loc} {cells slots : Nat} {Q : State → Prop} {cc : ByteArray} {pc : Nat} {ls : Array Slot} {rest : List Value} {D : va_G}
theorem pz_ald {a : pz_Ad} {cJ cD : ClassId} {dk : Nat → pz_Dk} {su : pz_Su} {bl pt py : Nat → Int64} {tys : List (ClassId × FieldType)} (hx : p.tables.exec = Jvm.exec) (hb : c.code = cc) (hK : va_K D vwCl tys s) (hP : va_P D vwCl (pz_XW a cJ cD dk su bl pt py) H) (t0 : Nat) {C : String} (ht : tys[t0]? = some (cD, .object C)) {d : Nat} (hd : d < 5) (hdg : decode cc pc = .ok (.aaload, 1))
    (kk : W p l e R s m args below meth c H locs cells slots Q (F0 m (pc + 1) ls (.ref (pz_da a d).1 :: rest))) : W p l e R s m args below meth c H locs cells slots Q (F0 m pc ls (.int (nI d) :: .ref (pz_ad a) :: rest)) := by
  refine va_aldq hx hb hK hP 1 t0 (n := 5) (f := pz_df a) rfl ht (vp_in_nI hd (by decide)) hdg ?_
  rw [nI_clamp (by omega), pz_df_lt a hd]
  exact kk
end PZX
end
section
/-! ParityArray: statics and reads (laid by a program) -/
set_option maxHeartbeats 4000000 in
set_option maxRecDepth 100000 in
/-- is there such a long -/
theorem c_XP_isLong (l : Launch) (n0 i0 : Int32) : Met l yXP_isLong wsXP_isLong ({ frames := 0, cells := 0, slots := 0, locals := 0 }) (va_Pc [.int n0, .int i0] (fun _ => True)) (va_Qi (fun (r : Int32) (u : Unit) => r = pz_b (pz_isL n0 i0)) (fun _ _ => True) (fun _ => False)) 0 0 (fun _ => False) := by
  refine Met.ofW (cc := cXP_isLong) (maxL := 2) (ret := (some .boolean)) (by decide) rfl ?_
  intro p e s m args below meth c s₁ B hml hv
  obtain ⟨rfl, -⟩ := hv
  have hx := B.exec
  have hb := B.bytes
  have hr := B.returns
  have hts := atoms_spec (ws := wsXP_isLong) B.pre
  have hown : s.vm.findClass "ParityArray" = some m.cls := findClass_of_methodNamed B.named
  have hlocks := B.notSynchronized
  have hS : va_S (fun _ => False) s.heap s.heap [] := va_S.rf
  have hl := lv_entry ([.int n0, .int i0]) (n := 2) (Nat.le_of_ble_eq_true rfl)
  rw [lg_entry_eq]
  generalize (lg_sl ([.int n0, .int i0]) ++ List.replicate (2 - (lg_sl ([.int n0, .int i0])).length) Slot.unset).toArray = ls at hl ⊢
  have hl : lv_has ls 2 [(0, .int n0), (1, .int i0)] := hl
  refine lv_iload_n hx hb dXP_isLong_0 rfl (lv_at hl 0 rfl) ?_
  refine lv_if_lt (tgt := 25) hx hb dXP_isLong_1 (by decide) (fun hc => ?_) (fun hc => ?_)
  · refine lv_iconst (v := nI 0) hx hb dXP_isLong_25 (by decide) ?_
    exact W.zret (v := nI 0) hx hb hr rfl (fun t ht hW => ⟨⟨_, (), rfl, by rw [show pz_isL n0 i0 = false from decide_eq_false (fun h9 => Int32.not_le.mpr hc h9.1)]; rfl, trivial⟩, hS.F ht⟩) hS.2.2 dXP_isLong_26
  · have h1 := hc
    refine lv_iload_n hx hb dXP_isLong_4 rfl (lv_at hl 0 rfl) ?_
    refine lv_sipush (v := nI 600) hx hb dXP_isLong_5 (by decide) ?_
    refine lv_icmp_ge (tgt := 25) hx hb dXP_isLong_8 (by decide) (fun hc => ?_) (fun hc => ?_)
    · refine lv_iconst (v := nI 0) hx hb dXP_isLong_25 (by decide) ?_
      exact W.zret (v := nI 0) hx hb hr rfl (fun t ht hW => ⟨⟨_, (), rfl, by rw [show pz_isL n0 i0 = false from decide_eq_false (fun h9 => Int32.not_lt.mpr hc h9.2.1)]; rfl, trivial⟩, hS.F ht⟩) hS.2.2 dXP_isLong_26
    · have h2 := hc
      refine lv_iload_n hx hb dXP_isLong_11 rfl (lv_at hl 1 rfl) ?_
      refine lv_if_lt (tgt := 25) hx hb dXP_isLong_12 (by decide) (fun hc => ?_) (fun hc => ?_)
      · refine lv_iconst (v := nI 0) hx hb dXP_isLong_25 (by decide) ?_
        exact W.zret (v := nI 0) hx hb hr rfl (fun t ht hW => ⟨⟨_, (), rfl, by rw [show pz_isL n0 i0 = false from decide_eq_false (fun h9 => Int32.not_le.mpr hc h9.2.2.1)]; rfl, trivial⟩, hS.F ht⟩) hS.2.2 dXP_isLong_26
      · have h3 := hc
        refine lv_iload_n hx hb dXP_isLong_15 rfl (lv_at hl 1 rfl) ?_
        refine lv_bipush (v := nI 16) hx hb dXP_isLong_16 (by decide) ?_
        refine lv_icmp_ge (tgt := 25) hx hb dXP_isLong_18 (by decide) (fun hc => ?_) (fun hc => ?_)
        · refine lv_iconst (v := nI 0) hx hb dXP_isLong_25 (by decide) ?_
          exact W.zret (v := nI 0) hx hb hr rfl (fun t ht hW => ⟨⟨_, (), rfl, by rw [show pz_isL n0 i0 = false from decide_eq_false (fun h9 => Int32.not_lt.mpr hc h9.2.2.2)]; rfl, trivial⟩, hS.F ht⟩) hS.2.2 dXP_isLong_26
        · refine lv_iconst (v := nI 1) hx hb dXP_isLong_21 (by decide) ?_
          refine lv_goto (tgt := 26) hx hb dXP_isLong_22 (by decide) ?_
          exact W.zret (v := nI 1) hx hb hr rfl (fun t ht hW => ⟨⟨_, (), rfl, by rw [show pz_isL n0 i0 = true from decide_eq_true ⟨Int32.not_lt.mp h1, Int32.not_le.mp h2, Int32.not_lt.mp h3, Int32.not_le.mp hc⟩]; rfl, trivial⟩, hS.F ht⟩) hS.2.2 dXP_isLong_26

set_option maxHeartbeats 4000000 in
set_option maxRecDepth 100000 in
theorem c_XP_stripeOf (l : Launch) (n0 : Nat) (hn0 : n0 < 600) : Met l yXP_stripeOf wsXP_stripeOf ({ frames := 0, cells := 0, slots := 0, locals := 0 }) (va_Pc [.int (nI n0)] (fun _ => True)) (va_Qi (fun (r : Int32) (u : Unit) => r = nI (n0 / 4)) (fun _ _ => True) (fun _ => False)) 0 0 (fun _ => False) := by
  refine Met.ofW (cc := cXP_stripeOf) (maxL := 1) (ret := (some .int)) (by decide) rfl ?_
  intro p e s m args below meth c s₁ B hml hv
  obtain ⟨rfl, -⟩ := hv
  have hx := B.exec
  have hb := B.bytes
  have hr := B.returns
  have hts := atoms_spec (ws := wsXP_stripeOf) B.pre
  have hown : s.vm.findClass "ParityArray" = some m.cls := findClass_of_methodNamed B.named
  have hlocks := B.notSynchronized
  have hS : va_S (fun _ => False) s.heap s.heap [] := va_S.rf
  have hl := lv_entry ([.int (nI n0)]) (n := 1) (Nat.le_of_ble_eq_true rfl)
  rw [lg_entry_eq]
  generalize (lg_sl ([.int (nI n0)]) ++ List.replicate (1 - (lg_sl ([.int (nI n0)])).length) Slot.unset).toArray = ls at hl ⊢
  have hl : lv_has ls 1 [(0, .int (nI n0))] := hl
  refine lv_iload_n hx hb dXP_stripeOf_0 rfl (lv_at hl 0 rfl) ?_
  refine lv_iconst (v := nI 4) hx hb dXP_stripeOf_1 (by decide) ?_
  refine lv_idiv hx hb dXP_stripeOf_2 (by decide) ?_
  refine lv_topi (nm_r (pk_div (by omega) (by decide) (by decide)) ?_)
  exact W.iret (v := nI (n0 / 4)) hx hb hr (fun t ht hW => ⟨⟨_, (), rfl, rfl, trivial⟩, hS.F ht⟩) hS.2.2 dXP_stripeOf_3

set_option maxHeartbeats 4000000 in
set_option maxRecDepth 100000 in
theorem c_XP_parityDiskOf (l : Launch) (n0 : Nat) (hn0 : n0 < 150) : Met l yXP_parityDiskOf wsXP_parityDiskOf ({ frames := 0, cells := 0, slots := 0, locals := 0 }) (va_Pc [.int (nI n0)] (fun _ => True)) (va_Qi (fun (r : Int32) (u : Unit) => r = nI (n0 % 5)) (fun _ _ => True) (fun _ => False)) 0 0 (fun _ => False) := by
  refine Met.ofW (cc := cXP_parityDiskOf) (maxL := 1) (ret := (some .int)) (by decide) rfl ?_
  intro p e s m args below meth c s₁ B hml hv
  obtain ⟨rfl, -⟩ := hv
  have hx := B.exec
  have hb := B.bytes
  have hr := B.returns
  have hts := atoms_spec (ws := wsXP_parityDiskOf) B.pre
  have hown : s.vm.findClass "ParityArray" = some m.cls := findClass_of_methodNamed B.named
  have hlocks := B.notSynchronized
  have hS : va_S (fun _ => False) s.heap s.heap [] := va_S.rf
  have hl := lv_entry ([.int (nI n0)]) (n := 1) (Nat.le_of_ble_eq_true rfl)
  rw [lg_entry_eq]
  generalize (lg_sl ([.int (nI n0)]) ++ List.replicate (1 - (lg_sl ([.int (nI n0)])).length) Slot.unset).toArray = ls at hl ⊢
  have hl : lv_has ls 1 [(0, .int (nI n0))] := hl
  refine lv_iload_n hx hb dXP_parityDiskOf_0 rfl (lv_at hl 0 rfl) ?_
  refine lv_iconst (v := nI 5) hx hb dXP_parityDiskOf_1 (by decide) ?_
  refine lv_irem hx hb dXP_parityDiskOf_2 (by decide) ?_
  refine lv_topi (nm_r (pk_rem (by omega) (by decide) (by decide)) ?_)
  exact W.iret (v := nI (n0 % 5)) hx hb hr (fun t ht hW => ⟨⟨_, (), rfl, rfl, trivial⟩, hS.F ht⟩) hS.2.2 dXP_parityDiskOf_3

set_option maxHeartbeats 4000000 in
set_option maxRecDepth 100000 in
theorem c_XP_diskOf (l : Launch) (n0 : Nat) (hn0 : n0 < 600) : Met l yXP_diskOf wsXP_diskOf ({ frames := 1, cells := 0, slots := 0, locals := 20 }) (va_Pc [.int (nI n0)] (fun _ => True)) (va_Qi (fun (r : Int32) (u : Unit) => r = nI (pz_dn n0)) (fun _ _ => True) (fun _ => False)) 0 0 (fun _ => False) := by
  refine Met.ofW (cc := cXP_diskOf) (maxL := 2) (ret := (some .int)) (by decide) rfl ?_
  intro p e s m args below meth c s₁ B hml hv
  obtain ⟨rfl, -⟩ := hv
  have hx := B.exec
  have hb := B.bytes
  have hr := B.returns
  have hts := atoms_spec (ws := wsXP_diskOf) B.pre
  have hown : s.vm.findClass "ParityArray" = some m.cls := findClass_of_methodNamed B.named
  have hlocks := B.notSynchronized
  have hS : va_S (fun _ => False) s.heap s.heap [] := va_S.rf
  have hl := lv_entry ([.int (nI n0)]) (n := 2) (Nat.le_of_ble_eq_true rfl)
  rw [lg_entry_eq]
  generalize (lg_sl ([.int (nI n0)]) ++ List.replicate (2 - (lg_sl ([.int (nI n0)])).length) Slot.unset).toArray = ls at hl ⊢
  have hl : lv_has ls 2 [(0, .int (nI n0))] := hl
  refine lv_iload_n hx hb dXP_diskOf_0 rfl (lv_at hl 0 rfl) ?_
  refine lv_iconst (v := nI 4) hx hb dXP_diskOf_1 (by decide) ?_
  refine lv_irem hx hb dXP_diskOf_2 (by decide) ?_
  refine lv_topi (nm_r (pk_rem (by omega) (by decide) (by decide)) ?_)
  refine lv_istore_n hx hb dXP_diskOf_3 rfl hl (by decide) rfl (fun ls hl => ?_)
  have hl : lv_has ls 2 [(1, .int (nI (n0 % 4))), (0, .int (nI n0))] := hl
  refine lv_iload_n hx hb dXP_diskOf_4 rfl (lv_at hl 0 rfl) ?_
  refine lv_iload_n hx hb dXP_diskOf_5 rfl (lv_at hl 1 rfl) ?_
  refine va_calli (va_runS (As := [.int (nI n0)]) (rest := [.int (nI (n0 % 4))]) ⟨hx, hb, hml, hown, hts⟩ (c_XP_stripeOf l n0 hn0) (va_cwS 1 hts (pz_gc (List.mem_cons_of_mem _ tw_198) rfl (pz_gc (List.mem_cons_of_mem _ tw_199) rfl (pz_gc (List.mem_cons_of_mem _ tw_1) rfl (pz_gi tcXP_stripeOf)))) rfl rfl rfl (by decide +kernel) ⟨Nat.le_of_ble_eq_true rfl, Nat.le_of_ble_eq_true rfl⟩) pz_preS0 rfl rfl hl.1 rfl (lv_room (Nat.le_of_ble_eq_true rfl)) dXP_diskOf_6 ⟨Nat.zero_le _, Nat.zero_le _⟩) hS (fun q _ h => h.elim) (fun q h => h.elim) (fun r u t H locs ht hvm hw _ hz hk9 hS => ?_)
  clear hk9 hz ht hvm
  subst hw
  refine va_calli (va_runS (As := [.int (nI (n0 / 4))]) (rest := [.int (nI (n0 % 4))]) ⟨hx, hb, hml, hown, hts⟩ (c_XP_parityDiskOf l (n0 / 4) (by omega)) (va_cwS 1 hts (pz_gc (List.mem_cons_of_mem _ tw_204) rfl (pz_gc (List.mem_cons_of_mem _ tw_205) rfl (pz_gc (List.mem_cons_of_mem _ tw_1) rfl (pz_gi tcXP_parityDiskOf)))) rfl rfl rfl (by decide +kernel) ⟨Nat.le_of_ble_eq_true rfl, Nat.le_of_ble_eq_true rfl⟩) pz_preS0 rfl rfl hl.1 rfl (lv_room (Nat.le_of_ble_eq_true rfl)) dXP_diskOf_9 ⟨Nat.zero_le _, Nat.zero_le _⟩) hS (fun q _ h => h.elim) (fun q h => h.elim) (fun r u t H locs ht hvm hw _ hz hk9 hS => ?_)
  clear hk9 hz ht hvm
  subst hw
  refine lv_icmp_ge (tgt := 19) hx hb dXP_diskOf_12 (by decide) (fun hc => ?_) (fun hc => ?_)
  · have hc : (n0 / 4 % 5) ≤ (n0 % 4) := (nI_leI (a := (n0 / 4 % 5)) (b := (n0 % 4)) (by omega) (by omega)).mp hc
    refine lv_iload_n hx hb dXP_diskOf_19 rfl (lv_at hl 0 rfl) ?_
    refine lv_iconst (v := nI 1) hx hb dXP_diskOf_20 (by decide) ?_
    refine lv_iadd hx hb dXP_diskOf_21 ?_
    refine lv_topi (nm_r (nI_add (n0 % 4) 1) ?_)
    exact W.iret (v := nI ((n0 % 4) + 1)) hx hb hr (fun t ht hW => ⟨⟨_, (), rfl, by unfold pz_dn; rw [if_neg (by omega)], trivial⟩, hS.F ht⟩) hS.2.2 dXP_diskOf_22
  · have hc : ¬ (n0 / 4 % 5) ≤ (n0 % 4) := fun h9 => hc ((nI_leI (a := (n0 / 4 % 5)) (b := (n0 % 4)) (by omega) (by omega)).mpr h9)
    refine lv_iload_n hx hb dXP_diskOf_15 rfl (lv_at hl 0 rfl) ?_
    refine lv_goto (tgt := 22) hx hb dXP_diskOf_16 (by decide) ?_
    exact W.iret (v := nI (n0 % 4)) hx hb hr (fun t ht hW => ⟨⟨_, (), rfl, by unfold pz_dn; rw [if_pos (by omega)], trivial⟩, hS.F ht⟩) hS.2.2 dXP_diskOf_22

set_option maxHeartbeats 4000000 in
set_option maxRecDepth 100000 in
/-- the disk that is not WELL -/
theorem c_XP_unwellDisk (l : Launch) (dC : Nat → ClassId) (dI : Nat → Nat → Nat) (a : pz_Ad) (cJ cD : ClassId) (dk : Nat → pz_Dk) (su : pz_Su) (bl pt py : Nat → Int64) (sk : Option Nat) (hth : ∀ d, d < 5 → pz_th (dk d) ≤ 150) (h1 : ∀ d, d < 5 → sk ≠ some d → pz_th (dk d) = 150) (h2 : ∀ d, sk = some d → d < 5 ∧ pz_th (dk d) < 150) : Met l yXP_unwellDisk wsXP_unwellDisk ({ frames := 1, cells := 0, slots := 0, locals := 20 }) (va_Pc [.ref (pz_ax a)] (fun U => va_P (dC, dI) vwCl (pz_XW a cJ cD dk su bl pt py) U.heap ∧ va_K (dC, dI) vwCl [(cJ, .long), (cD, .object "ParityArray$Disk")] U)) (va_Qi (fun (r : Int32) (u : Unit) => r = pz_o sk) (fun _ _ => True) (fun _ => False)) 0 0 (fun _ => False) := by
  refine Met.ofW (cc := cXP_unwellDisk) (maxL := 2) (ret := (some .int)) (by decide) rfl ?_
  intro p e s m args below meth c s₁ B hml hv
  obtain ⟨rfl, hP, hK⟩ := hv
  have hx := B.exec
  have hb := B.bytes
  have hr := B.returns
  have hts := atoms_spec (ws := wsXP_unwellDisk) B.pre
  have hown : s.vm.findClass "ParityArray" = some m.cls := findClass_of_methodNamed B.named
  have hlocks := B.notSynchronized
  have hS : va_S (fun _ => False) s.heap s.heap [] := va_S.rf
  have hl := lv_entry ([.ref (pz_ax a)]) (n := 2) (Nat.le_of_ble_eq_true rfl)
  rw [lg_entry_eq]
  generalize (lg_sl ([.ref (pz_ax a)]) ++ List.replicate (2 - (lg_sl ([.ref (pz_ax a)])).length) Slot.unset).toArray = ls at hl ⊢
  have hl : lv_has ls 2 [(0, .ref (pz_ax a))] := hl
  have hP : va_P (dC, dI) vwCl (pz_XW a cJ cD dk su bl pt py) s.heap := hP
  refine lv_iconst (v := nI 0) hx hb dXP_unwellDisk_0 (by decide) ?_
  refine lv_istore_n hx hb dXP_unwellDisk_1 rfl hl (by decide) rfl (fun ls hl => ?_)
  have hl : lv_has ls 2 [(1, .int (nI 0)), (0, .ref (pz_ax a))] := hl
  refine pz_loop (fun _ => 0) (fun _ => 0) 5 (fun k ls H locs => lv_has ls 2 [(1, .int (nI k)), (0, .ref (pz_ax a))] ∧ va_P (dC, dI) vwCl (pz_XW a cJ cD dk su bl pt py) H ∧ va_S (fun _ => False) s.heap H locs ∧ ∀ d, d < k → pz_th (dk d) = 150) ?_ ?_ 5 0 (by omega) _ _ _ ⟨hl, hP, hS, fun d h9 => absurd h9 (Nat.not_lt_zero _)⟩
  · intro k ls H locs hk hI ih
    obtain ⟨hl, hP, hS, hI4⟩ := hI
    refine lv_iload_n hx hb dXP_unwellDisk_2 rfl (lv_at hl 0 rfl) ?_
    refine lv_iconst (v := nI 5) hx hb dXP_unwellDisk_3 (by decide) ?_
    refine lv_icmp_ge (tgt := 27) hx hb dXP_unwellDisk_4 (by decide) (fun hc => absurd hc (nI_ge hk (by decide))) (fun _ => ?_)
    refine lv_aload_n hx hb dXP_unwellDisk_7 rfl (lv_at hl 1 rfl) ?_
    refine va_get (D := (dC, dI)) (ci := 2) (v := .ref (pz_ad a)) (C := "ParityArray") (T := TXP) (N := 5) hx hb hts (fun w h => List.mem_cons_of_mem _ (inXP w h)) hown hK hP 0 rfl rfl 0 (by decide) (hts _ (List.mem_cons_of_mem _ tw_80)) (fun _ h9 => h9) rfl dXP_unwellDisk_8 ?_
    refine lv_iload_n hx hb dXP_unwellDisk_11 rfl (lv_at hl 0 rfl) ?_
    refine pz_ald hx hb hK hP 1 rfl hk dXP_unwellDisk_12 ?_
    refine va_calli (va_runV (As := []) (rest := []) ⟨hx, hb, hml, hown, hts⟩ (c_XD_isWell l dC dI _ _ _ cJ (dk k) (hth k hk)) (cwV 0 hts (pz_gc (List.mem_cons_of_mem _ tw_289) rfl (pz_gc (List.mem_cons_of_mem _ tw_290) rfl (pz_gc (List.mem_cons_of_mem _ tw_291) rfl (pz_gc (List.mem_cons_of_mem _ tw_3) rfl (pz_gi tcXD_isWell))))) rfl rfl rfl (by decide +kernel) ⟨Nat.le_of_ble_eq_true rfl, Nat.le_of_ble_eq_true rfl⟩) (pz_preV (va_recv hK (pz_Xd_P (d := k) hk hP) (q0 := 0) rfl rfl) (pz_Xd_P (d := k) hk hP) (hK.sub [0] rfl)) rfl rfl hl.1 rfl (lv_room (Nat.le_of_ble_eq_true rfl)) dXP_unwellDisk_13 ⟨Nat.zero_le _, Nat.zero_le _⟩) hS (fun q _ h => h.elim) (fun q h => h.elim) (fun r u t H locs ht hvm hw _ hz hk9 hS => ?_)
    have hP := pz_keep hP hk9
    clear hk9 hz ht hvm
    subst hw
    refine lv_if_ne (tgt := 21) hx hb dXP_unwellDisk_16 (by decide) (fun hc => ?_) (fun hc => ?_)
    · have hc : (decide (pz_th (dk k) = 150)) = true := pz_bn hc
      have hc := of_decide_eq_true hc
      refine lv_iinc (k := 0) (v := nI (k + 1)) hx hb dXP_unwellDisk_21 hl rfl (by rw [nI_succ]; rfl) (by decide) rfl (fun ls hl => ?_)
      have hl : lv_has ls 2 [(1, .int (nI (k + 1))), (0, .ref (pz_ax a))] := hl
      refine lv_goto (tgt := 2) hx hb dXP_unwellDisk_24 (by decide) ?_
      exact ih _ _ _ ⟨hl, hP, hS, fun d h9 => by rcases Nat.lt_succ_iff_lt_or_eq.mp h9 with h | h; exact hI4 d h; rw [h]; exact hc⟩
    · have hc : (decide (pz_th (dk k) = 150)) = false := pz_b0.mp hc
      have hc := of_decide_eq_false hc
      refine lv_iload_n hx hb dXP_unwellDisk_19 rfl (lv_at hl 0 rfl) ?_
      exact W.iret (v := nI k) hx hb hr (fun t ht hW => ⟨⟨_, (), rfl, by rw [show sk = some k from Classical.byContradiction fun h9 => hc (h1 k hk h9)]; rfl, trivial⟩, hS.F ht⟩) hS.2.2 dXP_unwellDisk_20
  · intro ls H locs hI
    obtain ⟨hl, hP, hS, hI4⟩ := hI
    refine lv_iload_n hx hb dXP_unwellDisk_2 rfl (lv_at hl 0 rfl) ?_
    refine lv_iconst (v := nI 5) hx hb dXP_unwellDisk_3 (by decide) ?_
    refine lv_icmp_ge (tgt := 27) hx hb dXP_unwellDisk_4 (by decide) (fun _ => ?_) (fun hc => absurd hc (fun h9 => h9 (nI_le (Nat.le_refl 5) (by decide))))
    refine lv_iconst (v := (-1)) hx hb dXP_unwellDisk_27 (by decide) ?_
    exact W.iret (v := (-1)) hx hb hr (fun t ht hW => ⟨⟨_, (), rfl, by cases hsk : sk with | none => rfl | some d => exact absurd (hI4 d (h2 d hsk).1) (Nat.ne_of_lt (h2 d hsk).2), trivial⟩, hS.F ht⟩) hS.2.2 dXP_unwellDisk_28

set_option maxHeartbeats 4000000 in
set_option maxRecDepth 100000 in
/-- the other disks together -/
theorem c_XP_othersTogether (l : Launch) (dC : Nat → ClassId) (dI : Nat → Nat → Nat) (a : pz_Ad) (cJ cD : ClassId) (dk : Nat → pz_Dk) (su : pz_Su) (bl pt py : Nat → Int64) (d0 s0 i0 : Nat) (hth : ∀ d, d < 5 → pz_th (dk d) ≤ 150) (hd0 : d0 < 5) (hs0 : s0 < 150) (hi0 : i0 < 16) : Met l yXP_othersTogether wsXP_othersTogether ({ frames := 1, cells := 0, slots := 0, locals := 22 }) (va_Pc [.ref (pz_ax a), .int (nI d0), .int (nI s0), .int (nI i0)] (fun U => va_P (dC, dI) vwCl (pz_XW a cJ cD dk su bl pt py) U.heap ∧ va_K (dC, dI) vwCl [(cJ, .long), (cD, .object "ParityArray$Disk")] U)) (va_Ql (fun (r : Int64) (u : Unit) => r = pz_oth (fun e => pz_R (dk e) (16 * s0 + i0)) d0 5) (fun _ _ => True) (fun _ => False)) 0 0 (fun _ => False) := by
  refine Met.ofW (cc := cXP_othersTogether) (maxL := 7) (ret := (some .long)) (by decide) rfl ?_
  intro p e s m args below meth c s₁ B hml hv
  obtain ⟨rfl, hP, hK⟩ := hv
  have hx := B.exec
  have hb := B.bytes
  have hr := B.returns
  have hts := atoms_spec (ws := wsXP_othersTogether) B.pre
  have hown : s.vm.findClass "ParityArray" = some m.cls := findClass_of_methodNamed B.named
  have hlocks := B.notSynchronized
  have hS : va_S (fun _ => False) s.heap s.heap [] := va_S.rf
  have hl := lv_entry ([.ref (pz_ax a), .int (nI d0), .int (nI s0), .int (nI i0)]) (n := 7) (Nat.le_of_ble_eq_true rfl)
  rw [lg_entry_eq]
  generalize (lg_sl ([.ref (pz_ax a), .int (nI d0), .int (nI s0), .int (nI i0)]) ++ List.replicate (7 - (lg_sl ([.ref (pz_ax a), .int (nI d0), .int (nI s0), .int (nI i0)])).length) Slot.unset).toArray = ls at hl ⊢
  have hl : lv_has ls 7 [(0, .ref (pz_ax a)), (1, .int (nI d0)), (2, .int (nI s0)), (3, .int (nI i0))] := hl
  have hP : va_P (dC, dI) vwCl (pz_XW a cJ cD dk su bl pt py) s.heap := hP
  refine lv_lconst (v := 0) hx hb dXP_othersTogether_0 (by decide) ?_
  refine lv_lstore hx hb dXP_othersTogether_1 hl (by decide) rfl (fun ls hl => ?_)
  have hl : lv_has ls 7 [(4, .long 0), (0, .ref (pz_ax a)), (1, .int (nI d0)), (2, .int (nI s0)), (3, .int (nI i0))] := hl
  refine lv_iconst (v := nI 0) hx hb dXP_othersTogether_3 (by decide) ?_
  refine lv_istore hx hb dXP_othersTogether_4 hl (by decide) rfl (fun ls hl => ?_)
  have hl : lv_has ls 7 [(6, .int (nI 0)), (4, .long 0), (0, .ref (pz_ax a)), (1, .int (nI d0)), (2, .int (nI s0)), (3, .int (nI i0))] := hl
  have hl : lv_has ls 7 [(6, .int (nI 0)), (4, .long (pz_oth (fun e => pz_R (dk e) (16 * s0 + i0)) d0 0)), (0, .ref (pz_ax a)), (1, .int (nI d0)), (2, .int (nI s0)), (3, .int (nI i0))] := hl
  refine pz_loop (fun _ => 0) (fun _ => 0) 5 (fun k ls H locs => lv_has ls 7 [(6, .int (nI k)), (4, .long (pz_oth (fun e => pz_R (dk e) (16 * s0 + i0)) d0 k)), (0, .ref (pz_ax a)), (1, .int (nI d0)), (2, .int (nI s0)), (3, .int (nI i0))] ∧ va_P (dC, dI) vwCl (pz_XW a cJ cD dk su bl pt py) H ∧ va_S (fun _ => False) s.heap H locs) ?_ ?_ 5 0 (by omega) _ _ _ ⟨hl, hP, hS⟩
  · intro k ls H locs hk hI ih
    obtain ⟨hl, hP, hS⟩ := hI
    refine lv_iload hx hb dXP_othersTogether_6 (lv_at hl 0 rfl) ?_
    refine lv_iconst (v := nI 5) hx hb dXP_othersTogether_8 (by decide) ?_
    refine lv_icmp_ge (tgt := 41) hx hb dXP_othersTogether_9 (by decide) (fun hc => absurd hc (nI_ge hk (by decide))) (fun _ => ?_)
    refine lv_iload hx hb dXP_othersTogether_12 (lv_at hl 0 rfl) ?_
    refine lv_iload_n hx hb dXP_othersTogether_14 rfl (lv_at hl 3 rfl) ?_
    refine lv_icmp_eq (tgt := 35) hx hb dXP_othersTogether_15 (by decide) (fun hc => ?_) (fun hc => ?_)
    · have hc : k = d0 := (nI_eq (a := k) (b := d0) (by omega) (by omega)).mp hc
      have e9 : pz_oth (fun e => pz_R (dk e) (16 * s0 + i0)) d0 k = pz_oth (fun e => pz_R (dk e) (16 * s0 + i0)) d0 (k + 1) := by show _ = (if k = d0 then _ else _); rw [if_pos hc]
      rw [e9] at hl
      refine lv_iinc (k := 0) (v := nI (k + 1)) hx hb dXP_othersTogether_35 hl rfl (by rw [nI_succ]; rfl) (by decide) rfl (fun ls hl => ?_)
      have hl : lv_has ls 7 [(6, .int (nI (k + 1))), (4, .long (pz_oth (fun e => pz_R (dk e) (16 * s0 + i0)) d0 (k + 1))), (0, .ref (pz_ax a)), (1, .int (nI d0)), (2, .int (nI s0)), (3, .int (nI i0))] := hl
      refine lv_goto (tgt := 6) hx hb dXP_othersTogether_38 (by decide) ?_
      exact ih _ _ _ ⟨hl, hP, hS⟩
    · have hc : ¬ k = d0 := fun h9 => hc ((nI_eq (a := k) (b := d0) (by omega) (by omega)).mpr h9)
      refine lv_lload hx hb dXP_othersTogether_18 (lv_at hl 1 rfl) ?_
      refine lv_aload_n hx hb dXP_othersTogether_20 rfl (lv_at hl 2 rfl) ?_
      refine va_get (D := (dC, dI)) (ci := 2) (v := .ref (pz_ad a)) (C := "ParityArray") (T := TXP) (N := 5) hx hb hts (fun w h => List.mem_cons_of_mem _ (inXP w h)) hown hK hP 0 rfl rfl 0 (by decide) (hts _ (List.mem_cons_of_mem _ tw_80)) (fun _ h9 => h9) rfl dXP_othersTogether_21 ?_
      refine lv_iload hx hb dXP_othersTogether_24 (lv_at hl 0 rfl) ?_
      refine pz_ald hx hb hK hP 1 rfl hk dXP_othersTogether_26 ?_
      refine lv_iload_n hx hb dXP_othersTogether_27 rfl (lv_at hl 4 rfl) ?_
      refine lv_iload_n hx hb dXP_othersTogether_28 rfl (lv_at hl 5 rfl) ?_
      refine va_calll (va_runV (As := [.int (nI s0), .int (nI i0)]) (rest := [.long (pz_oth (fun e => pz_R (dk e) (16 * s0 + i0)) d0 k)]) ⟨hx, hb, hml, hown, hts⟩ (c_XD_longAt l dC dI _ _ _ cJ (dk k) s0 i0 hs0 hi0) (cwV 2 hts (pz_gc (List.mem_cons_of_mem _ tw_211) rfl (pz_gc (List.mem_cons_of_mem _ tw_212) rfl (pz_gc (List.mem_cons_of_mem _ tw_213) rfl (pz_gc (List.mem_cons_of_mem _ tw_3) rfl (pz_gi tcXD_longAt))))) rfl rfl rfl (by decide +kernel) ⟨Nat.le_of_ble_eq_true rfl, Nat.le_of_ble_eq_true rfl⟩) (pz_preV (va_recv hK (pz_Xd_P (d := k) hk hP) (q0 := 0) rfl rfl) (pz_Xd_P (d := k) hk hP) (hK.sub [0] rfl)) rfl rfl hl.1 rfl (lv_room (Nat.le_of_ble_eq_true rfl)) dXP_othersTogether_29 ⟨Nat.zero_le _, Nat.zero_le _⟩) hS (fun q _ h => h.elim) (fun q h => h.elim) (fun r u t H locs ht hvm hw _ hz hk9 hS => ?_)
      have hP := pz_keep hP hk9
      clear hk9 hz ht hvm
      subst hw
      refine lv_lxor hx hb dXP_othersTogether_32 ?_
      refine lv_topl (nm_r (show pz_oth (fun e => pz_R (dk e) (16 * s0 + i0)) d0 k ^^^ pz_R (dk k) (16 * s0 + i0) = pz_oth (fun e => pz_R (dk e) (16 * s0 + i0)) d0 (k + 1) from by show _ = (if k = d0 then _ else _); rw [if_neg hc]) ?_)
      refine lv_lstore hx hb dXP_othersTogether_33 hl (by decide) rfl (fun ls hl => ?_)
      have hl : lv_has ls 7 [(4, .long (pz_oth (fun e => pz_R (dk e) (16 * s0 + i0)) d0 (k + 1))), (6, .int (nI k)), (0, .ref (pz_ax a)), (1, .int (nI d0)), (2, .int (nI s0)), (3, .int (nI i0))] := hl
      refine lv_iinc (k := 1) (v := nI (k + 1)) hx hb dXP_othersTogether_35 hl rfl (by rw [nI_succ]; rfl) (by decide) rfl (fun ls hl => ?_)
      have hl : lv_has ls 7 [(6, .int (nI (k + 1))), (4, .long (pz_oth (fun e => pz_R (dk e) (16 * s0 + i0)) d0 (k + 1))), (0, .ref (pz_ax a)), (1, .int (nI d0)), (2, .int (nI s0)), (3, .int (nI i0))] := hl
      refine lv_goto (tgt := 6) hx hb dXP_othersTogether_38 (by decide) ?_
      exact ih _ _ _ ⟨hl, hP, hS⟩
  · intro ls H locs hI
    obtain ⟨hl, hP, hS⟩ := hI
    refine lv_iload hx hb dXP_othersTogether_6 (lv_at hl 0 rfl) ?_
    refine lv_iconst (v := nI 5) hx hb dXP_othersTogether_8 (by decide) ?_
    refine lv_icmp_ge (tgt := 41) hx hb dXP_othersTogether_9 (by decide) (fun _ => ?_) (fun hc => absurd hc (fun h9 => h9 (nI_le (Nat.le_refl 5) (by decide))))
    refine lv_lload hx hb dXP_othersTogether_41 (lv_at hl 1 rfl) ?_
    exact W.lret (v := pz_oth (fun e => pz_R (dk e) (16 * s0 + i0)) d0 5) hx hb hr (fun t ht hW => ⟨⟨_, (), rfl, rfl, trivial⟩, hS.F ht⟩) hS.2.2 dXP_othersTogether_43

set_option maxHeartbeats 4000000 in
set_option maxRecDepth 100000 in
/-- a long, read or put together -/
theorem c_XP_readLong (l : Launch) (dC : Nat → ClassId) (dI : Nat → Nat → Nat) (a : pz_Ad) (cJ cD : ClassId) (dk : Nat → pz_Dk) (su : pz_Su) (bl pt py : Nat → Int64) (n0 i0 : Nat) (hth : ∀ d, d < 5 → pz_th (dk d) ≤ 150) (hn0 : n0 < 600) (hi0 : i0 < 16) : Met l yXP_readLong wsXP_readLong ({ frames := 2, cells := 0, slots := 0, locals := 48 }) (va_Pc [.ref (pz_ax a), .int (nI n0), .int (nI i0)] (fun U => va_P (dC, dI) vwCl (pz_XW a cJ cD dk su bl pt py) U.heap ∧ va_K (dC, dI) vwCl [(cJ, .long), (cD, .object "ParityArray$Disk")] U)) (va_Ql (fun (r : Int64) (u : Unit) => r = pz_rl dk n0 i0) (fun _ _ => True) (fun _ => False)) 0 0 (fun _ => False) := by
  refine Met.ofW (cc := cXP_readLong) (maxL := 5) (ret := (some .long)) (by decide) rfl ?_
  intro p e s m args below meth c s₁ B hml hv
  obtain ⟨rfl, hP, hK⟩ := hv
  have hx := B.exec
  have hb := B.bytes
  have hr := B.returns
  have hts := atoms_spec (ws := wsXP_readLong) B.pre
  have hown : s.vm.findClass "ParityArray" = some m.cls := findClass_of_methodNamed B.named
  have hlocks := B.notSynchronized
  have hS : va_S (fun _ => False) s.heap s.heap [] := va_S.rf
  have hl := lv_entry ([.ref (pz_ax a), .int (nI n0), .int (nI i0)]) (n := 5) (Nat.le_of_ble_eq_true rfl)
  rw [lg_entry_eq]
  generalize (lg_sl ([.ref (pz_ax a), .int (nI n0), .int (nI i0)]) ++ List.replicate (5 - (lg_sl ([.ref (pz_ax a), .int (nI n0), .int (nI i0)])).length) Slot.unset).toArray = ls at hl ⊢
  have hl : lv_has ls 5 [(0, .ref (pz_ax a)), (1, .int (nI n0)), (2, .int (nI i0))] := hl
  have hP : va_P (dC, dI) vwCl (pz_XW a cJ cD dk su bl pt py) s.heap := hP
  refine lv_iload_n hx hb dXP_readLong_0 rfl (lv_at hl 1 rfl) ?_
  refine va_calli (va_runS (As := [.int (nI n0)]) (rest := []) ⟨hx, hb, hml, hown, hts⟩ (c_XP_stripeOf l n0 hn0) (va_cwS 1 hts (pz_gc (List.mem_cons_of_mem _ tw_198) rfl (pz_gc (List.mem_cons_of_mem _ tw_199) rfl (pz_gc (List.mem_cons_of_mem _ tw_1) rfl (pz_gi tcXP_stripeOf)))) rfl rfl rfl (by decide +kernel) ⟨Nat.le_of_ble_eq_true rfl, Nat.le_of_ble_eq_true rfl⟩) pz_preS0 rfl rfl hl.1 rfl (lv_room (Nat.le_of_ble_eq_true rfl)) dXP_readLong_1 ⟨Nat.zero_le _, Nat.zero_le _⟩) hS (fun q _ h => h.elim) (fun q h => h.elim) (fun r u t H locs ht hvm hw _ hz hk9 hS => ?_)
  have hP := pz_keep hP hk9
  clear hk9 hz ht hvm
  subst hw
  refine lv_istore_n hx hb dXP_readLong_4 rfl hl (by decide) rfl (fun ls hl => ?_)
  have hl : lv_has ls 5 [(3, .int (nI (n0 / 4))), (0, .ref (pz_ax a)), (1, .int (nI n0)), (2, .int (nI i0))] := hl
  refine lv_iload_n hx hb dXP_readLong_5 rfl (lv_at hl 2 rfl) ?_
  refine va_calli (va_runS (As := [.int (nI n0)]) (rest := []) ⟨hx, hb, hml, hown, hts⟩ (c_XP_diskOf l n0 hn0) (va_cwS 1 hts (pz_gc (List.mem_cons_of_mem _ tw_201) rfl (pz_gc (List.mem_cons_of_mem _ tw_202) rfl (pz_gc (List.mem_cons_of_mem _ tw_1) rfl (pz_gi tcXP_diskOf)))) rfl rfl rfl (by decide +kernel) ⟨Nat.le_of_ble_eq_true rfl, Nat.le_of_ble_eq_true rfl⟩) pz_preS0 rfl rfl hl.1 rfl (lv_room (Nat.le_of_ble_eq_true rfl)) dXP_readLong_6 ⟨Nat.zero_le _, Nat.zero_le _⟩) hS (fun q _ h => h.elim) (fun q h => h.elim) (fun r u t H locs ht hvm hw _ hz hk9 hS => ?_)
  have hP := pz_keep hP hk9
  clear hk9 hz ht hvm
  subst hw
  refine lv_istore hx hb dXP_readLong_9 hl (by decide) rfl (fun ls hl => ?_)
  have hl : lv_has ls 5 [(4, .int (nI (pz_dn n0))), (3, .int (nI (n0 / 4))), (0, .ref (pz_ax a)), (1, .int (nI n0)), (2, .int (nI i0))] := hl
  refine lv_aload_n hx hb dXP_readLong_11 rfl (lv_at hl 2 rfl) ?_
  refine va_get (D := (dC, dI)) (ci := 2) (v := .ref (pz_ad a)) (C := "ParityArray") (T := TXP) (N := 5) hx hb hts (fun w h => List.mem_cons_of_mem _ (inXP w h)) hown hK hP 0 rfl rfl 0 (by decide) (hts _ (List.mem_cons_of_mem _ tw_80)) (fun _ h9 => h9) rfl dXP_readLong_12 ?_
  refine lv_iload hx hb dXP_readLong_15 (lv_at hl 0 rfl) ?_
  refine pz_ald hx hb hK hP 1 rfl (pz_dn_lt n0) dXP_readLong_17 ?_
  refine lv_iload_n hx hb dXP_readLong_18 rfl (lv_at hl 1 rfl) ?_
  refine va_calli (va_runV (As := [.int (nI (n0 / 4))]) (rest := []) ⟨hx, hb, hml, hown, hts⟩ (c_XD_isThere l dC dI _ _ _ cJ (dk (pz_dn n0)) (n0 / 4) (hth _ (pz_dn_lt n0)) (by omega)) (cwV 1 hts (pz_gc (List.mem_cons_of_mem _ tw_207) rfl (pz_gc (List.mem_cons_of_mem _ tw_208) rfl (pz_gc (List.mem_cons_of_mem _ tw_209) rfl (pz_gc (List.mem_cons_of_mem _ tw_3) rfl (pz_gi tcXD_isThere))))) rfl rfl rfl (by decide +kernel) ⟨Nat.le_of_ble_eq_true rfl, Nat.le_of_ble_eq_true rfl⟩) (pz_preV (va_recv hK (pz_Xd_P (d := (pz_dn n0)) (pz_dn_lt n0) hP) (q0 := 0) rfl rfl) (pz_Xd_P (d := (pz_dn n0)) (pz_dn_lt n0) hP) (hK.sub [0] rfl)) rfl rfl hl.1 rfl (lv_room (Nat.le_of_ble_eq_true rfl)) dXP_readLong_19 ⟨Nat.zero_le _, Nat.zero_le _⟩) hS (fun q _ h => h.elim) (fun q h => h.elim) (fun r u t H locs ht hvm hw _ hz hk9 hS => ?_)
  have hP := pz_keep hP hk9
  clear hk9 hz ht hvm
  subst hw
  refine lv_if_eq (tgt := 40) hx hb dXP_readLong_22 (by decide) (fun hc => ?_) (fun hc => ?_)
  · have hc : (decide (n0 / 4 < pz_th (dk (pz_dn n0)))) = false := pz_b0.mp hc
    have hc := of_decide_eq_false hc
    refine lv_aload_n hx hb dXP_readLong_40 rfl (lv_at hl 2 rfl) ?_
    refine lv_iload hx hb dXP_readLong_41 (lv_at hl 0 rfl) ?_
    refine lv_iload_n hx hb dXP_readLong_43 rfl (lv_at hl 1 rfl) ?_
    refine lv_iload_n hx hb dXP_readLong_44 rfl (lv_at hl 4 rfl) ?_
    refine va_calll (va_runV (As := [.int (nI (pz_dn n0)), .int (nI (n0 / 4)), .int (nI i0)]) (rest := []) ⟨hx, hb, hml, hown, hts⟩ (c_XP_othersTogether l dC dI a cJ cD dk su bl pt py (pz_dn n0) (n0 / 4) i0 hth (pz_dn_lt n0) (by omega) hi0) (cwV 3 hts (pz_gc (List.mem_cons_of_mem _ tw_215) rfl (pz_gc (List.mem_cons_of_mem _ tw_217) rfl (pz_gc (List.mem_cons_of_mem _ ts_2) rfl (pz_gc (List.mem_cons_of_mem _ tw_1) rfl (pz_gi tcXP_othersTogether))))) rfl rfl rfl (by decide +kernel) ⟨Nat.le_of_ble_eq_true rfl, Nat.le_of_ble_eq_true rfl⟩) (pz_preV (va_recv hK hP (q0 := 0) rfl rfl) hP hK) rfl rfl hl.1 rfl (lv_room (Nat.le_of_ble_eq_true rfl)) dXP_readLong_45 ⟨Nat.zero_le _, Nat.zero_le _⟩) hS (fun q _ h => h.elim) (fun q h => h.elim) (fun r u t H locs ht hvm hw _ hz hk9 hS => ?_)
    have hP := pz_keep hP hk9
    clear hk9 hz ht hvm
    subst hw
    exact W.lret (v := pz_oth (fun e => pz_R (dk e) (16 * (n0 / 4) + i0)) (pz_dn n0) 5) hx hb hr (fun t ht hW => ⟨⟨_, (), rfl, by unfold pz_rl; rw [if_neg hc], trivial⟩, hS.F ht⟩) hS.2.2 dXP_readLong_48
  · have hc : (decide (n0 / 4 < pz_th (dk (pz_dn n0)))) = true := pz_bn hc
    have hc := of_decide_eq_true hc
    refine lv_aload_n hx hb dXP_readLong_25 rfl (lv_at hl 2 rfl) ?_
    refine va_get (D := (dC, dI)) (ci := 2) (v := .ref (pz_ad a)) (C := "ParityArray") (T := TXP) (N := 5) hx hb hts (fun w h => List.mem_cons_of_mem _ (inXP w h)) hown hK hP 0 rfl rfl 0 (by decide) (hts _ (List.mem_cons_of_mem _ tw_80)) (fun _ h9 => h9) rfl dXP_readLong_26 ?_
    refine lv_iload hx hb dXP_readLong_29 (lv_at hl 0 rfl) ?_
    refine pz_ald hx hb hK hP 1 rfl (pz_dn_lt n0) dXP_readLong_31 ?_
    refine lv_iload_n hx hb dXP_readLong_32 rfl (lv_at hl 1 rfl) ?_
    refine lv_iload_n hx hb dXP_readLong_33 rfl (lv_at hl 4 rfl) ?_
    refine va_calll (va_runV (As := [.int (nI (n0 / 4)), .int (nI i0)]) (rest := []) ⟨hx, hb, hml, hown, hts⟩ (c_XD_longAt l dC dI _ _ _ cJ (dk (pz_dn n0)) (n0 / 4) i0 (by omega) hi0) (cwV 2 hts (pz_gc (List.mem_cons_of_mem _ tw_211) rfl (pz_gc (List.mem_cons_of_mem _ tw_212) rfl (pz_gc (List.mem_cons_of_mem _ tw_213) rfl (pz_gc (List.mem_cons_of_mem _ tw_3) rfl (pz_gi tcXD_longAt))))) rfl rfl rfl (by decide +kernel) ⟨Nat.le_of_ble_eq_true rfl, Nat.le_of_ble_eq_true rfl⟩) (pz_preV (va_recv hK (pz_Xd_P (d := (pz_dn n0)) (pz_dn_lt n0) hP) (q0 := 0) rfl rfl) (pz_Xd_P (d := (pz_dn n0)) (pz_dn_lt n0) hP) (hK.sub [0] rfl)) rfl rfl hl.1 rfl (lv_room (Nat.le_of_ble_eq_true rfl)) dXP_readLong_34 ⟨Nat.zero_le _, Nat.zero_le _⟩) hS (fun q _ h => h.elim) (fun q h => h.elim) (fun r u t H locs ht hvm hw _ hz hk9 hS => ?_)
    have hP := pz_keep hP hk9
    clear hk9 hz ht hvm
    subst hw
    refine lv_goto (tgt := 48) hx hb dXP_readLong_37 (by decide) ?_
    exact W.lret (v := pz_R (dk (pz_dn n0)) (16 * (n0 / 4) + i0)) hx hb hr (fun t ht hW => ⟨⟨_, (), rfl, by unfold pz_rl; rw [if_pos hc], trivial⟩, hS.F ht⟩) hS.2.2 dXP_readLong_48
end
section
/-! ParityArray: what writes (laid by a program) -/
theorem pz_seq {p : Program} {l : Launch} {e : Env} {R : Room} {s : State} {m : MethodId} {args : Array Value} {below : List Frame} {meth : Method} {c : Code} {H : Heap} {locs : List Loc} {cells slots : Nat} {Q : State → Prop} {g : JFrame} (pc : Nat) (st : List Value) (c2 s2 : Nat) (I : Array Slot → Heap → List Loc → Prop)
    (h1 : (∀ (ls : Array Slot) (H : Heap) (locs : List Loc), I ls H locs → W p l e R s m args below meth c H locs c2 s2 Q (F0 m pc ls st)) → W p l e R s m args below meth c H locs cells slots Q g)
    (h2 : ∀ (ls : Array Slot) (H : Heap) (locs : List Loc), I ls H locs → W p l e R s m args below meth c H locs c2 s2 Q (F0 m pc ls st)) : W p l e R s m args below meth c H locs cells slots Q g := h1 h2
theorem pz_let_wc (k : Nat) (x : pz_Su) : pz_wc (pz_let k x).2 ≤ pz_wc x + 1 := by
  unfold pz_let
  split
  · exact Nat.le_succ _
  · split
    · exact Nat.le_succ _
    · exact Nat.le_refl _
theorem pz_let_le (k : Nat) (x : pz_Su) : (pz_let k x).1 ≤ k := by
  unfold pz_let
  split
  · exact Nat.zero_le _
  · split
    · exact Nat.min_le_right _ _
    · exact Nat.le_refl _
set_option maxHeartbeats 4000000 in
set_option maxRecDepth 100000 in
/-- the three rows that a set writes -/
theorem c_XP_prepareRows (l : Launch) (dC : Nat → ClassId) (dI : Nat → Nat → Nat) (sz : Nat) (a : pz_Ad) (cJ cD : ClassId) (dk : Nat → pz_Dk) (su : pz_Su) (bl pt py : Nat → Int64) (n0 i0 : Nat) (w0 : Int64) (hth : ∀ d, d < 5 → pz_th (dk d) ≤ 150) (hn0 : n0 < 600) (hi0 : i0 < 16) : Met l yXP_prepareRows wsXP_prepareRows ({ frames := 3, cells := 0, slots := 0, locals := 72 }) (va_Pc [.ref (pz_ax a), .int (nI n0), .int (nI i0), .long w0] (fun U => U.heap.size = sz ∧ va_P (dC, dI) vwCl (pz_XW a cJ cD dk su bl pt py) U.heap ∧ va_K (dC, dI) vwCl [(cJ, .long), (cD, .object "ParityArray$Disk")] U ∧ va_D (fun _ => True) (pz_XW a cJ cD dk su bl pt py))) (va_Qv (fun (u : (Nat → Int64) × (Nat → Int64) × (Nat → Int64)) => (∀ j, j < 16 → u.1 j = if j = i0 then w0 else pz_rl dk n0 j) ∧ (∀ j, j < 16 → u.2.1 j = pz_R (dk (n0 / 4 % 5)) (16 * (n0 / 4) + j) ^^^ pz_rl dk n0 j) ∧ ∀ j, j < 16 → u.2.2 j = u.2.1 j ^^^ u.1 j) (fun u t => va_P (dC, dI) vwCl (pz_XW a cJ cD dk su u.1 u.2.1 u.2.2) t.heap ∧ va_K (dC, dI) vwCl [(cJ, .long), (cD, .object "ParityArray$Disk")] t ∧ va_D (va_A (pz_XW a cJ cD dk su bl pt py) sz) (pz_XW a cJ cD dk su u.1 u.2.1 u.2.2)) (va_A (pz_XW a cJ cD dk su bl pt py) sz)) 0 0 (va_A (pz_XW a cJ cD dk su bl pt py) sz) := by
  refine Met.ofW (cc := cXP_prepareRows) (maxL := 8) (ret := none) (by decide) rfl ?_
  intro p e s m args below meth c s₁ B hml hv
  obtain ⟨rfl, hsz, hP, hK, hD0⟩ := hv
  have hx := B.exec
  have hb := B.bytes
  have hr := B.returns
  have hts := atoms_spec (ws := wsXP_prepareRows) B.pre
  have hown : s.vm.findClass "ParityArray" = some m.cls := findClass_of_methodNamed B.named
  have hlocks := B.notSynchronized
  subst hsz
  have hD := hD0.self (sz := s.heap.size)
  generalize hAe : va_A (pz_XW a cJ cD dk su bl pt py) s.heap.size = A at hD ⊢
  have hA : ∀ q : Nat, s.heap.size ≤ q → A q := fun q h => by rw [← hAe]; exact Or.inr h
  have hS : va_S A s.heap s.heap [] := va_S.rf
  have hl := lv_entry ([.ref (pz_ax a), .int (nI n0), .int (nI i0), .long w0]) (n := 8) (Nat.le_of_ble_eq_true rfl)
  rw [lg_entry_eq]
  generalize (lg_sl ([.ref (pz_ax a), .int (nI n0), .int (nI i0), .long w0]) ++ List.replicate (8 - (lg_sl ([.ref (pz_ax a), .int (nI n0), .int (nI i0), .long w0])).length) Slot.unset).toArray = ls at hl ⊢
  have hl : lv_has ls 8 [(0, .ref (pz_ax a)), (1, .int (nI n0)), (2, .int (nI i0)), (3, .long w0)] := hl
  have hP : va_P (dC, dI) vwCl (pz_XW a cJ cD dk su bl pt py) s.heap := hP
  have hD : va_D A (pz_XW a cJ cD dk su bl pt py) := hD
  refine lv_iload_n hx hb dXP_prepareRows_0 rfl (lv_at hl 1 rfl) ?_
  refine va_calli (va_runS (As := [.int (nI n0)]) (rest := []) ⟨hx, hb, hml, hown, hts⟩ (c_XP_stripeOf l n0 hn0) (va_cwS 1 hts (pz_gc (List.mem_cons_of_mem _ tw_198) rfl (pz_gc (List.mem_cons_of_mem _ tw_199) rfl (pz_gc (List.mem_cons_of_mem _ tw_1) rfl (pz_gi tcXP_stripeOf)))) rfl rfl rfl (by decide +kernel) ⟨Nat.le_of_ble_eq_true rfl, Nat.le_of_ble_eq_true rfl⟩) pz_preS0 rfl rfl hl.1 rfl (lv_room (Nat.le_of_ble_eq_true rfl)) dXP_prepareRows_1 ⟨Nat.zero_le _, Nat.zero_le _⟩) hS (fun q _ h => h.elim) (fun q h => h.elim) (fun r u t H locs ht hvm hw _ hz hk9 hS => ?_)
  have hP := pz_keep hP hk9
  clear hk9 hz ht hvm
  subst hw
  refine lv_istore hx hb dXP_prepareRows_4 hl (by decide) rfl (fun ls hl => ?_)
  have hl : lv_has ls 8 [(5, .int (nI (n0 / 4))), (0, .ref (pz_ax a)), (1, .int (nI n0)), (2, .int (nI i0)), (3, .long w0)] := hl
  refine lv_aload_n hx hb dXP_prepareRows_6 rfl (lv_at hl 1 rfl) ?_
  refine va_get (D := (dC, dI)) (ci := 2) (v := .ref (pz_ad a)) (C := "ParityArray") (T := TXP) (N := 5) hx hb hts (fun w h => List.mem_cons_of_mem _ (inXP w h)) hown hK hP 0 rfl rfl 0 (by decide) (hts _ (List.mem_cons_of_mem _ tw_80)) (fun _ h9 => h9) rfl dXP_prepareRows_7 ?_
  refine lv_iload hx hb dXP_prepareRows_10 (lv_at hl 0 rfl) ?_
  refine va_calli (va_runS (As := [.int (nI (n0 / 4))]) (rest := [.ref (pz_ad a)]) ⟨hx, hb, hml, hown, hts⟩ (c_XP_parityDiskOf l (n0 / 4) (by omega)) (va_cwS 1 hts (pz_gc (List.mem_cons_of_mem _ tw_204) rfl (pz_gc (List.mem_cons_of_mem _ tw_205) rfl (pz_gc (List.mem_cons_of_mem _ tw_1) rfl (pz_gi tcXP_parityDiskOf)))) rfl rfl rfl (by decide +kernel) ⟨Nat.le_of_ble_eq_true rfl, Nat.le_of_ble_eq_true rfl⟩) pz_preS0 rfl rfl hl.1 rfl (lv_room (Nat.le_of_ble_eq_true rfl)) dXP_prepareRows_12 ⟨Nat.zero_le _, Nat.zero_le _⟩) hS (fun q _ h => h.elim) (fun q h => h.elim) (fun r u t H locs ht hvm hw _ hz hk9 hS => ?_)
  have hP := pz_keep hP hk9
  clear hk9 hz ht hvm
  subst hw
  refine pz_ald hx hb hK hP 1 rfl (by omega : n0 / 4 % 5 < 5) dXP_prepareRows_15 ?_
  refine lv_astore hx hb dXP_prepareRows_16 hl (by decide) rfl (fun ls hl => ?_)
  have hl : lv_has ls 8 [(6, .ref ((pz_da a (n0 / 4 % 5)).1)), (5, .int (nI (n0 / 4))), (0, .ref (pz_ax a)), (1, .int (nI n0)), (2, .int (nI i0)), (3, .long w0)] := hl
  refine lv_iconst (v := nI 0) hx hb dXP_prepareRows_18 (by decide) ?_
  refine lv_istore hx hb dXP_prepareRows_19 hl (by decide) rfl (fun ls hl => ?_)
  have hl : lv_has ls 8 [(7, .int (nI 0)), (6, .ref ((pz_da a (n0 / 4 % 5)).1)), (5, .int (nI (n0 / 4))), (0, .ref (pz_ax a)), (1, .int (nI n0)), (2, .int (nI i0)), (3, .long w0)] := hl
  refine pz_loop (fun _ => 0) (fun _ => 0) 16 (fun k ls H locs => ∃ bl1 pt1 : Nat → Int64, lv_has ls 8 [(7, .int (nI k)), (6, .ref ((pz_da a (n0 / 4 % 5)).1)), (5, .int (nI (n0 / 4))), (0, .ref (pz_ax a)), (1, .int (nI n0)), (2, .int (nI i0)), (3, .long w0)] ∧ va_P (dC, dI) vwCl (pz_XW a cJ cD dk su bl1 pt1 py) H ∧ va_D A (pz_XW a cJ cD dk su bl1 pt1 py) ∧ va_S A s.heap H locs ∧ (∀ j, j < k → bl1 j = pz_rl dk n0 j ∧ pt1 j = pz_R (dk (n0 / 4 % 5)) (16 * (n0 / 4) + j) ^^^ pz_rl dk n0 j)) ?_ ?_ 16 0 (by omega) _ _ _ ⟨bl, pt, hl, hP, hD, hS, fun j h9 => absurd h9 (Nat.not_lt_zero _)⟩
  · intro k ls H locs hk hI ih
    obtain ⟨bl1, pt1, hl, hP, hD, hS, hq1⟩ := hI
    refine lv_iload hx hb dXP_prepareRows_21 (lv_at hl 0 rfl) ?_
    refine lv_bipush (v := nI 16) hx hb dXP_prepareRows_23 (by decide) ?_
    refine lv_icmp_ge (tgt := 72) hx hb dXP_prepareRows_25 (by decide) (fun hc => absurd hc (nI_ge hk (by decide))) (fun _ => ?_)
    refine lv_aload_n hx hb dXP_prepareRows_28 rfl (lv_at hl 3 rfl) ?_
    refine va_get (D := (dC, dI)) (ci := 2) (v := .ref (pz_ab a)) (C := "ParityArray") (T := TXP) (N := 5) hx hb hts (fun w h => List.mem_cons_of_mem _ (inXP w h)) hown hK hP 0 rfl rfl 2 (by decide) (hts _ (List.mem_cons_of_mem _ tw_82)) (fun _ h9 => h9) rfl dXP_prepareRows_29 ?_
    refine lv_iload hx hb dXP_prepareRows_32 (lv_at hl 0 rfl) ?_
    refine lv_aload_n hx hb dXP_prepareRows_34 rfl (lv_at hl 3 rfl) ?_
    refine lv_iload_n hx hb dXP_prepareRows_35 rfl (lv_at hl 4 rfl) ?_
    refine lv_iload hx hb dXP_prepareRows_36 (lv_at hl 0 rfl) ?_
    refine va_calll (va_runV (As := [.int (nI n0), .int (nI k)]) (rest := [.int (nI k), .ref (pz_ab a)]) ⟨hx, hb, hml, hown, hts⟩ (c_XP_readLong l dC dI a cJ cD dk su bl1 pt1 py n0 k hth hn0 hk) (cwV 2 hts (pz_gc (List.mem_cons_of_mem _ tw_194) rfl (pz_gc (List.mem_cons_of_mem _ tw_196) rfl (pz_gc (List.mem_cons_of_mem _ ts_1) rfl (pz_gc (List.mem_cons_of_mem _ tw_1) rfl (pz_gi tcXP_readLong))))) rfl rfl rfl (by decide +kernel) ⟨Nat.le_of_ble_eq_true rfl, Nat.le_of_ble_eq_true rfl⟩) (pz_preV (va_recv hK hP (q0 := 0) rfl rfl) hP hK) rfl rfl hl.1 rfl (lv_room (Nat.le_of_ble_eq_true rfl)) dXP_prepareRows_38 ⟨Nat.zero_le _, Nat.zero_le _⟩) hS (fun q _ h => h.elim) (fun q h => h.elim) (fun r u t H locs ht hvm hw _ hz hk9 hS => ?_)
    have hP := pz_keep hP hk9
    clear hk9 hz ht hvm
    subst hw
    refine va_last hx hb hK hP hD hS 3 0 rfl rfl (vp_in_nI (by omega) (by decide)) dXP_prepareRows_41 (fun H locs hP hD hS => ?_)
    rw [nI_clamp (show k < 2 ^ 31 by omega)] at hP hD
    have hP : va_P (dC, dI) vwCl (pz_XW a cJ cD dk su (vp_updL bl1 k (pz_rl dk n0 k)) pt1 py) H := hP
    have hD : va_D A (pz_XW a cJ cD dk su (vp_updL bl1 k (pz_rl dk n0 k)) pt1 py) := hD
    refine lv_aload_n hx hb dXP_prepareRows_42 rfl (lv_at hl 3 rfl) ?_
    refine va_get (D := (dC, dI)) (ci := 2) (v := .ref (pz_ap a)) (C := "ParityArray") (T := TXP) (N := 5) hx hb hts (fun w h => List.mem_cons_of_mem _ (inXP w h)) hown hK hP 0 rfl rfl 3 (by decide) (hts _ (List.mem_cons_of_mem _ tw_83)) (fun _ h9 => h9) rfl dXP_prepareRows_43 ?_
    refine lv_iload hx hb dXP_prepareRows_46 (lv_at hl 0 rfl) ?_
    refine lv_aload hx hb dXP_prepareRows_48 (lv_at hl 1 rfl) ?_
    refine lv_iload hx hb dXP_prepareRows_50 (lv_at hl 2 rfl) ?_
    refine lv_iload hx hb dXP_prepareRows_52 (lv_at hl 0 rfl) ?_
    refine va_calll (va_runV (As := [.int (nI (n0 / 4)), .int (nI k)]) (rest := [.int (nI k), .ref (pz_ap a)]) ⟨hx, hb, hml, hown, hts⟩ (c_XD_longAt l dC dI _ _ _ cJ (dk (n0 / 4 % 5)) (n0 / 4) k (by omega) hk) (cwV 2 hts (pz_gc (List.mem_cons_of_mem _ tw_211) rfl (pz_gc (List.mem_cons_of_mem _ tw_212) rfl (pz_gc (List.mem_cons_of_mem _ tw_213) rfl (pz_gc (List.mem_cons_of_mem _ tw_3) rfl (pz_gi tcXD_longAt))))) rfl rfl rfl (by decide +kernel) ⟨Nat.le_of_ble_eq_true rfl, Nat.le_of_ble_eq_true rfl⟩) (pz_preV (va_recv hK (pz_Xd_P (d := (n0 / 4 % 5)) (show n0 / 4 % 5 < 5 by omega) hP) (q0 := 0) rfl rfl) (pz_Xd_P (d := (n0 / 4 % 5)) (show n0 / 4 % 5 < 5 by omega) hP) (hK.sub [0] rfl)) rfl rfl hl.1 rfl (lv_room (Nat.le_of_ble_eq_true rfl)) dXP_prepareRows_54 ⟨Nat.zero_le _, Nat.zero_le _⟩) hS (fun q _ h => h.elim) (fun q h => h.elim) (fun r u t H locs ht hvm hw _ hz hk9 hS => ?_)
    have hP := pz_keep hP hk9
    clear hk9 hz ht hvm
    subst hw
    refine lv_aload_n hx hb dXP_prepareRows_57 rfl (lv_at hl 3 rfl) ?_
    refine va_get (D := (dC, dI)) (ci := 2) (v := .ref (pz_ab a)) (C := "ParityArray") (T := TXP) (N := 5) hx hb hts (fun w h => List.mem_cons_of_mem _ (inXP w h)) hown hK hP 0 rfl rfl 2 (by decide) (hts _ (List.mem_cons_of_mem _ tw_82)) (fun _ h9 => h9) rfl dXP_prepareRows_58 ?_
    refine lv_iload hx hb dXP_prepareRows_61 (lv_at hl 0 rfl) ?_
    refine va_lald hx hb hK hP 3 0 rfl rfl (vp_in_nI (by omega) (by decide)) dXP_prepareRows_63 ?_
    refine lv_topl (nm_r (congrArg (vp_updL bl1 k (pz_rl dk n0 k)) (nI_clamp (by omega))) ?_)
    refine lv_topl (nm_r (pk_uLs) ?_)
    refine lv_lxor hx hb dXP_prepareRows_64 ?_
    refine va_last hx hb hK hP hD hS 4 0 rfl rfl (vp_in_nI (by omega) (by decide)) dXP_prepareRows_65 (fun H locs hP hD hS => ?_)
    rw [nI_clamp (show k < 2 ^ 31 by omega)] at hP hD
    have hP : va_P (dC, dI) vwCl (pz_XW a cJ cD dk su (vp_updL bl1 k (pz_rl dk n0 k)) (vp_updL pt1 k ((pz_R (dk (n0 / 4 % 5)) (16 * (n0 / 4) + k)) ^^^ (pz_rl dk n0 k))) py) H := hP
    have hD : va_D A (pz_XW a cJ cD dk su (vp_updL bl1 k (pz_rl dk n0 k)) (vp_updL pt1 k ((pz_R (dk (n0 / 4 % 5)) (16 * (n0 / 4) + k)) ^^^ (pz_rl dk n0 k))) py) := hD
    refine lv_iinc (k := 0) (v := nI (k + 1)) hx hb dXP_prepareRows_66 hl rfl (by rw [nI_succ]; rfl) (by decide) rfl (fun ls hl => ?_)
    have hl : lv_has ls 8 [(7, .int (nI (k + 1))), (6, .ref ((pz_da a (n0 / 4 % 5)).1)), (5, .int (nI (n0 / 4))), (0, .ref (pz_ax a)), (1, .int (nI n0)), (2, .int (nI i0)), (3, .long w0)] := hl
    refine lv_goto (tgt := 21) hx hb dXP_prepareRows_69 (by decide) ?_
    exact ih _ _ _ ⟨_, _, hl, hP, hD, hS, fun j h9 => by
      by_cases e9 : j = k
      · subst e9; exact ⟨pk_uLs, pk_uLs⟩
      · rw [pk_uLn e9, pk_uLn e9]; exact hq1 j (by omega)⟩
  · intro ls H locs hI
    obtain ⟨bl1, pt1, hl, hP, hD, hS, hq1⟩ := hI
    refine lv_iload hx hb dXP_prepareRows_21 (lv_at hl 0 rfl) ?_
    refine lv_bipush (v := nI 16) hx hb dXP_prepareRows_23 (by decide) ?_
    refine lv_icmp_ge (tgt := 72) hx hb dXP_prepareRows_25 (by decide) (fun _ => ?_) (fun hc => absurd hc (fun h9 => h9 (nI_le (Nat.le_refl 16) (by decide))))
    refine lv_aload_n hx hb dXP_prepareRows_72 rfl (lv_at hl 3 rfl) ?_
    refine va_get (D := (dC, dI)) (ci := 2) (v := .ref (pz_ab a)) (C := "ParityArray") (T := TXP) (N := 5) hx hb hts (fun w h => List.mem_cons_of_mem _ (inXP w h)) hown hK hP 0 rfl rfl 2 (by decide) (hts _ (List.mem_cons_of_mem _ tw_82)) (fun _ h9 => h9) rfl dXP_prepareRows_73 ?_
    refine lv_iload_n hx hb dXP_prepareRows_76 rfl (lv_at hl 5 rfl) ?_
    refine lv_lload_n hx hb dXP_prepareRows_77 rfl (lv_at hl 6 rfl) ?_
    refine va_last hx hb hK hP hD hS 3 0 rfl rfl (vp_in_nI (by omega) (by decide)) dXP_prepareRows_78 (fun H locs hP hD hS => ?_)
    rw [nI_clamp (show i0 < 2 ^ 31 by omega)] at hP hD
    have hP : va_P (dC, dI) vwCl (pz_XW a cJ cD dk su (vp_updL bl1 i0 w0) pt1 py) H := hP
    have hD : va_D A (pz_XW a cJ cD dk su (vp_updL bl1 i0 w0) pt1 py) := hD
    refine lv_iconst (v := nI 0) hx hb dXP_prepareRows_79 (by decide) ?_
    refine lv_istore hx hb dXP_prepareRows_80 hl (by decide) rfl (fun ls hl => ?_)
    have hl : lv_has ls 8 [(7, .int (nI 0)), (6, .ref ((pz_da a (n0 / 4 % 5)).1)), (5, .int (nI (n0 / 4))), (0, .ref (pz_ax a)), (1, .int (nI n0)), (2, .int (nI i0)), (3, .long w0)] := hl
    refine pz_loop (fun _ => 0) (fun _ => 0) 16 (fun k ls H locs => ∃ py1 : Nat → Int64, lv_has ls 8 [(7, .int (nI k)), (6, .ref ((pz_da a (n0 / 4 % 5)).1)), (5, .int (nI (n0 / 4))), (0, .ref (pz_ax a)), (1, .int (nI n0)), (2, .int (nI i0)), (3, .long w0)] ∧ va_P (dC, dI) vwCl (pz_XW a cJ cD dk su (vp_updL bl1 i0 w0) pt1 py1) H ∧ va_D A (pz_XW a cJ cD dk su (vp_updL bl1 i0 w0) pt1 py1) ∧ va_S A s.heap H locs ∧ ∀ j, j < k → py1 j = pt1 j ^^^ vp_updL bl1 i0 w0 j) ?_ ?_ 16 0 (by omega) _ _ _ ⟨py, hl, hP, hD, hS, fun j h9 => absurd h9 (Nat.not_lt_zero _)⟩
    · intro k ls H locs hk hI ih
      obtain ⟨py1, hl, hP, hD, hS, hq2⟩ := hI
      refine lv_iload hx hb dXP_prepareRows_82 (lv_at hl 0 rfl) ?_
      refine lv_bipush (v := nI 16) hx hb dXP_prepareRows_84 (by decide) ?_
      refine lv_icmp_ge (tgt := 117) hx hb dXP_prepareRows_86 (by decide) (fun hc => absurd hc (nI_ge hk (by decide))) (fun _ => ?_)
      refine lv_aload_n hx hb dXP_prepareRows_89 rfl (lv_at hl 3 rfl) ?_
      refine va_get (D := (dC, dI)) (ci := 2) (v := .ref (pz_ay a)) (C := "ParityArray") (T := TXP) (N := 5) hx hb hts (fun w h => List.mem_cons_of_mem _ (inXP w h)) hown hK hP 0 rfl rfl 4 (by decide) (hts _ (List.mem_cons_of_mem _ tw_84)) (fun _ h9 => h9) rfl dXP_prepareRows_90 ?_
      refine lv_iload hx hb dXP_prepareRows_93 (lv_at hl 0 rfl) ?_
      refine lv_aload_n hx hb dXP_prepareRows_95 rfl (lv_at hl 3 rfl) ?_
      refine va_get (D := (dC, dI)) (ci := 2) (v := .ref (pz_ap a)) (C := "ParityArray") (T := TXP) (N := 5) hx hb hts (fun w h => List.mem_cons_of_mem _ (inXP w h)) hown hK hP 0 rfl rfl 3 (by decide) (hts _ (List.mem_cons_of_mem _ tw_83)) (fun _ h9 => h9) rfl dXP_prepareRows_96 ?_
      refine lv_iload hx hb dXP_prepareRows_99 (lv_at hl 0 rfl) ?_
      refine va_lald hx hb hK hP 4 0 rfl rfl (vp_in_nI (by omega) (by decide)) dXP_prepareRows_101 ?_
      refine lv_topl (nm_r (congrArg pt1 (nI_clamp (by omega))) ?_)
      refine lv_aload_n hx hb dXP_prepareRows_102 rfl (lv_at hl 3 rfl) ?_
      refine va_get (D := (dC, dI)) (ci := 2) (v := .ref (pz_ab a)) (C := "ParityArray") (T := TXP) (N := 5) hx hb hts (fun w h => List.mem_cons_of_mem _ (inXP w h)) hown hK hP 0 rfl rfl 2 (by decide) (hts _ (List.mem_cons_of_mem _ tw_82)) (fun _ h9 => h9) rfl dXP_prepareRows_103 ?_
      refine lv_iload hx hb dXP_prepareRows_106 (lv_at hl 0 rfl) ?_
      refine va_lald hx hb hK hP 3 0 rfl rfl (vp_in_nI (by omega) (by decide)) dXP_prepareRows_108 ?_
      refine lv_topl (nm_r (congrArg (vp_updL bl1 i0 w0) (nI_clamp (by omega))) ?_)
      refine lv_lxor hx hb dXP_prepareRows_109 ?_
      refine va_last hx hb hK hP hD hS 5 0 rfl rfl (vp_in_nI (by omega) (by decide)) dXP_prepareRows_110 (fun H locs hP hD hS => ?_)
      rw [nI_clamp (show k < 2 ^ 31 by omega)] at hP hD
      have hP : va_P (dC, dI) vwCl (pz_XW a cJ cD dk su (vp_updL bl1 i0 w0) pt1 (vp_updL py1 k ((pt1 k) ^^^ ((vp_updL bl1 i0 w0) k)))) H := hP
      have hD : va_D A (pz_XW a cJ cD dk su (vp_updL bl1 i0 w0) pt1 (vp_updL py1 k ((pt1 k) ^^^ ((vp_updL bl1 i0 w0) k)))) := hD
      refine lv_iinc (k := 0) (v := nI (k + 1)) hx hb dXP_prepareRows_111 hl rfl (by rw [nI_succ]; rfl) (by decide) rfl (fun ls hl => ?_)
      have hl : lv_has ls 8 [(7, .int (nI (k + 1))), (6, .ref ((pz_da a (n0 / 4 % 5)).1)), (5, .int (nI (n0 / 4))), (0, .ref (pz_ax a)), (1, .int (nI n0)), (2, .int (nI i0)), (3, .long w0)] := hl
      refine lv_goto (tgt := 82) hx hb dXP_prepareRows_114 (by decide) ?_
      exact ih _ _ _ ⟨_, hl, hP, hD, hS, fun j h9 => by
        by_cases e9 : j = k
        · subst e9; exact pk_uLs
        · rw [pk_uLn e9]; exact hq2 j (by omega)⟩
    · intro ls H locs hI
      obtain ⟨py1, hl, hP, hD, hS, hq2⟩ := hI
      refine lv_iload hx hb dXP_prepareRows_82 (lv_at hl 0 rfl) ?_
      refine lv_bipush (v := nI 16) hx hb dXP_prepareRows_84 (by decide) ?_
      refine lv_icmp_ge (tgt := 117) hx hb dXP_prepareRows_86 (by decide) (fun _ => ?_) (fun hc => absurd hc (fun h9 => h9 (nI_le (Nat.le_refl 16) (by decide))))
      exact W.vret hx hb hr (fun t ht hW => ⟨⟨(vp_updL bl1 i0 w0, pt1, py1), rfl, ⟨fun j h9 => by
          by_cases e9 : j = i0
          · subst e9; rw [if_pos rfl]; exact pk_uLs
          · rw [if_neg e9]; exact (pk_uLn e9).trans (hq1 j h9).1, fun j h9 => (hq1 j h9).2, fun j h9 => hq2 j h9⟩, by rw [ht]; exact hP, va_K.moved hW.alike hK, hAe ▸ hD⟩, hS.F ht⟩) hS.2.2 dXP_prepareRows_117

theorem pz_w1_th (dk : Nat → pz_Dk) (su : pz_Su) (pt : Nat → Int64) (n d : Nat) : pz_th ((pz_w1 dk su pt n).1 d) = pz_th (dk d) := by
  unfold pz_w1
  split
  · dsimp only
    by_cases e : d = n / 4 % 5
    · subst e; rw [pz_up_s]; exact pz_drec_th _ _ _ _
    · rw [pz_up_n _ _ e]
  · rfl
theorem pz_w2_th (x : (Nat → pz_Dk) × pz_Su) (bl : Nat → Int64) (n d : Nat) : pz_th ((pz_w2 x bl n).1 d) = pz_th (x.1 d) := by
  unfold pz_w2
  split
  · dsimp only
    by_cases e : d = pz_dn n
    · subst e; rw [pz_up_s]; rfl
    · rw [pz_up_n _ _ e]
  · rfl
theorem pz_w1_su (dk : Nat → pz_Dk) (su : pz_Su) (pt : Nat → Int64) (n : Nat) : pz_cw (pz_w1 dk su pt n).2 = pz_cw su ∧ pz_cb (pz_w1 dk su pt n).2 = pz_cb su ∧ pz_wc (pz_w1 dk su pt n).2 ≤ pz_wc su + 1 := by
  unfold pz_w1
  split
  · exact ⟨(pz_let_keep 136 su).2.2.1, (pz_let_keep 136 su).2.2.2.1, pz_let_wc 136 su⟩
  · exact ⟨rfl, rfl, Nat.le_succ _⟩
theorem pz_w2_su (x : (Nat → pz_Dk) × pz_Su) (bl : Nat → Int64) (n : Nat) : pz_cw (pz_w2 x bl n).2 = pz_cw x.2 ∧ pz_cb (pz_w2 x bl n).2 = pz_cb x.2 ∧ pz_wc (pz_w2 x bl n).2 ≤ pz_wc x.2 + 1 := by
  unfold pz_w2
  split
  · exact ⟨(pz_let_keep 128 x.2).2.2.1, (pz_let_keep 128 x.2).2.2.2.1, pz_let_wc 128 x.2⟩
  · exact ⟨rfl, rfl, Nat.le_succ _⟩
set_option maxHeartbeats 4000000 in
set_option maxRecDepth 100000 in
/-- the writes of a set -/
theorem c_XP_writeRows (l : Launch) (dC : Nat → ClassId) (dI : Nat → Nat → Nat) (sz : Nat) (a : pz_Ad) (cJ cD : ClassId) (dk : Nat → pz_Dk) (su : pz_Su) (bl pt py : Nat → Int64) (n0 : Nat) (hth : ∀ d, d < 5 → pz_th (dk d) ≤ 150) (hcw : pz_cw su ≤ 10) (hcb : pz_cb su ≤ 200) (hwc : pz_wc su < 50) (hn0 : n0 < 600) : Met l yXP_writeRows wsXP_writeRows ({ frames := 2, cells := 0, slots := 0, locals := 108 }) (va_Pc [.ref (pz_ax a), .int (nI n0)] (fun U => U.heap.size = sz ∧ va_P (dC, dI) vwCl (pz_XW a cJ cD dk su bl pt py) U.heap ∧ va_K (dC, dI) vwCl [(cJ, .long), (cD, .object "ParityArray$Disk")] U ∧ va_D (fun _ => True) (pz_XW a cJ cD dk su bl pt py))) (va_Qv (fun (u : (Nat → pz_Dk) × pz_Su) => u = pz_wrs dk su bl pt py n0) (fun u t => va_P (dC, dI) vwCl (pz_XW a cJ cD u.1 u.2 bl pt py) t.heap ∧ va_K (dC, dI) vwCl [(cJ, .long), (cD, .object "ParityArray$Disk")] t ∧ va_D (va_A (pz_XW a cJ cD dk su bl pt py) sz) (pz_XW a cJ cD u.1 u.2 bl pt py)) (va_A (pz_XW a cJ cD dk su bl pt py) sz)) 0 0 (va_A (pz_XW a cJ cD dk su bl pt py) sz) := by
  refine Met.ofW (cc := cXP_writeRows) (maxL := 5) (ret := none) (by decide) rfl ?_
  intro p e s m args below meth c s₁ B hml hv
  obtain ⟨rfl, hsz, hP, hK, hD0⟩ := hv
  have hx := B.exec
  have hb := B.bytes
  have hr := B.returns
  have hts := atoms_spec (ws := wsXP_writeRows) B.pre
  have hown : s.vm.findClass "ParityArray" = some m.cls := findClass_of_methodNamed B.named
  have hlocks := B.notSynchronized
  subst hsz
  have hD := hD0.self (sz := s.heap.size)
  generalize hAe : va_A (pz_XW a cJ cD dk su bl pt py) s.heap.size = A at hD ⊢
  have hA : ∀ q : Nat, s.heap.size ≤ q → A q := fun q h => by rw [← hAe]; exact Or.inr h
  have hS : va_S A s.heap s.heap [] := va_S.rf
  have hl := lv_entry ([.ref (pz_ax a), .int (nI n0)]) (n := 5) (Nat.le_of_ble_eq_true rfl)
  rw [lg_entry_eq]
  generalize (lg_sl ([.ref (pz_ax a), .int (nI n0)]) ++ List.replicate (5 - (lg_sl ([.ref (pz_ax a), .int (nI n0)])).length) Slot.unset).toArray = ls at hl ⊢
  have hl : lv_has ls 5 [(0, .ref (pz_ax a)), (1, .int (nI n0))] := hl
  have hP : va_P (dC, dI) vwCl (pz_XW a cJ cD dk su bl pt py) s.heap := hP
  have hD : va_D A (pz_XW a cJ cD dk su bl pt py) := hD
  refine lv_iload_n hx hb dXP_writeRows_0 rfl (lv_at hl 1 rfl) ?_
  refine va_calli (va_runS (As := [.int (nI n0)]) (rest := []) ⟨hx, hb, hml, hown, hts⟩ (c_XP_stripeOf l n0 hn0) (va_cwS 1 hts (pz_gc (List.mem_cons_of_mem _ tw_198) rfl (pz_gc (List.mem_cons_of_mem _ tw_199) rfl (pz_gc (List.mem_cons_of_mem _ tw_1) rfl (pz_gi tcXP_stripeOf)))) rfl rfl rfl (by decide +kernel) ⟨Nat.le_of_ble_eq_true rfl, Nat.le_of_ble_eq_true rfl⟩) pz_preS0 rfl rfl hl.1 rfl (lv_room (Nat.le_of_ble_eq_true rfl)) dXP_writeRows_1 ⟨Nat.zero_le _, Nat.zero_le _⟩) hS (fun q _ h => h.elim) (fun q h => h.elim) (fun r u t H locs ht hvm hw _ hz hk9 hS => ?_)
  have hP := pz_keep hP hk9
  clear hk9 hz ht hvm
  subst hw
  refine lv_istore_n hx hb dXP_writeRows_4 rfl hl (by decide) rfl (fun ls hl => ?_)
  have hl : lv_has ls 5 [(2, .int (nI (n0 / 4))), (0, .ref (pz_ax a)), (1, .int (nI n0))] := hl
  refine lv_aload_n hx hb dXP_writeRows_5 rfl (lv_at hl 1 rfl) ?_
  refine va_get (D := (dC, dI)) (ci := 2) (v := .ref (pz_ad a)) (C := "ParityArray") (T := TXP) (N := 5) hx hb hts (fun w h => List.mem_cons_of_mem _ (inXP w h)) hown hK hP 0 rfl rfl 0 (by decide) (hts _ (List.mem_cons_of_mem _ tw_80)) (fun _ h9 => h9) rfl dXP_writeRows_6 ?_
  refine lv_iload_n hx hb dXP_writeRows_9 rfl (lv_at hl 0 rfl) ?_
  refine va_calli (va_runS (As := [.int (nI (n0 / 4))]) (rest := [.ref (pz_ad a)]) ⟨hx, hb, hml, hown, hts⟩ (c_XP_parityDiskOf l (n0 / 4) (by omega)) (va_cwS 1 hts (pz_gc (List.mem_cons_of_mem _ tw_204) rfl (pz_gc (List.mem_cons_of_mem _ tw_205) rfl (pz_gc (List.mem_cons_of_mem _ tw_1) rfl (pz_gi tcXP_parityDiskOf)))) rfl rfl rfl (by decide +kernel) ⟨Nat.le_of_ble_eq_true rfl, Nat.le_of_ble_eq_true rfl⟩) pz_preS0 rfl rfl hl.1 rfl (lv_room (Nat.le_of_ble_eq_true rfl)) dXP_writeRows_10 ⟨Nat.zero_le _, Nat.zero_le _⟩) hS (fun q _ h => h.elim) (fun q h => h.elim) (fun r u t H locs ht hvm hw _ hz hk9 hS => ?_)
  have hP := pz_keep hP hk9
  clear hk9 hz ht hvm
  subst hw
  refine pz_ald hx hb hK hP 1 rfl (show n0 / 4 % 5 < 5 by omega) dXP_writeRows_13 ?_
  refine lv_astore_n hx hb dXP_writeRows_14 rfl hl (by decide) rfl (fun ls hl => ?_)
  have hl : lv_has ls 5 [(3, .ref ((pz_da a (n0 / 4 % 5)).1)), (2, .int (nI (n0 / 4))), (0, .ref (pz_ax a)), (1, .int (nI n0))] := hl
  refine lv_aload_n hx hb dXP_writeRows_15 rfl (lv_at hl 2 rfl) ?_
  refine va_get (D := (dC, dI)) (ci := 2) (v := .ref (pz_ad a)) (C := "ParityArray") (T := TXP) (N := 5) hx hb hts (fun w h => List.mem_cons_of_mem _ (inXP w h)) hown hK hP 0 rfl rfl 0 (by decide) (hts _ (List.mem_cons_of_mem _ tw_80)) (fun _ h9 => h9) rfl dXP_writeRows_16 ?_
  refine lv_iload_n hx hb dXP_writeRows_19 rfl (lv_at hl 3 rfl) ?_
  refine va_calli (va_runS (As := [.int (nI n0)]) (rest := [.ref (pz_ad a)]) ⟨hx, hb, hml, hown, hts⟩ (c_XP_diskOf l n0 hn0) (va_cwS 1 hts (pz_gc (List.mem_cons_of_mem _ tw_201) rfl (pz_gc (List.mem_cons_of_mem _ tw_202) rfl (pz_gc (List.mem_cons_of_mem _ tw_1) rfl (pz_gi tcXP_diskOf)))) rfl rfl rfl (by decide +kernel) ⟨Nat.le_of_ble_eq_true rfl, Nat.le_of_ble_eq_true rfl⟩) pz_preS0 rfl rfl hl.1 rfl (lv_room (Nat.le_of_ble_eq_true rfl)) dXP_writeRows_20 ⟨Nat.zero_le _, Nat.zero_le _⟩) hS (fun q _ h => h.elim) (fun q h => h.elim) (fun r u t H locs ht hvm hw _ hz hk9 hS => ?_)
  have hP := pz_keep hP hk9
  clear hk9 hz ht hvm
  subst hw
  refine pz_ald hx hb hK hP 1 rfl (pz_dn_lt n0) dXP_writeRows_23 ?_
  refine lv_astore hx hb dXP_writeRows_24 hl (by decide) rfl (fun ls hl => ?_)
  have hl : lv_has ls 5 [(4, .ref ((pz_da a (pz_dn n0)).1)), (3, .ref ((pz_da a (n0 / 4 % 5)).1)), (2, .int (nI (n0 / 4))), (0, .ref (pz_ax a)), (1, .int (nI n0))] := hl
  refine pz_seq 53 [] 0 0 (fun ls H locs => lv_has ls 5 [(4, .ref ((pz_da a (pz_dn n0)).1)), (3, .ref ((pz_da a (n0 / 4 % 5)).1)), (2, .int (nI (n0 / 4))), (0, .ref (pz_ax a)), (1, .int (nI n0))] ∧ va_P (dC, dI) vwCl (pz_XW a cJ cD ((pz_w1 dk su pt n0).1) ((pz_w1 dk su pt n0).2) bl pt py) H ∧ va_D A (pz_XW a cJ cD ((pz_w1 dk su pt n0).1) ((pz_w1 dk su pt n0).2) bl pt py) ∧ va_S A s.heap H locs) ?_ ?_
  · intro go
    refine lv_aload_n hx hb dXP_writeRows_26 rfl (lv_at hl 1 rfl) ?_
    refine lv_iload_n hx hb dXP_writeRows_27 rfl (lv_at hl 2 rfl) ?_
    refine va_calli (va_runV (As := [.int (nI (n0 / 4))]) (rest := []) ⟨hx, hb, hml, hown, hts⟩ (c_XD_isThere l dC dI _ _ _ cJ (dk (n0 / 4 % 5)) (n0 / 4) (hth _ (show n0 / 4 % 5 < 5 by omega)) (by omega)) (cwV 1 hts (pz_gc (List.mem_cons_of_mem _ tw_207) rfl (pz_gc (List.mem_cons_of_mem _ tw_208) rfl (pz_gc (List.mem_cons_of_mem _ tw_209) rfl (pz_gc (List.mem_cons_of_mem _ tw_3) rfl (pz_gi tcXD_isThere))))) rfl rfl rfl (by decide +kernel) ⟨Nat.le_of_ble_eq_true rfl, Nat.le_of_ble_eq_true rfl⟩) (pz_preV (va_recv hK (pz_Xd_P (d := (n0 / 4 % 5)) (show n0 / 4 % 5 < 5 by omega) hP) (q0 := 0) rfl rfl) (pz_Xd_P (d := (n0 / 4 % 5)) (show n0 / 4 % 5 < 5 by omega) hP) (hK.sub [0] rfl)) rfl rfl hl.1 rfl (lv_room (Nat.le_of_ble_eq_true rfl)) dXP_writeRows_28 ⟨Nat.zero_le _, Nat.zero_le _⟩) hS (fun q _ h => h.elim) (fun q h => h.elim) (fun r u t H locs ht hvm hw _ hz hk9 hS => ?_)
    have hP := pz_keep hP hk9
    clear hk9 hz ht hvm
    subst hw
    refine lv_if_eq (tgt := 53) hx hb dXP_writeRows_31 (by decide) (fun hc => ?_) (fun hc => ?_)
    · have hc : (decide (n0 / 4 < pz_th (dk (n0 / 4 % 5)))) = false := pz_b0.mp hc
      have hc := of_decide_eq_false hc
      have e9 : pz_w1 dk su pt n0 = (dk, su) := by unfold pz_w1; rw [if_neg hc]
      refine go _ _ _ ⟨hl, ?_, ?_, hS⟩
      · rw [e9]; exact hP
      · rw [e9]; exact hD
    · have hc : (decide (n0 / 4 < pz_th (dk (n0 / 4 % 5)))) = true := pz_bn hc
      have hc := of_decide_eq_true hc
      refine lv_aload_n hx hb dXP_writeRows_34 rfl (lv_at hl 1 rfl) ?_
      refine lv_iload_n hx hb dXP_writeRows_35 rfl (lv_at hl 4 rfl) ?_
      refine lv_aload_n hx hb dXP_writeRows_36 rfl (lv_at hl 3 rfl) ?_
      refine va_get (D := (dC, dI)) (ci := 2) (v := .ref (pz_ap a)) (C := "ParityArray") (T := TXP) (N := 5) hx hb hts (fun w h => List.mem_cons_of_mem _ (inXP w h)) hown hK hP 0 rfl rfl 3 (by decide) (hts _ (List.mem_cons_of_mem _ tw_83)) (fun _ h9 => h9) rfl dXP_writeRows_37 ?_
      refine lv_aload_n hx hb dXP_writeRows_40 rfl (lv_at hl 3 rfl) ?_
      refine va_get (D := (dC, dI)) (ci := 2) (v := .ref (pz_as a)) (C := "ParityArray") (T := TXP) (N := 5) hx hb hts (fun w h => List.mem_cons_of_mem _ (inXP w h)) hown hK hP 0 rfl rfl 1 (by decide) (hts _ (List.mem_cons_of_mem _ tw_81)) (fun _ h9 => h9) rfl dXP_writeRows_41 ?_
      refine lv_sipush (v := nI 136) hx hb dXP_writeRows_44 (by decide) ?_
      have hPc := pz_Xs_P hP
      have hDc := pz_Xs_D hD
      have hFc := pz_Xs_F hD hS hA
      refine va_calli (va_runV (As := [.int (nI 136)]) (rest := [.ref (pz_ap a), .int (nI n0), .ref ((pz_da a (n0 / 4 % 5)).1)]) ⟨hx, hb, hml, hown, hts⟩ (c_XS_letThrough l dC dI _ (pz_as a) su 136 (Nat.le_refl _) hcw hcb (by omega)) (cwV 1 hts (pz_gc (List.mem_cons_of_mem _ tw_231) rfl (pz_gc (List.mem_cons_of_mem _ tw_232) rfl (pz_gc (List.mem_cons_of_mem _ tw_233) rfl (pz_gc (List.mem_cons_of_mem _ tw_2) rfl (pz_gi tcXS_letThrough))))) rfl rfl rfl (by decide +kernel) ⟨Nat.le_of_ble_eq_true rfl, Nat.le_of_ble_eq_true rfl⟩) (pz_preVw (va_recv hK hPc (q0 := 0) rfl rfl) hPc (hK.sub [] rfl) hDc) rfl rfl hl.1 rfl (lv_room (Nat.le_of_ble_eq_true rfl)) dXP_writeRows_47 ⟨Nat.zero_le _, Nat.zero_le _⟩) hS (fun q _ h => hFc q h) hFc (fun r u t H1 locs ht hvm hw hB hz hk1 hS => ?_)
      obtain ⟨hP1, hK1, hD1⟩ := hB
      rw [ht] at hP1
      obtain ⟨rfl, rfl⟩ := hw
      obtain ⟨hP, hD⟩ := pz_Xs_J hP hD hk1 hFc hP1 hD1
      clear hPc hDc hFc hP1 hD1 hK1 hk1 hz ht hvm
      generalize H1 = H at hP hS ⊢
      have hPc := pz_Xp_P (d := (n0 / 4 % 5)) (show n0 / 4 % 5 < 5 by omega) hP
      have hDc := pz_Xp_D (d := (n0 / 4 % 5)) (show n0 / 4 % 5 < 5 by omega) hD
      have hFc := pz_Xp_F (d := (n0 / 4 % 5)) (show n0 / 4 % 5 < 5 by omega) hD hS hA
      refine va_callv (va_runV (As := [.int (nI n0), .ref (pz_ap a), .int (nI ((pz_let 136 su).1))]) (rest := []) ⟨hx, hb, hml, hown, hts⟩ (c_XD_writeRecord l dC dI _ _ _ _ cJ (dk (n0 / 4 % 5)) (pz_ap a) pt n0 (pz_let 136 su).1 hn0 (pz_let_le 136 su)) (cwV 3 hts (pz_gc (List.mem_cons_of_mem _ tw_238) rfl (pz_gc (List.mem_cons_of_mem _ tw_239) rfl (pz_gc (List.mem_cons_of_mem _ tw_240) rfl (pz_gc (List.mem_cons_of_mem _ tw_3) rfl (pz_gi tcXD_writeRecord))))) rfl rfl rfl (by decide +kernel) ⟨Nat.le_of_ble_eq_true rfl, Nat.le_of_ble_eq_true rfl⟩) (pz_preVw (va_recv hK hPc (q0 := 0) rfl rfl) hPc (hK.sub [0] rfl) hDc) rfl rfl hl.1 rfl (lv_room (Nat.le_of_ble_eq_true rfl)) dXP_writeRows_50 ⟨Nat.zero_le _, Nat.zero_le _⟩) hS (fun q _ h => hFc q h) hFc (fun u t H1 locs ht hvm hw hB hz hk1 hS => ?_)
      obtain ⟨hP1, hK1, hD1⟩ := hB
      rw [ht] at hP1
      subst hw
      obtain ⟨hP, hD⟩ := pz_Xp_J (d := (n0 / 4 % 5)) (show n0 / 4 % 5 < 5 by omega) hP hD hk1 hFc hP1 hD1
      clear hPc hDc hFc hP1 hD1 hK1 hk1 hz ht hvm
      generalize H1 = H at hP hS ⊢
      have e9 : pz_w1 dk su pt n0 = (va_up dk (n0 / 4 % 5) (pz_drec (dk (n0 / 4 % 5)) n0 pt (pz_let 136 su).1), (pz_let 136 su).2) := by unfold pz_w1; rw [if_pos hc]
      refine go _ _ _ ⟨hl, ?_, ?_, hS⟩
      · rw [e9]; exact hP
      · rw [e9]; exact hD
  · intro ls H locs hI
    obtain ⟨hl, hP, hD, hS⟩ := hI
    have hth1 : ∀ d, d < 5 → pz_th ((pz_w1 dk su pt n0).1 d) ≤ 150 := fun d h9 => by rw [pz_w1_th]; exact hth d h9
    have hs1 := pz_w1_su dk su pt n0
    generalize hx1 : pz_w1 dk su pt n0 = x1 at hP hD hth1 hs1 ⊢
    refine pz_seq 82 [] 0 0 (fun ls H locs => lv_has ls 5 [(4, .ref ((pz_da a (pz_dn n0)).1)), (3, .ref ((pz_da a (n0 / 4 % 5)).1)), (2, .int (nI (n0 / 4))), (0, .ref (pz_ax a)), (1, .int (nI n0))] ∧ va_P (dC, dI) vwCl (pz_XW a cJ cD ((pz_w2 x1 bl n0).1) ((pz_w2 x1 bl n0).2) bl pt py) H ∧ va_D A (pz_XW a cJ cD ((pz_w2 x1 bl n0).1) ((pz_w2 x1 bl n0).2) bl pt py) ∧ va_S A s.heap H locs) ?_ ?_
    · intro go
      refine lv_aload hx hb dXP_writeRows_53 (lv_at hl 0 rfl) ?_
      refine lv_iload_n hx hb dXP_writeRows_55 rfl (lv_at hl 2 rfl) ?_
      refine va_calli (va_runV (As := [.int (nI (n0 / 4))]) (rest := []) ⟨hx, hb, hml, hown, hts⟩ (c_XD_isThere l dC dI _ _ _ cJ (x1.1 (pz_dn n0)) (n0 / 4) (hth1 _ (pz_dn_lt n0)) (by omega)) (cwV 1 hts (pz_gc (List.mem_cons_of_mem _ tw_207) rfl (pz_gc (List.mem_cons_of_mem _ tw_208) rfl (pz_gc (List.mem_cons_of_mem _ tw_209) rfl (pz_gc (List.mem_cons_of_mem _ tw_3) rfl (pz_gi tcXD_isThere))))) rfl rfl rfl (by decide +kernel) ⟨Nat.le_of_ble_eq_true rfl, Nat.le_of_ble_eq_true rfl⟩) (pz_preV (va_recv hK (pz_Xd_P (d := (pz_dn n0)) (pz_dn_lt n0) hP) (q0 := 0) rfl rfl) (pz_Xd_P (d := (pz_dn n0)) (pz_dn_lt n0) hP) (hK.sub [0] rfl)) rfl rfl hl.1 rfl (lv_room (Nat.le_of_ble_eq_true rfl)) dXP_writeRows_56 ⟨Nat.zero_le _, Nat.zero_le _⟩) hS (fun q _ h => h.elim) (fun q h => h.elim) (fun r u t H locs ht hvm hw _ hz hk9 hS => ?_)
      have hP := pz_keep hP hk9
      clear hk9 hz ht hvm
      subst hw
      refine lv_if_eq (tgt := 82) hx hb dXP_writeRows_59 (by decide) (fun hc => ?_) (fun hc => ?_)
      · have hc : (decide (n0 / 4 < pz_th (x1.1 (pz_dn n0)))) = false := pz_b0.mp hc
        have hc := of_decide_eq_false hc
        have e9 : pz_w2 x1 bl n0 = x1 := by unfold pz_w2; rw [if_neg hc]
        refine go _ _ _ ⟨hl, ?_, ?_, hS⟩
        · rw [e9]; exact hP
        · rw [e9]; exact hD
      · have hc : (decide (n0 / 4 < pz_th (x1.1 (pz_dn n0)))) = true := pz_bn hc
        have hc := of_decide_eq_true hc
        refine lv_aload hx hb dXP_writeRows_62 (lv_at hl 0 rfl) ?_
        refine lv_iload_n hx hb dXP_writeRows_64 rfl (lv_at hl 2 rfl) ?_
        refine lv_aload_n hx hb dXP_writeRows_65 rfl (lv_at hl 3 rfl) ?_
        refine va_get (D := (dC, dI)) (ci := 2) (v := .ref (pz_ab a)) (C := "ParityArray") (T := TXP) (N := 5) hx hb hts (fun w h => List.mem_cons_of_mem _ (inXP w h)) hown hK hP 0 rfl rfl 2 (by decide) (hts _ (List.mem_cons_of_mem _ tw_82)) (fun _ h9 => h9) rfl dXP_writeRows_66 ?_
        refine lv_aload_n hx hb dXP_writeRows_69 rfl (lv_at hl 3 rfl) ?_
        refine va_get (D := (dC, dI)) (ci := 2) (v := .ref (pz_as a)) (C := "ParityArray") (T := TXP) (N := 5) hx hb hts (fun w h => List.mem_cons_of_mem _ (inXP w h)) hown hK hP 0 rfl rfl 1 (by decide) (hts _ (List.mem_cons_of_mem _ tw_81)) (fun _ h9 => h9) rfl dXP_writeRows_70 ?_
        refine lv_sipush (v := nI 128) hx hb dXP_writeRows_73 (by decide) ?_
        have hPc := pz_Xs_P hP
        have hDc := pz_Xs_D hD
        have hFc := pz_Xs_F hD hS hA
        refine va_calli (va_runV (As := [.int (nI 128)]) (rest := [.ref (pz_ab a), .int (nI (n0 / 4)), .ref ((pz_da a (pz_dn n0)).1)]) ⟨hx, hb, hml, hown, hts⟩ (c_XS_letThrough l dC dI _ (pz_as a) x1.2 128 (by omega) (by omega) (by omega) (by omega)) (cwV 1 hts (pz_gc (List.mem_cons_of_mem _ tw_231) rfl (pz_gc (List.mem_cons_of_mem _ tw_232) rfl (pz_gc (List.mem_cons_of_mem _ tw_233) rfl (pz_gc (List.mem_cons_of_mem _ tw_2) rfl (pz_gi tcXS_letThrough))))) rfl rfl rfl (by decide +kernel) ⟨Nat.le_of_ble_eq_true rfl, Nat.le_of_ble_eq_true rfl⟩) (pz_preVw (va_recv hK hPc (q0 := 0) rfl rfl) hPc (hK.sub [] rfl) hDc) rfl rfl hl.1 rfl (lv_room (Nat.le_of_ble_eq_true rfl)) dXP_writeRows_76 ⟨Nat.zero_le _, Nat.zero_le _⟩) hS (fun q _ h => hFc q h) hFc (fun r u t H1 locs ht hvm hw hB hz hk1 hS => ?_)
        obtain ⟨hP1, hK1, hD1⟩ := hB
        rw [ht] at hP1
        obtain ⟨rfl, rfl⟩ := hw
        obtain ⟨hP, hD⟩ := pz_Xs_J hP hD hk1 hFc hP1 hD1
        clear hPc hDc hFc hP1 hD1 hK1 hk1 hz ht hvm
        generalize H1 = H at hP hS ⊢
        have hPc := pz_Xb_P (d := (pz_dn n0)) (pz_dn_lt n0) hP
        have hDc := pz_Xb_D (d := (pz_dn n0)) (pz_dn_lt n0) hD
        have hFc := pz_Xb_F (d := (pz_dn n0)) (pz_dn_lt n0) hD hS hA
        refine va_callv (va_runV (As := [.int (nI (n0 / 4)), .ref (pz_ab a), .int (nI ((pz_let 128 x1.2).1))]) (rest := []) ⟨hx, hb, hml, hown, hts⟩ (c_XD_writeRow l dC dI _ _ _ _ cJ (x1.1 (pz_dn n0)) (pz_ab a) bl (n0 / 4) (pz_let 128 x1.2).1 (by omega) (pz_let_le 128 x1.2)) (cwV 3 hts (pz_gc (List.mem_cons_of_mem _ tw_245) rfl (pz_gc (List.mem_cons_of_mem _ tw_246) rfl (pz_gc (List.mem_cons_of_mem _ tw_247) rfl (pz_gc (List.mem_cons_of_mem _ tw_3) rfl (pz_gi tcXD_writeRow))))) rfl rfl rfl (by decide +kernel) ⟨Nat.le_of_ble_eq_true rfl, Nat.le_of_ble_eq_true rfl⟩) (pz_preVw (va_recv hK hPc (q0 := 0) rfl rfl) hPc (hK.sub [0] rfl) hDc) rfl rfl hl.1 rfl (lv_room (Nat.le_of_ble_eq_true rfl)) dXP_writeRows_79 ⟨Nat.zero_le _, Nat.zero_le _⟩) hS (fun q _ h => hFc q h) hFc (fun u t H1 locs ht hvm hw hB hz hk1 hS => ?_)
        obtain ⟨hP1, hK1, hD1⟩ := hB
        rw [ht] at hP1
        subst hw
        obtain ⟨hP, hD⟩ := pz_Xb_J (d := (pz_dn n0)) (pz_dn_lt n0) hP hD hk1 hFc hP1 hD1
        clear hPc hDc hFc hP1 hD1 hK1 hk1 hz ht hvm
        generalize H1 = H at hP hS ⊢
        have e9 : pz_w2 x1 bl n0 = (va_up x1.1 (pz_dn n0) (pz_dwr (x1.1 (pz_dn n0)) (n0 / 4) bl (pz_let 128 x1.2).1), (pz_let 128 x1.2).2) := by unfold pz_w2; rw [if_pos hc]
        refine go _ _ _ ⟨hl, ?_, ?_, hS⟩
        · rw [e9]; exact hP
        · rw [e9]; exact hD
    · intro ls H locs hI
      obtain ⟨hl, hP, hD, hS⟩ := hI
      have hth2 : ∀ d, d < 5 → pz_th ((pz_w2 x1 bl n0).1 d) ≤ 150 := fun d h9 => by rw [pz_w2_th]; exact hth1 d h9
      have hs2 := pz_w2_su x1 bl n0
      generalize hx2 : pz_w2 x1 bl n0 = x2 at hP hD hth2 hs2 ⊢
      refine lv_aload_n hx hb dXP_writeRows_82 rfl (lv_at hl 1 rfl) ?_
      refine lv_iload_n hx hb dXP_writeRows_83 rfl (lv_at hl 2 rfl) ?_
      refine va_calli (va_runV (As := [.int (nI (n0 / 4))]) (rest := []) ⟨hx, hb, hml, hown, hts⟩ (c_XD_isThere l dC dI _ _ _ cJ (x2.1 (n0 / 4 % 5)) (n0 / 4) (hth2 _ (show n0 / 4 % 5 < 5 by omega)) (by omega)) (cwV 1 hts (pz_gc (List.mem_cons_of_mem _ tw_207) rfl (pz_gc (List.mem_cons_of_mem _ tw_208) rfl (pz_gc (List.mem_cons_of_mem _ tw_209) rfl (pz_gc (List.mem_cons_of_mem _ tw_3) rfl (pz_gi tcXD_isThere))))) rfl rfl rfl (by decide +kernel) ⟨Nat.le_of_ble_eq_true rfl, Nat.le_of_ble_eq_true rfl⟩) (pz_preV (va_recv hK (pz_Xd_P (d := (n0 / 4 % 5)) (show n0 / 4 % 5 < 5 by omega) hP) (q0 := 0) rfl rfl) (pz_Xd_P (d := (n0 / 4 % 5)) (show n0 / 4 % 5 < 5 by omega) hP) (hK.sub [0] rfl)) rfl rfl hl.1 rfl (lv_room (Nat.le_of_ble_eq_true rfl)) dXP_writeRows_84 ⟨Nat.zero_le _, Nat.zero_le _⟩) hS (fun q _ h => h.elim) (fun q h => h.elim) (fun r u t H locs ht hvm hw _ hz hk9 hS => ?_)
      have hP := pz_keep hP hk9
      clear hk9 hz ht hvm
      subst hw
      refine lv_if_eq (tgt := 109) hx hb dXP_writeRows_87 (by decide) (fun hc => ?_) (fun hc => ?_)
      · have hc : (decide (n0 / 4 < pz_th (x2.1 (n0 / 4 % 5)))) = false := pz_b0.mp hc
        have hc := of_decide_eq_false hc
        exact W.vret hx hb hr (fun t ht hW => ⟨⟨x2, rfl, by show x2 = pz_w3 _ _ _; rw [hx1, hx2]; unfold pz_w3; rw [if_neg hc], by rw [ht]; exact hP, va_K.moved hW.alike hK, hAe ▸ hD⟩, hS.F ht⟩) hS.2.2 dXP_writeRows_109
      · have hc : (decide (n0 / 4 < pz_th (x2.1 (n0 / 4 % 5)))) = true := pz_bn hc
        have hc := of_decide_eq_true hc
        refine lv_aload_n hx hb dXP_writeRows_90 rfl (lv_at hl 1 rfl) ?_
        refine lv_iload_n hx hb dXP_writeRows_91 rfl (lv_at hl 2 rfl) ?_
        refine lv_aload_n hx hb dXP_writeRows_92 rfl (lv_at hl 3 rfl) ?_
        refine va_get (D := (dC, dI)) (ci := 2) (v := .ref (pz_ay a)) (C := "ParityArray") (T := TXP) (N := 5) hx hb hts (fun w h => List.mem_cons_of_mem _ (inXP w h)) hown hK hP 0 rfl rfl 4 (by decide) (hts _ (List.mem_cons_of_mem _ tw_84)) (fun _ h9 => h9) rfl dXP_writeRows_93 ?_
        refine lv_aload_n hx hb dXP_writeRows_96 rfl (lv_at hl 3 rfl) ?_
        refine va_get (D := (dC, dI)) (ci := 2) (v := .ref (pz_as a)) (C := "ParityArray") (T := TXP) (N := 5) hx hb hts (fun w h => List.mem_cons_of_mem _ (inXP w h)) hown hK hP 0 rfl rfl 1 (by decide) (hts _ (List.mem_cons_of_mem _ tw_81)) (fun _ h9 => h9) rfl dXP_writeRows_97 ?_
        refine lv_sipush (v := nI 128) hx hb dXP_writeRows_100 (by decide) ?_
        have hPc := pz_Xs_P hP
        have hDc := pz_Xs_D hD
        have hFc := pz_Xs_F hD hS hA
        refine va_calli (va_runV (As := [.int (nI 128)]) (rest := [.ref (pz_ay a), .int (nI (n0 / 4)), .ref ((pz_da a (n0 / 4 % 5)).1)]) ⟨hx, hb, hml, hown, hts⟩ (c_XS_letThrough l dC dI _ (pz_as a) x2.2 128 (by omega) (by omega) (by omega) (by omega)) (cwV 1 hts (pz_gc (List.mem_cons_of_mem _ tw_231) rfl (pz_gc (List.mem_cons_of_mem _ tw_232) rfl (pz_gc (List.mem_cons_of_mem _ tw_233) rfl (pz_gc (List.mem_cons_of_mem _ tw_2) rfl (pz_gi tcXS_letThrough))))) rfl rfl rfl (by decide +kernel) ⟨Nat.le_of_ble_eq_true rfl, Nat.le_of_ble_eq_true rfl⟩) (pz_preVw (va_recv hK hPc (q0 := 0) rfl rfl) hPc (hK.sub [] rfl) hDc) rfl rfl hl.1 rfl (lv_room (Nat.le_of_ble_eq_true rfl)) dXP_writeRows_103 ⟨Nat.zero_le _, Nat.zero_le _⟩) hS (fun q _ h => hFc q h) hFc (fun r u t H1 locs ht hvm hw hB hz hk1 hS => ?_)
        obtain ⟨hP1, hK1, hD1⟩ := hB
        rw [ht] at hP1
        obtain ⟨rfl, rfl⟩ := hw
        obtain ⟨hP, hD⟩ := pz_Xs_J hP hD hk1 hFc hP1 hD1
        clear hPc hDc hFc hP1 hD1 hK1 hk1 hz ht hvm
        generalize H1 = H at hP hS ⊢
        have hPc := pz_Xy_P (d := (n0 / 4 % 5)) (show n0 / 4 % 5 < 5 by omega) hP
        have hDc := pz_Xy_D (d := (n0 / 4 % 5)) (show n0 / 4 % 5 < 5 by omega) hD
        have hFc := pz_Xy_F (d := (n0 / 4 % 5)) (show n0 / 4 % 5 < 5 by omega) hD hS hA
        refine va_callv (va_runV (As := [.int (nI (n0 / 4)), .ref (pz_ay a), .int (nI ((pz_let 128 x2.2).1))]) (rest := []) ⟨hx, hb, hml, hown, hts⟩ (c_XD_writeRow l dC dI _ _ _ _ cJ (x2.1 (n0 / 4 % 5)) (pz_ay a) py (n0 / 4) (pz_let 128 x2.2).1 (by omega) (pz_let_le 128 x2.2)) (cwV 3 hts (pz_gc (List.mem_cons_of_mem _ tw_245) rfl (pz_gc (List.mem_cons_of_mem _ tw_246) rfl (pz_gc (List.mem_cons_of_mem _ tw_247) rfl (pz_gc (List.mem_cons_of_mem _ tw_3) rfl (pz_gi tcXD_writeRow))))) rfl rfl rfl (by decide +kernel) ⟨Nat.le_of_ble_eq_true rfl, Nat.le_of_ble_eq_true rfl⟩) (pz_preVw (va_recv hK hPc (q0 := 0) rfl rfl) hPc (hK.sub [0] rfl) hDc) rfl rfl hl.1 rfl (lv_room (Nat.le_of_ble_eq_true rfl)) dXP_writeRows_106 ⟨Nat.zero_le _, Nat.zero_le _⟩) hS (fun q _ h => hFc q h) hFc (fun u t H1 locs ht hvm hw hB hz hk1 hS => ?_)
        obtain ⟨hP1, hK1, hD1⟩ := hB
        rw [ht] at hP1
        subst hw
        obtain ⟨hP, hD⟩ := pz_Xy_J (d := (n0 / 4 % 5)) (show n0 / 4 % 5 < 5 by omega) hP hD hk1 hFc hP1 hD1
        clear hPc hDc hFc hP1 hD1 hK1 hk1 hz ht hvm
        generalize H1 = H at hP hS ⊢
        exact W.vret hx hb hr (fun t ht hW => ⟨⟨(va_up x2.1 (n0 / 4 % 5) (pz_dwr (x2.1 (n0 / 4 % 5)) (n0 / 4) py (pz_let 128 x2.2).1), (pz_let 128 x2.2).2), rfl, by show _ = pz_w3 _ _ _; rw [hx1, hx2]; unfold pz_w3; rw [if_pos hc], by rw [ht]; exact hP, va_K.moved hW.alike hK, hAe ▸ hD⟩, hS.F ht⟩) hS.2.2 dXP_writeRows_109

set_option maxHeartbeats 4000000 in
set_option maxRecDepth 100000 in
/-- a row rebuilt -/
theorem c_XP_rebuildStripe (l : Launch) (dC : Nat → ClassId) (dI : Nat → Nat → Nat) (sz : Nat) (a : pz_Ad) (cJ cD : ClassId) (dk : Nat → pz_Dk) (su : pz_Su) (bl pt py : Nat → Int64) (d0 s0 : Nat) (hth : ∀ d, d < 5 → pz_th (dk d) ≤ 150) (hd0 : d0 < 5) (hs0 : s0 < 150) : Met l yXP_rebuildStripe wsXP_rebuildStripe ({ frames := 2, cells := 0, slots := 0, locals := 108 }) (va_Pc [.ref (pz_ax a), .int (nI d0), .int (nI s0)] (fun U => U.heap.size = sz ∧ va_P (dC, dI) vwCl (pz_XW a cJ cD dk su bl pt py) U.heap ∧ va_K (dC, dI) vwCl [(cJ, .long), (cD, .object "ParityArray$Disk")] U ∧ va_D (fun _ => True) (pz_XW a cJ cD dk su bl pt py))) (va_Qv (fun (u : Nat → Int64) => ∀ j, j < 16 → u j = pz_oth (fun e => pz_R (dk e) (16 * s0 + j)) d0 5) (fun u t => va_P (dC, dI) vwCl (pz_XW a cJ cD (va_up dk d0 (pz_dwr (dk d0) s0 u 128)) su u pt py) t.heap ∧ va_K (dC, dI) vwCl [(cJ, .long), (cD, .object "ParityArray$Disk")] t ∧ va_D (va_A (pz_XW a cJ cD dk su bl pt py) sz) (pz_XW a cJ cD (va_up dk d0 (pz_dwr (dk d0) s0 u 128)) su u pt py)) (va_A (pz_XW a cJ cD dk su bl pt py) sz)) 0 0 (va_A (pz_XW a cJ cD dk su bl pt py) sz) := by
  refine Met.ofW (cc := cXP_rebuildStripe) (maxL := 4) (ret := none) (by decide) rfl ?_
  intro p e s m args below meth c s₁ B hml hv
  obtain ⟨rfl, hsz, hP, hK, hD0⟩ := hv
  have hx := B.exec
  have hb := B.bytes
  have hr := B.returns
  have hts := atoms_spec (ws := wsXP_rebuildStripe) B.pre
  have hown : s.vm.findClass "ParityArray" = some m.cls := findClass_of_methodNamed B.named
  have hlocks := B.notSynchronized
  subst hsz
  have hD := hD0.self (sz := s.heap.size)
  generalize hAe : va_A (pz_XW a cJ cD dk su bl pt py) s.heap.size = A at hD ⊢
  have hA : ∀ q : Nat, s.heap.size ≤ q → A q := fun q h => by rw [← hAe]; exact Or.inr h
  have hS : va_S A s.heap s.heap [] := va_S.rf
  have hl := lv_entry ([.ref (pz_ax a), .int (nI d0), .int (nI s0)]) (n := 4) (Nat.le_of_ble_eq_true rfl)
  rw [lg_entry_eq]
  generalize (lg_sl ([.ref (pz_ax a), .int (nI d0), .int (nI s0)]) ++ List.replicate (4 - (lg_sl ([.ref (pz_ax a), .int (nI d0), .int (nI s0)])).length) Slot.unset).toArray = ls at hl ⊢
  have hl : lv_has ls 4 [(0, .ref (pz_ax a)), (1, .int (nI d0)), (2, .int (nI s0))] := hl
  have hP : va_P (dC, dI) vwCl (pz_XW a cJ cD dk su bl pt py) s.heap := hP
  have hD : va_D A (pz_XW a cJ cD dk su bl pt py) := hD
  refine lv_iconst (v := nI 0) hx hb dXP_rebuildStripe_0 (by decide) ?_
  refine lv_istore_n hx hb dXP_rebuildStripe_1 rfl hl (by decide) rfl (fun ls hl => ?_)
  have hl : lv_has ls 4 [(3, .int (nI 0)), (0, .ref (pz_ax a)), (1, .int (nI d0)), (2, .int (nI s0))] := hl
  refine pz_loop (fun _ => 0) (fun _ => 0) 16 (fun k ls H locs => ∃ bl1 : Nat → Int64, lv_has ls 4 [(3, .int (nI k)), (0, .ref (pz_ax a)), (1, .int (nI d0)), (2, .int (nI s0))] ∧ va_P (dC, dI) vwCl (pz_XW a cJ cD dk su bl1 pt py) H ∧ va_D A (pz_XW a cJ cD dk su bl1 pt py) ∧ va_S A s.heap H locs ∧ ∀ j, j < k → bl1 j = pz_oth (fun e => pz_R (dk e) (16 * s0 + j)) d0 5) ?_ ?_ 16 0 (by omega) _ _ _ ⟨bl, hl, hP, hD, hS, fun j h9 => absurd h9 (Nat.not_lt_zero _)⟩
  · intro k ls H locs hk hI ih
    obtain ⟨bl1, hl, hP, hD, hS, hq1⟩ := hI
    refine lv_iload_n hx hb dXP_rebuildStripe_2 rfl (lv_at hl 0 rfl) ?_
    refine lv_bipush (v := nI 16) hx hb dXP_rebuildStripe_3 (by decide) ?_
    refine lv_icmp_ge (tgt := 27) hx hb dXP_rebuildStripe_5 (by decide) (fun hc => absurd hc (nI_ge hk (by decide))) (fun _ => ?_)
    refine lv_aload_n hx hb dXP_rebuildStripe_8 rfl (lv_at hl 1 rfl) ?_
    refine va_get (D := (dC, dI)) (ci := 2) (v := .ref (pz_ab a)) (C := "ParityArray") (T := TXP) (N := 5) hx hb hts (fun w h => List.mem_cons_of_mem _ (inXP w h)) hown hK hP 0 rfl rfl 2 (by decide) (hts _ (List.mem_cons_of_mem _ tw_82)) (fun _ h9 => h9) rfl dXP_rebuildStripe_9 ?_
    refine lv_iload_n hx hb dXP_rebuildStripe_12 rfl (lv_at hl 0 rfl) ?_
    refine lv_aload_n hx hb dXP_rebuildStripe_13 rfl (lv_at hl 1 rfl) ?_
    refine lv_iload_n hx hb dXP_rebuildStripe_14 rfl (lv_at hl 2 rfl) ?_
    refine lv_iload_n hx hb dXP_rebuildStripe_15 rfl (lv_at hl 3 rfl) ?_
    refine lv_iload_n hx hb dXP_rebuildStripe_16 rfl (lv_at hl 0 rfl) ?_
    refine va_calll (va_runV (As := [.int (nI d0), .int (nI s0), .int (nI k)]) (rest := [.int (nI k), .ref (pz_ab a)]) ⟨hx, hb, hml, hown, hts⟩ (c_XP_othersTogether l dC dI a cJ cD dk su bl1 pt py d0 s0 k hth hd0 hs0 hk) (cwV 3 hts (pz_gc (List.mem_cons_of_mem _ tw_215) rfl (pz_gc (List.mem_cons_of_mem _ tw_217) rfl (pz_gc (List.mem_cons_of_mem _ ts_2) rfl (pz_gc (List.mem_cons_of_mem _ tw_1) rfl (pz_gi tcXP_othersTogether))))) rfl rfl rfl (by decide +kernel) ⟨Nat.le_of_ble_eq_true rfl, Nat.le_of_ble_eq_true rfl⟩) (pz_preV (va_recv hK hP (q0 := 0) rfl rfl) hP hK) rfl rfl hl.1 rfl (lv_room (Nat.le_of_ble_eq_true rfl)) dXP_rebuildStripe_17 ⟨Nat.zero_le _, Nat.zero_le _⟩) hS (fun q _ h => h.elim) (fun q h => h.elim) (fun r u t H locs ht hvm hw _ hz hk9 hS => ?_)
    have hP := pz_keep hP hk9
    clear hk9 hz ht hvm
    subst hw
    refine va_last hx hb hK hP hD hS 3 0 rfl rfl (vp_in_nI (by omega) (by decide)) dXP_rebuildStripe_20 (fun H locs hP hD hS => ?_)
    rw [nI_clamp (show k < 2 ^ 31 by omega)] at hP hD
    have hP : va_P (dC, dI) vwCl (pz_XW a cJ cD dk su (vp_updL bl1 k (pz_oth (fun e => pz_R (dk e) (16 * s0 + k)) d0 5)) pt py) H := hP
    have hD : va_D A (pz_XW a cJ cD dk su (vp_updL bl1 k (pz_oth (fun e => pz_R (dk e) (16 * s0 + k)) d0 5)) pt py) := hD
    refine lv_iinc (k := 0) (v := nI (k + 1)) hx hb dXP_rebuildStripe_21 hl rfl (by rw [nI_succ]; rfl) (by decide) rfl (fun ls hl => ?_)
    have hl : lv_has ls 4 [(3, .int (nI (k + 1))), (0, .ref (pz_ax a)), (1, .int (nI d0)), (2, .int (nI s0))] := hl
    refine lv_goto (tgt := 2) hx hb dXP_rebuildStripe_24 (by decide) ?_
    exact ih _ _ _ ⟨_, hl, hP, hD, hS, fun j h9 => by
      by_cases e9 : j = k
      · subst e9; exact pk_uLs
      · rw [pk_uLn e9]; exact hq1 j (by omega)⟩
  · intro ls H locs hI
    obtain ⟨bl1, hl, hP, hD, hS, hq1⟩ := hI
    refine lv_iload_n hx hb dXP_rebuildStripe_2 rfl (lv_at hl 0 rfl) ?_
    refine lv_bipush (v := nI 16) hx hb dXP_rebuildStripe_3 (by decide) ?_
    refine lv_icmp_ge (tgt := 27) hx hb dXP_rebuildStripe_5 (by decide) (fun _ => ?_) (fun hc => absurd hc (fun h9 => h9 (nI_le (Nat.le_refl 16) (by decide))))
    refine lv_aload_n hx hb dXP_rebuildStripe_27 rfl (lv_at hl 1 rfl) ?_
    refine va_get (D := (dC, dI)) (ci := 2) (v := .ref (pz_ad a)) (C := "ParityArray") (T := TXP) (N := 5) hx hb hts (fun w h => List.mem_cons_of_mem _ (inXP w h)) hown hK hP 0 rfl rfl 0 (by decide) (hts _ (List.mem_cons_of_mem _ tw_80)) (fun _ h9 => h9) rfl dXP_rebuildStripe_28 ?_
    refine lv_iload_n hx hb dXP_rebuildStripe_31 rfl (lv_at hl 2 rfl) ?_
    refine pz_ald hx hb hK hP 1 rfl hd0 dXP_rebuildStripe_32 ?_
    refine lv_iload_n hx hb dXP_rebuildStripe_33 rfl (lv_at hl 3 rfl) ?_
    refine lv_aload_n hx hb dXP_rebuildStripe_34 rfl (lv_at hl 1 rfl) ?_
    refine va_get (D := (dC, dI)) (ci := 2) (v := .ref (pz_ab a)) (C := "ParityArray") (T := TXP) (N := 5) hx hb hts (fun w h => List.mem_cons_of_mem _ (inXP w h)) hown hK hP 0 rfl rfl 2 (by decide) (hts _ (List.mem_cons_of_mem _ tw_82)) (fun _ h9 => h9) rfl dXP_rebuildStripe_35 ?_
    refine lv_sipush (v := nI 128) hx hb dXP_rebuildStripe_38 (by decide) ?_
    have hPc := pz_Xb_P (d := d0) hd0 hP
    have hDc := pz_Xb_D (d := d0) hd0 hD
    have hFc := pz_Xb_F (d := d0) hd0 hD hS hA
    refine va_callv (va_runV (As := [.int (nI s0), .ref (pz_ab a), .int (nI 128)]) (rest := []) ⟨hx, hb, hml, hown, hts⟩ (c_XD_writeRow l dC dI _ _ _ _ cJ (dk d0) (pz_ab a) bl1 s0 128 hs0 (Nat.le_refl _)) (cwV 3 hts (pz_gc (List.mem_cons_of_mem _ tw_245) rfl (pz_gc (List.mem_cons_of_mem _ tw_246) rfl (pz_gc (List.mem_cons_of_mem _ tw_247) rfl (pz_gc (List.mem_cons_of_mem _ tw_3) rfl (pz_gi tcXD_writeRow))))) rfl rfl rfl (by decide +kernel) ⟨Nat.le_of_ble_eq_true rfl, Nat.le_of_ble_eq_true rfl⟩) (pz_preVw (va_recv hK hPc (q0 := 0) rfl rfl) hPc (hK.sub [0] rfl) hDc) rfl rfl hl.1 rfl (lv_room (Nat.le_of_ble_eq_true rfl)) dXP_rebuildStripe_41 ⟨Nat.zero_le _, Nat.zero_le _⟩) hS (fun q _ h => hFc q h) hFc (fun u t H1 locs ht hvm hw hB hz hk1 hS => ?_)
    obtain ⟨hP1, hK1, hD1⟩ := hB
    rw [ht] at hP1
    subst hw
    obtain ⟨hP, hD⟩ := pz_Xb_J (d := d0) hd0 hP hD hk1 hFc hP1 hD1
    clear hPc hDc hFc hP1 hD1 hK1 hk1 hz ht hvm
    generalize H1 = H at hP hS ⊢
    exact W.vret hx hb hr (fun t ht hW => ⟨⟨bl1, rfl, fun j h9 => hq1 j h9, by rw [ht]; exact hP, va_K.moved hW.alike hK, hAe ▸ hD⟩, hS.F ht⟩) hS.2.2 dXP_rebuildStripe_44
end
section
/-! the reference: its world and its methods (laid by a program) -/
def pz_MW (h0 aB : Nat) (cB : ClassId) (f : Nat → Int32) (x : pz_Mu) (th : Nat) : va_W := [(h0, .inr (3, [.ref aB, .int (pz_b (pz_mo x)), .int (pz_o (pz_ms x)), .int (pz_b (pz_mf x)), .int (nI (pz_mr x)), .int (nI (pz_mF x)), .int (nI (pz_mw x)), .int (nI (pz_mc x)), .int (nI th)])), (aB, .inl (cB, 76800, .inl f))]
theorem pz_hm5 {x : pz_Mu} (h : ∀ e, pz_ms x = some e → e < 5) : ∀ e, pz_ms x = some e → e < 600 := fun e h9 => by have := h e h9; omega
def pz_gS (x : pz_Mu) (n i : Int32) (w : Int64) : Int64 × pz_Mu × Nat := if pz_mo x = false then (0, x, 1) else if pz_isL n i = false then (0, x, 2) else (if pz_mF x = 1 then 0 else pz_mM x (16 * n.toNatClampNeg + i.toNatClampNeg), pz_mset x n.toNatClampNeg i.toNatClampNeg w, if pz_mF x = 1 then 3 else 0)
def pz_gG (x : pz_Mu) (n i : Int32) : Int64 × Nat := if pz_mo x = false then (0, 1) else if pz_isL n i = false then (0, 2) else (pz_mM x (16 * n.toNatClampNeg + i.toNatClampNeg), 0)
set_option maxHeartbeats 4000000 in
set_option maxRecDepth 100000 in
theorem c_XM_thrown (l : Launch) (dC : Nat → ClassId) (dI : Nat → Nat → Nat) (h0 aB : Nat) (cB : ClassId) (f : Nat → Int32) (x : pz_Mu) (th : Nat) : Met l yXM_thrown wsXM_thrown ({ frames := 0, cells := 0, slots := 0, locals := 0 }) (va_Pc [.ref h0] (fun U => va_P (dC, dI) vwCl (pz_MW h0 aB cB f x th) U.heap ∧ va_K (dC, dI) vwCl [(cB, .byte)] U)) (va_Qi (fun (r : Int32) (u : Unit) => r = nI th) (fun _ _ => True) (fun _ => False)) 0 0 (fun _ => False) := by
  refine Met.ofW (cc := cXM_thrown) (maxL := 1) (ret := (some .int)) (by decide) rfl ?_
  intro p e s m args below meth c s₁ B hml hv
  obtain ⟨rfl, hP, hK⟩ := hv
  have hx := B.exec
  have hb := B.bytes
  have hr := B.returns
  have hts := atoms_spec (ws := wsXM_thrown) B.pre
  have hown : s.vm.findClass "ParityArrayModel" = some m.cls := findClass_of_methodNamed B.named
  have hlocks := B.notSynchronized
  have hS : va_S (fun _ => False) s.heap s.heap [] := va_S.rf
  have hl := lv_entry ([.ref h0]) (n := 1) (Nat.le_of_ble_eq_true rfl)
  rw [lg_entry_eq]
  generalize (lg_sl ([.ref h0]) ++ List.replicate (1 - (lg_sl ([.ref h0])).length) Slot.unset).toArray = ls at hl ⊢
  have hl : lv_has ls 1 [(0, .ref h0)] := hl
  have hP : va_P (dC, dI) vwCl [(h0, .inr (3, [.ref aB, .int (pz_b (pz_mo x)), .int (pz_o (pz_ms x)), .int (pz_b (pz_mf x)), .int (nI (pz_mr x)), .int (nI (pz_mF x)), .int (nI (pz_mw x)), .int (nI (pz_mc x)), .int (nI th)])), (aB, .inl (cB, 76800, .inl f))] s.heap := hP
  refine lv_aload_n hx hb dXM_thrown_0 rfl (lv_at hl 0 rfl) ?_
  refine va_get (D := (dC, dI)) (ci := 3) (v := .int (nI th)) (C := "ParityArrayModel") (T := TXM) (N := 9) hx hb hts (fun w h => List.mem_cons_of_mem _ (inXM w h)) hown hK hP 0 rfl rfl 8 (by decide) (hts _ (List.mem_cons_of_mem _ tw_399)) (fun _ h9 => h9) rfl dXM_thrown_1 ?_
  exact W.iret (v := nI th) hx hb hr (fun t ht hW => ⟨⟨_, (), rfl, rfl, trivial⟩, hS.F ht⟩) hS.2.2 dXM_thrown_4

set_option maxHeartbeats 4000000 in
set_option maxRecDepth 100000 in
theorem c_XM_fails (l : Launch) (dC : Nat → ClassId) (dI : Nat → Nat → Nat) (sz : Nat) (h0 aB : Nat) (cB : ClassId) (f : Nat → Int32) (x : pz_Mu) (th : Nat) (c0 : Nat) : Met l yXM_fails wsXM_fails ({ frames := 0, cells := 0, slots := 0, locals := 0 }) (va_Pc [.ref h0, .int (nI c0)] (fun U => U.heap.size = sz ∧ va_P (dC, dI) vwCl (pz_MW h0 aB cB f x th) U.heap ∧ va_K (dC, dI) vwCl [(cB, .byte)] U ∧ va_D (fun _ => True) (pz_MW h0 aB cB f x th))) (va_Qi (fun (r : Int32) (u : pz_Mu × Nat × (Nat → Int32)) => r = nI 0 ∧ u = (x, c0, f)) (fun u t => va_P (dC, dI) vwCl (pz_MW h0 aB cB u.2.2 u.1 u.2.1) t.heap ∧ va_K (dC, dI) vwCl [(cB, .byte)] t ∧ va_D (va_A (pz_MW h0 aB cB f x th) sz) (pz_MW h0 aB cB u.2.2 u.1 u.2.1)) (va_A (pz_MW h0 aB cB f x th) sz)) 0 0 (va_A (pz_MW h0 aB cB f x th) sz) := by
  refine Met.ofW (cc := cXM_fails) (maxL := 2) (ret := (some .int)) (by decide) rfl ?_
  intro p e s m args below meth c s₁ B hml hv
  obtain ⟨rfl, hsz, hP, hK, hD0⟩ := hv
  have hx := B.exec
  have hb := B.bytes
  have hr := B.returns
  have hts := atoms_spec (ws := wsXM_fails) B.pre
  have hown : s.vm.findClass "ParityArrayModel" = some m.cls := findClass_of_methodNamed B.named
  have hlocks := B.notSynchronized
  subst hsz
  have hD := hD0.self (sz := s.heap.size)
  generalize hAe : va_A (pz_MW h0 aB cB f x th) s.heap.size = A at hD ⊢
  have hA : ∀ q : Nat, s.heap.size ≤ q → A q := fun q h => by rw [← hAe]; exact Or.inr h
  have hS : va_S A s.heap s.heap [] := va_S.rf
  have hl := lv_entry ([.ref h0, .int (nI c0)]) (n := 2) (Nat.le_of_ble_eq_true rfl)
  rw [lg_entry_eq]
  generalize (lg_sl ([.ref h0, .int (nI c0)]) ++ List.replicate (2 - (lg_sl ([.ref h0, .int (nI c0)])).length) Slot.unset).toArray = ls at hl ⊢
  have hl : lv_has ls 2 [(0, .ref h0), (1, .int (nI c0))] := hl
  have hP : va_P (dC, dI) vwCl [(h0, .inr (3, [.ref aB, .int (pz_b (pz_mo x)), .int (pz_o (pz_ms x)), .int (pz_b (pz_mf x)), .int (nI (pz_mr x)), .int (nI (pz_mF x)), .int (nI (pz_mw x)), .int (nI (pz_mc x)), .int (nI th)])), (aB, .inl (cB, 76800, .inl f))] s.heap := hP
  have hD : va_D A [(h0, .inr (3, [.ref aB, .int (pz_b (pz_mo x)), .int (pz_o (pz_ms x)), .int (pz_b (pz_mf x)), .int (nI (pz_mr x)), .int (nI (pz_mF x)), .int (nI (pz_mw x)), .int (nI (pz_mc x)), .int (nI th)])), (aB, .inl (cB, 76800, .inl f))] := hD
  refine lv_aload_n hx hb dXM_fails_0 rfl (lv_at hl 0 rfl) ?_
  refine lv_iload_n hx hb dXM_fails_1 rfl (lv_at hl 1 rfl) ?_
  refine va_put (D := (dC, dI)) (ci := 3) (v := .int (nI c0)) (ty := .int) (C := "ParityArrayModel") (T := TXM) (N := 9) hx hb hts (fun w h => List.mem_cons_of_mem _ (inXM w h)) tyXM tyXM_ok nmXM hown hK hP hD hS 0 rfl rfl 8 (by decide) (hts _ (List.mem_cons_of_mem _ tw_399)) (fun _ h9 => h9) rfl (by decide +kernel) rfl rfl (Nat.le_of_ble_eq_true rfl) dXM_fails_2 (fun H locs hP hD hS => ?_)
  have hP : va_P (dC, dI) vwCl [(h0, .inr (3, [.ref aB, .int (pz_b (pz_mo x)), .int (pz_o (pz_ms x)), .int (pz_b (pz_mf x)), .int (nI (pz_mr x)), .int (nI (pz_mF x)), .int (nI (pz_mw x)), .int (nI (pz_mc x)), .int (nI c0)])), (aB, .inl (cB, 76800, .inl f))] H := hP
  have hD : va_D A [(h0, .inr (3, [.ref aB, .int (pz_b (pz_mo x)), .int (pz_o (pz_ms x)), .int (pz_b (pz_mf x)), .int (nI (pz_mr x)), .int (nI (pz_mF x)), .int (nI (pz_mw x)), .int (nI (pz_mc x)), .int (nI c0)])), (aB, .inl (cB, 76800, .inl f))] := hD
  refine lv_iconst (v := nI 0) hx hb dXM_fails_5 (by decide) ?_
  exact W.iret (v := nI 0) hx hb hr (fun t ht hW => ⟨⟨_, (x, c0, f), rfl, ⟨rfl, rfl⟩, by rw [ht]; exact hP, va_K.moved hW.alike hK, hAe ▸ hD⟩, hS.F ht⟩) hS.2.2 dXM_fails_6

set_option maxHeartbeats 4000000 in
set_option maxRecDepth 100000 in
theorem c_XM_isThere (l : Launch) (dC : Nat → ClassId) (dI : Nat → Nat → Nat) (h0 aB : Nat) (cB : ClassId) (f : Nat → Int32) (x : pz_Mu) (th : Nat) (d0 s0 : Nat) (hm1 : pz_mr x ≤ 150) (hm2 : pz_mF x ≤ 2) (hm3 : pz_mw x ≤ 10) (hm4 : pz_mc x ≤ 200) (hm5 : ∀ e, pz_ms x = some e → e < 5) (hth : th < 10) (hd0 : d0 < 5) (hs0 : s0 < 150) : Met l yXM_isThere wsXM_isThere ({ frames := 0, cells := 0, slots := 0, locals := 0 }) (va_Pc [.ref h0, .int (nI d0), .int (nI s0)] (fun U => va_P (dC, dI) vwCl (pz_MW h0 aB cB f x th) U.heap ∧ va_K (dC, dI) vwCl [(cB, .byte)] U)) (va_Qi (fun (r : Int32) (u : Unit) => r = pz_b (decide (pz_ms x ≠ some d0 ∨ (pz_mf x = true ∧ s0 < pz_mr x)))) (fun _ _ => True) (fun _ => False)) 0 0 (fun _ => False) := by
  refine Met.ofW (cc := cXM_isThere) (maxL := 3) (ret := (some .boolean)) (by decide) rfl ?_
  intro p e s m args below meth c s₁ B hml hv
  obtain ⟨rfl, hP, hK⟩ := hv
  have hx := B.exec
  have hb := B.bytes
  have hr := B.returns
  have hts := atoms_spec (ws := wsXM_isThere) B.pre
  have hown : s.vm.findClass "ParityArrayModel" = some m.cls := findClass_of_methodNamed B.named
  have hlocks := B.notSynchronized
  have hS : va_S (fun _ => False) s.heap s.heap [] := va_S.rf
  have hl := lv_entry ([.ref h0, .int (nI d0), .int (nI s0)]) (n := 3) (Nat.le_of_ble_eq_true rfl)
  rw [lg_entry_eq]
  generalize (lg_sl ([.ref h0, .int (nI d0), .int (nI s0)]) ++ List.replicate (3 - (lg_sl ([.ref h0, .int (nI d0), .int (nI s0)])).length) Slot.unset).toArray = ls at hl ⊢
  have hl : lv_has ls 3 [(0, .ref h0), (1, .int (nI d0)), (2, .int (nI s0))] := hl
  have hP : va_P (dC, dI) vwCl [(h0, .inr (3, [.ref aB, .int (pz_b (pz_mo x)), .int (pz_o (pz_ms x)), .int (pz_b (pz_mf x)), .int (nI (pz_mr x)), .int (nI (pz_mF x)), .int (nI (pz_mw x)), .int (nI (pz_mc x)), .int (nI th)])), (aB, .inl (cB, 76800, .inl f))] s.heap := hP
  refine lv_iload_n hx hb dXM_isThere_0 rfl (lv_at hl 1 rfl) ?_
  refine lv_aload_n hx hb dXM_isThere_1 rfl (lv_at hl 0 rfl) ?_
  refine va_get (D := (dC, dI)) (ci := 3) (v := .int (pz_o (pz_ms x))) (C := "ParityArrayModel") (T := TXM) (N := 9) hx hb hts (fun w h => List.mem_cons_of_mem _ (inXM w h)) hown hK hP 0 rfl rfl 2 (by decide) (hts _ (List.mem_cons_of_mem _ tw_393)) (fun _ h9 => h9) rfl dXM_isThere_2 ?_
  refine lv_icmp_ne (tgt := 23) hx hb dXM_isThere_5 (by decide) (fun hc => ?_) (fun hc => ?_)
  · refine lv_iconst (v := nI 1) hx hb dXM_isThere_23 (by decide) ?_
    refine lv_goto (tgt := 28) hx hb dXM_isThere_24 (by decide) ?_
    exact W.zret (v := nI 1) hx hb hr rfl (fun t ht hW => ⟨⟨_, (), rfl, by rw [decide_eq_true (show pz_ms x ≠ some d0 ∨ (pz_mf x = true ∧ s0 < pz_mr x) from Or.inl fun h9 => hc ((pz_oeq (by omega) (pz_hm5 hm5)).mpr h9).symm)]; rfl, trivial⟩, hS.F ht⟩) hS.2.2 dXM_isThere_28
  · have hsk : pz_ms x = some d0 := (pz_oeq (by omega) (pz_hm5 hm5)).mp hc.symm
    refine lv_aload_n hx hb dXM_isThere_8 rfl (lv_at hl 0 rfl) ?_
    refine va_get (D := (dC, dI)) (ci := 3) (v := .int (pz_b (pz_mf x))) (C := "ParityArrayModel") (T := TXM) (N := 9) hx hb hts (fun w h => List.mem_cons_of_mem _ (inXM w h)) hown hK hP 0 rfl rfl 3 (by decide) (hts _ (List.mem_cons_of_mem _ tw_394)) (fun _ h9 => h9) rfl dXM_isThere_9 ?_
    refine lv_if_eq (tgt := 27) hx hb dXM_isThere_12 (by decide) (fun hc => ?_) (fun hc => ?_)
    · have hc : (pz_mf x) = false := pz_b0.mp hc
      refine lv_iconst (v := nI 0) hx hb dXM_isThere_27 (by decide) ?_
      exact W.zret (v := nI 0) hx hb hr rfl (fun t ht hW => ⟨⟨_, (), rfl, by rw [decide_eq_false (fun h9 => h9.elim (fun h => h hsk) (fun h => by rw [hc] at h; exact absurd h.1 (by decide)))]; rfl, trivial⟩, hS.F ht⟩) hS.2.2 dXM_isThere_28
    · have hc : (pz_mf x) = true := pz_bn hc
      have hf := hc
      refine lv_iload_n hx hb dXM_isThere_15 rfl (lv_at hl 2 rfl) ?_
      refine lv_aload_n hx hb dXM_isThere_16 rfl (lv_at hl 0 rfl) ?_
      refine va_get (D := (dC, dI)) (ci := 3) (v := .int (nI (pz_mr x))) (C := "ParityArrayModel") (T := TXM) (N := 9) hx hb hts (fun w h => List.mem_cons_of_mem _ (inXM w h)) hown hK hP 0 rfl rfl 4 (by decide) (hts _ (List.mem_cons_of_mem _ tw_395)) (fun _ h9 => h9) rfl dXM_isThere_17 ?_
      refine lv_icmp_ge (tgt := 27) hx hb dXM_isThere_20 (by decide) (fun hc => ?_) (fun hc => ?_)
      · have hc : (pz_mr x) ≤ s0 := (nI_leI (a := (pz_mr x)) (b := s0) (by omega) (by omega)).mp hc
        refine lv_iconst (v := nI 0) hx hb dXM_isThere_27 (by decide) ?_
        exact W.zret (v := nI 0) hx hb hr rfl (fun t ht hW => ⟨⟨_, (), rfl, by rw [decide_eq_false (fun h9 => h9.elim (fun h => h hsk) (fun h => by omega))]; rfl, trivial⟩, hS.F ht⟩) hS.2.2 dXM_isThere_28
      · have hc : ¬ (pz_mr x) ≤ s0 := fun h9 => hc ((nI_leI (a := (pz_mr x)) (b := s0) (by omega) (by omega)).mpr h9)
        refine lv_iconst (v := nI 1) hx hb dXM_isThere_23 (by decide) ?_
        refine lv_goto (tgt := 28) hx hb dXM_isThere_24 (by decide) ?_
        exact W.zret (v := nI 1) hx hb hr rfl (fun t ht hW => ⟨⟨_, (), rfl, by rw [decide_eq_true (show pz_ms x ≠ some d0 ∨ (pz_mf x = true ∧ s0 < pz_mr x) from Or.inr ⟨hf, by omega⟩)]; rfl, trivial⟩, hS.F ht⟩) hS.2.2 dXM_isThere_28

set_option maxHeartbeats 4000000 in
set_option maxRecDepth 100000 in
theorem c_XM_fresh (l : Launch) (dC : Nat → ClassId) (dI : Nat → Nat → Nat) (h0 aB : Nat) (cB : ClassId) (f : Nat → Int32) (x : pz_Mu) (th : Nat) (n0 : Nat) (hm1 : pz_mr x ≤ 150) (hm2 : pz_mF x ≤ 2) (hm3 : pz_mw x ≤ 10) (hm4 : pz_mc x ≤ 200) (hm5 : ∀ e, pz_ms x = some e → e < 5) (hth : th < 10) (hn0 : n0 < 600) : Met l yXM_fresh wsXM_fresh ({ frames := 1, cells := 0, slots := 0, locals := 22 }) (va_Pc [.ref h0, .int (nI n0)] (fun U => va_P (dC, dI) vwCl (pz_MW h0 aB cB f x th) U.heap ∧ va_K (dC, dI) vwCl [(cB, .byte)] U)) (va_Qi (fun (r : Int32) (u : Unit) => r = nI (pz_now x n0)) (fun _ _ => True) (fun _ => False)) 0 0 (fun _ => False) := by
  refine Met.ofW (cc := cXM_fresh) (maxL := 4) (ret := (some .int)) (by decide) rfl ?_
  intro p e s m args below meth c s₁ B hml hv
  obtain ⟨rfl, hP, hK⟩ := hv
  have hx := B.exec
  have hb := B.bytes
  have hr := B.returns
  have hts := atoms_spec (ws := wsXM_fresh) B.pre
  have hown : s.vm.findClass "ParityArrayModel" = some m.cls := findClass_of_methodNamed B.named
  have hlocks := B.notSynchronized
  have hS : va_S (fun _ => False) s.heap s.heap [] := va_S.rf
  have hl := lv_entry ([.ref h0, .int (nI n0)]) (n := 4) (Nat.le_of_ble_eq_true rfl)
  rw [lg_entry_eq]
  generalize (lg_sl ([.ref h0, .int (nI n0)]) ++ List.replicate (4 - (lg_sl ([.ref h0, .int (nI n0)])).length) Slot.unset).toArray = ls at hl ⊢
  have hl : lv_has ls 4 [(0, .ref h0), (1, .int (nI n0))] := hl
  have hP : va_P (dC, dI) vwCl [(h0, .inr (3, [.ref aB, .int (pz_b (pz_mo x)), .int (pz_o (pz_ms x)), .int (pz_b (pz_mf x)), .int (nI (pz_mr x)), .int (nI (pz_mF x)), .int (nI (pz_mw x)), .int (nI (pz_mc x)), .int (nI th)])), (aB, .inl (cB, 76800, .inl f))] s.heap := hP
  refine lv_iload_n hx hb dXM_fresh_0 rfl (lv_at hl 1 rfl) ?_
  refine lv_iconst (v := nI 4) hx hb dXM_fresh_1 (by decide) ?_
  refine lv_idiv hx hb dXM_fresh_2 (by decide) ?_
  refine lv_topi (nm_r (pk_div (by omega) (by decide) (by decide)) ?_)
  refine lv_istore_n hx hb dXM_fresh_3 rfl hl (by decide) rfl (fun ls hl => ?_)
  have hl : lv_has ls 4 [(2, .int (nI (n0 / 4))), (0, .ref h0), (1, .int (nI n0))] := hl
  refine lv_aload_n hx hb dXM_fresh_4 rfl (lv_at hl 1 rfl) ?_
  refine lv_iload_n hx hb dXM_fresh_5 rfl (lv_at hl 0 rfl) ?_
  refine lv_iconst (v := nI 5) hx hb dXM_fresh_6 (by decide) ?_
  refine lv_irem hx hb dXM_fresh_7 (by decide) ?_
  refine lv_topi (nm_r (pk_rem (by omega) (by decide) (by decide)) ?_)
  refine lv_iload_n hx hb dXM_fresh_8 rfl (lv_at hl 0 rfl) ?_
  refine va_calli (va_runV (As := [.int (nI ((n0 / 4) % 5)), .int (nI (n0 / 4))]) (rest := []) ⟨hx, hb, hml, hown, hts⟩ (c_XM_isThere l dC dI h0 aB cB f x th (n0 / 4 % 5) (n0 / 4) hm1 hm2 hm3 hm4 hm5 hth (by omega) (by omega)) (cwV 2 hts (pz_gc (List.mem_cons_of_mem _ tw_439) rfl (pz_gc (List.mem_cons_of_mem _ tw_441) rfl (pz_gc (List.mem_cons_of_mem _ ts_12) rfl (pz_gc (List.mem_cons_of_mem _ tw_4) rfl (pz_gi tcXM_isThere))))) rfl rfl rfl (by decide +kernel) ⟨Nat.le_of_ble_eq_true rfl, Nat.le_of_ble_eq_true rfl⟩) (pz_preV (va_recv hK hP (q0 := 0) rfl rfl) hP hK) rfl rfl hl.1 rfl (lv_room (Nat.le_of_ble_eq_true rfl)) dXM_fresh_9 ⟨Nat.zero_le _, Nat.zero_le _⟩) hS (fun q _ h => h.elim) (fun q h => h.elim) (fun r u t H locs ht hvm hw _ hz hk9 hS => ?_)
  have hP := pz_keep hP hk9
  clear hk9 hz ht hvm
  subst hw
  refine lv_if_eq (tgt := 19) hx hb dXM_fresh_12 (by decide) (fun hc => ?_) (fun hc => ?_)
  · have hc : (decide (pz_ms x ≠ some (n0 / 4 % 5) ∨ (pz_mf x = true ∧ n0 / 4 < pz_mr x))) = false := pz_b0.mp hc
    have hT : decide (pz_ms x ≠ some (n0 / 4 % 5) ∨ (pz_mf x = true ∧ n0 / 4 < pz_mr x)) = false := hc
    refine lv_iconst (v := nI 0) hx hb dXM_fresh_19 (by decide) ?_
    refine lv_istore_n hx hb dXM_fresh_20 rfl hl (by decide) rfl (fun ls hl => ?_)
    have hl : lv_has ls 4 [(3, .int (nI 0)), (2, .int (nI (n0 / 4))), (0, .ref h0), (1, .int (nI n0))] := hl
    refine lv_aload_n hx hb dXM_fresh_21 rfl (lv_at hl 2 rfl) ?_
    refine va_get (D := (dC, dI)) (ci := 3) (v := .int (nI (pz_mw x))) (C := "ParityArrayModel") (T := TXM) (N := 9) hx hb hts (fun w h => List.mem_cons_of_mem _ (inXM w h)) hown hK hP 0 rfl rfl 6 (by decide) (hts _ (List.mem_cons_of_mem _ tw_397)) (fun _ h9 => h9) rfl dXM_fresh_22 ?_
    refine lv_iload_n hx hb dXM_fresh_25 rfl (lv_at hl 0 rfl) ?_
    refine lv_icmp_ge (tgt := 31) hx hb dXM_fresh_26 (by decide) (fun hc => ?_) (fun hc => ?_)
    · have hc : 0 ≤ (pz_mw x) := (nI_leI (a := 0) (b := (pz_mw x)) (by omega) (by omega)).mp hc
      have hw1 := hc
      refine lv_aload_n hx hb dXM_fresh_31 rfl (lv_at hl 2 rfl) ?_
      refine va_get (D := (dC, dI)) (ci := 3) (v := .int (nI (pz_mw x))) (C := "ParityArrayModel") (T := TXM) (N := 9) hx hb hts (fun w h => List.mem_cons_of_mem _ (inXM w h)) hown hK hP 0 rfl rfl 6 (by decide) (hts _ (List.mem_cons_of_mem _ tw_397)) (fun _ h9 => h9) rfl dXM_fresh_32 ?_
      refine lv_iload_n hx hb dXM_fresh_35 rfl (lv_at hl 0 rfl) ?_
      refine lv_icmp_le (tgt := 43) hx hb dXM_fresh_36 (by decide) (fun hc => ?_) (fun hc => ?_)
      · have hc : (pz_mw x) ≤ 0 := (nI_leI (a := (pz_mw x)) (b := 0) (by omega) (by omega)).mp hc
        have hw2 := hc
        refine lv_aload_n hx hb dXM_fresh_43 rfl (lv_at hl 2 rfl) ?_
        refine va_get (D := (dC, dI)) (ci := 3) (v := .int (nI (pz_mc x))) (C := "ParityArrayModel") (T := TXM) (N := 9) hx hb hts (fun w h => List.mem_cons_of_mem _ (inXM w h)) hown hK hP 0 rfl rfl 7 (by decide) (hts _ (List.mem_cons_of_mem _ tw_398)) (fun _ h9 => h9) rfl dXM_fresh_44 ?_
        refine lv_sipush (v := nI 128) hx hb dXM_fresh_47 (by decide) ?_
        refine lv_icmp_ge (tgt := 60) hx hb dXM_fresh_50 (by decide) (fun hc => ?_) (fun hc => ?_)
        · have hc : 128 ≤ (pz_mc x) := (nI_leI (a := 128) (b := (pz_mc x)) (by omega) (by omega)).mp hc
          refine lv_sipush (v := nI 128) hx hb dXM_fresh_60 (by decide) ?_
          exact W.iret (v := nI 128) hx hb hr (fun t ht hW => ⟨⟨_, (), rfl, by unfold pz_now pz_nw; rw [hT]; simp only [if_true, if_false, Bool.false_eq_true, reduceIte]; rw [if_neg (by omega), if_neg (by omega), Nat.min_eq_right (by omega)], trivial⟩, hS.F ht⟩) hS.2.2 dXM_fresh_63
        · have hc : ¬ 128 ≤ (pz_mc x) := fun h9 => hc ((nI_leI (a := 128) (b := (pz_mc x)) (by omega) (by omega)).mpr h9)
          refine lv_aload_n hx hb dXM_fresh_53 rfl (lv_at hl 2 rfl) ?_
          refine va_get (D := (dC, dI)) (ci := 3) (v := .int (nI (pz_mc x))) (C := "ParityArrayModel") (T := TXM) (N := 9) hx hb hts (fun w h => List.mem_cons_of_mem _ (inXM w h)) hown hK hP 0 rfl rfl 7 (by decide) (hts _ (List.mem_cons_of_mem _ tw_398)) (fun _ h9 => h9) rfl dXM_fresh_54 ?_
          refine lv_goto (tgt := 63) hx hb dXM_fresh_57 (by decide) ?_
          exact W.iret (v := nI (pz_mc x)) hx hb hr (fun t ht hW => ⟨⟨_, (), rfl, by unfold pz_now pz_nw; rw [hT]; simp only [if_true, if_false, Bool.false_eq_true, reduceIte]; rw [if_neg (by omega), if_neg (by omega), Nat.min_eq_left (by omega)], trivial⟩, hS.F ht⟩) hS.2.2 dXM_fresh_63
      · have hc : ¬ (pz_mw x) ≤ 0 := fun h9 => hc ((nI_leI (a := (pz_mw x)) (b := 0) (by omega) (by omega)).mpr h9)
        refine lv_sipush (v := nI 128) hx hb dXM_fresh_39 (by decide) ?_
        exact W.iret (v := nI 128) hx hb hr (fun t ht hW => ⟨⟨_, (), rfl, by unfold pz_now pz_nw; rw [hT]; simp only [if_true, if_false, Bool.false_eq_true, reduceIte]; rw [if_neg (by omega), if_pos (by omega)], trivial⟩, hS.F ht⟩) hS.2.2 dXM_fresh_42
    · have hc : ¬ 0 ≤ (pz_mw x) := fun h9 => hc ((nI_leI (a := 0) (b := (pz_mw x)) (by omega) (by omega)).mpr h9)
      refine lv_iconst (v := nI 0) hx hb dXM_fresh_29 (by decide) ?_
      exact W.iret (v := nI 0) hx hb hr (fun t ht hW => ⟨⟨_, (), rfl, by unfold pz_now pz_nw; rw [hT]; simp only [if_true, if_false, Bool.false_eq_true, reduceIte]; rw [if_pos (by omega)], trivial⟩, hS.F ht⟩) hS.2.2 dXM_fresh_30
  · have hc : (decide (pz_ms x ≠ some (n0 / 4 % 5) ∨ (pz_mf x = true ∧ n0 / 4 < pz_mr x))) = true := pz_bn hc
    have hT : decide (pz_ms x ≠ some (n0 / 4 % 5) ∨ (pz_mf x = true ∧ n0 / 4 < pz_mr x)) = true := hc
    refine lv_iconst (v := nI 1) hx hb dXM_fresh_15 (by decide) ?_
    refine lv_goto (tgt := 20) hx hb dXM_fresh_16 (by decide) ?_
    refine lv_istore_n hx hb dXM_fresh_20 rfl hl (by decide) rfl (fun ls hl => ?_)
    have hl : lv_has ls 4 [(3, .int (nI 1)), (2, .int (nI (n0 / 4))), (0, .ref h0), (1, .int (nI n0))] := hl
    refine lv_aload_n hx hb dXM_fresh_21 rfl (lv_at hl 2 rfl) ?_
    refine va_get (D := (dC, dI)) (ci := 3) (v := .int (nI (pz_mw x))) (C := "ParityArrayModel") (T := TXM) (N := 9) hx hb hts (fun w h => List.mem_cons_of_mem _ (inXM w h)) hown hK hP 0 rfl rfl 6 (by decide) (hts _ (List.mem_cons_of_mem _ tw_397)) (fun _ h9 => h9) rfl dXM_fresh_22 ?_
    refine lv_iload_n hx hb dXM_fresh_25 rfl (lv_at hl 0 rfl) ?_
    refine lv_icmp_ge (tgt := 31) hx hb dXM_fresh_26 (by decide) (fun hc => ?_) (fun hc => ?_)
    · have hc : 1 ≤ (pz_mw x) := (nI_leI (a := 1) (b := (pz_mw x)) (by omega) (by omega)).mp hc
      have hw1 := hc
      refine lv_aload_n hx hb dXM_fresh_31 rfl (lv_at hl 2 rfl) ?_
      refine va_get (D := (dC, dI)) (ci := 3) (v := .int (nI (pz_mw x))) (C := "ParityArrayModel") (T := TXM) (N := 9) hx hb hts (fun w h => List.mem_cons_of_mem _ (inXM w h)) hown hK hP 0 rfl rfl 6 (by decide) (hts _ (List.mem_cons_of_mem _ tw_397)) (fun _ h9 => h9) rfl dXM_fresh_32 ?_
      refine lv_iload_n hx hb dXM_fresh_35 rfl (lv_at hl 0 rfl) ?_
      refine lv_icmp_le (tgt := 43) hx hb dXM_fresh_36 (by decide) (fun hc => ?_) (fun hc => ?_)
      · have hc : (pz_mw x) ≤ 1 := (nI_leI (a := (pz_mw x)) (b := 1) (by omega) (by omega)).mp hc
        have hw2 := hc
        refine lv_aload_n hx hb dXM_fresh_43 rfl (lv_at hl 2 rfl) ?_
        refine va_get (D := (dC, dI)) (ci := 3) (v := .int (nI (pz_mc x))) (C := "ParityArrayModel") (T := TXM) (N := 9) hx hb hts (fun w h => List.mem_cons_of_mem _ (inXM w h)) hown hK hP 0 rfl rfl 7 (by decide) (hts _ (List.mem_cons_of_mem _ tw_398)) (fun _ h9 => h9) rfl dXM_fresh_44 ?_
        refine lv_sipush (v := nI 128) hx hb dXM_fresh_47 (by decide) ?_
        refine lv_icmp_ge (tgt := 60) hx hb dXM_fresh_50 (by decide) (fun hc => ?_) (fun hc => ?_)
        · have hc : 128 ≤ (pz_mc x) := (nI_leI (a := 128) (b := (pz_mc x)) (by omega) (by omega)).mp hc
          refine lv_sipush (v := nI 128) hx hb dXM_fresh_60 (by decide) ?_
          exact W.iret (v := nI 128) hx hb hr (fun t ht hW => ⟨⟨_, (), rfl, by unfold pz_now pz_nw; rw [hT]; simp only [if_true, if_false, Bool.false_eq_true, reduceIte]; rw [if_neg (by omega), if_neg (by omega), Nat.min_eq_right (by omega)], trivial⟩, hS.F ht⟩) hS.2.2 dXM_fresh_63
        · have hc : ¬ 128 ≤ (pz_mc x) := fun h9 => hc ((nI_leI (a := 128) (b := (pz_mc x)) (by omega) (by omega)).mpr h9)
          refine lv_aload_n hx hb dXM_fresh_53 rfl (lv_at hl 2 rfl) ?_
          refine va_get (D := (dC, dI)) (ci := 3) (v := .int (nI (pz_mc x))) (C := "ParityArrayModel") (T := TXM) (N := 9) hx hb hts (fun w h => List.mem_cons_of_mem _ (inXM w h)) hown hK hP 0 rfl rfl 7 (by decide) (hts _ (List.mem_cons_of_mem _ tw_398)) (fun _ h9 => h9) rfl dXM_fresh_54 ?_
          refine lv_goto (tgt := 63) hx hb dXM_fresh_57 (by decide) ?_
          exact W.iret (v := nI (pz_mc x)) hx hb hr (fun t ht hW => ⟨⟨_, (), rfl, by unfold pz_now pz_nw; rw [hT]; simp only [if_true, if_false, Bool.false_eq_true, reduceIte]; rw [if_neg (by omega), if_neg (by omega), Nat.min_eq_left (by omega)], trivial⟩, hS.F ht⟩) hS.2.2 dXM_fresh_63
      · have hc : ¬ (pz_mw x) ≤ 1 := fun h9 => hc ((nI_leI (a := (pz_mw x)) (b := 1) (by omega) (by omega)).mpr h9)
        refine lv_sipush (v := nI 128) hx hb dXM_fresh_39 (by decide) ?_
        exact W.iret (v := nI 128) hx hb hr (fun t ht hW => ⟨⟨_, (), rfl, by unfold pz_now pz_nw; rw [hT]; simp only [if_true, if_false, Bool.false_eq_true, reduceIte]; rw [if_neg (by omega), if_pos (by omega)], trivial⟩, hS.F ht⟩) hS.2.2 dXM_fresh_42
    · have hc : ¬ 1 ≤ (pz_mw x) := fun h9 => hc ((nI_leI (a := 1) (b := (pz_mw x)) (by omega) (by omega)).mpr h9)
      refine lv_iconst (v := nI 0) hx hb dXM_fresh_29 (by decide) ?_
      exact W.iret (v := nI 0) hx hb hr (fun t ht hW => ⟨⟨_, (), rfl, by unfold pz_now pz_nw; rw [hT]; simp only [if_true, if_false, Bool.false_eq_true, reduceIte]; rw [if_pos (by omega)], trivial⟩, hS.F ht⟩) hS.2.2 dXM_fresh_30

set_option maxHeartbeats 4000000 in
set_option maxRecDepth 100000 in
theorem c_XM_read (l : Launch) (dC : Nat → ClassId) (dI : Nat → Nat → Nat) (h0 aB : Nat) (cB : ClassId) (f : Nat → Int32) (x : pz_Mu) (th : Nat) (q0 : Nat) (hq0 : q0 < 9600) (hBy : pz_By f (pz_mM x)) : Met l yXM_read wsXM_read ({ frames := 0, cells := 0, slots := 0, locals := 0 }) (va_Pc [.ref h0, .int (nI (8 * q0))] (fun U => va_P (dC, dI) vwCl (pz_MW h0 aB cB f x th) U.heap ∧ va_K (dC, dI) vwCl [(cB, .byte)] U)) (va_Ql (fun (r : Int64) (u : Unit) => r = pz_mM x q0) (fun _ _ => True) (fun _ => False)) 0 0 (fun _ => False) := by
  refine Met.ofW (cc := cXM_read) (maxL := 5) (ret := (some .long)) (by decide) rfl ?_
  intro p e s m args below meth c s₁ B hml hv
  obtain ⟨rfl, hP, hK⟩ := hv
  have hx := B.exec
  have hb := B.bytes
  have hr := B.returns
  have hts := atoms_spec (ws := wsXM_read) B.pre
  have hown : s.vm.findClass "ParityArrayModel" = some m.cls := findClass_of_methodNamed B.named
  have hlocks := B.notSynchronized
  have hS : va_S (fun _ => False) s.heap s.heap [] := va_S.rf
  have hl := lv_entry ([.ref h0, .int (nI (8 * q0))]) (n := 5) (Nat.le_of_ble_eq_true rfl)
  rw [lg_entry_eq]
  generalize (lg_sl ([.ref h0, .int (nI (8 * q0))]) ++ List.replicate (5 - (lg_sl ([.ref h0, .int (nI (8 * q0))])).length) Slot.unset).toArray = ls at hl ⊢
  have hl : lv_has ls 5 [(0, .ref h0), (1, .int (nI (8 * q0)))] := hl
  have hP : va_P (dC, dI) vwCl [(h0, .inr (3, [.ref aB, .int (pz_b (pz_mo x)), .int (pz_o (pz_ms x)), .int (pz_b (pz_mf x)), .int (nI (pz_mr x)), .int (nI (pz_mF x)), .int (nI (pz_mw x)), .int (nI (pz_mc x)), .int (nI th)])), (aB, .inl (cB, 76800, .inl f))] s.heap := hP
  refine lv_lconst (v := 0) hx hb dXM_read_0 (by decide) ?_
  refine lv_lstore_n hx hb dXM_read_1 rfl hl (by decide) rfl (fun ls hl => ?_)
  have hl : lv_has ls 5 [(2, .long 0), (0, .ref h0), (1, .int (nI (8 * q0)))] := hl
  refine lv_iconst (v := nI 0) hx hb dXM_read_2 (by decide) ?_
  refine lv_istore hx hb dXM_read_3 hl (by decide) rfl (fun ls hl => ?_)
  have hl : lv_has ls 5 [(4, .int (nI 0)), (2, .long 0), (0, .ref h0), (1, .int (nI (8 * q0)))] := hl
  rw [← pz_pre_0 (pz_mM x q0)] at hl
  refine pz_loop (fun _ => 0) (fun _ => 0) 8 (fun k ls H locs => lv_has ls 5 [(4, .int (nI k)), (2, .long (pz_pre (pz_mM x q0) k)), (0, .ref h0), (1, .int (nI (8 * q0)))] ∧ va_P (dC, dI) vwCl [(h0, .inr (3, [.ref aB, .int (pz_b (pz_mo x)), .int (pz_o (pz_ms x)), .int (pz_b (pz_mf x)), .int (nI (pz_mr x)), .int (nI (pz_mF x)), .int (nI (pz_mw x)), .int (nI (pz_mc x)), .int (nI th)])), (aB, .inl (cB, 76800, .inl f))] H ∧ va_S (fun _ => False) s.heap H locs) ?_ ?_ 8 0 (by omega) _ _ _ ⟨hl, hP, hS⟩
  · intro k ls H locs hk hI ih
    obtain ⟨hl, hP, hS⟩ := hI
    refine lv_iload hx hb dXM_read_5 (lv_at hl 0 rfl) ?_
    refine lv_bipush (v := nI 8) hx hb dXM_read_7 (by decide) ?_
    refine lv_icmp_ge (tgt := 38) hx hb dXM_read_9 (by decide) (fun hc => absurd hc (nI_ge hk (by decide))) (fun _ => ?_)
    refine lv_lload_n hx hb dXM_read_12 rfl (lv_at hl 1 rfl) ?_
    refine lv_bipush (v := nI 8) hx hb dXM_read_13 (by decide) ?_
    refine lv_lshl (v := (pz_pre (pz_mM x q0) k) <<< ((nI 8).toInt64 &&& 63)) hx hb dXM_read_15 rfl ?_
    refine lv_aload_n hx hb dXM_read_16 rfl (lv_at hl 2 rfl) ?_
    refine va_get (D := (dC, dI)) (ci := 3) (v := .ref aB) (C := "ParityArrayModel") (T := TXM) (N := 9) hx hb hts (fun w h => List.mem_cons_of_mem _ (inXM w h)) hown hK hP 0 rfl rfl 0 (by decide) (hts _ (List.mem_cons_of_mem _ tw_391)) (fun _ h9 => h9) rfl dXM_read_17 ?_
    refine lv_iload_n hx hb dXM_read_20 rfl (lv_at hl 3 rfl) ?_
    refine lv_iload hx hb dXM_read_21 (lv_at hl 0 rfl) ?_
    refine lv_iadd hx hb dXM_read_23 ?_
    refine lv_topi (nm_r (nI_add (8 * q0) k) ?_)
    refine va_bald hx hb hK hP 1 0 rfl rfl (vp_in_nI (by omega) (by decide)) dXM_read_24 ?_
    refine lv_topi (nm_r (congrArg f (nI_clamp (by omega))) ?_)
    refine lv_topi (nm_r (hBy q0 k hq0 hk) ?_)
    refine lv_sipush (v := nI 255) hx hb dXM_read_25 (by decide) ?_
    refine lv_iand hx hb dXM_read_28 ?_
    refine lv_i2l (v := ((pz_by (pz_mM x q0) k) &&& 255).toInt64) hx hb dXM_read_29 rfl ?_
    refine lv_lor hx hb dXM_read_30 ?_
    refine lv_topl (nm_r (pz_rd (pz_mM x q0) hk) ?_)
    refine lv_lstore_n hx hb dXM_read_31 rfl hl (by decide) rfl (fun ls hl => ?_)
    have hl : lv_has ls 5 [(2, .long (pz_pre (pz_mM x q0) (k + 1))), (4, .int (nI k)), (0, .ref h0), (1, .int (nI (8 * q0)))] := hl
    refine lv_iinc (k := 1) (v := nI (k + 1)) hx hb dXM_read_32 hl rfl (by rw [nI_succ]; rfl) (by decide) rfl (fun ls hl => ?_)
    have hl : lv_has ls 5 [(4, .int (nI (k + 1))), (2, .long (pz_pre (pz_mM x q0) (k + 1))), (0, .ref h0), (1, .int (nI (8 * q0)))] := hl
    refine lv_goto (tgt := 5) hx hb dXM_read_35 (by decide) ?_
    exact ih _ _ _ ⟨hl, hP, hS⟩
  · intro ls H locs hI
    obtain ⟨hl, hP, hS⟩ := hI
    refine lv_iload hx hb dXM_read_5 (lv_at hl 0 rfl) ?_
    refine lv_bipush (v := nI 8) hx hb dXM_read_7 (by decide) ?_
    refine lv_icmp_ge (tgt := 38) hx hb dXM_read_9 (by decide) (fun _ => ?_) (fun hc => absurd hc (fun h9 => h9 (nI_le (Nat.le_refl 8) (by decide))))
    refine lv_lload_n hx hb dXM_read_38 rfl (lv_at hl 1 rfl) ?_
    exact W.lret (v := pz_pre (pz_mM x q0) 8) hx hb hr (fun t ht hW => ⟨⟨_, (), rfl, pz_pre_8 _, trivial⟩, hS.F ht⟩) hS.2.2 dXM_read_39
end
section
/-! the reference: public methods (laid by a program) -/
set_option maxHeartbeats 4000000 in
set_option maxRecDepth 100000 in
theorem c_XM_get (l : Launch) (dC : Nat → ClassId) (dI : Nat → Nat → Nat) (sz : Nat) (h0 aB : Nat) (cB : ClassId) (f : Nat → Int32) (x : pz_Mu) (th : Nat) (n i : Int32) (hm1 : pz_mr x ≤ 150) (hm2 : pz_mF x ≤ 2) (hm3 : pz_mw x ≤ 10) (hm4 : pz_mc x ≤ 200) (hm5 : ∀ e, pz_ms x = some e → e < 5) (hth : th < 10) (hBy : pz_By f (pz_mM x)) : Met l yXM_get wsXM_get ({ frames := 1, cells := 0, slots := 0, locals := 24 }) (va_Pc [.ref h0, .int n, .int i] (fun U => U.heap.size = sz ∧ va_P (dC, dI) vwCl (pz_MW h0 aB cB f x th) U.heap ∧ va_K (dC, dI) vwCl [(cB, .byte)] U ∧ va_D (fun _ => True) (pz_MW h0 aB cB f x th))) (va_Ql (fun (r : Int64) (u : pz_Mu × Nat × (Nat → Int32)) => (r, u.2.1) = pz_gG x n i ∧ u.1 = x ∧ u.2.2 = f) (fun u t => va_P (dC, dI) vwCl (pz_MW h0 aB cB u.2.2 u.1 u.2.1) t.heap ∧ va_K (dC, dI) vwCl [(cB, .byte)] t ∧ va_D (va_A (pz_MW h0 aB cB f x th) sz) (pz_MW h0 aB cB u.2.2 u.1 u.2.1)) (va_A (pz_MW h0 aB cB f x th) sz)) 0 0 (va_A (pz_MW h0 aB cB f x th) sz) := by
  refine Met.ofW (cc := cXM_get) (maxL := 3) (ret := (some .long)) (by decide) rfl ?_
  intro p e s m args below meth c s₁ B hml hv
  obtain ⟨rfl, hsz, hP, hK, hD0⟩ := hv
  have hx := B.exec
  have hb := B.bytes
  have hr := B.returns
  have hts := atoms_spec (ws := wsXM_get) B.pre
  have hown : s.vm.findClass "ParityArrayModel" = some m.cls := findClass_of_methodNamed B.named
  have hlocks := B.notSynchronized
  subst hsz
  have hD := hD0.self (sz := s.heap.size)
  generalize hAe : va_A (pz_MW h0 aB cB f x th) s.heap.size = A at hD ⊢
  have hA : ∀ q : Nat, s.heap.size ≤ q → A q := fun q h => by rw [← hAe]; exact Or.inr h
  have hS : va_S A s.heap s.heap [] := va_S.rf
  have hl := lv_entry ([.ref h0, .int n, .int i]) (n := 3) (Nat.le_of_ble_eq_true rfl)
  rw [lg_entry_eq]
  generalize (lg_sl ([.ref h0, .int n, .int i]) ++ List.replicate (3 - (lg_sl ([.ref h0, .int n, .int i])).length) Slot.unset).toArray = ls at hl ⊢
  have hl : lv_has ls 3 [(0, .ref h0), (1, .int n), (2, .int i)] := hl
  have hP : va_P (dC, dI) vwCl [(h0, .inr (3, [.ref aB, .int (pz_b (pz_mo x)), .int (pz_o (pz_ms x)), .int (pz_b (pz_mf x)), .int (nI (pz_mr x)), .int (nI (pz_mF x)), .int (nI (pz_mw x)), .int (nI (pz_mc x)), .int (nI th)])), (aB, .inl (cB, 76800, .inl f))] s.heap := hP
  have hD : va_D A [(h0, .inr (3, [.ref aB, .int (pz_b (pz_mo x)), .int (pz_o (pz_ms x)), .int (pz_b (pz_mf x)), .int (nI (pz_mr x)), .int (nI (pz_mF x)), .int (nI (pz_mw x)), .int (nI (pz_mc x)), .int (nI th)])), (aB, .inl (cB, 76800, .inl f))] := hD
  refine lv_aload_n hx hb dXM_get_0 rfl (lv_at hl 0 rfl) ?_
  refine va_get (D := (dC, dI)) (ci := 3) (v := .int (pz_b (pz_mo x))) (C := "ParityArrayModel") (T := TXM) (N := 9) hx hb hts (fun w h => List.mem_cons_of_mem _ (inXM w h)) hown hK hP 0 rfl rfl 1 (by decide) (hts _ (List.mem_cons_of_mem _ tw_392)) (fun _ h9 => h9) rfl dXM_get_1 ?_
  refine lv_if_ne (tgt := 14) hx hb dXM_get_4 (by decide) (fun hc => ?_) (fun hc => ?_)
  · have hc : (pz_mo x) = true := pz_bn hc
    have hon := hc
    refine lv_iload_n hx hb dXM_get_14 rfl (lv_at hl 1 rfl) ?_
    refine lv_if_lt (tgt := 35) hx hb dXM_get_15 (by decide) (fun hc => ?_) (fun hc => ?_)
    · have hL := show pz_isL n i = false from decide_eq_false (fun h9 => Int32.not_le.mpr hc h9.1)
      refine lv_aload_n hx hb dXM_get_35 rfl (lv_at hl 0 rfl) ?_
      refine lv_iconst (v := nI 2) hx hb dXM_get_36 (by decide) ?_
      have hPc := hP
      have hDc := hD
      have hFc := va_free (wc := [(h0, .inr (3, [.ref aB, .int (pz_b (pz_mo x)), .int (pz_o (pz_ms x)), .int (pz_b (pz_mf x)), .int (nI (pz_mr x)), .int (nI (pz_mF x)), .int (nI (pz_mw x)), .int (nI (pz_mc x)), .int (nI th)])), (aB, .inl (cB, 76800, .inl f))]) hD hS hA [0, 1] rfl
      refine va_calli (va_runV (As := [.int (nI 2)]) (rest := []) ⟨hx, hb, hml, hown, hts⟩ (c_XM_fails l dC dI _ h0 aB cB f x th 2) (cwV 1 hts (pz_gc (List.mem_cons_of_mem _ tw_427) rfl (pz_gc (List.mem_cons_of_mem _ tw_429) rfl (pz_gc (List.mem_cons_of_mem _ ts_9) rfl (pz_gc (List.mem_cons_of_mem _ tw_4) rfl (pz_gi tcXM_fails))))) rfl rfl rfl (by decide +kernel) ⟨Nat.le_of_ble_eq_true rfl, Nat.le_of_ble_eq_true rfl⟩) (pz_preVw (va_recv hK hPc (q0 := 0) rfl rfl) hPc hK hDc) rfl rfl hl.1 rfl (lv_room (Nat.le_of_ble_eq_true rfl)) dXM_get_37 ⟨Nat.zero_le _, Nat.zero_le _⟩) hS (fun q _ h => hFc q h) hFc (fun r u t H1 locs ht hvm hw hB hz hk1 hS => ?_)
      obtain ⟨hP1, hK1, hD1⟩ := hB
      rw [ht] at hP1
      obtain ⟨rfl, rfl⟩ := hw
      obtain ⟨hP, hD⟩ := va_join (wr := []) hP hD [0, 1] [] rfl rfl (by decide) (by decide) hk1 hFc hP1 hD1
      clear hPc hDc hFc hP1 hD1 hK1 hk1 hz ht hvm
      generalize H1 = H at hP hS ⊢
      have hP : va_P (dC, dI) vwCl [(h0, .inr (3, [.ref aB, .int (pz_b (pz_mo x)), .int (pz_o (pz_ms x)), .int (pz_b (pz_mf x)), .int (nI (pz_mr x)), .int (nI (pz_mF x)), .int (nI (pz_mw x)), .int (nI (pz_mc x)), .int (nI 2)])), (aB, .inl (cB, 76800, .inl f))] H := hP
      have hD : va_D A [(h0, .inr (3, [.ref aB, .int (pz_b (pz_mo x)), .int (pz_o (pz_ms x)), .int (pz_b (pz_mf x)), .int (nI (pz_mr x)), .int (nI (pz_mF x)), .int (nI (pz_mw x)), .int (nI (pz_mc x)), .int (nI 2)])), (aB, .inl (cB, 76800, .inl f))] := hD
      refine lv_i2l (v := 0) hx hb dXM_get_40 (by decide) ?_
      exact W.lret (v := 0) hx hb hr (fun t ht hW => ⟨⟨_, (x, 2, f), rfl, ⟨by unfold pz_gG; rw [if_neg (by rw [hon]; decide), if_pos hL], rfl, rfl⟩, by rw [ht]; exact hP, va_K.moved hW.alike hK, hAe ▸ hD⟩, hS.F ht⟩) hS.2.2 dXM_get_41
    · have h1 := hc
      refine lv_iload_n hx hb dXM_get_18 rfl (lv_at hl 1 rfl) ?_
      refine lv_sipush (v := nI 600) hx hb dXM_get_19 (by decide) ?_
      refine lv_icmp_ge (tgt := 35) hx hb dXM_get_22 (by decide) (fun hc => ?_) (fun hc => ?_)
      · have hL := show pz_isL n i = false from decide_eq_false (fun h9 => Int32.not_lt.mpr hc h9.2.1)
        refine lv_aload_n hx hb dXM_get_35 rfl (lv_at hl 0 rfl) ?_
        refine lv_iconst (v := nI 2) hx hb dXM_get_36 (by decide) ?_
        have hPc := hP
        have hDc := hD
        have hFc := va_free (wc := [(h0, .inr (3, [.ref aB, .int (pz_b (pz_mo x)), .int (pz_o (pz_ms x)), .int (pz_b (pz_mf x)), .int (nI (pz_mr x)), .int (nI (pz_mF x)), .int (nI (pz_mw x)), .int (nI (pz_mc x)), .int (nI th)])), (aB, .inl (cB, 76800, .inl f))]) hD hS hA [0, 1] rfl
        refine va_calli (va_runV (As := [.int (nI 2)]) (rest := []) ⟨hx, hb, hml, hown, hts⟩ (c_XM_fails l dC dI _ h0 aB cB f x th 2) (cwV 1 hts (pz_gc (List.mem_cons_of_mem _ tw_427) rfl (pz_gc (List.mem_cons_of_mem _ tw_429) rfl (pz_gc (List.mem_cons_of_mem _ ts_9) rfl (pz_gc (List.mem_cons_of_mem _ tw_4) rfl (pz_gi tcXM_fails))))) rfl rfl rfl (by decide +kernel) ⟨Nat.le_of_ble_eq_true rfl, Nat.le_of_ble_eq_true rfl⟩) (pz_preVw (va_recv hK hPc (q0 := 0) rfl rfl) hPc hK hDc) rfl rfl hl.1 rfl (lv_room (Nat.le_of_ble_eq_true rfl)) dXM_get_37 ⟨Nat.zero_le _, Nat.zero_le _⟩) hS (fun q _ h => hFc q h) hFc (fun r u t H1 locs ht hvm hw hB hz hk1 hS => ?_)
        obtain ⟨hP1, hK1, hD1⟩ := hB
        rw [ht] at hP1
        obtain ⟨rfl, rfl⟩ := hw
        obtain ⟨hP, hD⟩ := va_join (wr := []) hP hD [0, 1] [] rfl rfl (by decide) (by decide) hk1 hFc hP1 hD1
        clear hPc hDc hFc hP1 hD1 hK1 hk1 hz ht hvm
        generalize H1 = H at hP hS ⊢
        have hP : va_P (dC, dI) vwCl [(h0, .inr (3, [.ref aB, .int (pz_b (pz_mo x)), .int (pz_o (pz_ms x)), .int (pz_b (pz_mf x)), .int (nI (pz_mr x)), .int (nI (pz_mF x)), .int (nI (pz_mw x)), .int (nI (pz_mc x)), .int (nI 2)])), (aB, .inl (cB, 76800, .inl f))] H := hP
        have hD : va_D A [(h0, .inr (3, [.ref aB, .int (pz_b (pz_mo x)), .int (pz_o (pz_ms x)), .int (pz_b (pz_mf x)), .int (nI (pz_mr x)), .int (nI (pz_mF x)), .int (nI (pz_mw x)), .int (nI (pz_mc x)), .int (nI 2)])), (aB, .inl (cB, 76800, .inl f))] := hD
        refine lv_i2l (v := 0) hx hb dXM_get_40 (by decide) ?_
        exact W.lret (v := 0) hx hb hr (fun t ht hW => ⟨⟨_, (x, 2, f), rfl, ⟨by unfold pz_gG; rw [if_neg (by rw [hon]; decide), if_pos hL], rfl, rfl⟩, by rw [ht]; exact hP, va_K.moved hW.alike hK, hAe ▸ hD⟩, hS.F ht⟩) hS.2.2 dXM_get_41
      · have h2 := hc
        refine lv_iload_n hx hb dXM_get_25 rfl (lv_at hl 2 rfl) ?_
        refine lv_if_lt (tgt := 35) hx hb dXM_get_26 (by decide) (fun hc => ?_) (fun hc => ?_)
        · have hL := show pz_isL n i = false from decide_eq_false (fun h9 => Int32.not_le.mpr hc h9.2.2.1)
          refine lv_aload_n hx hb dXM_get_35 rfl (lv_at hl 0 rfl) ?_
          refine lv_iconst (v := nI 2) hx hb dXM_get_36 (by decide) ?_
          have hPc := hP
          have hDc := hD
          have hFc := va_free (wc := [(h0, .inr (3, [.ref aB, .int (pz_b (pz_mo x)), .int (pz_o (pz_ms x)), .int (pz_b (pz_mf x)), .int (nI (pz_mr x)), .int (nI (pz_mF x)), .int (nI (pz_mw x)), .int (nI (pz_mc x)), .int (nI th)])), (aB, .inl (cB, 76800, .inl f))]) hD hS hA [0, 1] rfl
          refine va_calli (va_runV (As := [.int (nI 2)]) (rest := []) ⟨hx, hb, hml, hown, hts⟩ (c_XM_fails l dC dI _ h0 aB cB f x th 2) (cwV 1 hts (pz_gc (List.mem_cons_of_mem _ tw_427) rfl (pz_gc (List.mem_cons_of_mem _ tw_429) rfl (pz_gc (List.mem_cons_of_mem _ ts_9) rfl (pz_gc (List.mem_cons_of_mem _ tw_4) rfl (pz_gi tcXM_fails))))) rfl rfl rfl (by decide +kernel) ⟨Nat.le_of_ble_eq_true rfl, Nat.le_of_ble_eq_true rfl⟩) (pz_preVw (va_recv hK hPc (q0 := 0) rfl rfl) hPc hK hDc) rfl rfl hl.1 rfl (lv_room (Nat.le_of_ble_eq_true rfl)) dXM_get_37 ⟨Nat.zero_le _, Nat.zero_le _⟩) hS (fun q _ h => hFc q h) hFc (fun r u t H1 locs ht hvm hw hB hz hk1 hS => ?_)
          obtain ⟨hP1, hK1, hD1⟩ := hB
          rw [ht] at hP1
          obtain ⟨rfl, rfl⟩ := hw
          obtain ⟨hP, hD⟩ := va_join (wr := []) hP hD [0, 1] [] rfl rfl (by decide) (by decide) hk1 hFc hP1 hD1
          clear hPc hDc hFc hP1 hD1 hK1 hk1 hz ht hvm
          generalize H1 = H at hP hS ⊢
          have hP : va_P (dC, dI) vwCl [(h0, .inr (3, [.ref aB, .int (pz_b (pz_mo x)), .int (pz_o (pz_ms x)), .int (pz_b (pz_mf x)), .int (nI (pz_mr x)), .int (nI (pz_mF x)), .int (nI (pz_mw x)), .int (nI (pz_mc x)), .int (nI 2)])), (aB, .inl (cB, 76800, .inl f))] H := hP
          have hD : va_D A [(h0, .inr (3, [.ref aB, .int (pz_b (pz_mo x)), .int (pz_o (pz_ms x)), .int (pz_b (pz_mf x)), .int (nI (pz_mr x)), .int (nI (pz_mF x)), .int (nI (pz_mw x)), .int (nI (pz_mc x)), .int (nI 2)])), (aB, .inl (cB, 76800, .inl f))] := hD
          refine lv_i2l (v := 0) hx hb dXM_get_40 (by decide) ?_
          exact W.lret (v := 0) hx hb hr (fun t ht hW => ⟨⟨_, (x, 2, f), rfl, ⟨by unfold pz_gG; rw [if_neg (by rw [hon]; decide), if_pos hL], rfl, rfl⟩, by rw [ht]; exact hP, va_K.moved hW.alike hK, hAe ▸ hD⟩, hS.F ht⟩) hS.2.2 dXM_get_41
        · have h3 := hc
          refine lv_iload_n hx hb dXM_get_29 rfl (lv_at hl 2 rfl) ?_
          refine lv_bipush (v := nI 16) hx hb dXM_get_30 (by decide) ?_
          refine lv_icmp_lt (tgt := 42) hx hb dXM_get_32 (by decide) (fun hc => ?_) (fun hc => ?_)
          · obtain ⟨n0, i0, hn0, hi0, rfl, rfl⟩ := pz_isL_of (decide_eq_true ⟨Int32.not_lt.mp h1, Int32.not_le.mp h2, Int32.not_lt.mp h3, hc⟩ : pz_isL n i = true)
            refine lv_aload_n hx hb dXM_get_42 rfl (lv_at hl 0 rfl) ?_
            refine lv_iconst (v := nI 0) hx hb dXM_get_43 (by decide) ?_
            refine va_put (D := (dC, dI)) (ci := 3) (v := .int (nI 0)) (ty := .int) (C := "ParityArrayModel") (T := TXM) (N := 9) hx hb hts (fun w h => List.mem_cons_of_mem _ (inXM w h)) tyXM tyXM_ok nmXM hown hK hP hD hS 0 rfl rfl 8 (by decide) (hts _ (List.mem_cons_of_mem _ tw_399)) (fun _ h9 => h9) rfl (by decide +kernel) rfl rfl (Nat.le_of_ble_eq_true rfl) dXM_get_44 (fun H locs hP hD hS => ?_)
            have hP : va_P (dC, dI) vwCl [(h0, .inr (3, [.ref aB, .int (pz_b (pz_mo x)), .int (pz_o (pz_ms x)), .int (pz_b (pz_mf x)), .int (nI (pz_mr x)), .int (nI (pz_mF x)), .int (nI (pz_mw x)), .int (nI (pz_mc x)), .int (nI 0)])), (aB, .inl (cB, 76800, .inl f))] H := hP
            have hD : va_D A [(h0, .inr (3, [.ref aB, .int (pz_b (pz_mo x)), .int (pz_o (pz_ms x)), .int (pz_b (pz_mf x)), .int (nI (pz_mr x)), .int (nI (pz_mF x)), .int (nI (pz_mw x)), .int (nI (pz_mc x)), .int (nI 0)])), (aB, .inl (cB, 76800, .inl f))] := hD
            refine lv_aload_n hx hb dXM_get_47 rfl (lv_at hl 0 rfl) ?_
            refine lv_iload_n hx hb dXM_get_48 rfl (lv_at hl 1 rfl) ?_
            refine lv_sipush (v := nI 128) hx hb dXM_get_49 (by decide) ?_
            refine lv_imul hx hb dXM_get_52 ?_
            refine lv_topi (nm_r (pk_mul n0 128) ?_)
            refine lv_bipush (v := nI 8) hx hb dXM_get_53 (by decide) ?_
            refine lv_iload_n hx hb dXM_get_55 rfl (lv_at hl 2 rfl) ?_
            refine lv_imul hx hb dXM_get_56 ?_
            refine lv_topi (nm_r (pk_mul 8 i0) ?_)
            refine lv_iadd hx hb dXM_get_57 ?_
            refine lv_topi (nm_r (nI_add (n0 * 128) (8 * i0)) ?_)
            refine lv_topi (nm_r (show nI (n0 * 128 + 8 * i0) = nI (8 * (16 * n0 + i0)) from congrArg nI (by omega)) ?_)
            refine va_calll (va_runV (As := [.int (nI (8 * (16 * n0 + i0)))]) (rest := []) ⟨hx, hb, hml, hown, hts⟩ (c_XM_read l dC dI h0 aB cB f x 0 (16 * n0 + i0) (by omega) hBy) (cwV 1 hts (pz_gc (List.mem_cons_of_mem _ tw_431) rfl (pz_gc (List.mem_cons_of_mem _ tw_433) rfl (pz_gc (List.mem_cons_of_mem _ ts_10) rfl (pz_gc (List.mem_cons_of_mem _ tw_4) rfl (pz_gi tcXM_read))))) rfl rfl rfl (by decide +kernel) ⟨Nat.le_of_ble_eq_true rfl, Nat.le_of_ble_eq_true rfl⟩) (pz_preV (va_recv hK hP (q0 := 0) rfl rfl) hP hK) rfl rfl hl.1 rfl (lv_room (Nat.le_of_ble_eq_true rfl)) dXM_get_58 ⟨Nat.zero_le _, Nat.zero_le _⟩) hS (fun q _ h => h.elim) (fun q h => h.elim) (fun r u t H locs ht hvm hw _ hz hk9 hS => ?_)
            have hP := pz_keep hP hk9
            clear hk9 hz ht hvm
            subst hw
            exact W.lret (v := pz_mM x (16 * n0 + i0)) hx hb hr (fun t ht hW => ⟨⟨_, (x, 0, f), rfl, ⟨by unfold pz_gG; rw [if_neg (by rw [hon]; decide), if_neg (by rw [pz_isL_nI hn0 hi0]; decide), nI_clamp (by omega), nI_clamp (by omega)], rfl, rfl⟩, by rw [ht]; exact hP, va_K.moved hW.alike hK, hAe ▸ hD⟩, hS.F ht⟩) hS.2.2 dXM_get_61
          · have hL := show pz_isL n i = false from decide_eq_false (fun h9 => Int32.not_lt.mpr (Int32.not_lt.mp hc) h9.2.2.2)
            refine lv_aload_n hx hb dXM_get_35 rfl (lv_at hl 0 rfl) ?_
            refine lv_iconst (v := nI 2) hx hb dXM_get_36 (by decide) ?_
            have hPc := hP
            have hDc := hD
            have hFc := va_free (wc := [(h0, .inr (3, [.ref aB, .int (pz_b (pz_mo x)), .int (pz_o (pz_ms x)), .int (pz_b (pz_mf x)), .int (nI (pz_mr x)), .int (nI (pz_mF x)), .int (nI (pz_mw x)), .int (nI (pz_mc x)), .int (nI th)])), (aB, .inl (cB, 76800, .inl f))]) hD hS hA [0, 1] rfl
            refine va_calli (va_runV (As := [.int (nI 2)]) (rest := []) ⟨hx, hb, hml, hown, hts⟩ (c_XM_fails l dC dI _ h0 aB cB f x th 2) (cwV 1 hts (pz_gc (List.mem_cons_of_mem _ tw_427) rfl (pz_gc (List.mem_cons_of_mem _ tw_429) rfl (pz_gc (List.mem_cons_of_mem _ ts_9) rfl (pz_gc (List.mem_cons_of_mem _ tw_4) rfl (pz_gi tcXM_fails))))) rfl rfl rfl (by decide +kernel) ⟨Nat.le_of_ble_eq_true rfl, Nat.le_of_ble_eq_true rfl⟩) (pz_preVw (va_recv hK hPc (q0 := 0) rfl rfl) hPc hK hDc) rfl rfl hl.1 rfl (lv_room (Nat.le_of_ble_eq_true rfl)) dXM_get_37 ⟨Nat.zero_le _, Nat.zero_le _⟩) hS (fun q _ h => hFc q h) hFc (fun r u t H1 locs ht hvm hw hB hz hk1 hS => ?_)
            obtain ⟨hP1, hK1, hD1⟩ := hB
            rw [ht] at hP1
            obtain ⟨rfl, rfl⟩ := hw
            obtain ⟨hP, hD⟩ := va_join (wr := []) hP hD [0, 1] [] rfl rfl (by decide) (by decide) hk1 hFc hP1 hD1
            clear hPc hDc hFc hP1 hD1 hK1 hk1 hz ht hvm
            generalize H1 = H at hP hS ⊢
            have hP : va_P (dC, dI) vwCl [(h0, .inr (3, [.ref aB, .int (pz_b (pz_mo x)), .int (pz_o (pz_ms x)), .int (pz_b (pz_mf x)), .int (nI (pz_mr x)), .int (nI (pz_mF x)), .int (nI (pz_mw x)), .int (nI (pz_mc x)), .int (nI 2)])), (aB, .inl (cB, 76800, .inl f))] H := hP
            have hD : va_D A [(h0, .inr (3, [.ref aB, .int (pz_b (pz_mo x)), .int (pz_o (pz_ms x)), .int (pz_b (pz_mf x)), .int (nI (pz_mr x)), .int (nI (pz_mF x)), .int (nI (pz_mw x)), .int (nI (pz_mc x)), .int (nI 2)])), (aB, .inl (cB, 76800, .inl f))] := hD
            refine lv_i2l (v := 0) hx hb dXM_get_40 (by decide) ?_
            exact W.lret (v := 0) hx hb hr (fun t ht hW => ⟨⟨_, (x, 2, f), rfl, ⟨by unfold pz_gG; rw [if_neg (by rw [hon]; decide), if_pos hL], rfl, rfl⟩, by rw [ht]; exact hP, va_K.moved hW.alike hK, hAe ▸ hD⟩, hS.F ht⟩) hS.2.2 dXM_get_41
  · have hc : (pz_mo x) = false := pz_b0.mp hc
    refine lv_aload_n hx hb dXM_get_7 rfl (lv_at hl 0 rfl) ?_
    refine lv_iconst (v := nI 1) hx hb dXM_get_8 (by decide) ?_
    have hPc := hP
    have hDc := hD
    have hFc := va_free (wc := [(h0, .inr (3, [.ref aB, .int (pz_b (pz_mo x)), .int (pz_o (pz_ms x)), .int (pz_b (pz_mf x)), .int (nI (pz_mr x)), .int (nI (pz_mF x)), .int (nI (pz_mw x)), .int (nI (pz_mc x)), .int (nI th)])), (aB, .inl (cB, 76800, .inl f))]) hD hS hA [0, 1] rfl
    refine va_calli (va_runV (As := [.int (nI 1)]) (rest := []) ⟨hx, hb, hml, hown, hts⟩ (c_XM_fails l dC dI _ h0 aB cB f x th 1) (cwV 1 hts (pz_gc (List.mem_cons_of_mem _ tw_427) rfl (pz_gc (List.mem_cons_of_mem _ tw_429) rfl (pz_gc (List.mem_cons_of_mem _ ts_9) rfl (pz_gc (List.mem_cons_of_mem _ tw_4) rfl (pz_gi tcXM_fails))))) rfl rfl rfl (by decide +kernel) ⟨Nat.le_of_ble_eq_true rfl, Nat.le_of_ble_eq_true rfl⟩) (pz_preVw (va_recv hK hPc (q0 := 0) rfl rfl) hPc hK hDc) rfl rfl hl.1 rfl (lv_room (Nat.le_of_ble_eq_true rfl)) dXM_get_9 ⟨Nat.zero_le _, Nat.zero_le _⟩) hS (fun q _ h => hFc q h) hFc (fun r u t H1 locs ht hvm hw hB hz hk1 hS => ?_)
    obtain ⟨hP1, hK1, hD1⟩ := hB
    rw [ht] at hP1
    obtain ⟨rfl, rfl⟩ := hw
    obtain ⟨hP, hD⟩ := va_join (wr := []) hP hD [0, 1] [] rfl rfl (by decide) (by decide) hk1 hFc hP1 hD1
    clear hPc hDc hFc hP1 hD1 hK1 hk1 hz ht hvm
    generalize H1 = H at hP hS ⊢
    have hP : va_P (dC, dI) vwCl [(h0, .inr (3, [.ref aB, .int (pz_b (pz_mo x)), .int (pz_o (pz_ms x)), .int (pz_b (pz_mf x)), .int (nI (pz_mr x)), .int (nI (pz_mF x)), .int (nI (pz_mw x)), .int (nI (pz_mc x)), .int (nI 1)])), (aB, .inl (cB, 76800, .inl f))] H := hP
    have hD : va_D A [(h0, .inr (3, [.ref aB, .int (pz_b (pz_mo x)), .int (pz_o (pz_ms x)), .int (pz_b (pz_mf x)), .int (nI (pz_mr x)), .int (nI (pz_mF x)), .int (nI (pz_mw x)), .int (nI (pz_mc x)), .int (nI 1)])), (aB, .inl (cB, 76800, .inl f))] := hD
    refine lv_i2l (v := 0) hx hb dXM_get_12 (by decide) ?_
    exact W.lret (v := 0) hx hb hr (fun t ht hW => ⟨⟨_, (x, 1, f), rfl, ⟨by unfold pz_gG; rw [if_pos hc], rfl, rfl⟩, by rw [ht]; exact hP, va_K.moved hW.alike hK, hAe ▸ hD⟩, hS.F ht⟩) hS.2.2 dXM_get_13

set_option maxHeartbeats 4000000 in
set_option maxRecDepth 100000 in
theorem c_XM_set (l : Launch) (dC : Nat → ClassId) (dI : Nat → Nat → Nat) (sz : Nat) (h0 aB : Nat) (cB : ClassId) (f : Nat → Int32) (x : pz_Mu) (th : Nat) (n i : Int32) (w0 : Int64) (hm1 : pz_mr x ≤ 150) (hm2 : pz_mF x ≤ 2) (hm3 : pz_mw x ≤ 10) (hm4 : pz_mc x ≤ 200) (hm5 : ∀ e, pz_ms x = some e → e < 5) (hth : th < 10) (hBy : pz_By f (pz_mM x)) : Met l yXM_set wsXM_set ({ frames := 2, cells := 0, slots := 0, locals := 45 }) (va_Pc [.ref h0, .int n, .int i, .long w0] (fun U => U.heap.size = sz ∧ va_P (dC, dI) vwCl (pz_MW h0 aB cB f x th) U.heap ∧ va_K (dC, dI) vwCl [(cB, .byte)] U ∧ va_D (fun _ => True) (pz_MW h0 aB cB f x th))) (va_Ql (fun (r : Int64) (u : pz_Mu × Nat × (Nat → Int32)) => (r, u.1, u.2.1) = pz_gS x n i w0 ∧ pz_By u.2.2 (pz_mM u.1)) (fun u t => va_P (dC, dI) vwCl (pz_MW h0 aB cB u.2.2 u.1 u.2.1) t.heap ∧ va_K (dC, dI) vwCl [(cB, .byte)] t ∧ va_D (va_A (pz_MW h0 aB cB f x th) sz) (pz_MW h0 aB cB u.2.2 u.1 u.2.1)) (va_A (pz_MW h0 aB cB f x th) sz)) 0 0 (va_A (pz_MW h0 aB cB f x th) sz) := by
  refine Met.ofW (cc := cXM_set) (maxL := 11) (ret := (some .long)) (by decide) rfl ?_
  intro p e s m args below meth c s₁ B hml hv
  obtain ⟨rfl, hsz, hP, hK, hD0⟩ := hv
  have hx := B.exec
  have hb := B.bytes
  have hr := B.returns
  have hts := atoms_spec (ws := wsXM_set) B.pre
  have hown : s.vm.findClass "ParityArrayModel" = some m.cls := findClass_of_methodNamed B.named
  have hlocks := B.notSynchronized
  subst hsz
  have hD := hD0.self (sz := s.heap.size)
  generalize hAe : va_A (pz_MW h0 aB cB f x th) s.heap.size = A at hD ⊢
  have hA : ∀ q : Nat, s.heap.size ≤ q → A q := fun q h => by rw [← hAe]; exact Or.inr h
  have hS : va_S A s.heap s.heap [] := va_S.rf
  have hl := lv_entry ([.ref h0, .int n, .int i, .long w0]) (n := 11) (Nat.le_of_ble_eq_true rfl)
  rw [lg_entry_eq]
  generalize (lg_sl ([.ref h0, .int n, .int i, .long w0]) ++ List.replicate (11 - (lg_sl ([.ref h0, .int n, .int i, .long w0])).length) Slot.unset).toArray = ls at hl ⊢
  have hl : lv_has ls 11 [(0, .ref h0), (1, .int n), (2, .int i), (3, .long w0)] := hl
  have hP : va_P (dC, dI) vwCl [(h0, .inr (3, [.ref aB, .int (pz_b (pz_mo x)), .int (pz_o (pz_ms x)), .int (pz_b (pz_mf x)), .int (nI (pz_mr x)), .int (nI (pz_mF x)), .int (nI (pz_mw x)), .int (nI (pz_mc x)), .int (nI th)])), (aB, .inl (cB, 76800, .inl f))] s.heap := hP
  have hD : va_D A [(h0, .inr (3, [.ref aB, .int (pz_b (pz_mo x)), .int (pz_o (pz_ms x)), .int (pz_b (pz_mf x)), .int (nI (pz_mr x)), .int (nI (pz_mF x)), .int (nI (pz_mw x)), .int (nI (pz_mc x)), .int (nI th)])), (aB, .inl (cB, 76800, .inl f))] := hD
  refine lv_aload_n hx hb dXM_set_0 rfl (lv_at hl 0 rfl) ?_
  refine va_get (D := (dC, dI)) (ci := 3) (v := .int (pz_b (pz_mo x))) (C := "ParityArrayModel") (T := TXM) (N := 9) hx hb hts (fun w h => List.mem_cons_of_mem _ (inXM w h)) hown hK hP 0 rfl rfl 1 (by decide) (hts _ (List.mem_cons_of_mem _ tw_392)) (fun _ h9 => h9) rfl dXM_set_1 ?_
  refine lv_if_ne (tgt := 14) hx hb dXM_set_4 (by decide) (fun hc => ?_) (fun hc => ?_)
  · have hc : (pz_mo x) = true := pz_bn hc
    have hon := hc
    refine lv_iload_n hx hb dXM_set_14 rfl (lv_at hl 1 rfl) ?_
    refine lv_if_lt (tgt := 35) hx hb dXM_set_15 (by decide) (fun hc => ?_) (fun hc => ?_)
    · have hL := show pz_isL n i = false from decide_eq_false (fun h9 => Int32.not_le.mpr hc h9.1)
      refine lv_aload_n hx hb dXM_set_35 rfl (lv_at hl 0 rfl) ?_
      refine lv_iconst (v := nI 2) hx hb dXM_set_36 (by decide) ?_
      have hPc := hP
      have hDc := hD
      have hFc := va_free (wc := [(h0, .inr (3, [.ref aB, .int (pz_b (pz_mo x)), .int (pz_o (pz_ms x)), .int (pz_b (pz_mf x)), .int (nI (pz_mr x)), .int (nI (pz_mF x)), .int (nI (pz_mw x)), .int (nI (pz_mc x)), .int (nI th)])), (aB, .inl (cB, 76800, .inl f))]) hD hS hA [0, 1] rfl
      refine va_calli (va_runV (As := [.int (nI 2)]) (rest := []) ⟨hx, hb, hml, hown, hts⟩ (c_XM_fails l dC dI _ h0 aB cB f x th 2) (cwV 1 hts (pz_gc (List.mem_cons_of_mem _ tw_427) rfl (pz_gc (List.mem_cons_of_mem _ tw_429) rfl (pz_gc (List.mem_cons_of_mem _ ts_9) rfl (pz_gc (List.mem_cons_of_mem _ tw_4) rfl (pz_gi tcXM_fails))))) rfl rfl rfl (by decide +kernel) ⟨Nat.le_of_ble_eq_true rfl, Nat.le_of_ble_eq_true rfl⟩) (pz_preVw (va_recv hK hPc (q0 := 0) rfl rfl) hPc hK hDc) rfl rfl hl.1 rfl (lv_room (Nat.le_of_ble_eq_true rfl)) dXM_set_37 ⟨Nat.zero_le _, Nat.zero_le _⟩) hS (fun q _ h => hFc q h) hFc (fun r u t H1 locs ht hvm hw hB hz hk1 hS => ?_)
      obtain ⟨hP1, hK1, hD1⟩ := hB
      rw [ht] at hP1
      obtain ⟨rfl, rfl⟩ := hw
      obtain ⟨hP, hD⟩ := va_join (wr := []) hP hD [0, 1] [] rfl rfl (by decide) (by decide) hk1 hFc hP1 hD1
      clear hPc hDc hFc hP1 hD1 hK1 hk1 hz ht hvm
      generalize H1 = H at hP hS ⊢
      have hP : va_P (dC, dI) vwCl [(h0, .inr (3, [.ref aB, .int (pz_b (pz_mo x)), .int (pz_o (pz_ms x)), .int (pz_b (pz_mf x)), .int (nI (pz_mr x)), .int (nI (pz_mF x)), .int (nI (pz_mw x)), .int (nI (pz_mc x)), .int (nI 2)])), (aB, .inl (cB, 76800, .inl f))] H := hP
      have hD : va_D A [(h0, .inr (3, [.ref aB, .int (pz_b (pz_mo x)), .int (pz_o (pz_ms x)), .int (pz_b (pz_mf x)), .int (nI (pz_mr x)), .int (nI (pz_mF x)), .int (nI (pz_mw x)), .int (nI (pz_mc x)), .int (nI 2)])), (aB, .inl (cB, 76800, .inl f))] := hD
      refine lv_i2l (v := 0) hx hb dXM_set_40 (by decide) ?_
      exact W.lret (v := 0) hx hb hr (fun t ht hW => ⟨⟨_, (x, 2, f), rfl, ⟨by unfold pz_gS; rw [if_neg (by rw [hon]; decide), if_pos hL], hBy⟩, by rw [ht]; exact hP, va_K.moved hW.alike hK, hAe ▸ hD⟩, hS.F ht⟩) hS.2.2 dXM_set_41
    · have h1 := hc
      refine lv_iload_n hx hb dXM_set_18 rfl (lv_at hl 1 rfl) ?_
      refine lv_sipush (v := nI 600) hx hb dXM_set_19 (by decide) ?_
      refine lv_icmp_ge (tgt := 35) hx hb dXM_set_22 (by decide) (fun hc => ?_) (fun hc => ?_)
      · have hL := show pz_isL n i = false from decide_eq_false (fun h9 => Int32.not_lt.mpr hc h9.2.1)
        refine lv_aload_n hx hb dXM_set_35 rfl (lv_at hl 0 rfl) ?_
        refine lv_iconst (v := nI 2) hx hb dXM_set_36 (by decide) ?_
        have hPc := hP
        have hDc := hD
        have hFc := va_free (wc := [(h0, .inr (3, [.ref aB, .int (pz_b (pz_mo x)), .int (pz_o (pz_ms x)), .int (pz_b (pz_mf x)), .int (nI (pz_mr x)), .int (nI (pz_mF x)), .int (nI (pz_mw x)), .int (nI (pz_mc x)), .int (nI th)])), (aB, .inl (cB, 76800, .inl f))]) hD hS hA [0, 1] rfl
        refine va_calli (va_runV (As := [.int (nI 2)]) (rest := []) ⟨hx, hb, hml, hown, hts⟩ (c_XM_fails l dC dI _ h0 aB cB f x th 2) (cwV 1 hts (pz_gc (List.mem_cons_of_mem _ tw_427) rfl (pz_gc (List.mem_cons_of_mem _ tw_429) rfl (pz_gc (List.mem_cons_of_mem _ ts_9) rfl (pz_gc (List.mem_cons_of_mem _ tw_4) rfl (pz_gi tcXM_fails))))) rfl rfl rfl (by decide +kernel) ⟨Nat.le_of_ble_eq_true rfl, Nat.le_of_ble_eq_true rfl⟩) (pz_preVw (va_recv hK hPc (q0 := 0) rfl rfl) hPc hK hDc) rfl rfl hl.1 rfl (lv_room (Nat.le_of_ble_eq_true rfl)) dXM_set_37 ⟨Nat.zero_le _, Nat.zero_le _⟩) hS (fun q _ h => hFc q h) hFc (fun r u t H1 locs ht hvm hw hB hz hk1 hS => ?_)
        obtain ⟨hP1, hK1, hD1⟩ := hB
        rw [ht] at hP1
        obtain ⟨rfl, rfl⟩ := hw
        obtain ⟨hP, hD⟩ := va_join (wr := []) hP hD [0, 1] [] rfl rfl (by decide) (by decide) hk1 hFc hP1 hD1
        clear hPc hDc hFc hP1 hD1 hK1 hk1 hz ht hvm
        generalize H1 = H at hP hS ⊢
        have hP : va_P (dC, dI) vwCl [(h0, .inr (3, [.ref aB, .int (pz_b (pz_mo x)), .int (pz_o (pz_ms x)), .int (pz_b (pz_mf x)), .int (nI (pz_mr x)), .int (nI (pz_mF x)), .int (nI (pz_mw x)), .int (nI (pz_mc x)), .int (nI 2)])), (aB, .inl (cB, 76800, .inl f))] H := hP
        have hD : va_D A [(h0, .inr (3, [.ref aB, .int (pz_b (pz_mo x)), .int (pz_o (pz_ms x)), .int (pz_b (pz_mf x)), .int (nI (pz_mr x)), .int (nI (pz_mF x)), .int (nI (pz_mw x)), .int (nI (pz_mc x)), .int (nI 2)])), (aB, .inl (cB, 76800, .inl f))] := hD
        refine lv_i2l (v := 0) hx hb dXM_set_40 (by decide) ?_
        exact W.lret (v := 0) hx hb hr (fun t ht hW => ⟨⟨_, (x, 2, f), rfl, ⟨by unfold pz_gS; rw [if_neg (by rw [hon]; decide), if_pos hL], hBy⟩, by rw [ht]; exact hP, va_K.moved hW.alike hK, hAe ▸ hD⟩, hS.F ht⟩) hS.2.2 dXM_set_41
      · have h2 := hc
        refine lv_iload_n hx hb dXM_set_25 rfl (lv_at hl 2 rfl) ?_
        refine lv_if_lt (tgt := 35) hx hb dXM_set_26 (by decide) (fun hc => ?_) (fun hc => ?_)
        · have hL := show pz_isL n i = false from decide_eq_false (fun h9 => Int32.not_le.mpr hc h9.2.2.1)
          refine lv_aload_n hx hb dXM_set_35 rfl (lv_at hl 0 rfl) ?_
          refine lv_iconst (v := nI 2) hx hb dXM_set_36 (by decide) ?_
          have hPc := hP
          have hDc := hD
          have hFc := va_free (wc := [(h0, .inr (3, [.ref aB, .int (pz_b (pz_mo x)), .int (pz_o (pz_ms x)), .int (pz_b (pz_mf x)), .int (nI (pz_mr x)), .int (nI (pz_mF x)), .int (nI (pz_mw x)), .int (nI (pz_mc x)), .int (nI th)])), (aB, .inl (cB, 76800, .inl f))]) hD hS hA [0, 1] rfl
          refine va_calli (va_runV (As := [.int (nI 2)]) (rest := []) ⟨hx, hb, hml, hown, hts⟩ (c_XM_fails l dC dI _ h0 aB cB f x th 2) (cwV 1 hts (pz_gc (List.mem_cons_of_mem _ tw_427) rfl (pz_gc (List.mem_cons_of_mem _ tw_429) rfl (pz_gc (List.mem_cons_of_mem _ ts_9) rfl (pz_gc (List.mem_cons_of_mem _ tw_4) rfl (pz_gi tcXM_fails))))) rfl rfl rfl (by decide +kernel) ⟨Nat.le_of_ble_eq_true rfl, Nat.le_of_ble_eq_true rfl⟩) (pz_preVw (va_recv hK hPc (q0 := 0) rfl rfl) hPc hK hDc) rfl rfl hl.1 rfl (lv_room (Nat.le_of_ble_eq_true rfl)) dXM_set_37 ⟨Nat.zero_le _, Nat.zero_le _⟩) hS (fun q _ h => hFc q h) hFc (fun r u t H1 locs ht hvm hw hB hz hk1 hS => ?_)
          obtain ⟨hP1, hK1, hD1⟩ := hB
          rw [ht] at hP1
          obtain ⟨rfl, rfl⟩ := hw
          obtain ⟨hP, hD⟩ := va_join (wr := []) hP hD [0, 1] [] rfl rfl (by decide) (by decide) hk1 hFc hP1 hD1
          clear hPc hDc hFc hP1 hD1 hK1 hk1 hz ht hvm
          generalize H1 = H at hP hS ⊢
          have hP : va_P (dC, dI) vwCl [(h0, .inr (3, [.ref aB, .int (pz_b (pz_mo x)), .int (pz_o (pz_ms x)), .int (pz_b (pz_mf x)), .int (nI (pz_mr x)), .int (nI (pz_mF x)), .int (nI (pz_mw x)), .int (nI (pz_mc x)), .int (nI 2)])), (aB, .inl (cB, 76800, .inl f))] H := hP
          have hD : va_D A [(h0, .inr (3, [.ref aB, .int (pz_b (pz_mo x)), .int (pz_o (pz_ms x)), .int (pz_b (pz_mf x)), .int (nI (pz_mr x)), .int (nI (pz_mF x)), .int (nI (pz_mw x)), .int (nI (pz_mc x)), .int (nI 2)])), (aB, .inl (cB, 76800, .inl f))] := hD
          refine lv_i2l (v := 0) hx hb dXM_set_40 (by decide) ?_
          exact W.lret (v := 0) hx hb hr (fun t ht hW => ⟨⟨_, (x, 2, f), rfl, ⟨by unfold pz_gS; rw [if_neg (by rw [hon]; decide), if_pos hL], hBy⟩, by rw [ht]; exact hP, va_K.moved hW.alike hK, hAe ▸ hD⟩, hS.F ht⟩) hS.2.2 dXM_set_41
        · have h3 := hc
          refine lv_iload_n hx hb dXM_set_29 rfl (lv_at hl 2 rfl) ?_
          refine lv_bipush (v := nI 16) hx hb dXM_set_30 (by decide) ?_
          refine lv_icmp_lt (tgt := 42) hx hb dXM_set_32 (by decide) (fun hc => ?_) (fun hc => ?_)
          · obtain ⟨n0, i0, hn0, hi0, rfl, rfl⟩ := pz_isL_of (decide_eq_true ⟨Int32.not_lt.mp h1, Int32.not_le.mp h2, Int32.not_lt.mp h3, hc⟩ : pz_isL n i = true)
            refine lv_iload_n hx hb dXM_set_42 rfl (lv_at hl 1 rfl) ?_
            refine lv_sipush (v := nI 128) hx hb dXM_set_43 (by decide) ?_
            refine lv_imul hx hb dXM_set_46 ?_
            refine lv_topi (nm_r (pk_mul n0 128) ?_)
            refine lv_bipush (v := nI 8) hx hb dXM_set_47 (by decide) ?_
            refine lv_iload_n hx hb dXM_set_49 rfl (lv_at hl 2 rfl) ?_
            refine lv_imul hx hb dXM_set_50 ?_
            refine lv_topi (nm_r (pk_mul 8 i0) ?_)
            refine lv_iadd hx hb dXM_set_51 ?_
            refine lv_topi (nm_r (nI_add (n0 * 128) (8 * i0)) ?_)
            refine lv_topi (nm_r (show nI (n0 * 128 + 8 * i0) = nI (8 * (16 * n0 + i0)) from congrArg nI (by omega)) ?_)
            refine lv_istore hx hb dXM_set_52 hl (by decide) rfl (fun ls hl => ?_)
            have hl : lv_has ls 11 [(5, .int (nI (8 * (16 * n0 + i0)))), (0, .ref h0), (1, .int (nI n0)), (2, .int (nI i0)), (3, .long w0)] := hl
            refine lv_aload_n hx hb dXM_set_54 rfl (lv_at hl 1 rfl) ?_
            refine lv_iload hx hb dXM_set_55 (lv_at hl 0 rfl) ?_
            refine va_calll (va_runV (As := [.int (nI (8 * (16 * n0 + i0)))]) (rest := []) ⟨hx, hb, hml, hown, hts⟩ (c_XM_read l dC dI h0 aB cB f x th (16 * n0 + i0) (by omega) hBy) (cwV 1 hts (pz_gc (List.mem_cons_of_mem _ tw_431) rfl (pz_gc (List.mem_cons_of_mem _ tw_433) rfl (pz_gc (List.mem_cons_of_mem _ ts_10) rfl (pz_gc (List.mem_cons_of_mem _ tw_4) rfl (pz_gi tcXM_read))))) rfl rfl rfl (by decide +kernel) ⟨Nat.le_of_ble_eq_true rfl, Nat.le_of_ble_eq_true rfl⟩) (pz_preV (va_recv hK hP (q0 := 0) rfl rfl) hP hK) rfl rfl hl.1 rfl (lv_room (Nat.le_of_ble_eq_true rfl)) dXM_set_57 ⟨Nat.zero_le _, Nat.zero_le _⟩) hS (fun q _ h => h.elim) (fun q h => h.elim) (fun r u t H locs ht hvm hw _ hz hk9 hS => ?_)
            have hP := pz_keep hP hk9
            clear hk9 hz ht hvm
            subst hw
            refine lv_lstore hx hb dXM_set_60 hl (by decide) rfl (fun ls hl => ?_)
            have hl : lv_has ls 11 [(6, .long (pz_mM x (16 * n0 + i0))), (5, .int (nI (8 * (16 * n0 + i0)))), (0, .ref h0), (1, .int (nI n0)), (2, .int (nI i0)), (3, .long w0)] := hl
            refine lv_aload_n hx hb dXM_set_62 rfl (lv_at hl 2 rfl) ?_
            refine va_get (D := (dC, dI)) (ci := 3) (v := .int (nI (pz_mF x))) (C := "ParityArrayModel") (T := TXM) (N := 9) hx hb hts (fun w h => List.mem_cons_of_mem _ (inXM w h)) hown hK hP 0 rfl rfl 5 (by decide) (hts _ (List.mem_cons_of_mem _ tw_396)) (fun _ h9 => h9) rfl dXM_set_63 ?_
            refine lv_iconst (v := nI 1) hx hb dXM_set_66 (by decide) ?_
            refine lv_icmp_ne (tgt := 74) hx hb dXM_set_67 (by decide) (fun hc => ?_) (fun hc => ?_)
            · have hc : ¬ (pz_mF x) = 1 := fun h9 => hc ((nI_eq (a := (pz_mF x)) (b := 1) (by omega) (by omega)).mpr h9)
              have hfl0 := hc
              refine lv_iconst (v := nI 0) hx hb dXM_set_74 (by decide) ?_
              refine lv_istore hx hb dXM_set_75 hl (by decide) rfl (fun ls hl => ?_)
              have hl : lv_has ls 11 [(8, .int (nI 0)), (6, .long (pz_mM x (16 * n0 + i0))), (5, .int (nI (8 * (16 * n0 + i0)))), (0, .ref h0), (1, .int (nI n0)), (2, .int (nI i0)), (3, .long w0)] := hl
              refine lv_iload hx hb dXM_set_77 (lv_at hl 0 rfl) ?_
              refine lv_if_eq (tgt := 90) hx hb dXM_set_79 (by decide) (fun _ => ?_) (fun hc => absurd hc (by decide))
              refine lv_sipush (v := nI 128) hx hb dXM_set_90 (by decide) ?_
              refine lv_istore hx hb dXM_set_93 hl (by decide) rfl (fun ls hl => ?_)
              have hl : lv_has ls 11 [(9, .int (nI 128)), (8, .int (nI 0)), (6, .long (pz_mM x (16 * n0 + i0))), (5, .int (nI (8 * (16 * n0 + i0)))), (0, .ref h0), (1, .int (nI n0)), (2, .int (nI i0)), (3, .long w0)] := hl
              refine lv_iconst (v := nI 0) hx hb dXM_set_95 (by decide) ?_
              refine lv_istore hx hb dXM_set_96 hl (by decide) rfl (fun ls hl => ?_)
              have hl : lv_has ls 11 [(10, .int (nI 0)), (9, .int (nI 128)), (8, .int (nI 0)), (6, .long (pz_mM x (16 * n0 + i0))), (5, .int (nI (8 * (16 * n0 + i0)))), (0, .ref h0), (1, .int (nI n0)), (2, .int (nI i0)), (3, .long w0)] := hl
              have hfl : ¬ pz_mF x = 1 := hfl0
              refine pz_loop (fun _ => 0) (fun _ => 0) 8 (fun k ls H locs => ∃ f1 : Nat → Int32, lv_has ls 11 [(10, .int (nI k)), (9, .int (nI 128)), (8, .int (nI 0)), (6, .long (pz_mM x (16 * n0 + i0))), (5, .int (nI (8 * (16 * n0 + i0)))), (0, .ref h0), (1, .int (nI n0)), (2, .int (nI i0)), (3, .long w0)] ∧ va_P (dC, dI) vwCl [(h0, .inr (3, [.ref aB, .int (pz_b (pz_mo x)), .int (pz_o (pz_ms x)), .int (pz_b (pz_mf x)), .int (nI (pz_mr x)), .int (nI (pz_mF x)), .int (nI (pz_mw x)), .int (nI (pz_mc x)), .int (nI th)])), (aB, .inl (cB, 76800, .inl f1))] H ∧ va_D A [(h0, .inr (3, [.ref aB, .int (pz_b (pz_mo x)), .int (pz_o (pz_ms x)), .int (pz_b (pz_mf x)), .int (nI (pz_mr x)), .int (nI (pz_mF x)), .int (nI (pz_mw x)), .int (nI (pz_mc x)), .int (nI th)])), (aB, .inl (cB, 76800, .inl f1))] ∧ va_S A s.heap H locs ∧ pz_Bk f1 (pz_mM x) (16 * n0 + i0) 128 i0 w0 k) ?_ ?_ 8 0 (by omega) _ _ _ ⟨f, hl, hP, hD, hS, pz_Bk_0 hBy _ _ _ _⟩
              · intro k ls H locs hk hI ih
                obtain ⟨f1, hl, hP, hD, hS, hBk⟩ := hI
                refine lv_iload hx hb dXM_set_98 (lv_at hl 0 rfl) ?_
                refine lv_bipush (v := nI 8) hx hb dXM_set_100 (by decide) ?_
                refine lv_icmp_ge (tgt := 145) hx hb dXM_set_102 (by decide) (fun hc => absurd hc (nI_ge hk (by decide))) (fun _ => ?_)
                refine lv_bipush (v := nI 8) hx hb dXM_set_105 (by decide) ?_
                refine lv_iload_n hx hb dXM_set_107 rfl (lv_at hl 7 rfl) ?_
                refine lv_imul hx hb dXM_set_108 ?_
                refine lv_topi (nm_r (pk_mul 8 i0) ?_)
                refine lv_iload hx hb dXM_set_109 (lv_at hl 0 rfl) ?_
                refine lv_iadd hx hb dXM_set_111 ?_
                refine lv_topi (nm_r (nI_add (8 * i0) k) ?_)
                refine lv_iload hx hb dXM_set_112 (lv_at hl 1 rfl) ?_
                refine lv_icmp_ge (tgt := 139) hx hb dXM_set_114 (by decide) (fun hc => ?_) (fun hc => ?_)
                · have hc : 128 ≤ ((8 * i0) + k) := (nI_leI (a := 128) (b := ((8 * i0) + k)) (by omega) (by omega)).mp hc
                  refine lv_iinc (k := 0) (v := nI (k + 1)) hx hb dXM_set_139 hl rfl (by rw [nI_succ]; rfl) (by decide) rfl (fun ls hl => ?_)
                  have hl : lv_has ls 11 [(10, .int (nI (k + 1))), (9, .int (nI 128)), (8, .int (nI 0)), (6, .long (pz_mM x (16 * n0 + i0))), (5, .int (nI (8 * (16 * n0 + i0)))), (0, .ref h0), (1, .int (nI n0)), (2, .int (nI i0)), (3, .long w0)] := hl
                  refine lv_goto (tgt := 98) hx hb dXM_set_142 (by decide) ?_
                  exact ih _ _ _ ⟨_, hl, hP, hD, hS, pz_Bk_skip hBk (by omega)⟩
                · have hc : ¬ 128 ≤ ((8 * i0) + k) := fun h9 => hc ((nI_leI (a := 128) (b := ((8 * i0) + k)) (by omega) (by omega)).mpr h9)
                  refine lv_aload_n hx hb dXM_set_117 rfl (lv_at hl 5 rfl) ?_
                  refine va_get (D := (dC, dI)) (ci := 3) (v := .ref aB) (C := "ParityArrayModel") (T := TXM) (N := 9) hx hb hts (fun w h => List.mem_cons_of_mem _ (inXM w h)) hown hK hP 0 rfl rfl 0 (by decide) (hts _ (List.mem_cons_of_mem _ tw_391)) (fun _ h9 => h9) rfl dXM_set_118 ?_
                  refine lv_iload hx hb dXM_set_121 (lv_at hl 4 rfl) ?_
                  refine lv_iload hx hb dXM_set_123 (lv_at hl 0 rfl) ?_
                  refine lv_iadd hx hb dXM_set_125 ?_
                  refine lv_topi (nm_r (nI_add (8 * (16 * n0 + i0)) k) ?_)
                  refine lv_lload_n hx hb dXM_set_126 rfl (lv_at hl 8 rfl) ?_
                  refine lv_bipush (v := nI 56) hx hb dXM_set_127 (by decide) ?_
                  refine lv_bipush (v := nI 8) hx hb dXM_set_129 (by decide) ?_
                  refine lv_iload hx hb dXM_set_131 (lv_at hl 0 rfl) ?_
                  refine lv_imul hx hb dXM_set_133 ?_
                  refine lv_topi (nm_r (pk_mul 8 k) ?_)
                  refine lv_isub hx hb dXM_set_134 ?_
                  refine lv_topi (nm_r (pk_sub (by omega)) ?_)
                  refine lv_lshr (v := w0 >>> ((nI (56 - 8 * k)).toInt64 &&& 63)) hx hb dXM_set_135 rfl ?_
                  refine lv_l2i (v := (w0 >>> ((nI (56 - 8 * k)).toInt64 &&& 63)).toInt32) hx hb dXM_set_136 rfl ?_
                  refine lv_i2b (v := pz_by w0 k) hx hb dXM_set_137 rfl ?_
                  refine va_bast hx hb hK hP hD hS 1 0 rfl rfl (vp_in_nI (by omega) (by decide)) dXM_set_138 (fun H locs hP hD hS => ?_)
                  rw [nI_clamp (show (8 * (16 * n0 + i0)) + k < 2 ^ 31 by omega), show vp_nar .byte (pz_by w0 k) = pz_by w0 k from pk_vb _] at hP hD
                  have hP : va_P (dC, dI) vwCl [(h0, .inr (3, [.ref aB, .int (pz_b (pz_mo x)), .int (pz_o (pz_ms x)), .int (pz_b (pz_mf x)), .int (nI (pz_mr x)), .int (nI (pz_mF x)), .int (nI (pz_mw x)), .int (nI (pz_mc x)), .int (nI th)])), (aB, .inl (cB, 76800, .inl (upd f1 ((8 * (16 * n0 + i0)) + k) (pz_by w0 k))))] H := hP
                  have hD : va_D A [(h0, .inr (3, [.ref aB, .int (pz_b (pz_mo x)), .int (pz_o (pz_ms x)), .int (pz_b (pz_mf x)), .int (nI (pz_mr x)), .int (nI (pz_mF x)), .int (nI (pz_mw x)), .int (nI (pz_mc x)), .int (nI th)])), (aB, .inl (cB, 76800, .inl (upd f1 ((8 * (16 * n0 + i0)) + k) (pz_by w0 k))))] := hD
                  refine lv_iinc (k := 0) (v := nI (k + 1)) hx hb dXM_set_139 hl rfl (by rw [nI_succ]; rfl) (by decide) rfl (fun ls hl => ?_)
                  have hl : lv_has ls 11 [(10, .int (nI (k + 1))), (9, .int (nI 128)), (8, .int (nI 0)), (6, .long (pz_mM x (16 * n0 + i0))), (5, .int (nI (8 * (16 * n0 + i0)))), (0, .ref h0), (1, .int (nI n0)), (2, .int (nI i0)), (3, .long w0)] := hl
                  refine lv_goto (tgt := 98) hx hb dXM_set_142 (by decide) ?_
                  exact ih _ _ _ ⟨_, hl, hP, hD, hS, pz_Bk_put hBk hk (by omega)⟩
              · intro ls H locs hI
                obtain ⟨f1, hl, hP, hD, hS, hBk⟩ := hI
                refine lv_iload hx hb dXM_set_98 (lv_at hl 0 rfl) ?_
                refine lv_bipush (v := nI 8) hx hb dXM_set_100 (by decide) ?_
                refine lv_icmp_ge (tgt := 145) hx hb dXM_set_102 (by decide) (fun _ => ?_) (fun hc => absurd hc (fun h9 => h9 (nI_le (Nat.le_refl 8) (by decide))))
                refine lv_aload_n hx hb dXM_set_145 rfl (lv_at hl 5 rfl) ?_
                refine lv_iload hx hb dXM_set_146 (lv_at hl 2 rfl) ?_
                refine lv_if_eq (tgt := 155) hx hb dXM_set_148 (by decide) (fun _ => ?_) (fun hc => absurd hc (by decide))
                refine lv_iconst (v := nI 0) hx hb dXM_set_155 (by decide) ?_
                refine va_put (D := (dC, dI)) (ci := 3) (v := .int (nI 0)) (ty := .int) (C := "ParityArrayModel") (T := TXM) (N := 9) hx hb hts (fun w h => List.mem_cons_of_mem _ (inXM w h)) tyXM tyXM_ok nmXM hown hK hP hD hS 0 rfl rfl 8 (by decide) (hts _ (List.mem_cons_of_mem _ tw_399)) (fun _ h9 => h9) rfl (by decide +kernel) rfl rfl (Nat.le_of_ble_eq_true rfl) dXM_set_156 (fun H locs hP hD hS => ?_)
                have hP : va_P (dC, dI) vwCl [(h0, .inr (3, [.ref aB, .int (pz_b (pz_mo x)), .int (pz_o (pz_ms x)), .int (pz_b (pz_mf x)), .int (nI (pz_mr x)), .int (nI (pz_mF x)), .int (nI (pz_mw x)), .int (nI (pz_mc x)), .int (nI 0)])), (aB, .inl (cB, 76800, .inl f1))] H := hP
                have hD : va_D A [(h0, .inr (3, [.ref aB, .int (pz_b (pz_mo x)), .int (pz_o (pz_ms x)), .int (pz_b (pz_mf x)), .int (nI (pz_mr x)), .int (nI (pz_mF x)), .int (nI (pz_mw x)), .int (nI (pz_mc x)), .int (nI 0)])), (aB, .inl (cB, 76800, .inl f1))] := hD
                refine lv_iload hx hb dXM_set_159 (lv_at hl 2 rfl) ?_
                refine lv_if_ne (tgt := 167) hx hb dXM_set_161 (by decide) (fun hc => absurd hc (by decide)) (fun _ => ?_)
                refine lv_lload hx hb dXM_set_164 (lv_at hl 3 rfl) ?_
                exact W.lret (v := pz_mM x (16 * n0 + i0)) hx hb hr (fun t ht hW => ⟨⟨_, ((vp_updL (pz_mM x) (16 * n0 + i0) (pz_cut 128 i0 w0 (pz_mM x (16 * n0 + i0))), pz_mo x, pz_ms x, pz_mf x, pz_mr x, pz_mF x, pz_mw x, pz_mc x), 0, f1), rfl, ⟨by unfold pz_gS pz_mset; rw [if_neg (by rw [hon]; decide), if_neg (by rw [pz_isL_nI hn0 hi0]; decide), nI_clamp (show n0 < 2 ^ 31 by omega), nI_clamp (show i0 < 2 ^ 31 by omega)]; simp [hfl, hon], pz_Bk_8 hBk⟩, by rw [ht]; exact hP, va_K.moved hW.alike hK, hAe ▸ hD⟩, hS.F ht⟩) hS.2.2 dXM_set_166
            · have hc : (pz_mF x) = 1 := (nI_eq (a := (pz_mF x)) (b := 1) (by omega) (by omega)).mp hc
              have hfl0 := hc
              refine lv_iconst (v := nI 1) hx hb dXM_set_70 (by decide) ?_
              refine lv_goto (tgt := 75) hx hb dXM_set_71 (by decide) ?_
              refine lv_istore hx hb dXM_set_75 hl (by decide) rfl (fun ls hl => ?_)
              have hl : lv_has ls 11 [(8, .int (nI 1)), (6, .long (pz_mM x (16 * n0 + i0))), (5, .int (nI (8 * (16 * n0 + i0)))), (0, .ref h0), (1, .int (nI n0)), (2, .int (nI i0)), (3, .long w0)] := hl
              refine lv_iload hx hb dXM_set_77 (lv_at hl 0 rfl) ?_
              refine lv_if_eq (tgt := 90) hx hb dXM_set_79 (by decide) (fun hc => absurd hc (by decide)) (fun _ => ?_)
              refine lv_aload_n hx hb dXM_set_82 rfl (lv_at hl 3 rfl) ?_
              refine lv_iload_n hx hb dXM_set_83 rfl (lv_at hl 4 rfl) ?_
              refine va_calli (va_runV (As := [.int (nI n0)]) (rest := []) ⟨hx, hb, hml, hown, hts⟩ (c_XM_fresh l dC dI h0 aB cB f x th n0 hm1 hm2 hm3 hm4 hm5 hth hn0) (cwV 1 hts (pz_gc (List.mem_cons_of_mem _ tw_435) rfl (pz_gc (List.mem_cons_of_mem _ tw_437) rfl (pz_gc (List.mem_cons_of_mem _ ts_11) rfl (pz_gc (List.mem_cons_of_mem _ tw_4) rfl (pz_gi tcXM_fresh))))) rfl rfl rfl (by decide +kernel) ⟨Nat.le_of_ble_eq_true rfl, Nat.le_of_ble_eq_true rfl⟩) (pz_preV (va_recv hK hP (q0 := 0) rfl rfl) hP hK) rfl rfl hl.1 rfl (lv_room (Nat.le_of_ble_eq_true rfl)) dXM_set_84 ⟨Nat.zero_le _, Nat.zero_le _⟩) hS (fun q _ h => h.elim) (fun q h => h.elim) (fun r u t H locs ht hvm hw _ hz hk9 hS => ?_)
              have hP := pz_keep hP hk9
              clear hk9 hz ht hvm
              subst hw
              refine lv_goto (tgt := 93) hx hb dXM_set_87 (by decide) ?_
              refine lv_istore hx hb dXM_set_93 hl (by decide) rfl (fun ls hl => ?_)
              have hl : lv_has ls 11 [(9, .int (nI (pz_now x n0))), (8, .int (nI 1)), (6, .long (pz_mM x (16 * n0 + i0))), (5, .int (nI (8 * (16 * n0 + i0)))), (0, .ref h0), (1, .int (nI n0)), (2, .int (nI i0)), (3, .long w0)] := hl
              refine lv_iconst (v := nI 0) hx hb dXM_set_95 (by decide) ?_
              refine lv_istore hx hb dXM_set_96 hl (by decide) rfl (fun ls hl => ?_)
              have hl : lv_has ls 11 [(10, .int (nI 0)), (9, .int (nI (pz_now x n0))), (8, .int (nI 1)), (6, .long (pz_mM x (16 * n0 + i0))), (5, .int (nI (8 * (16 * n0 + i0)))), (0, .ref h0), (1, .int (nI n0)), (2, .int (nI i0)), (3, .long w0)] := hl
              have hnow : pz_now x n0 ≤ 128 := by unfold pz_now pz_nw; (repeat' split) <;> omega
              have hfl :  pz_mF x = 1 := hfl0
              refine pz_loop (fun _ => 0) (fun _ => 0) 8 (fun k ls H locs => ∃ f1 : Nat → Int32, lv_has ls 11 [(10, .int (nI k)), (9, .int (nI (pz_now x n0))), (8, .int (nI 1)), (6, .long (pz_mM x (16 * n0 + i0))), (5, .int (nI (8 * (16 * n0 + i0)))), (0, .ref h0), (1, .int (nI n0)), (2, .int (nI i0)), (3, .long w0)] ∧ va_P (dC, dI) vwCl [(h0, .inr (3, [.ref aB, .int (pz_b (pz_mo x)), .int (pz_o (pz_ms x)), .int (pz_b (pz_mf x)), .int (nI (pz_mr x)), .int (nI (pz_mF x)), .int (nI (pz_mw x)), .int (nI (pz_mc x)), .int (nI th)])), (aB, .inl (cB, 76800, .inl f1))] H ∧ va_D A [(h0, .inr (3, [.ref aB, .int (pz_b (pz_mo x)), .int (pz_o (pz_ms x)), .int (pz_b (pz_mf x)), .int (nI (pz_mr x)), .int (nI (pz_mF x)), .int (nI (pz_mw x)), .int (nI (pz_mc x)), .int (nI th)])), (aB, .inl (cB, 76800, .inl f1))] ∧ va_S A s.heap H locs ∧ pz_Bk f1 (pz_mM x) (16 * n0 + i0) (pz_now x n0) i0 w0 k) ?_ ?_ 8 0 (by omega) _ _ _ ⟨f, hl, hP, hD, hS, pz_Bk_0 hBy _ _ _ _⟩
              · intro k ls H locs hk hI ih
                obtain ⟨f1, hl, hP, hD, hS, hBk⟩ := hI
                refine lv_iload hx hb dXM_set_98 (lv_at hl 0 rfl) ?_
                refine lv_bipush (v := nI 8) hx hb dXM_set_100 (by decide) ?_
                refine lv_icmp_ge (tgt := 145) hx hb dXM_set_102 (by decide) (fun hc => absurd hc (nI_ge hk (by decide))) (fun _ => ?_)
                refine lv_bipush (v := nI 8) hx hb dXM_set_105 (by decide) ?_
                refine lv_iload_n hx hb dXM_set_107 rfl (lv_at hl 7 rfl) ?_
                refine lv_imul hx hb dXM_set_108 ?_
                refine lv_topi (nm_r (pk_mul 8 i0) ?_)
                refine lv_iload hx hb dXM_set_109 (lv_at hl 0 rfl) ?_
                refine lv_iadd hx hb dXM_set_111 ?_
                refine lv_topi (nm_r (nI_add (8 * i0) k) ?_)
                refine lv_iload hx hb dXM_set_112 (lv_at hl 1 rfl) ?_
                refine lv_icmp_ge (tgt := 139) hx hb dXM_set_114 (by decide) (fun hc => ?_) (fun hc => ?_)
                · have hc : (pz_now x n0) ≤ ((8 * i0) + k) := (nI_leI (a := (pz_now x n0)) (b := ((8 * i0) + k)) (by omega) (by omega)).mp hc
                  refine lv_iinc (k := 0) (v := nI (k + 1)) hx hb dXM_set_139 hl rfl (by rw [nI_succ]; rfl) (by decide) rfl (fun ls hl => ?_)
                  have hl : lv_has ls 11 [(10, .int (nI (k + 1))), (9, .int (nI (pz_now x n0))), (8, .int (nI 1)), (6, .long (pz_mM x (16 * n0 + i0))), (5, .int (nI (8 * (16 * n0 + i0)))), (0, .ref h0), (1, .int (nI n0)), (2, .int (nI i0)), (3, .long w0)] := hl
                  refine lv_goto (tgt := 98) hx hb dXM_set_142 (by decide) ?_
                  exact ih _ _ _ ⟨_, hl, hP, hD, hS, pz_Bk_skip hBk (by omega)⟩
                · have hc : ¬ (pz_now x n0) ≤ ((8 * i0) + k) := fun h9 => hc ((nI_leI (a := (pz_now x n0)) (b := ((8 * i0) + k)) (by omega) (by omega)).mpr h9)
                  refine lv_aload_n hx hb dXM_set_117 rfl (lv_at hl 5 rfl) ?_
                  refine va_get (D := (dC, dI)) (ci := 3) (v := .ref aB) (C := "ParityArrayModel") (T := TXM) (N := 9) hx hb hts (fun w h => List.mem_cons_of_mem _ (inXM w h)) hown hK hP 0 rfl rfl 0 (by decide) (hts _ (List.mem_cons_of_mem _ tw_391)) (fun _ h9 => h9) rfl dXM_set_118 ?_
                  refine lv_iload hx hb dXM_set_121 (lv_at hl 4 rfl) ?_
                  refine lv_iload hx hb dXM_set_123 (lv_at hl 0 rfl) ?_
                  refine lv_iadd hx hb dXM_set_125 ?_
                  refine lv_topi (nm_r (nI_add (8 * (16 * n0 + i0)) k) ?_)
                  refine lv_lload_n hx hb dXM_set_126 rfl (lv_at hl 8 rfl) ?_
                  refine lv_bipush (v := nI 56) hx hb dXM_set_127 (by decide) ?_
                  refine lv_bipush (v := nI 8) hx hb dXM_set_129 (by decide) ?_
                  refine lv_iload hx hb dXM_set_131 (lv_at hl 0 rfl) ?_
                  refine lv_imul hx hb dXM_set_133 ?_
                  refine lv_topi (nm_r (pk_mul 8 k) ?_)
                  refine lv_isub hx hb dXM_set_134 ?_
                  refine lv_topi (nm_r (pk_sub (by omega)) ?_)
                  refine lv_lshr (v := w0 >>> ((nI (56 - 8 * k)).toInt64 &&& 63)) hx hb dXM_set_135 rfl ?_
                  refine lv_l2i (v := (w0 >>> ((nI (56 - 8 * k)).toInt64 &&& 63)).toInt32) hx hb dXM_set_136 rfl ?_
                  refine lv_i2b (v := pz_by w0 k) hx hb dXM_set_137 rfl ?_
                  refine va_bast hx hb hK hP hD hS 1 0 rfl rfl (vp_in_nI (by omega) (by decide)) dXM_set_138 (fun H locs hP hD hS => ?_)
                  rw [nI_clamp (show (8 * (16 * n0 + i0)) + k < 2 ^ 31 by omega), show vp_nar .byte (pz_by w0 k) = pz_by w0 k from pk_vb _] at hP hD
                  have hP : va_P (dC, dI) vwCl [(h0, .inr (3, [.ref aB, .int (pz_b (pz_mo x)), .int (pz_o (pz_ms x)), .int (pz_b (pz_mf x)), .int (nI (pz_mr x)), .int (nI (pz_mF x)), .int (nI (pz_mw x)), .int (nI (pz_mc x)), .int (nI th)])), (aB, .inl (cB, 76800, .inl (upd f1 ((8 * (16 * n0 + i0)) + k) (pz_by w0 k))))] H := hP
                  have hD : va_D A [(h0, .inr (3, [.ref aB, .int (pz_b (pz_mo x)), .int (pz_o (pz_ms x)), .int (pz_b (pz_mf x)), .int (nI (pz_mr x)), .int (nI (pz_mF x)), .int (nI (pz_mw x)), .int (nI (pz_mc x)), .int (nI th)])), (aB, .inl (cB, 76800, .inl (upd f1 ((8 * (16 * n0 + i0)) + k) (pz_by w0 k))))] := hD
                  refine lv_iinc (k := 0) (v := nI (k + 1)) hx hb dXM_set_139 hl rfl (by rw [nI_succ]; rfl) (by decide) rfl (fun ls hl => ?_)
                  have hl : lv_has ls 11 [(10, .int (nI (k + 1))), (9, .int (nI (pz_now x n0))), (8, .int (nI 1)), (6, .long (pz_mM x (16 * n0 + i0))), (5, .int (nI (8 * (16 * n0 + i0)))), (0, .ref h0), (1, .int (nI n0)), (2, .int (nI i0)), (3, .long w0)] := hl
                  refine lv_goto (tgt := 98) hx hb dXM_set_142 (by decide) ?_
                  exact ih _ _ _ ⟨_, hl, hP, hD, hS, pz_Bk_put hBk hk (by omega)⟩
              · intro ls H locs hI
                obtain ⟨f1, hl, hP, hD, hS, hBk⟩ := hI
                refine lv_iload hx hb dXM_set_98 (lv_at hl 0 rfl) ?_
                refine lv_bipush (v := nI 8) hx hb dXM_set_100 (by decide) ?_
                refine lv_icmp_ge (tgt := 145) hx hb dXM_set_102 (by decide) (fun _ => ?_) (fun hc => absurd hc (fun h9 => h9 (nI_le (Nat.le_refl 8) (by decide))))
                refine lv_aload_n hx hb dXM_set_145 rfl (lv_at hl 5 rfl) ?_
                refine lv_iload hx hb dXM_set_146 (lv_at hl 2 rfl) ?_
                refine lv_if_eq (tgt := 155) hx hb dXM_set_148 (by decide) (fun hc => absurd hc (by decide)) (fun _ => ?_)
                refine lv_iconst (v := nI 3) hx hb dXM_set_151 (by decide) ?_
                refine lv_goto (tgt := 156) hx hb dXM_set_152 (by decide) ?_
                refine va_put (D := (dC, dI)) (ci := 3) (v := .int (nI 3)) (ty := .int) (C := "ParityArrayModel") (T := TXM) (N := 9) hx hb hts (fun w h => List.mem_cons_of_mem _ (inXM w h)) tyXM tyXM_ok nmXM hown hK hP hD hS 0 rfl rfl 8 (by decide) (hts _ (List.mem_cons_of_mem _ tw_399)) (fun _ h9 => h9) rfl (by decide +kernel) rfl rfl (Nat.le_of_ble_eq_true rfl) dXM_set_156 (fun H locs hP hD hS => ?_)
                have hP : va_P (dC, dI) vwCl [(h0, .inr (3, [.ref aB, .int (pz_b (pz_mo x)), .int (pz_o (pz_ms x)), .int (pz_b (pz_mf x)), .int (nI (pz_mr x)), .int (nI (pz_mF x)), .int (nI (pz_mw x)), .int (nI (pz_mc x)), .int (nI 3)])), (aB, .inl (cB, 76800, .inl f1))] H := hP
                have hD : va_D A [(h0, .inr (3, [.ref aB, .int (pz_b (pz_mo x)), .int (pz_o (pz_ms x)), .int (pz_b (pz_mf x)), .int (nI (pz_mr x)), .int (nI (pz_mF x)), .int (nI (pz_mw x)), .int (nI (pz_mc x)), .int (nI 3)])), (aB, .inl (cB, 76800, .inl f1))] := hD
                refine lv_iload hx hb dXM_set_159 (lv_at hl 2 rfl) ?_
                refine lv_if_ne (tgt := 167) hx hb dXM_set_161 (by decide) (fun _ => ?_) (fun hc => absurd hc (by decide))
                refine lv_aload_n hx hb dXM_set_167 rfl (lv_at hl 5 rfl) ?_
                refine lv_iconst (v := nI 0) hx hb dXM_set_168 (by decide) ?_
                refine va_put (D := (dC, dI)) (ci := 3) (v := .int (nI 0)) (ty := .int) (C := "ParityArrayModel") (T := TXM) (N := 9) hx hb hts (fun w h => List.mem_cons_of_mem _ (inXM w h)) tyXM tyXM_ok nmXM hown hK hP hD hS 0 rfl rfl 5 (by decide) (hts _ (List.mem_cons_of_mem _ tw_396)) (fun _ h9 => h9) rfl (by decide +kernel) rfl rfl (Nat.le_of_ble_eq_true rfl) dXM_set_169 (fun H locs hP hD hS => ?_)
                have hP : va_P (dC, dI) vwCl [(h0, .inr (3, [.ref aB, .int (pz_b (pz_mo x)), .int (pz_o (pz_ms x)), .int (pz_b (pz_mf x)), .int (nI (pz_mr x)), .int (nI 0), .int (nI (pz_mw x)), .int (nI (pz_mc x)), .int (nI 3)])), (aB, .inl (cB, 76800, .inl f1))] H := hP
                have hD : va_D A [(h0, .inr (3, [.ref aB, .int (pz_b (pz_mo x)), .int (pz_o (pz_ms x)), .int (pz_b (pz_mf x)), .int (nI (pz_mr x)), .int (nI 0), .int (nI (pz_mw x)), .int (nI (pz_mc x)), .int (nI 3)])), (aB, .inl (cB, 76800, .inl f1))] := hD
                refine lv_aload_n hx hb dXM_set_172 rfl (lv_at hl 5 rfl) ?_
                refine lv_iconst (v := nI 0) hx hb dXM_set_173 (by decide) ?_
                refine va_put (D := (dC, dI)) (ci := 3) (v := .int (nI 0)) (ty := .boolean) (C := "ParityArrayModel") (T := TXM) (N := 9) hx hb hts (fun w h => List.mem_cons_of_mem _ (inXM w h)) tyXM tyXM_ok nmXM hown hK hP hD hS 0 rfl rfl 1 (by decide) (hts _ (List.mem_cons_of_mem _ tw_392)) (fun _ h9 => h9) rfl (by decide +kernel) rfl rfl (Nat.le_of_ble_eq_true rfl) dXM_set_174 (fun H locs hP hD hS => ?_)
                have hP : va_P (dC, dI) vwCl [(h0, .inr (3, [.ref aB, .int (pz_b false), .int (pz_o (pz_ms x)), .int (pz_b (pz_mf x)), .int (nI (pz_mr x)), .int (nI 0), .int (nI (pz_mw x)), .int (nI (pz_mc x)), .int (nI 3)])), (aB, .inl (cB, 76800, .inl f1))] H := hP
                have hD : va_D A [(h0, .inr (3, [.ref aB, .int (pz_b false), .int (pz_o (pz_ms x)), .int (pz_b (pz_mf x)), .int (nI (pz_mr x)), .int (nI 0), .int (nI (pz_mw x)), .int (nI (pz_mc x)), .int (nI 3)])), (aB, .inl (cB, 76800, .inl f1))] := hD
                refine lv_lconst (v := 0) hx hb dXM_set_177 (by decide) ?_
                exact W.lret (v := 0) hx hb hr (fun t ht hW => ⟨⟨_, ((vp_updL (pz_mM x) (16 * n0 + i0) (pz_cut (pz_now x n0) i0 w0 (pz_mM x (16 * n0 + i0))), false, pz_ms x, pz_mf x, pz_mr x, 0, pz_mw x, pz_mc x), 3, f1), rfl, ⟨by unfold pz_gS pz_mset; rw [if_neg (by rw [hon]; decide), if_neg (by rw [pz_isL_nI hn0 hi0]; decide), nI_clamp (show n0 < 2 ^ 31 by omega), nI_clamp (show i0 < 2 ^ 31 by omega)]; simp [hfl], pz_Bk_8 hBk⟩, by rw [ht]; exact hP, va_K.moved hW.alike hK, hAe ▸ hD⟩, hS.F ht⟩) hS.2.2 dXM_set_178
          · have hL := show pz_isL n i = false from decide_eq_false (fun h9 => Int32.not_lt.mpr (Int32.not_lt.mp hc) h9.2.2.2)
            refine lv_aload_n hx hb dXM_set_35 rfl (lv_at hl 0 rfl) ?_
            refine lv_iconst (v := nI 2) hx hb dXM_set_36 (by decide) ?_
            have hPc := hP
            have hDc := hD
            have hFc := va_free (wc := [(h0, .inr (3, [.ref aB, .int (pz_b (pz_mo x)), .int (pz_o (pz_ms x)), .int (pz_b (pz_mf x)), .int (nI (pz_mr x)), .int (nI (pz_mF x)), .int (nI (pz_mw x)), .int (nI (pz_mc x)), .int (nI th)])), (aB, .inl (cB, 76800, .inl f))]) hD hS hA [0, 1] rfl
            refine va_calli (va_runV (As := [.int (nI 2)]) (rest := []) ⟨hx, hb, hml, hown, hts⟩ (c_XM_fails l dC dI _ h0 aB cB f x th 2) (cwV 1 hts (pz_gc (List.mem_cons_of_mem _ tw_427) rfl (pz_gc (List.mem_cons_of_mem _ tw_429) rfl (pz_gc (List.mem_cons_of_mem _ ts_9) rfl (pz_gc (List.mem_cons_of_mem _ tw_4) rfl (pz_gi tcXM_fails))))) rfl rfl rfl (by decide +kernel) ⟨Nat.le_of_ble_eq_true rfl, Nat.le_of_ble_eq_true rfl⟩) (pz_preVw (va_recv hK hPc (q0 := 0) rfl rfl) hPc hK hDc) rfl rfl hl.1 rfl (lv_room (Nat.le_of_ble_eq_true rfl)) dXM_set_37 ⟨Nat.zero_le _, Nat.zero_le _⟩) hS (fun q _ h => hFc q h) hFc (fun r u t H1 locs ht hvm hw hB hz hk1 hS => ?_)
            obtain ⟨hP1, hK1, hD1⟩ := hB
            rw [ht] at hP1
            obtain ⟨rfl, rfl⟩ := hw
            obtain ⟨hP, hD⟩ := va_join (wr := []) hP hD [0, 1] [] rfl rfl (by decide) (by decide) hk1 hFc hP1 hD1
            clear hPc hDc hFc hP1 hD1 hK1 hk1 hz ht hvm
            generalize H1 = H at hP hS ⊢
            have hP : va_P (dC, dI) vwCl [(h0, .inr (3, [.ref aB, .int (pz_b (pz_mo x)), .int (pz_o (pz_ms x)), .int (pz_b (pz_mf x)), .int (nI (pz_mr x)), .int (nI (pz_mF x)), .int (nI (pz_mw x)), .int (nI (pz_mc x)), .int (nI 2)])), (aB, .inl (cB, 76800, .inl f))] H := hP
            have hD : va_D A [(h0, .inr (3, [.ref aB, .int (pz_b (pz_mo x)), .int (pz_o (pz_ms x)), .int (pz_b (pz_mf x)), .int (nI (pz_mr x)), .int (nI (pz_mF x)), .int (nI (pz_mw x)), .int (nI (pz_mc x)), .int (nI 2)])), (aB, .inl (cB, 76800, .inl f))] := hD
            refine lv_i2l (v := 0) hx hb dXM_set_40 (by decide) ?_
            exact W.lret (v := 0) hx hb hr (fun t ht hW => ⟨⟨_, (x, 2, f), rfl, ⟨by unfold pz_gS; rw [if_neg (by rw [hon]; decide), if_pos hL], hBy⟩, by rw [ht]; exact hP, va_K.moved hW.alike hK, hAe ▸ hD⟩, hS.F ht⟩) hS.2.2 dXM_set_41
  · have hc : (pz_mo x) = false := pz_b0.mp hc
    refine lv_aload_n hx hb dXM_set_7 rfl (lv_at hl 0 rfl) ?_
    refine lv_iconst (v := nI 1) hx hb dXM_set_8 (by decide) ?_
    have hPc := hP
    have hDc := hD
    have hFc := va_free (wc := [(h0, .inr (3, [.ref aB, .int (pz_b (pz_mo x)), .int (pz_o (pz_ms x)), .int (pz_b (pz_mf x)), .int (nI (pz_mr x)), .int (nI (pz_mF x)), .int (nI (pz_mw x)), .int (nI (pz_mc x)), .int (nI th)])), (aB, .inl (cB, 76800, .inl f))]) hD hS hA [0, 1] rfl
    refine va_calli (va_runV (As := [.int (nI 1)]) (rest := []) ⟨hx, hb, hml, hown, hts⟩ (c_XM_fails l dC dI _ h0 aB cB f x th 1) (cwV 1 hts (pz_gc (List.mem_cons_of_mem _ tw_427) rfl (pz_gc (List.mem_cons_of_mem _ tw_429) rfl (pz_gc (List.mem_cons_of_mem _ ts_9) rfl (pz_gc (List.mem_cons_of_mem _ tw_4) rfl (pz_gi tcXM_fails))))) rfl rfl rfl (by decide +kernel) ⟨Nat.le_of_ble_eq_true rfl, Nat.le_of_ble_eq_true rfl⟩) (pz_preVw (va_recv hK hPc (q0 := 0) rfl rfl) hPc hK hDc) rfl rfl hl.1 rfl (lv_room (Nat.le_of_ble_eq_true rfl)) dXM_set_9 ⟨Nat.zero_le _, Nat.zero_le _⟩) hS (fun q _ h => hFc q h) hFc (fun r u t H1 locs ht hvm hw hB hz hk1 hS => ?_)
    obtain ⟨hP1, hK1, hD1⟩ := hB
    rw [ht] at hP1
    obtain ⟨rfl, rfl⟩ := hw
    obtain ⟨hP, hD⟩ := va_join (wr := []) hP hD [0, 1] [] rfl rfl (by decide) (by decide) hk1 hFc hP1 hD1
    clear hPc hDc hFc hP1 hD1 hK1 hk1 hz ht hvm
    generalize H1 = H at hP hS ⊢
    have hP : va_P (dC, dI) vwCl [(h0, .inr (3, [.ref aB, .int (pz_b (pz_mo x)), .int (pz_o (pz_ms x)), .int (pz_b (pz_mf x)), .int (nI (pz_mr x)), .int (nI (pz_mF x)), .int (nI (pz_mw x)), .int (nI (pz_mc x)), .int (nI 1)])), (aB, .inl (cB, 76800, .inl f))] H := hP
    have hD : va_D A [(h0, .inr (3, [.ref aB, .int (pz_b (pz_mo x)), .int (pz_o (pz_ms x)), .int (pz_b (pz_mf x)), .int (nI (pz_mr x)), .int (nI (pz_mF x)), .int (nI (pz_mw x)), .int (nI (pz_mc x)), .int (nI 1)])), (aB, .inl (cB, 76800, .inl f))] := hD
    refine lv_i2l (v := 0) hx hb dXM_set_12 (by decide) ?_
    exact W.lret (v := 0) hx hb hr (fun t ht hW => ⟨⟨_, (x, 1, f), rfl, ⟨by unfold pz_gS; rw [if_pos hc], hBy⟩, by rw [ht]; exact hP, va_K.moved hW.alike hK, hAe ▸ hD⟩, hS.F ht⟩) hS.2.2 dXM_set_13
end
section
/-! the reference: the other methods (laid by a program) -/
theorem pz_lt_succ {x : Int32} {n m : Nat} (hm : m = n + 1) (h : m < 2 ^ 31) : x ≤ nI n ↔ x < nI m := by
  subst hm
  rw [Int32.le_iff_toInt_le, Int32.lt_iff_toInt_lt, nI_toInt (by omega), nI_toInt h]; omega
def pz_isD (d : Int32) : Bool := decide (0 ≤ d ∧ d < nI 5)
def pz_isW (k b : Int32) : Bool := decide (0 ≤ k ∧ k < nI 11 ∧ 0 ≤ b ∧ b < nI 201)
theorem pz_isD_of {d : Int32} (h : pz_isD d = true) : ∃ d0 : Nat, d0 < 5 ∧ d = nI d0 := by
  obtain ⟨h1, h2⟩ := of_decide_eq_true h
  rcases pk_ix d (show 5 < 2 ^ 31 by decide) with a | a | ⟨d0, a1, a2⟩
  · exact absurd h1 (Int32.not_le.mpr a)
  · exact absurd h2 (Int32.not_lt.mpr a)
  · exact ⟨d0, a1, a2⟩
theorem pz_isD_nI {d0 : Nat} (h : d0 < 5) : pz_isD (nI d0) = true := decide_eq_true ⟨nI_pos' (by omega), nI_lt h (by decide)⟩
theorem pz_isW_of {k b : Int32} (h : pz_isW k b = true) : ∃ k0 b0 : Nat, k0 ≤ 10 ∧ b0 ≤ 200 ∧ k = nI k0 ∧ b = nI b0 := by
  obtain ⟨h1, h2, h3, h4⟩ := of_decide_eq_true h
  rcases pk_ix k (show 11 < 2 ^ 31 by decide) with a | a | ⟨k0, a1, a2⟩
  · exact absurd h1 (Int32.not_le.mpr a)
  · exact absurd h2 (Int32.not_lt.mpr a)
  · rcases pk_ix b (show 201 < 2 ^ 31 by decide) with c | c | ⟨b0, c1, c2⟩
    · exact absurd h3 (Int32.not_le.mpr c)
    · exact absurd h4 (Int32.not_lt.mpr c)
    · exact ⟨k0, b0, by omega, by omega, a2, c2⟩
theorem pz_isW_nI {k0 b0 : Nat} (h : k0 ≤ 10) (h2 : b0 ≤ 200) : pz_isW (nI k0) (nI b0) = true := decide_eq_true ⟨nI_pos' (by omega), nI_lt (by omega) (by decide), nI_pos' (by omega), nI_lt (by omega) (by decide)⟩
def pz_gD (x : pz_Mu) (d : Int32) : pz_Mu × Nat := if pz_isD d = false then (x, 1) else if pz_mo x = false ∨ pz_ms x ≠ none then (x, 2) else (pz_mdie x d.toNatClampNeg, 0)
def pz_gR (x : pz_Mu) : Int32 × pz_Mu × Nat := if pz_ms x = none ∨ pz_mf x = true then (nI 0, x, 1) else (pz_o (pz_ms x), pz_mrep x, 0)
def pz_gB (x : pz_Mu) : Int32 × pz_Mu × Nat := if pz_mo x = false ∨ pz_ms x = none ∨ pz_mf x = false then (nI 0, x, 1) else (nI (150 - (pz_mr x + 1)), pz_mreb x, 0)
def pz_gP (x : pz_Mu) (k b : Int32) (r : Bool) : pz_Mu × Nat := if pz_isW k b = false then (x, 1) else (pz_mpow x k.toNatClampNeg b.toNatClampNeg r, 0)
def pz_gT (x : pz_Mu) (w : Int32) : Int32 × Nat := if w < 0 ∨ nI 4 ≤ w then (nI 0, 1) else (if w = 0 then pz_b (pz_mo x) else if w = nI 1 then pz_o (pz_ms x) else if w = nI 2 then pz_b (pz_mf x) else nI (pz_mr x), 0)
set_option maxHeartbeats 4000000 in
set_option maxRecDepth 100000 in
theorem c_XM_die (l : Launch) (dC : Nat → ClassId) (dI : Nat → Nat → Nat) (sz : Nat) (h0 aB : Nat) (cB : ClassId) (f : Nat → Int32) (x : pz_Mu) (th : Nat) (d : Int32) (hm1 : pz_mr x ≤ 150) (hm2 : pz_mF x ≤ 2) (hm3 : pz_mw x ≤ 10) (hm4 : pz_mc x ≤ 200) (hm5 : ∀ e, pz_ms x = some e → e < 5) (hth : th < 10) : Met l yXM_die wsXM_die ({ frames := 0, cells := 0, slots := 0, locals := 0 }) (va_Pc [.ref h0, .int d] (fun U => U.heap.size = sz ∧ va_P (dC, dI) vwCl (pz_MW h0 aB cB f x th) U.heap ∧ va_K (dC, dI) vwCl [(cB, .byte)] U ∧ va_D (fun _ => True) (pz_MW h0 aB cB f x th))) (va_Qv (fun (u : pz_Mu × Nat × (Nat → Int32)) => (u.1, u.2.1) = pz_gD x d ∧ u.2.2 = f) (fun u t => va_P (dC, dI) vwCl (pz_MW h0 aB cB u.2.2 u.1 u.2.1) t.heap ∧ va_K (dC, dI) vwCl [(cB, .byte)] t ∧ va_D (va_A (pz_MW h0 aB cB f x th) sz) (pz_MW h0 aB cB u.2.2 u.1 u.2.1)) (va_A (pz_MW h0 aB cB f x th) sz)) 0 0 (va_A (pz_MW h0 aB cB f x th) sz) := by
  refine Met.ofW (cc := cXM_die) (maxL := 2) (ret := none) (by decide) rfl ?_
  intro p e s m args below meth c s₁ B hml hv
  obtain ⟨rfl, hsz, hP, hK, hD0⟩ := hv
  have hx := B.exec
  have hb := B.bytes
  have hr := B.returns
  have hts := atoms_spec (ws := wsXM_die) B.pre
  have hown : s.vm.findClass "ParityArrayModel" = some m.cls := findClass_of_methodNamed B.named
  have hlocks := B.notSynchronized
  subst hsz
  have hD := hD0.self (sz := s.heap.size)
  generalize hAe : va_A (pz_MW h0 aB cB f x th) s.heap.size = A at hD ⊢
  have hA : ∀ q : Nat, s.heap.size ≤ q → A q := fun q h => by rw [← hAe]; exact Or.inr h
  have hS : va_S A s.heap s.heap [] := va_S.rf
  have hl := lv_entry ([.ref h0, .int d]) (n := 2) (Nat.le_of_ble_eq_true rfl)
  rw [lg_entry_eq]
  generalize (lg_sl ([.ref h0, .int d]) ++ List.replicate (2 - (lg_sl ([.ref h0, .int d])).length) Slot.unset).toArray = ls at hl ⊢
  have hl : lv_has ls 2 [(0, .ref h0), (1, .int d)] := hl
  have hP : va_P (dC, dI) vwCl [(h0, .inr (3, [.ref aB, .int (pz_b (pz_mo x)), .int (pz_o (pz_ms x)), .int (pz_b (pz_mf x)), .int (nI (pz_mr x)), .int (nI (pz_mF x)), .int (nI (pz_mw x)), .int (nI (pz_mc x)), .int (nI th)])), (aB, .inl (cB, 76800, .inl f))] s.heap := hP
  have hD : va_D A [(h0, .inr (3, [.ref aB, .int (pz_b (pz_mo x)), .int (pz_o (pz_ms x)), .int (pz_b (pz_mf x)), .int (nI (pz_mr x)), .int (nI (pz_mF x)), .int (nI (pz_mw x)), .int (nI (pz_mc x)), .int (nI th)])), (aB, .inl (cB, 76800, .inl f))] := hD
  refine lv_aload_n hx hb dXM_die_0 rfl (lv_at hl 0 rfl) ?_
  refine lv_iload_n hx hb dXM_die_1 rfl (lv_at hl 1 rfl) ?_
  refine lv_if_lt (tgt := 10) hx hb dXM_die_2 (by decide) (fun hc => ?_) (fun hc => ?_)
  · refine lv_iconst (v := nI 1) hx hb dXM_die_10 (by decide) ?_
    refine lv_goto (tgt := 34) hx hb dXM_die_11 (by decide) ?_
    refine va_put (D := (dC, dI)) (ci := 3) (v := .int (nI 1)) (ty := .int) (C := "ParityArrayModel") (T := TXM) (N := 9) hx hb hts (fun w h => List.mem_cons_of_mem _ (inXM w h)) tyXM tyXM_ok nmXM hown hK hP hD hS 0 rfl rfl 8 (by decide) (hts _ (List.mem_cons_of_mem _ tw_399)) (fun _ h9 => h9) rfl (by decide +kernel) rfl rfl (Nat.le_of_ble_eq_true rfl) dXM_die_34 (fun H locs hP hD hS => ?_)
    have hP : va_P (dC, dI) vwCl [(h0, .inr (3, [.ref aB, .int (pz_b (pz_mo x)), .int (pz_o (pz_ms x)), .int (pz_b (pz_mf x)), .int (nI (pz_mr x)), .int (nI (pz_mF x)), .int (nI (pz_mw x)), .int (nI (pz_mc x)), .int (nI 1)])), (aB, .inl (cB, 76800, .inl f))] H := hP
    have hD : va_D A [(h0, .inr (3, [.ref aB, .int (pz_b (pz_mo x)), .int (pz_o (pz_ms x)), .int (pz_b (pz_mf x)), .int (nI (pz_mr x)), .int (nI (pz_mF x)), .int (nI (pz_mw x)), .int (nI (pz_mc x)), .int (nI 1)])), (aB, .inl (cB, 76800, .inl f))] := hD
    refine lv_aload_n hx hb dXM_die_37 rfl (lv_at hl 0 rfl) ?_
    refine va_get (D := (dC, dI)) (ci := 3) (v := .int (nI 1)) (C := "ParityArrayModel") (T := TXM) (N := 9) hx hb hts (fun w h => List.mem_cons_of_mem _ (inXM w h)) hown hK hP 0 rfl rfl 8 (by decide) (hts _ (List.mem_cons_of_mem _ tw_399)) (fun _ h9 => h9) rfl dXM_die_38 ?_
    refine lv_if_eq (tgt := 45) hx hb dXM_die_41 (by decide) (fun hc => absurd hc (by decide)) (fun _ => ?_)
    exact W.vret hx hb hr (fun t ht hW => ⟨⟨(x, 1, f), rfl, ⟨by unfold pz_gD; rw [if_pos (show pz_isD d = false from decide_eq_false (fun h9 => Int32.not_le.mpr hc h9.1))], rfl⟩, by rw [ht]; exact hP, va_K.moved hW.alike hK, hAe ▸ hD⟩, hS.F ht⟩) hS.2.2 dXM_die_44
  · have h1 := hc
    refine lv_iload_n hx hb dXM_die_5 rfl (lv_at hl 1 rfl) ?_
    refine lv_iconst (v := nI 4) hx hb dXM_die_6 (by decide) ?_
    refine lv_icmp_le (tgt := 14) hx hb dXM_die_7 (by decide) (fun hc => ?_) (fun hc => ?_)
    · obtain ⟨d0, hd0, rfl⟩ := pz_isD_of (decide_eq_true ⟨Int32.not_lt.mp h1, (pz_lt_succ rfl (by decide)).mp hc⟩ : pz_isD d = true)
      refine lv_aload_n hx hb dXM_die_14 rfl (lv_at hl 0 rfl) ?_
      refine va_get (D := (dC, dI)) (ci := 3) (v := .int (pz_b (pz_mo x))) (C := "ParityArrayModel") (T := TXM) (N := 9) hx hb hts (fun w h => List.mem_cons_of_mem _ (inXM w h)) hown hK hP 0 rfl rfl 1 (by decide) (hts _ (List.mem_cons_of_mem _ tw_392)) (fun _ h9 => h9) rfl dXM_die_15 ?_
      refine lv_if_eq (tgt := 29) hx hb dXM_die_18 (by decide) (fun hc => ?_) (fun hc => ?_)
      · have hc : (pz_mo x) = false := pz_b0.mp hc
        refine lv_iconst (v := nI 2) hx hb dXM_die_29 (by decide) ?_
        refine lv_goto (tgt := 34) hx hb dXM_die_30 (by decide) ?_
        refine va_put (D := (dC, dI)) (ci := 3) (v := .int (nI 2)) (ty := .int) (C := "ParityArrayModel") (T := TXM) (N := 9) hx hb hts (fun w h => List.mem_cons_of_mem _ (inXM w h)) tyXM tyXM_ok nmXM hown hK hP hD hS 0 rfl rfl 8 (by decide) (hts _ (List.mem_cons_of_mem _ tw_399)) (fun _ h9 => h9) rfl (by decide +kernel) rfl rfl (Nat.le_of_ble_eq_true rfl) dXM_die_34 (fun H locs hP hD hS => ?_)
        have hP : va_P (dC, dI) vwCl [(h0, .inr (3, [.ref aB, .int (pz_b (pz_mo x)), .int (pz_o (pz_ms x)), .int (pz_b (pz_mf x)), .int (nI (pz_mr x)), .int (nI (pz_mF x)), .int (nI (pz_mw x)), .int (nI (pz_mc x)), .int (nI 2)])), (aB, .inl (cB, 76800, .inl f))] H := hP
        have hD : va_D A [(h0, .inr (3, [.ref aB, .int (pz_b (pz_mo x)), .int (pz_o (pz_ms x)), .int (pz_b (pz_mf x)), .int (nI (pz_mr x)), .int (nI (pz_mF x)), .int (nI (pz_mw x)), .int (nI (pz_mc x)), .int (nI 2)])), (aB, .inl (cB, 76800, .inl f))] := hD
        refine lv_aload_n hx hb dXM_die_37 rfl (lv_at hl 0 rfl) ?_
        refine va_get (D := (dC, dI)) (ci := 3) (v := .int (nI 2)) (C := "ParityArrayModel") (T := TXM) (N := 9) hx hb hts (fun w h => List.mem_cons_of_mem _ (inXM w h)) hown hK hP 0 rfl rfl 8 (by decide) (hts _ (List.mem_cons_of_mem _ tw_399)) (fun _ h9 => h9) rfl dXM_die_38 ?_
        refine lv_if_eq (tgt := 45) hx hb dXM_die_41 (by decide) (fun hc => absurd hc (by decide)) (fun _ => ?_)
        exact W.vret hx hb hr (fun t ht hW => ⟨⟨(x, 2, f), rfl, ⟨by unfold pz_gD; rw [if_neg (by rw [pz_isD_nI hd0]; decide), if_pos (Or.inl hc)], rfl⟩, by rw [ht]; exact hP, va_K.moved hW.alike hK, hAe ▸ hD⟩, hS.F ht⟩) hS.2.2 dXM_die_44
      · have hc : (pz_mo x) = true := pz_bn hc
        have hon := hc
        refine lv_aload_n hx hb dXM_die_21 rfl (lv_at hl 0 rfl) ?_
        refine va_get (D := (dC, dI)) (ci := 3) (v := .int (pz_o (pz_ms x))) (C := "ParityArrayModel") (T := TXM) (N := 9) hx hb hts (fun w h => List.mem_cons_of_mem _ (inXM w h)) hown hK hP 0 rfl rfl 2 (by decide) (hts _ (List.mem_cons_of_mem _ tw_393)) (fun _ h9 => h9) rfl dXM_die_22 ?_
        refine lv_iconst (v := (-1)) hx hb dXM_die_25 (by decide) ?_
        refine lv_icmp_eq (tgt := 33) hx hb dXM_die_26 (by decide) (fun hc => ?_) (fun hc => ?_)
        · have hsk := (pz_om1 (pz_hm5 hm5)).mp hc
          refine lv_iconst (v := nI 0) hx hb dXM_die_33 (by decide) ?_
          refine va_put (D := (dC, dI)) (ci := 3) (v := .int (nI 0)) (ty := .int) (C := "ParityArrayModel") (T := TXM) (N := 9) hx hb hts (fun w h => List.mem_cons_of_mem _ (inXM w h)) tyXM tyXM_ok nmXM hown hK hP hD hS 0 rfl rfl 8 (by decide) (hts _ (List.mem_cons_of_mem _ tw_399)) (fun _ h9 => h9) rfl (by decide +kernel) rfl rfl (Nat.le_of_ble_eq_true rfl) dXM_die_34 (fun H locs hP hD hS => ?_)
          have hP : va_P (dC, dI) vwCl [(h0, .inr (3, [.ref aB, .int (pz_b (pz_mo x)), .int (pz_o (pz_ms x)), .int (pz_b (pz_mf x)), .int (nI (pz_mr x)), .int (nI (pz_mF x)), .int (nI (pz_mw x)), .int (nI (pz_mc x)), .int (nI 0)])), (aB, .inl (cB, 76800, .inl f))] H := hP
          have hD : va_D A [(h0, .inr (3, [.ref aB, .int (pz_b (pz_mo x)), .int (pz_o (pz_ms x)), .int (pz_b (pz_mf x)), .int (nI (pz_mr x)), .int (nI (pz_mF x)), .int (nI (pz_mw x)), .int (nI (pz_mc x)), .int (nI 0)])), (aB, .inl (cB, 76800, .inl f))] := hD
          refine lv_aload_n hx hb dXM_die_37 rfl (lv_at hl 0 rfl) ?_
          refine va_get (D := (dC, dI)) (ci := 3) (v := .int (nI 0)) (C := "ParityArrayModel") (T := TXM) (N := 9) hx hb hts (fun w h => List.mem_cons_of_mem _ (inXM w h)) hown hK hP 0 rfl rfl 8 (by decide) (hts _ (List.mem_cons_of_mem _ tw_399)) (fun _ h9 => h9) rfl dXM_die_38 ?_
          refine lv_if_eq (tgt := 45) hx hb dXM_die_41 (by decide) (fun _ => ?_) (fun hc => absurd hc (by decide))
          refine lv_aload_n hx hb dXM_die_45 rfl (lv_at hl 0 rfl) ?_
          refine lv_iload_n hx hb dXM_die_46 rfl (lv_at hl 1 rfl) ?_
          refine va_put (D := (dC, dI)) (ci := 3) (v := .int (nI d0)) (ty := .int) (C := "ParityArrayModel") (T := TXM) (N := 9) hx hb hts (fun w h => List.mem_cons_of_mem _ (inXM w h)) tyXM tyXM_ok nmXM hown hK hP hD hS 0 rfl rfl 2 (by decide) (hts _ (List.mem_cons_of_mem _ tw_393)) (fun _ h9 => h9) rfl (by decide +kernel) rfl rfl (Nat.le_of_ble_eq_true rfl) dXM_die_47 (fun H locs hP hD hS => ?_)
          have hP : va_P (dC, dI) vwCl [(h0, .inr (3, [.ref aB, .int (pz_b (pz_mo x)), .int (nI d0), .int (pz_b (pz_mf x)), .int (nI (pz_mr x)), .int (nI (pz_mF x)), .int (nI (pz_mw x)), .int (nI (pz_mc x)), .int (nI 0)])), (aB, .inl (cB, 76800, .inl f))] H := hP
          have hD : va_D A [(h0, .inr (3, [.ref aB, .int (pz_b (pz_mo x)), .int (nI d0), .int (pz_b (pz_mf x)), .int (nI (pz_mr x)), .int (nI (pz_mF x)), .int (nI (pz_mw x)), .int (nI (pz_mc x)), .int (nI 0)])), (aB, .inl (cB, 76800, .inl f))] := hD
          refine lv_aload_n hx hb dXM_die_50 rfl (lv_at hl 0 rfl) ?_
          refine lv_iconst (v := nI 0) hx hb dXM_die_51 (by decide) ?_
          refine va_put (D := (dC, dI)) (ci := 3) (v := .int (nI 0)) (ty := .boolean) (C := "ParityArrayModel") (T := TXM) (N := 9) hx hb hts (fun w h => List.mem_cons_of_mem _ (inXM w h)) tyXM tyXM_ok nmXM hown hK hP hD hS 0 rfl rfl 3 (by decide) (hts _ (List.mem_cons_of_mem _ tw_394)) (fun _ h9 => h9) rfl (by decide +kernel) rfl rfl (Nat.le_of_ble_eq_true rfl) dXM_die_52 (fun H locs hP hD hS => ?_)
          have hP : va_P (dC, dI) vwCl [(h0, .inr (3, [.ref aB, .int (pz_b (pz_mo x)), .int (nI d0), .int (pz_b false), .int (nI (pz_mr x)), .int (nI (pz_mF x)), .int (nI (pz_mw x)), .int (nI (pz_mc x)), .int (nI 0)])), (aB, .inl (cB, 76800, .inl f))] H := hP
          have hD : va_D A [(h0, .inr (3, [.ref aB, .int (pz_b (pz_mo x)), .int (nI d0), .int (pz_b false), .int (nI (pz_mr x)), .int (nI (pz_mF x)), .int (nI (pz_mw x)), .int (nI (pz_mc x)), .int (nI 0)])), (aB, .inl (cB, 76800, .inl f))] := hD
          refine lv_aload_n hx hb dXM_die_55 rfl (lv_at hl 0 rfl) ?_
          refine lv_iconst (v := nI 0) hx hb dXM_die_56 (by decide) ?_
          refine va_put (D := (dC, dI)) (ci := 3) (v := .int (nI 0)) (ty := .int) (C := "ParityArrayModel") (T := TXM) (N := 9) hx hb hts (fun w h => List.mem_cons_of_mem _ (inXM w h)) tyXM tyXM_ok nmXM hown hK hP hD hS 0 rfl rfl 4 (by decide) (hts _ (List.mem_cons_of_mem _ tw_395)) (fun _ h9 => h9) rfl (by decide +kernel) rfl rfl (Nat.le_of_ble_eq_true rfl) dXM_die_57 (fun H locs hP hD hS => ?_)
          have hP : va_P (dC, dI) vwCl [(h0, .inr (3, [.ref aB, .int (pz_b (pz_mo x)), .int (nI d0), .int (pz_b false), .int (nI 0), .int (nI (pz_mF x)), .int (nI (pz_mw x)), .int (nI (pz_mc x)), .int (nI 0)])), (aB, .inl (cB, 76800, .inl f))] H := hP
          have hD : va_D A [(h0, .inr (3, [.ref aB, .int (pz_b (pz_mo x)), .int (nI d0), .int (pz_b false), .int (nI 0), .int (nI (pz_mF x)), .int (nI (pz_mw x)), .int (nI (pz_mc x)), .int (nI 0)])), (aB, .inl (cB, 76800, .inl f))] := hD
          exact W.vret hx hb hr (fun t ht hW => ⟨⟨((pz_mM x, pz_mo x, some d0, false, 0, pz_mF x, pz_mw x, pz_mc x), 0, f), rfl, ⟨by unfold pz_gD; rw [if_neg (by rw [pz_isD_nI hd0]; decide), if_neg (by rw [hon, hsk]; decide), nI_clamp (by omega)]; rfl, rfl⟩, by rw [ht]; exact hP, va_K.moved hW.alike hK, hAe ▸ hD⟩, hS.F ht⟩) hS.2.2 dXM_die_60
        · refine lv_iconst (v := nI 2) hx hb dXM_die_29 (by decide) ?_
          refine lv_goto (tgt := 34) hx hb dXM_die_30 (by decide) ?_
          refine va_put (D := (dC, dI)) (ci := 3) (v := .int (nI 2)) (ty := .int) (C := "ParityArrayModel") (T := TXM) (N := 9) hx hb hts (fun w h => List.mem_cons_of_mem _ (inXM w h)) tyXM tyXM_ok nmXM hown hK hP hD hS 0 rfl rfl 8 (by decide) (hts _ (List.mem_cons_of_mem _ tw_399)) (fun _ h9 => h9) rfl (by decide +kernel) rfl rfl (Nat.le_of_ble_eq_true rfl) dXM_die_34 (fun H locs hP hD hS => ?_)
          have hP : va_P (dC, dI) vwCl [(h0, .inr (3, [.ref aB, .int (pz_b (pz_mo x)), .int (pz_o (pz_ms x)), .int (pz_b (pz_mf x)), .int (nI (pz_mr x)), .int (nI (pz_mF x)), .int (nI (pz_mw x)), .int (nI (pz_mc x)), .int (nI 2)])), (aB, .inl (cB, 76800, .inl f))] H := hP
          have hD : va_D A [(h0, .inr (3, [.ref aB, .int (pz_b (pz_mo x)), .int (pz_o (pz_ms x)), .int (pz_b (pz_mf x)), .int (nI (pz_mr x)), .int (nI (pz_mF x)), .int (nI (pz_mw x)), .int (nI (pz_mc x)), .int (nI 2)])), (aB, .inl (cB, 76800, .inl f))] := hD
          refine lv_aload_n hx hb dXM_die_37 rfl (lv_at hl 0 rfl) ?_
          refine va_get (D := (dC, dI)) (ci := 3) (v := .int (nI 2)) (C := "ParityArrayModel") (T := TXM) (N := 9) hx hb hts (fun w h => List.mem_cons_of_mem _ (inXM w h)) hown hK hP 0 rfl rfl 8 (by decide) (hts _ (List.mem_cons_of_mem _ tw_399)) (fun _ h9 => h9) rfl dXM_die_38 ?_
          refine lv_if_eq (tgt := 45) hx hb dXM_die_41 (by decide) (fun hc => absurd hc (by decide)) (fun _ => ?_)
          exact W.vret hx hb hr (fun t ht hW => ⟨⟨(x, 2, f), rfl, ⟨by unfold pz_gD; rw [if_neg (by rw [pz_isD_nI hd0]; decide), if_pos (Or.inr fun h9 => hc ((pz_om1 (pz_hm5 hm5)).mpr h9))], rfl⟩, by rw [ht]; exact hP, va_K.moved hW.alike hK, hAe ▸ hD⟩, hS.F ht⟩) hS.2.2 dXM_die_44
    · refine lv_iconst (v := nI 1) hx hb dXM_die_10 (by decide) ?_
      refine lv_goto (tgt := 34) hx hb dXM_die_11 (by decide) ?_
      refine va_put (D := (dC, dI)) (ci := 3) (v := .int (nI 1)) (ty := .int) (C := "ParityArrayModel") (T := TXM) (N := 9) hx hb hts (fun w h => List.mem_cons_of_mem _ (inXM w h)) tyXM tyXM_ok nmXM hown hK hP hD hS 0 rfl rfl 8 (by decide) (hts _ (List.mem_cons_of_mem _ tw_399)) (fun _ h9 => h9) rfl (by decide +kernel) rfl rfl (Nat.le_of_ble_eq_true rfl) dXM_die_34 (fun H locs hP hD hS => ?_)
      have hP : va_P (dC, dI) vwCl [(h0, .inr (3, [.ref aB, .int (pz_b (pz_mo x)), .int (pz_o (pz_ms x)), .int (pz_b (pz_mf x)), .int (nI (pz_mr x)), .int (nI (pz_mF x)), .int (nI (pz_mw x)), .int (nI (pz_mc x)), .int (nI 1)])), (aB, .inl (cB, 76800, .inl f))] H := hP
      have hD : va_D A [(h0, .inr (3, [.ref aB, .int (pz_b (pz_mo x)), .int (pz_o (pz_ms x)), .int (pz_b (pz_mf x)), .int (nI (pz_mr x)), .int (nI (pz_mF x)), .int (nI (pz_mw x)), .int (nI (pz_mc x)), .int (nI 1)])), (aB, .inl (cB, 76800, .inl f))] := hD
      refine lv_aload_n hx hb dXM_die_37 rfl (lv_at hl 0 rfl) ?_
      refine va_get (D := (dC, dI)) (ci := 3) (v := .int (nI 1)) (C := "ParityArrayModel") (T := TXM) (N := 9) hx hb hts (fun w h => List.mem_cons_of_mem _ (inXM w h)) hown hK hP 0 rfl rfl 8 (by decide) (hts _ (List.mem_cons_of_mem _ tw_399)) (fun _ h9 => h9) rfl dXM_die_38 ?_
      refine lv_if_eq (tgt := 45) hx hb dXM_die_41 (by decide) (fun hc => absurd hc (by decide)) (fun _ => ?_)
      exact W.vret hx hb hr (fun t ht hW => ⟨⟨(x, 1, f), rfl, ⟨by unfold pz_gD; rw [if_pos (show pz_isD d = false from decide_eq_false (fun h9 => hc ((pz_lt_succ rfl (by decide)).mpr h9.2)))], rfl⟩, by rw [ht]; exact hP, va_K.moved hW.alike hK, hAe ▸ hD⟩, hS.F ht⟩) hS.2.2 dXM_die_44

set_option maxHeartbeats 4000000 in
set_option maxRecDepth 100000 in
theorem c_XM_replace (l : Launch) (dC : Nat → ClassId) (dI : Nat → Nat → Nat) (sz : Nat) (h0 aB : Nat) (cB : ClassId) (f : Nat → Int32) (x : pz_Mu) (th : Nat) (hm1 : pz_mr x ≤ 150) (hm2 : pz_mF x ≤ 2) (hm3 : pz_mw x ≤ 10) (hm4 : pz_mc x ≤ 200) (hm5 : ∀ e, pz_ms x = some e → e < 5) (hth : th < 10) : Met l yXM_replace wsXM_replace ({ frames := 1, cells := 0, slots := 0, locals := 21 }) (va_Pc [.ref h0] (fun U => U.heap.size = sz ∧ va_P (dC, dI) vwCl (pz_MW h0 aB cB f x th) U.heap ∧ va_K (dC, dI) vwCl [(cB, .byte)] U ∧ va_D (fun _ => True) (pz_MW h0 aB cB f x th))) (va_Qi (fun (r : Int32) (u : pz_Mu × Nat × (Nat → Int32)) => (r, u.1, u.2.1) = pz_gR x ∧ u.2.2 = f) (fun u t => va_P (dC, dI) vwCl (pz_MW h0 aB cB u.2.2 u.1 u.2.1) t.heap ∧ va_K (dC, dI) vwCl [(cB, .byte)] t ∧ va_D (va_A (pz_MW h0 aB cB f x th) sz) (pz_MW h0 aB cB u.2.2 u.1 u.2.1)) (va_A (pz_MW h0 aB cB f x th) sz)) 0 0 (va_A (pz_MW h0 aB cB f x th) sz) := by
  refine Met.ofW (cc := cXM_replace) (maxL := 1) (ret := (some .int)) (by decide) rfl ?_
  intro p e s m args below meth c s₁ B hml hv
  obtain ⟨rfl, hsz, hP, hK, hD0⟩ := hv
  have hx := B.exec
  have hb := B.bytes
  have hr := B.returns
  have hts := atoms_spec (ws := wsXM_replace) B.pre
  have hown : s.vm.findClass "ParityArrayModel" = some m.cls := findClass_of_methodNamed B.named
  have hlocks := B.notSynchronized
  subst hsz
  have hD := hD0.self (sz := s.heap.size)
  generalize hAe : va_A (pz_MW h0 aB cB f x th) s.heap.size = A at hD ⊢
  have hA : ∀ q : Nat, s.heap.size ≤ q → A q := fun q h => by rw [← hAe]; exact Or.inr h
  have hS : va_S A s.heap s.heap [] := va_S.rf
  have hl := lv_entry ([.ref h0]) (n := 1) (Nat.le_of_ble_eq_true rfl)
  rw [lg_entry_eq]
  generalize (lg_sl ([.ref h0]) ++ List.replicate (1 - (lg_sl ([.ref h0])).length) Slot.unset).toArray = ls at hl ⊢
  have hl : lv_has ls 1 [(0, .ref h0)] := hl
  have hP : va_P (dC, dI) vwCl [(h0, .inr (3, [.ref aB, .int (pz_b (pz_mo x)), .int (pz_o (pz_ms x)), .int (pz_b (pz_mf x)), .int (nI (pz_mr x)), .int (nI (pz_mF x)), .int (nI (pz_mw x)), .int (nI (pz_mc x)), .int (nI th)])), (aB, .inl (cB, 76800, .inl f))] s.heap := hP
  have hD : va_D A [(h0, .inr (3, [.ref aB, .int (pz_b (pz_mo x)), .int (pz_o (pz_ms x)), .int (pz_b (pz_mf x)), .int (nI (pz_mr x)), .int (nI (pz_mF x)), .int (nI (pz_mw x)), .int (nI (pz_mc x)), .int (nI th)])), (aB, .inl (cB, 76800, .inl f))] := hD
  refine lv_aload_n hx hb dXM_replace_0 rfl (lv_at hl 0 rfl) ?_
  refine va_get (D := (dC, dI)) (ci := 3) (v := .int (pz_o (pz_ms x))) (C := "ParityArrayModel") (T := TXM) (N := 9) hx hb hts (fun w h => List.mem_cons_of_mem _ (inXM w h)) hown hK hP 0 rfl rfl 2 (by decide) (hts _ (List.mem_cons_of_mem _ tw_393)) (fun _ h9 => h9) rfl dXM_replace_1 ?_
  refine lv_iconst (v := (-1)) hx hb dXM_replace_4 (by decide) ?_
  refine lv_icmp_eq (tgt := 15) hx hb dXM_replace_5 (by decide) (fun hc => ?_) (fun hc => ?_)
  · refine lv_aload_n hx hb dXM_replace_15 rfl (lv_at hl 0 rfl) ?_
    refine lv_iconst (v := nI 1) hx hb dXM_replace_16 (by decide) ?_
    have hPc := hP
    have hDc := hD
    have hFc := va_free (wc := [(h0, .inr (3, [.ref aB, .int (pz_b (pz_mo x)), .int (pz_o (pz_ms x)), .int (pz_b (pz_mf x)), .int (nI (pz_mr x)), .int (nI (pz_mF x)), .int (nI (pz_mw x)), .int (nI (pz_mc x)), .int (nI th)])), (aB, .inl (cB, 76800, .inl f))]) hD hS hA [0, 1] rfl
    refine va_calli (va_runV (As := [.int (nI 1)]) (rest := []) ⟨hx, hb, hml, hown, hts⟩ (c_XM_fails l dC dI _ h0 aB cB f x th 1) (cwV 1 hts (pz_gc (List.mem_cons_of_mem _ tw_427) rfl (pz_gc (List.mem_cons_of_mem _ tw_429) rfl (pz_gc (List.mem_cons_of_mem _ ts_9) rfl (pz_gc (List.mem_cons_of_mem _ tw_4) rfl (pz_gi tcXM_fails))))) rfl rfl rfl (by decide +kernel) ⟨Nat.le_of_ble_eq_true rfl, Nat.le_of_ble_eq_true rfl⟩) (pz_preVw (va_recv hK hPc (q0 := 0) rfl rfl) hPc hK hDc) rfl rfl hl.1 rfl (lv_room (Nat.le_of_ble_eq_true rfl)) dXM_replace_17 ⟨Nat.zero_le _, Nat.zero_le _⟩) hS (fun q _ h => hFc q h) hFc (fun r u t H1 locs ht hvm hw hB hz hk1 hS => ?_)
    obtain ⟨hP1, hK1, hD1⟩ := hB
    rw [ht] at hP1
    obtain ⟨rfl, rfl⟩ := hw
    obtain ⟨hP, hD⟩ := va_join (wr := []) hP hD [0, 1] [] rfl rfl (by decide) (by decide) hk1 hFc hP1 hD1
    clear hPc hDc hFc hP1 hD1 hK1 hk1 hz ht hvm
    generalize H1 = H at hP hS ⊢
    have hP : va_P (dC, dI) vwCl [(h0, .inr (3, [.ref aB, .int (pz_b (pz_mo x)), .int (pz_o (pz_ms x)), .int (pz_b (pz_mf x)), .int (nI (pz_mr x)), .int (nI (pz_mF x)), .int (nI (pz_mw x)), .int (nI (pz_mc x)), .int (nI 1)])), (aB, .inl (cB, 76800, .inl f))] H := hP
    have hD : va_D A [(h0, .inr (3, [.ref aB, .int (pz_b (pz_mo x)), .int (pz_o (pz_ms x)), .int (pz_b (pz_mf x)), .int (nI (pz_mr x)), .int (nI (pz_mF x)), .int (nI (pz_mw x)), .int (nI (pz_mc x)), .int (nI 1)])), (aB, .inl (cB, 76800, .inl f))] := hD
    exact W.iret (v := nI 0) hx hb hr (fun t ht hW => ⟨⟨_, (x, 1, f), rfl, ⟨by unfold pz_gR; rw [if_pos (Or.inl ((pz_om1 (pz_hm5 hm5)).mp hc))], rfl⟩, by rw [ht]; exact hP, va_K.moved hW.alike hK, hAe ▸ hD⟩, hS.F ht⟩) hS.2.2 dXM_replace_20
  · have hsk : ¬ pz_ms x = none := fun h9 => hc ((pz_om1 (pz_hm5 hm5)).mpr h9)
    refine lv_aload_n hx hb dXM_replace_8 rfl (lv_at hl 0 rfl) ?_
    refine va_get (D := (dC, dI)) (ci := 3) (v := .int (pz_b (pz_mf x))) (C := "ParityArrayModel") (T := TXM) (N := 9) hx hb hts (fun w h => List.mem_cons_of_mem _ (inXM w h)) hown hK hP 0 rfl rfl 3 (by decide) (hts _ (List.mem_cons_of_mem _ tw_394)) (fun _ h9 => h9) rfl dXM_replace_9 ?_
    refine lv_if_eq (tgt := 21) hx hb dXM_replace_12 (by decide) (fun hc => ?_) (fun hc => ?_)
    · have hc : (pz_mf x) = false := pz_b0.mp hc
      refine lv_aload_n hx hb dXM_replace_21 rfl (lv_at hl 0 rfl) ?_
      refine lv_iconst (v := nI 0) hx hb dXM_replace_22 (by decide) ?_
      refine va_put (D := (dC, dI)) (ci := 3) (v := .int (nI 0)) (ty := .int) (C := "ParityArrayModel") (T := TXM) (N := 9) hx hb hts (fun w h => List.mem_cons_of_mem _ (inXM w h)) tyXM tyXM_ok nmXM hown hK hP hD hS 0 rfl rfl 8 (by decide) (hts _ (List.mem_cons_of_mem _ tw_399)) (fun _ h9 => h9) rfl (by decide +kernel) rfl rfl (Nat.le_of_ble_eq_true rfl) dXM_replace_23 (fun H locs hP hD hS => ?_)
      have hP : va_P (dC, dI) vwCl [(h0, .inr (3, [.ref aB, .int (pz_b (pz_mo x)), .int (pz_o (pz_ms x)), .int (pz_b (pz_mf x)), .int (nI (pz_mr x)), .int (nI (pz_mF x)), .int (nI (pz_mw x)), .int (nI (pz_mc x)), .int (nI 0)])), (aB, .inl (cB, 76800, .inl f))] H := hP
      have hD : va_D A [(h0, .inr (3, [.ref aB, .int (pz_b (pz_mo x)), .int (pz_o (pz_ms x)), .int (pz_b (pz_mf x)), .int (nI (pz_mr x)), .int (nI (pz_mF x)), .int (nI (pz_mw x)), .int (nI (pz_mc x)), .int (nI 0)])), (aB, .inl (cB, 76800, .inl f))] := hD
      refine lv_aload_n hx hb dXM_replace_26 rfl (lv_at hl 0 rfl) ?_
      refine lv_iconst (v := nI 1) hx hb dXM_replace_27 (by decide) ?_
      refine va_put (D := (dC, dI)) (ci := 3) (v := .int (nI 1)) (ty := .boolean) (C := "ParityArrayModel") (T := TXM) (N := 9) hx hb hts (fun w h => List.mem_cons_of_mem _ (inXM w h)) tyXM tyXM_ok nmXM hown hK hP hD hS 0 rfl rfl 3 (by decide) (hts _ (List.mem_cons_of_mem _ tw_394)) (fun _ h9 => h9) rfl (by decide +kernel) rfl rfl (Nat.le_of_ble_eq_true rfl) dXM_replace_28 (fun H locs hP hD hS => ?_)
      have hP : va_P (dC, dI) vwCl [(h0, .inr (3, [.ref aB, .int (pz_b (pz_mo x)), .int (pz_o (pz_ms x)), .int (pz_b true), .int (nI (pz_mr x)), .int (nI (pz_mF x)), .int (nI (pz_mw x)), .int (nI (pz_mc x)), .int (nI 0)])), (aB, .inl (cB, 76800, .inl f))] H := hP
      have hD : va_D A [(h0, .inr (3, [.ref aB, .int (pz_b (pz_mo x)), .int (pz_o (pz_ms x)), .int (pz_b true), .int (nI (pz_mr x)), .int (nI (pz_mF x)), .int (nI (pz_mw x)), .int (nI (pz_mc x)), .int (nI 0)])), (aB, .inl (cB, 76800, .inl f))] := hD
      refine lv_aload_n hx hb dXM_replace_31 rfl (lv_at hl 0 rfl) ?_
      refine va_get (D := (dC, dI)) (ci := 3) (v := .int (pz_o (pz_ms x))) (C := "ParityArrayModel") (T := TXM) (N := 9) hx hb hts (fun w h => List.mem_cons_of_mem _ (inXM w h)) hown hK hP 0 rfl rfl 2 (by decide) (hts _ (List.mem_cons_of_mem _ tw_393)) (fun _ h9 => h9) rfl dXM_replace_32 ?_
      exact W.iret (v := pz_o (pz_ms x)) hx hb hr (fun t ht hW => ⟨⟨_, ((pz_mM x, pz_mo x, pz_ms x, true, pz_mr x, pz_mF x, pz_mw x, pz_mc x), 0, f), rfl, ⟨by unfold pz_gR; rw [if_neg (fun h9 => h9.elim hsk (fun h => by rw [hc] at h; exact absurd h (by decide)))]; rfl, rfl⟩, by rw [ht]; exact hP, va_K.moved hW.alike hK, hAe ▸ hD⟩, hS.F ht⟩) hS.2.2 dXM_replace_35
    · have hc : (pz_mf x) = true := pz_bn hc
      refine lv_aload_n hx hb dXM_replace_15 rfl (lv_at hl 0 rfl) ?_
      refine lv_iconst (v := nI 1) hx hb dXM_replace_16 (by decide) ?_
      have hPc := hP
      have hDc := hD
      have hFc := va_free (wc := [(h0, .inr (3, [.ref aB, .int (pz_b (pz_mo x)), .int (pz_o (pz_ms x)), .int (pz_b (pz_mf x)), .int (nI (pz_mr x)), .int (nI (pz_mF x)), .int (nI (pz_mw x)), .int (nI (pz_mc x)), .int (nI th)])), (aB, .inl (cB, 76800, .inl f))]) hD hS hA [0, 1] rfl
      refine va_calli (va_runV (As := [.int (nI 1)]) (rest := []) ⟨hx, hb, hml, hown, hts⟩ (c_XM_fails l dC dI _ h0 aB cB f x th 1) (cwV 1 hts (pz_gc (List.mem_cons_of_mem _ tw_427) rfl (pz_gc (List.mem_cons_of_mem _ tw_429) rfl (pz_gc (List.mem_cons_of_mem _ ts_9) rfl (pz_gc (List.mem_cons_of_mem _ tw_4) rfl (pz_gi tcXM_fails))))) rfl rfl rfl (by decide +kernel) ⟨Nat.le_of_ble_eq_true rfl, Nat.le_of_ble_eq_true rfl⟩) (pz_preVw (va_recv hK hPc (q0 := 0) rfl rfl) hPc hK hDc) rfl rfl hl.1 rfl (lv_room (Nat.le_of_ble_eq_true rfl)) dXM_replace_17 ⟨Nat.zero_le _, Nat.zero_le _⟩) hS (fun q _ h => hFc q h) hFc (fun r u t H1 locs ht hvm hw hB hz hk1 hS => ?_)
      obtain ⟨hP1, hK1, hD1⟩ := hB
      rw [ht] at hP1
      obtain ⟨rfl, rfl⟩ := hw
      obtain ⟨hP, hD⟩ := va_join (wr := []) hP hD [0, 1] [] rfl rfl (by decide) (by decide) hk1 hFc hP1 hD1
      clear hPc hDc hFc hP1 hD1 hK1 hk1 hz ht hvm
      generalize H1 = H at hP hS ⊢
      have hP : va_P (dC, dI) vwCl [(h0, .inr (3, [.ref aB, .int (pz_b (pz_mo x)), .int (pz_o (pz_ms x)), .int (pz_b (pz_mf x)), .int (nI (pz_mr x)), .int (nI (pz_mF x)), .int (nI (pz_mw x)), .int (nI (pz_mc x)), .int (nI 1)])), (aB, .inl (cB, 76800, .inl f))] H := hP
      have hD : va_D A [(h0, .inr (3, [.ref aB, .int (pz_b (pz_mo x)), .int (pz_o (pz_ms x)), .int (pz_b (pz_mf x)), .int (nI (pz_mr x)), .int (nI (pz_mF x)), .int (nI (pz_mw x)), .int (nI (pz_mc x)), .int (nI 1)])), (aB, .inl (cB, 76800, .inl f))] := hD
      exact W.iret (v := nI 0) hx hb hr (fun t ht hW => ⟨⟨_, (x, 1, f), rfl, ⟨by unfold pz_gR; rw [if_pos (Or.inr hc)], rfl⟩, by rw [ht]; exact hP, va_K.moved hW.alike hK, hAe ▸ hD⟩, hS.F ht⟩) hS.2.2 dXM_replace_20

set_option maxHeartbeats 4000000 in
set_option maxRecDepth 100000 in
theorem c_XM_rebuild (l : Launch) (dC : Nat → ClassId) (dI : Nat → Nat → Nat) (sz : Nat) (h0 aB : Nat) (cB : ClassId) (f : Nat → Int32) (x : pz_Mu) (th : Nat) (hm1 : pz_mr x ≤ 150) (hm2 : pz_mF x ≤ 2) (hm3 : pz_mw x ≤ 10) (hm4 : pz_mc x ≤ 200) (hm5 : ∀ e, pz_ms x = some e → e < 5) (hth : th < 10) (hm6 : pz_ms x ≠ none → pz_mr x < 150) : Met l yXM_rebuild wsXM_rebuild ({ frames := 1, cells := 0, slots := 0, locals := 21 }) (va_Pc [.ref h0] (fun U => U.heap.size = sz ∧ va_P (dC, dI) vwCl (pz_MW h0 aB cB f x th) U.heap ∧ va_K (dC, dI) vwCl [(cB, .byte)] U ∧ va_D (fun _ => True) (pz_MW h0 aB cB f x th))) (va_Qi (fun (r : Int32) (u : pz_Mu × Nat × (Nat → Int32)) => (r, u.1, u.2.1) = pz_gB x ∧ u.2.2 = f) (fun u t => va_P (dC, dI) vwCl (pz_MW h0 aB cB u.2.2 u.1 u.2.1) t.heap ∧ va_K (dC, dI) vwCl [(cB, .byte)] t ∧ va_D (va_A (pz_MW h0 aB cB f x th) sz) (pz_MW h0 aB cB u.2.2 u.1 u.2.1)) (va_A (pz_MW h0 aB cB f x th) sz)) 0 0 (va_A (pz_MW h0 aB cB f x th) sz) := by
  refine Met.ofW (cc := cXM_rebuild) (maxL := 2) (ret := (some .int)) (by decide) rfl ?_
  intro p e s m args below meth c s₁ B hml hv
  obtain ⟨rfl, hsz, hP, hK, hD0⟩ := hv
  have hx := B.exec
  have hb := B.bytes
  have hr := B.returns
  have hts := atoms_spec (ws := wsXM_rebuild) B.pre
  have hown : s.vm.findClass "ParityArrayModel" = some m.cls := findClass_of_methodNamed B.named
  have hlocks := B.notSynchronized
  subst hsz
  have hD := hD0.self (sz := s.heap.size)
  generalize hAe : va_A (pz_MW h0 aB cB f x th) s.heap.size = A at hD ⊢
  have hA : ∀ q : Nat, s.heap.size ≤ q → A q := fun q h => by rw [← hAe]; exact Or.inr h
  have hS : va_S A s.heap s.heap [] := va_S.rf
  have hl := lv_entry ([.ref h0]) (n := 2) (Nat.le_of_ble_eq_true rfl)
  rw [lg_entry_eq]
  generalize (lg_sl ([.ref h0]) ++ List.replicate (2 - (lg_sl ([.ref h0])).length) Slot.unset).toArray = ls at hl ⊢
  have hl : lv_has ls 2 [(0, .ref h0)] := hl
  have hP : va_P (dC, dI) vwCl [(h0, .inr (3, [.ref aB, .int (pz_b (pz_mo x)), .int (pz_o (pz_ms x)), .int (pz_b (pz_mf x)), .int (nI (pz_mr x)), .int (nI (pz_mF x)), .int (nI (pz_mw x)), .int (nI (pz_mc x)), .int (nI th)])), (aB, .inl (cB, 76800, .inl f))] s.heap := hP
  have hD : va_D A [(h0, .inr (3, [.ref aB, .int (pz_b (pz_mo x)), .int (pz_o (pz_ms x)), .int (pz_b (pz_mf x)), .int (nI (pz_mr x)), .int (nI (pz_mF x)), .int (nI (pz_mw x)), .int (nI (pz_mc x)), .int (nI th)])), (aB, .inl (cB, 76800, .inl f))] := hD
  refine lv_aload_n hx hb dXM_rebuild_0 rfl (lv_at hl 0 rfl) ?_
  refine va_get (D := (dC, dI)) (ci := 3) (v := .int (pz_b (pz_mo x))) (C := "ParityArrayModel") (T := TXM) (N := 9) hx hb hts (fun w h => List.mem_cons_of_mem _ (inXM w h)) hown hK hP 0 rfl rfl 1 (by decide) (hts _ (List.mem_cons_of_mem _ tw_392)) (fun _ h9 => h9) rfl dXM_rebuild_1 ?_
  refine lv_if_eq (tgt := 22) hx hb dXM_rebuild_4 (by decide) (fun hc => ?_) (fun hc => ?_)
  · have hc : (pz_mo x) = false := pz_b0.mp hc
    refine lv_aload_n hx hb dXM_rebuild_22 rfl (lv_at hl 0 rfl) ?_
    refine lv_iconst (v := nI 1) hx hb dXM_rebuild_23 (by decide) ?_
    have hPc := hP
    have hDc := hD
    have hFc := va_free (wc := [(h0, .inr (3, [.ref aB, .int (pz_b (pz_mo x)), .int (pz_o (pz_ms x)), .int (pz_b (pz_mf x)), .int (nI (pz_mr x)), .int (nI (pz_mF x)), .int (nI (pz_mw x)), .int (nI (pz_mc x)), .int (nI th)])), (aB, .inl (cB, 76800, .inl f))]) hD hS hA [0, 1] rfl
    refine va_calli (va_runV (As := [.int (nI 1)]) (rest := []) ⟨hx, hb, hml, hown, hts⟩ (c_XM_fails l dC dI _ h0 aB cB f x th 1) (cwV 1 hts (pz_gc (List.mem_cons_of_mem _ tw_427) rfl (pz_gc (List.mem_cons_of_mem _ tw_429) rfl (pz_gc (List.mem_cons_of_mem _ ts_9) rfl (pz_gc (List.mem_cons_of_mem _ tw_4) rfl (pz_gi tcXM_fails))))) rfl rfl rfl (by decide +kernel) ⟨Nat.le_of_ble_eq_true rfl, Nat.le_of_ble_eq_true rfl⟩) (pz_preVw (va_recv hK hPc (q0 := 0) rfl rfl) hPc hK hDc) rfl rfl hl.1 rfl (lv_room (Nat.le_of_ble_eq_true rfl)) dXM_rebuild_24 ⟨Nat.zero_le _, Nat.zero_le _⟩) hS (fun q _ h => hFc q h) hFc (fun r u t H1 locs ht hvm hw hB hz hk1 hS => ?_)
    obtain ⟨hP1, hK1, hD1⟩ := hB
    rw [ht] at hP1
    obtain ⟨rfl, rfl⟩ := hw
    obtain ⟨hP, hD⟩ := va_join (wr := []) hP hD [0, 1] [] rfl rfl (by decide) (by decide) hk1 hFc hP1 hD1
    clear hPc hDc hFc hP1 hD1 hK1 hk1 hz ht hvm
    generalize H1 = H at hP hS ⊢
    have hP : va_P (dC, dI) vwCl [(h0, .inr (3, [.ref aB, .int (pz_b (pz_mo x)), .int (pz_o (pz_ms x)), .int (pz_b (pz_mf x)), .int (nI (pz_mr x)), .int (nI (pz_mF x)), .int (nI (pz_mw x)), .int (nI (pz_mc x)), .int (nI 1)])), (aB, .inl (cB, 76800, .inl f))] H := hP
    have hD : va_D A [(h0, .inr (3, [.ref aB, .int (pz_b (pz_mo x)), .int (pz_o (pz_ms x)), .int (pz_b (pz_mf x)), .int (nI (pz_mr x)), .int (nI (pz_mF x)), .int (nI (pz_mw x)), .int (nI (pz_mc x)), .int (nI 1)])), (aB, .inl (cB, 76800, .inl f))] := hD
    exact W.iret (v := nI 0) hx hb hr (fun t ht hW => ⟨⟨_, (x, 1, f), rfl, ⟨by unfold pz_gB; rw [if_pos (Or.inl hc)], rfl⟩, by rw [ht]; exact hP, va_K.moved hW.alike hK, hAe ▸ hD⟩, hS.F ht⟩) hS.2.2 dXM_rebuild_27
  · have hc : (pz_mo x) = true := pz_bn hc
    have hon := hc
    refine lv_aload_n hx hb dXM_rebuild_7 rfl (lv_at hl 0 rfl) ?_
    refine va_get (D := (dC, dI)) (ci := 3) (v := .int (pz_o (pz_ms x))) (C := "ParityArrayModel") (T := TXM) (N := 9) hx hb hts (fun w h => List.mem_cons_of_mem _ (inXM w h)) hown hK hP 0 rfl rfl 2 (by decide) (hts _ (List.mem_cons_of_mem _ tw_393)) (fun _ h9 => h9) rfl dXM_rebuild_8 ?_
    refine lv_iconst (v := (-1)) hx hb dXM_rebuild_11 (by decide) ?_
    refine lv_icmp_eq (tgt := 22) hx hb dXM_rebuild_12 (by decide) (fun hc => ?_) (fun hc => ?_)
    · refine lv_aload_n hx hb dXM_rebuild_22 rfl (lv_at hl 0 rfl) ?_
      refine lv_iconst (v := nI 1) hx hb dXM_rebuild_23 (by decide) ?_
      have hPc := hP
      have hDc := hD
      have hFc := va_free (wc := [(h0, .inr (3, [.ref aB, .int (pz_b (pz_mo x)), .int (pz_o (pz_ms x)), .int (pz_b (pz_mf x)), .int (nI (pz_mr x)), .int (nI (pz_mF x)), .int (nI (pz_mw x)), .int (nI (pz_mc x)), .int (nI th)])), (aB, .inl (cB, 76800, .inl f))]) hD hS hA [0, 1] rfl
      refine va_calli (va_runV (As := [.int (nI 1)]) (rest := []) ⟨hx, hb, hml, hown, hts⟩ (c_XM_fails l dC dI _ h0 aB cB f x th 1) (cwV 1 hts (pz_gc (List.mem_cons_of_mem _ tw_427) rfl (pz_gc (List.mem_cons_of_mem _ tw_429) rfl (pz_gc (List.mem_cons_of_mem _ ts_9) rfl (pz_gc (List.mem_cons_of_mem _ tw_4) rfl (pz_gi tcXM_fails))))) rfl rfl rfl (by decide +kernel) ⟨Nat.le_of_ble_eq_true rfl, Nat.le_of_ble_eq_true rfl⟩) (pz_preVw (va_recv hK hPc (q0 := 0) rfl rfl) hPc hK hDc) rfl rfl hl.1 rfl (lv_room (Nat.le_of_ble_eq_true rfl)) dXM_rebuild_24 ⟨Nat.zero_le _, Nat.zero_le _⟩) hS (fun q _ h => hFc q h) hFc (fun r u t H1 locs ht hvm hw hB hz hk1 hS => ?_)
      obtain ⟨hP1, hK1, hD1⟩ := hB
      rw [ht] at hP1
      obtain ⟨rfl, rfl⟩ := hw
      obtain ⟨hP, hD⟩ := va_join (wr := []) hP hD [0, 1] [] rfl rfl (by decide) (by decide) hk1 hFc hP1 hD1
      clear hPc hDc hFc hP1 hD1 hK1 hk1 hz ht hvm
      generalize H1 = H at hP hS ⊢
      have hP : va_P (dC, dI) vwCl [(h0, .inr (3, [.ref aB, .int (pz_b (pz_mo x)), .int (pz_o (pz_ms x)), .int (pz_b (pz_mf x)), .int (nI (pz_mr x)), .int (nI (pz_mF x)), .int (nI (pz_mw x)), .int (nI (pz_mc x)), .int (nI 1)])), (aB, .inl (cB, 76800, .inl f))] H := hP
      have hD : va_D A [(h0, .inr (3, [.ref aB, .int (pz_b (pz_mo x)), .int (pz_o (pz_ms x)), .int (pz_b (pz_mf x)), .int (nI (pz_mr x)), .int (nI (pz_mF x)), .int (nI (pz_mw x)), .int (nI (pz_mc x)), .int (nI 1)])), (aB, .inl (cB, 76800, .inl f))] := hD
      exact W.iret (v := nI 0) hx hb hr (fun t ht hW => ⟨⟨_, (x, 1, f), rfl, ⟨by unfold pz_gB; rw [if_pos (Or.inr (Or.inl ((pz_om1 (pz_hm5 hm5)).mp hc)))], rfl⟩, by rw [ht]; exact hP, va_K.moved hW.alike hK, hAe ▸ hD⟩, hS.F ht⟩) hS.2.2 dXM_rebuild_27
    · have hsk : ¬ pz_ms x = none := fun h9 => hc ((pz_om1 (pz_hm5 hm5)).mpr h9)
      have hlt := hm6 hsk
      refine lv_aload_n hx hb dXM_rebuild_15 rfl (lv_at hl 0 rfl) ?_
      refine va_get (D := (dC, dI)) (ci := 3) (v := .int (pz_b (pz_mf x))) (C := "ParityArrayModel") (T := TXM) (N := 9) hx hb hts (fun w h => List.mem_cons_of_mem _ (inXM w h)) hown hK hP 0 rfl rfl 3 (by decide) (hts _ (List.mem_cons_of_mem _ tw_394)) (fun _ h9 => h9) rfl dXM_rebuild_16 ?_
      refine lv_if_ne (tgt := 28) hx hb dXM_rebuild_19 (by decide) (fun hc => ?_) (fun hc => ?_)
      · have hc : (pz_mf x) = true := pz_bn hc
        have hfr := hc
        have hn : ¬ (pz_mo x = false ∨ pz_ms x = none ∨ pz_mf x = false) := by rw [hon, hfr]; exact fun h9 => h9.elim (fun h => absurd h (by decide)) (fun h => h.elim hsk (fun h => absurd h (by decide)))
        refine lv_aload_n hx hb dXM_rebuild_28 rfl (lv_at hl 0 rfl) ?_
        refine lv_iconst (v := nI 0) hx hb dXM_rebuild_29 (by decide) ?_
        refine va_put (D := (dC, dI)) (ci := 3) (v := .int (nI 0)) (ty := .int) (C := "ParityArrayModel") (T := TXM) (N := 9) hx hb hts (fun w h => List.mem_cons_of_mem _ (inXM w h)) tyXM tyXM_ok nmXM hown hK hP hD hS 0 rfl rfl 8 (by decide) (hts _ (List.mem_cons_of_mem _ tw_399)) (fun _ h9 => h9) rfl (by decide +kernel) rfl rfl (Nat.le_of_ble_eq_true rfl) dXM_rebuild_30 (fun H locs hP hD hS => ?_)
        have hP : va_P (dC, dI) vwCl [(h0, .inr (3, [.ref aB, .int (pz_b (pz_mo x)), .int (pz_o (pz_ms x)), .int (pz_b (pz_mf x)), .int (nI (pz_mr x)), .int (nI (pz_mF x)), .int (nI (pz_mw x)), .int (nI (pz_mc x)), .int (nI 0)])), (aB, .inl (cB, 76800, .inl f))] H := hP
        have hD : va_D A [(h0, .inr (3, [.ref aB, .int (pz_b (pz_mo x)), .int (pz_o (pz_ms x)), .int (pz_b (pz_mf x)), .int (nI (pz_mr x)), .int (nI (pz_mF x)), .int (nI (pz_mw x)), .int (nI (pz_mc x)), .int (nI 0)])), (aB, .inl (cB, 76800, .inl f))] := hD
        refine lv_aload_n hx hb dXM_rebuild_33 rfl (lv_at hl 0 rfl) ?_
        refine lv_dup hx hb dXM_rebuild_34 rfl ?_
        refine va_get (D := (dC, dI)) (ci := 3) (v := .int (nI (pz_mr x))) (C := "ParityArrayModel") (T := TXM) (N := 9) hx hb hts (fun w h => List.mem_cons_of_mem _ (inXM w h)) hown hK hP 0 rfl rfl 4 (by decide) (hts _ (List.mem_cons_of_mem _ tw_395)) (fun _ h9 => h9) rfl dXM_rebuild_35 ?_
        refine lv_iconst (v := nI 1) hx hb dXM_rebuild_38 (by decide) ?_
        refine lv_iadd hx hb dXM_rebuild_39 ?_
        refine lv_topi (nm_r (nI_add (pz_mr x) 1) ?_)
        refine va_put (D := (dC, dI)) (ci := 3) (v := .int (nI ((pz_mr x) + 1))) (ty := .int) (C := "ParityArrayModel") (T := TXM) (N := 9) hx hb hts (fun w h => List.mem_cons_of_mem _ (inXM w h)) tyXM tyXM_ok nmXM hown hK hP hD hS 0 rfl rfl 4 (by decide) (hts _ (List.mem_cons_of_mem _ tw_395)) (fun _ h9 => h9) rfl (by decide +kernel) rfl rfl (Nat.le_of_ble_eq_true rfl) dXM_rebuild_40 (fun H locs hP hD hS => ?_)
        have hP : va_P (dC, dI) vwCl [(h0, .inr (3, [.ref aB, .int (pz_b (pz_mo x)), .int (pz_o (pz_ms x)), .int (pz_b (pz_mf x)), .int (nI ((pz_mr x) + 1)), .int (nI (pz_mF x)), .int (nI (pz_mw x)), .int (nI (pz_mc x)), .int (nI 0)])), (aB, .inl (cB, 76800, .inl f))] H := hP
        have hD : va_D A [(h0, .inr (3, [.ref aB, .int (pz_b (pz_mo x)), .int (pz_o (pz_ms x)), .int (pz_b (pz_mf x)), .int (nI ((pz_mr x) + 1)), .int (nI (pz_mF x)), .int (nI (pz_mw x)), .int (nI (pz_mc x)), .int (nI 0)])), (aB, .inl (cB, 76800, .inl f))] := hD
        refine lv_sipush (v := nI 150) hx hb dXM_rebuild_43 (by decide) ?_
        refine lv_aload_n hx hb dXM_rebuild_46 rfl (lv_at hl 0 rfl) ?_
        refine va_get (D := (dC, dI)) (ci := 3) (v := .int (nI ((pz_mr x) + 1))) (C := "ParityArrayModel") (T := TXM) (N := 9) hx hb hts (fun w h => List.mem_cons_of_mem _ (inXM w h)) hown hK hP 0 rfl rfl 4 (by decide) (hts _ (List.mem_cons_of_mem _ tw_395)) (fun _ h9 => h9) rfl dXM_rebuild_47 ?_
        refine lv_isub hx hb dXM_rebuild_50 ?_
        refine lv_topi (nm_r (pk_sub (by omega)) ?_)
        refine lv_istore_n hx hb dXM_rebuild_51 rfl hl (by decide) rfl (fun ls hl => ?_)
        have hl : lv_has ls 2 [(1, .int (nI (150 - ((pz_mr x) + 1)))), (0, .ref h0)] := hl
        refine lv_iload_n hx hb dXM_rebuild_52 rfl (lv_at hl 0 rfl) ?_
        refine lv_if_le (tgt := 58) hx hb dXM_rebuild_53 (by decide) (fun hc => ?_) (fun hc => ?_)
        · have hc : (150 - ((pz_mr x) + 1)) ≤ 0 := (nI_leI (a := (150 - ((pz_mr x) + 1))) (b := 0) (by omega) (by omega)).mp hc
          refine lv_aload_n hx hb dXM_rebuild_58 rfl (lv_at hl 1 rfl) ?_
          refine lv_iconst (v := (-1)) hx hb dXM_rebuild_59 (by decide) ?_
          refine va_put (D := (dC, dI)) (ci := 3) (v := .int (-1)) (ty := .int) (C := "ParityArrayModel") (T := TXM) (N := 9) hx hb hts (fun w h => List.mem_cons_of_mem _ (inXM w h)) tyXM tyXM_ok nmXM hown hK hP hD hS 0 rfl rfl 2 (by decide) (hts _ (List.mem_cons_of_mem _ tw_393)) (fun _ h9 => h9) rfl (by decide +kernel) rfl rfl (Nat.le_of_ble_eq_true rfl) dXM_rebuild_60 (fun H locs hP hD hS => ?_)
          have hP : va_P (dC, dI) vwCl [(h0, .inr (3, [.ref aB, .int (pz_b (pz_mo x)), .int (-1), .int (pz_b (pz_mf x)), .int (nI ((pz_mr x) + 1)), .int (nI (pz_mF x)), .int (nI (pz_mw x)), .int (nI (pz_mc x)), .int (nI 0)])), (aB, .inl (cB, 76800, .inl f))] H := hP
          have hD : va_D A [(h0, .inr (3, [.ref aB, .int (pz_b (pz_mo x)), .int (-1), .int (pz_b (pz_mf x)), .int (nI ((pz_mr x) + 1)), .int (nI (pz_mF x)), .int (nI (pz_mw x)), .int (nI (pz_mc x)), .int (nI 0)])), (aB, .inl (cB, 76800, .inl f))] := hD
          refine lv_aload_n hx hb dXM_rebuild_63 rfl (lv_at hl 1 rfl) ?_
          refine lv_iconst (v := nI 0) hx hb dXM_rebuild_64 (by decide) ?_
          refine va_put (D := (dC, dI)) (ci := 3) (v := .int (nI 0)) (ty := .boolean) (C := "ParityArrayModel") (T := TXM) (N := 9) hx hb hts (fun w h => List.mem_cons_of_mem _ (inXM w h)) tyXM tyXM_ok nmXM hown hK hP hD hS 0 rfl rfl 3 (by decide) (hts _ (List.mem_cons_of_mem _ tw_394)) (fun _ h9 => h9) rfl (by decide +kernel) rfl rfl (Nat.le_of_ble_eq_true rfl) dXM_rebuild_65 (fun H locs hP hD hS => ?_)
          have hP : va_P (dC, dI) vwCl [(h0, .inr (3, [.ref aB, .int (pz_b (pz_mo x)), .int (-1), .int (pz_b false), .int (nI ((pz_mr x) + 1)), .int (nI (pz_mF x)), .int (nI (pz_mw x)), .int (nI (pz_mc x)), .int (nI 0)])), (aB, .inl (cB, 76800, .inl f))] H := hP
          have hD : va_D A [(h0, .inr (3, [.ref aB, .int (pz_b (pz_mo x)), .int (-1), .int (pz_b false), .int (nI ((pz_mr x) + 1)), .int (nI (pz_mF x)), .int (nI (pz_mw x)), .int (nI (pz_mc x)), .int (nI 0)])), (aB, .inl (cB, 76800, .inl f))] := hD
          refine lv_aload_n hx hb dXM_rebuild_68 rfl (lv_at hl 1 rfl) ?_
          refine lv_iconst (v := nI 0) hx hb dXM_rebuild_69 (by decide) ?_
          refine va_put (D := (dC, dI)) (ci := 3) (v := .int (nI 0)) (ty := .int) (C := "ParityArrayModel") (T := TXM) (N := 9) hx hb hts (fun w h => List.mem_cons_of_mem _ (inXM w h)) tyXM tyXM_ok nmXM hown hK hP hD hS 0 rfl rfl 4 (by decide) (hts _ (List.mem_cons_of_mem _ tw_395)) (fun _ h9 => h9) rfl (by decide +kernel) rfl rfl (Nat.le_of_ble_eq_true rfl) dXM_rebuild_70 (fun H locs hP hD hS => ?_)
          have hP : va_P (dC, dI) vwCl [(h0, .inr (3, [.ref aB, .int (pz_b (pz_mo x)), .int (-1), .int (pz_b false), .int (nI 0), .int (nI (pz_mF x)), .int (nI (pz_mw x)), .int (nI (pz_mc x)), .int (nI 0)])), (aB, .inl (cB, 76800, .inl f))] H := hP
          have hD : va_D A [(h0, .inr (3, [.ref aB, .int (pz_b (pz_mo x)), .int (-1), .int (pz_b false), .int (nI 0), .int (nI (pz_mF x)), .int (nI (pz_mw x)), .int (nI (pz_mc x)), .int (nI 0)])), (aB, .inl (cB, 76800, .inl f))] := hD
          refine lv_iconst (v := nI 0) hx hb dXM_rebuild_73 (by decide) ?_
          exact W.iret (v := nI 0) hx hb hr (fun t ht hW => ⟨⟨_, ((pz_mM x, pz_mo x, none, false, 0, pz_mF x, pz_mw x, pz_mc x), 0, f), rfl, ⟨by unfold pz_gB pz_mreb; rw [if_neg hn, if_pos (by omega), show 150 - (pz_mr x + 1) = 0 by omega], rfl⟩, by rw [ht]; exact hP, va_K.moved hW.alike hK, hAe ▸ hD⟩, hS.F ht⟩) hS.2.2 dXM_rebuild_74
        · have hc : ¬ (150 - ((pz_mr x) + 1)) ≤ 0 := fun h9 => hc ((nI_leI (a := (150 - ((pz_mr x) + 1))) (b := 0) (by omega) (by omega)).mpr h9)
          refine lv_iload_n hx hb dXM_rebuild_56 rfl (lv_at hl 0 rfl) ?_
          exact W.iret (v := nI (150 - ((pz_mr x) + 1))) hx hb hr (fun t ht hW => ⟨⟨_, ((pz_mM x, pz_mo x, pz_ms x, pz_mf x, pz_mr x + 1, pz_mF x, pz_mw x, pz_mc x), 0, f), rfl, ⟨by unfold pz_gB pz_mreb; rw [if_neg hn, if_neg (by omega)], rfl⟩, by rw [ht]; exact hP, va_K.moved hW.alike hK, hAe ▸ hD⟩, hS.F ht⟩) hS.2.2 dXM_rebuild_57
      · have hc : (pz_mf x) = false := pz_b0.mp hc
        refine lv_aload_n hx hb dXM_rebuild_22 rfl (lv_at hl 0 rfl) ?_
        refine lv_iconst (v := nI 1) hx hb dXM_rebuild_23 (by decide) ?_
        have hPc := hP
        have hDc := hD
        have hFc := va_free (wc := [(h0, .inr (3, [.ref aB, .int (pz_b (pz_mo x)), .int (pz_o (pz_ms x)), .int (pz_b (pz_mf x)), .int (nI (pz_mr x)), .int (nI (pz_mF x)), .int (nI (pz_mw x)), .int (nI (pz_mc x)), .int (nI th)])), (aB, .inl (cB, 76800, .inl f))]) hD hS hA [0, 1] rfl
        refine va_calli (va_runV (As := [.int (nI 1)]) (rest := []) ⟨hx, hb, hml, hown, hts⟩ (c_XM_fails l dC dI _ h0 aB cB f x th 1) (cwV 1 hts (pz_gc (List.mem_cons_of_mem _ tw_427) rfl (pz_gc (List.mem_cons_of_mem _ tw_429) rfl (pz_gc (List.mem_cons_of_mem _ ts_9) rfl (pz_gc (List.mem_cons_of_mem _ tw_4) rfl (pz_gi tcXM_fails))))) rfl rfl rfl (by decide +kernel) ⟨Nat.le_of_ble_eq_true rfl, Nat.le_of_ble_eq_true rfl⟩) (pz_preVw (va_recv hK hPc (q0 := 0) rfl rfl) hPc hK hDc) rfl rfl hl.1 rfl (lv_room (Nat.le_of_ble_eq_true rfl)) dXM_rebuild_24 ⟨Nat.zero_le _, Nat.zero_le _⟩) hS (fun q _ h => hFc q h) hFc (fun r u t H1 locs ht hvm hw hB hz hk1 hS => ?_)
        obtain ⟨hP1, hK1, hD1⟩ := hB
        rw [ht] at hP1
        obtain ⟨rfl, rfl⟩ := hw
        obtain ⟨hP, hD⟩ := va_join (wr := []) hP hD [0, 1] [] rfl rfl (by decide) (by decide) hk1 hFc hP1 hD1
        clear hPc hDc hFc hP1 hD1 hK1 hk1 hz ht hvm
        generalize H1 = H at hP hS ⊢
        have hP : va_P (dC, dI) vwCl [(h0, .inr (3, [.ref aB, .int (pz_b (pz_mo x)), .int (pz_o (pz_ms x)), .int (pz_b (pz_mf x)), .int (nI (pz_mr x)), .int (nI (pz_mF x)), .int (nI (pz_mw x)), .int (nI (pz_mc x)), .int (nI 1)])), (aB, .inl (cB, 76800, .inl f))] H := hP
        have hD : va_D A [(h0, .inr (3, [.ref aB, .int (pz_b (pz_mo x)), .int (pz_o (pz_ms x)), .int (pz_b (pz_mf x)), .int (nI (pz_mr x)), .int (nI (pz_mF x)), .int (nI (pz_mw x)), .int (nI (pz_mc x)), .int (nI 1)])), (aB, .inl (cB, 76800, .inl f))] := hD
        exact W.iret (v := nI 0) hx hb hr (fun t ht hW => ⟨⟨_, (x, 1, f), rfl, ⟨by unfold pz_gB; rw [if_pos (Or.inr (Or.inr hc))], rfl⟩, by rw [ht]; exact hP, va_K.moved hW.alike hK, hAe ▸ hD⟩, hS.F ht⟩) hS.2.2 dXM_rebuild_27

set_option maxHeartbeats 4000000 in
set_option maxRecDepth 100000 in
theorem c_XM_power (l : Launch) (dC : Nat → ClassId) (dI : Nat → Nat → Nat) (sz : Nat) (h0 aB : Nat) (cB : ClassId) (f : Nat → Int32) (x : pz_Mu) (th : Nat) (k b : Int32) (r0 : Bool) (hm1 : pz_mr x ≤ 150) (hm2 : pz_mF x ≤ 2) (hm3 : pz_mw x ≤ 10) (hm4 : pz_mc x ≤ 200) (hm5 : ∀ e, pz_ms x = some e → e < 5) (hth : th < 10) : Met l yXM_power wsXM_power ({ frames := 0, cells := 0, slots := 0, locals := 0 }) (va_Pc [.ref h0, .int k, .int b, .int (pz_b r0)] (fun U => U.heap.size = sz ∧ va_P (dC, dI) vwCl (pz_MW h0 aB cB f x th) U.heap ∧ va_K (dC, dI) vwCl [(cB, .byte)] U ∧ va_D (fun _ => True) (pz_MW h0 aB cB f x th))) (va_Qv (fun (u : pz_Mu × Nat × (Nat → Int32)) => (u.1, u.2.1) = pz_gP x k b r0 ∧ u.2.2 = f) (fun u t => va_P (dC, dI) vwCl (pz_MW h0 aB cB u.2.2 u.1 u.2.1) t.heap ∧ va_K (dC, dI) vwCl [(cB, .byte)] t ∧ va_D (va_A (pz_MW h0 aB cB f x th) sz) (pz_MW h0 aB cB u.2.2 u.1 u.2.1)) (va_A (pz_MW h0 aB cB f x th) sz)) 0 0 (va_A (pz_MW h0 aB cB f x th) sz) := by
  refine Met.ofW (cc := cXM_power) (maxL := 4) (ret := none) (by decide) rfl ?_
  intro p e s m args below meth c s₁ B hml hv
  obtain ⟨rfl, hsz, hP, hK, hD0⟩ := hv
  have hx := B.exec
  have hb := B.bytes
  have hr := B.returns
  have hts := atoms_spec (ws := wsXM_power) B.pre
  have hown : s.vm.findClass "ParityArrayModel" = some m.cls := findClass_of_methodNamed B.named
  have hlocks := B.notSynchronized
  subst hsz
  have hD := hD0.self (sz := s.heap.size)
  generalize hAe : va_A (pz_MW h0 aB cB f x th) s.heap.size = A at hD ⊢
  have hA : ∀ q : Nat, s.heap.size ≤ q → A q := fun q h => by rw [← hAe]; exact Or.inr h
  have hS : va_S A s.heap s.heap [] := va_S.rf
  have hl := lv_entry ([.ref h0, .int k, .int b, .int (pz_b r0)]) (n := 4) (Nat.le_of_ble_eq_true rfl)
  rw [lg_entry_eq]
  generalize (lg_sl ([.ref h0, .int k, .int b, .int (pz_b r0)]) ++ List.replicate (4 - (lg_sl ([.ref h0, .int k, .int b, .int (pz_b r0)])).length) Slot.unset).toArray = ls at hl ⊢
  have hl : lv_has ls 4 [(0, .ref h0), (1, .int k), (2, .int b), (3, .int (pz_b r0))] := hl
  have hP : va_P (dC, dI) vwCl [(h0, .inr (3, [.ref aB, .int (pz_b (pz_mo x)), .int (pz_o (pz_ms x)), .int (pz_b (pz_mf x)), .int (nI (pz_mr x)), .int (nI (pz_mF x)), .int (nI (pz_mw x)), .int (nI (pz_mc x)), .int (nI th)])), (aB, .inl (cB, 76800, .inl f))] s.heap := hP
  have hD : va_D A [(h0, .inr (3, [.ref aB, .int (pz_b (pz_mo x)), .int (pz_o (pz_ms x)), .int (pz_b (pz_mf x)), .int (nI (pz_mr x)), .int (nI (pz_mF x)), .int (nI (pz_mw x)), .int (nI (pz_mc x)), .int (nI th)])), (aB, .inl (cB, 76800, .inl f))] := hD
  refine lv_aload_n hx hb dXM_power_0 rfl (lv_at hl 0 rfl) ?_
  refine lv_iload_n hx hb dXM_power_1 rfl (lv_at hl 1 rfl) ?_
  refine lv_if_lt (tgt := 22) hx hb dXM_power_2 (by decide) (fun hc => ?_) (fun hc => ?_)
  · refine lv_iconst (v := nI 1) hx hb dXM_power_22 (by decide) ?_
    refine lv_goto (tgt := 27) hx hb dXM_power_23 (by decide) ?_
    refine va_put (D := (dC, dI)) (ci := 3) (v := .int (nI 1)) (ty := .int) (C := "ParityArrayModel") (T := TXM) (N := 9) hx hb hts (fun w h => List.mem_cons_of_mem _ (inXM w h)) tyXM tyXM_ok nmXM hown hK hP hD hS 0 rfl rfl 8 (by decide) (hts _ (List.mem_cons_of_mem _ tw_399)) (fun _ h9 => h9) rfl (by decide +kernel) rfl rfl (Nat.le_of_ble_eq_true rfl) dXM_power_27 (fun H locs hP hD hS => ?_)
    have hP : va_P (dC, dI) vwCl [(h0, .inr (3, [.ref aB, .int (pz_b (pz_mo x)), .int (pz_o (pz_ms x)), .int (pz_b (pz_mf x)), .int (nI (pz_mr x)), .int (nI (pz_mF x)), .int (nI (pz_mw x)), .int (nI (pz_mc x)), .int (nI 1)])), (aB, .inl (cB, 76800, .inl f))] H := hP
    have hD : va_D A [(h0, .inr (3, [.ref aB, .int (pz_b (pz_mo x)), .int (pz_o (pz_ms x)), .int (pz_b (pz_mf x)), .int (nI (pz_mr x)), .int (nI (pz_mF x)), .int (nI (pz_mw x)), .int (nI (pz_mc x)), .int (nI 1)])), (aB, .inl (cB, 76800, .inl f))] := hD
    refine lv_aload_n hx hb dXM_power_30 rfl (lv_at hl 0 rfl) ?_
    refine va_get (D := (dC, dI)) (ci := 3) (v := .int (nI 1)) (C := "ParityArrayModel") (T := TXM) (N := 9) hx hb hts (fun w h => List.mem_cons_of_mem _ (inXM w h)) hown hK hP 0 rfl rfl 8 (by decide) (hts _ (List.mem_cons_of_mem _ tw_399)) (fun _ h9 => h9) rfl dXM_power_31 ?_
    refine lv_if_eq (tgt := 38) hx hb dXM_power_34 (by decide) (fun hc => absurd hc (by decide)) (fun _ => ?_)
    exact W.vret hx hb hr (fun t ht hW => ⟨⟨(x, 1, f), rfl, ⟨by unfold pz_gP; rw [if_pos (show pz_isW k b = false from decide_eq_false (fun h9 => Int32.not_le.mpr hc h9.1))], rfl⟩, by rw [ht]; exact hP, va_K.moved hW.alike hK, hAe ▸ hD⟩, hS.F ht⟩) hS.2.2 dXM_power_37
  · have h1 := hc
    refine lv_iload_n hx hb dXM_power_5 rfl (lv_at hl 1 rfl) ?_
    refine lv_bipush (v := nI 10) hx hb dXM_power_6 (by decide) ?_
    refine lv_icmp_gt (tgt := 22) hx hb dXM_power_8 (by decide) (fun hc => ?_) (fun hc => ?_)
    · refine lv_iconst (v := nI 1) hx hb dXM_power_22 (by decide) ?_
      refine lv_goto (tgt := 27) hx hb dXM_power_23 (by decide) ?_
      refine va_put (D := (dC, dI)) (ci := 3) (v := .int (nI 1)) (ty := .int) (C := "ParityArrayModel") (T := TXM) (N := 9) hx hb hts (fun w h => List.mem_cons_of_mem _ (inXM w h)) tyXM tyXM_ok nmXM hown hK hP hD hS 0 rfl rfl 8 (by decide) (hts _ (List.mem_cons_of_mem _ tw_399)) (fun _ h9 => h9) rfl (by decide +kernel) rfl rfl (Nat.le_of_ble_eq_true rfl) dXM_power_27 (fun H locs hP hD hS => ?_)
      have hP : va_P (dC, dI) vwCl [(h0, .inr (3, [.ref aB, .int (pz_b (pz_mo x)), .int (pz_o (pz_ms x)), .int (pz_b (pz_mf x)), .int (nI (pz_mr x)), .int (nI (pz_mF x)), .int (nI (pz_mw x)), .int (nI (pz_mc x)), .int (nI 1)])), (aB, .inl (cB, 76800, .inl f))] H := hP
      have hD : va_D A [(h0, .inr (3, [.ref aB, .int (pz_b (pz_mo x)), .int (pz_o (pz_ms x)), .int (pz_b (pz_mf x)), .int (nI (pz_mr x)), .int (nI (pz_mF x)), .int (nI (pz_mw x)), .int (nI (pz_mc x)), .int (nI 1)])), (aB, .inl (cB, 76800, .inl f))] := hD
      refine lv_aload_n hx hb dXM_power_30 rfl (lv_at hl 0 rfl) ?_
      refine va_get (D := (dC, dI)) (ci := 3) (v := .int (nI 1)) (C := "ParityArrayModel") (T := TXM) (N := 9) hx hb hts (fun w h => List.mem_cons_of_mem _ (inXM w h)) hown hK hP 0 rfl rfl 8 (by decide) (hts _ (List.mem_cons_of_mem _ tw_399)) (fun _ h9 => h9) rfl dXM_power_31 ?_
      refine lv_if_eq (tgt := 38) hx hb dXM_power_34 (by decide) (fun hc => absurd hc (by decide)) (fun _ => ?_)
      exact W.vret hx hb hr (fun t ht hW => ⟨⟨(x, 1, f), rfl, ⟨by unfold pz_gP; rw [if_pos (show pz_isW k b = false from decide_eq_false (fun h9 => Int32.not_le.mpr hc ((pz_lt_succ rfl (by decide)).mpr h9.2.1)))], rfl⟩, by rw [ht]; exact hP, va_K.moved hW.alike hK, hAe ▸ hD⟩, hS.F ht⟩) hS.2.2 dXM_power_37
    · have h2 := hc
      refine lv_iload_n hx hb dXM_power_11 rfl (lv_at hl 2 rfl) ?_
      refine lv_if_lt (tgt := 22) hx hb dXM_power_12 (by decide) (fun hc => ?_) (fun hc => ?_)
      · refine lv_iconst (v := nI 1) hx hb dXM_power_22 (by decide) ?_
        refine lv_goto (tgt := 27) hx hb dXM_power_23 (by decide) ?_
        refine va_put (D := (dC, dI)) (ci := 3) (v := .int (nI 1)) (ty := .int) (C := "ParityArrayModel") (T := TXM) (N := 9) hx hb hts (fun w h => List.mem_cons_of_mem _ (inXM w h)) tyXM tyXM_ok nmXM hown hK hP hD hS 0 rfl rfl 8 (by decide) (hts _ (List.mem_cons_of_mem _ tw_399)) (fun _ h9 => h9) rfl (by decide +kernel) rfl rfl (Nat.le_of_ble_eq_true rfl) dXM_power_27 (fun H locs hP hD hS => ?_)
        have hP : va_P (dC, dI) vwCl [(h0, .inr (3, [.ref aB, .int (pz_b (pz_mo x)), .int (pz_o (pz_ms x)), .int (pz_b (pz_mf x)), .int (nI (pz_mr x)), .int (nI (pz_mF x)), .int (nI (pz_mw x)), .int (nI (pz_mc x)), .int (nI 1)])), (aB, .inl (cB, 76800, .inl f))] H := hP
        have hD : va_D A [(h0, .inr (3, [.ref aB, .int (pz_b (pz_mo x)), .int (pz_o (pz_ms x)), .int (pz_b (pz_mf x)), .int (nI (pz_mr x)), .int (nI (pz_mF x)), .int (nI (pz_mw x)), .int (nI (pz_mc x)), .int (nI 1)])), (aB, .inl (cB, 76800, .inl f))] := hD
        refine lv_aload_n hx hb dXM_power_30 rfl (lv_at hl 0 rfl) ?_
        refine va_get (D := (dC, dI)) (ci := 3) (v := .int (nI 1)) (C := "ParityArrayModel") (T := TXM) (N := 9) hx hb hts (fun w h => List.mem_cons_of_mem _ (inXM w h)) hown hK hP 0 rfl rfl 8 (by decide) (hts _ (List.mem_cons_of_mem _ tw_399)) (fun _ h9 => h9) rfl dXM_power_31 ?_
        refine lv_if_eq (tgt := 38) hx hb dXM_power_34 (by decide) (fun hc => absurd hc (by decide)) (fun _ => ?_)
        exact W.vret hx hb hr (fun t ht hW => ⟨⟨(x, 1, f), rfl, ⟨by unfold pz_gP; rw [if_pos (show pz_isW k b = false from decide_eq_false (fun h9 => Int32.not_le.mpr hc h9.2.2.1))], rfl⟩, by rw [ht]; exact hP, va_K.moved hW.alike hK, hAe ▸ hD⟩, hS.F ht⟩) hS.2.2 dXM_power_37
      · have h3 := hc
        refine lv_iload_n hx hb dXM_power_15 rfl (lv_at hl 2 rfl) ?_
        refine lv_sipush (v := nI 200) hx hb dXM_power_16 (by decide) ?_
        refine lv_icmp_le (tgt := 26) hx hb dXM_power_19 (by decide) (fun hc => ?_) (fun hc => ?_)
        · obtain ⟨k0, b0, hk0, hb0, rfl, rfl⟩ := pz_isW_of (decide_eq_true ⟨Int32.not_lt.mp h1, (pz_lt_succ rfl (by decide)).mp (Int32.not_lt.mp h2), Int32.not_lt.mp h3, (pz_lt_succ rfl (by decide)).mp hc⟩ : pz_isW k b = true)
          refine lv_iconst (v := nI 0) hx hb dXM_power_26 (by decide) ?_
          refine va_put (D := (dC, dI)) (ci := 3) (v := .int (nI 0)) (ty := .int) (C := "ParityArrayModel") (T := TXM) (N := 9) hx hb hts (fun w h => List.mem_cons_of_mem _ (inXM w h)) tyXM tyXM_ok nmXM hown hK hP hD hS 0 rfl rfl 8 (by decide) (hts _ (List.mem_cons_of_mem _ tw_399)) (fun _ h9 => h9) rfl (by decide +kernel) rfl rfl (Nat.le_of_ble_eq_true rfl) dXM_power_27 (fun H locs hP hD hS => ?_)
          have hP : va_P (dC, dI) vwCl [(h0, .inr (3, [.ref aB, .int (pz_b (pz_mo x)), .int (pz_o (pz_ms x)), .int (pz_b (pz_mf x)), .int (nI (pz_mr x)), .int (nI (pz_mF x)), .int (nI (pz_mw x)), .int (nI (pz_mc x)), .int (nI 0)])), (aB, .inl (cB, 76800, .inl f))] H := hP
          have hD : va_D A [(h0, .inr (3, [.ref aB, .int (pz_b (pz_mo x)), .int (pz_o (pz_ms x)), .int (pz_b (pz_mf x)), .int (nI (pz_mr x)), .int (nI (pz_mF x)), .int (nI (pz_mw x)), .int (nI (pz_mc x)), .int (nI 0)])), (aB, .inl (cB, 76800, .inl f))] := hD
          refine lv_aload_n hx hb dXM_power_30 rfl (lv_at hl 0 rfl) ?_
          refine va_get (D := (dC, dI)) (ci := 3) (v := .int (nI 0)) (C := "ParityArrayModel") (T := TXM) (N := 9) hx hb hts (fun w h => List.mem_cons_of_mem _ (inXM w h)) hown hK hP 0 rfl rfl 8 (by decide) (hts _ (List.mem_cons_of_mem _ tw_399)) (fun _ h9 => h9) rfl dXM_power_31 ?_
          refine lv_if_eq (tgt := 38) hx hb dXM_power_34 (by decide) (fun _ => ?_) (fun hc => absurd hc (by decide))
          refine lv_aload_n hx hb dXM_power_38 rfl (lv_at hl 0 rfl) ?_
          refine lv_iload_n hx hb dXM_power_39 rfl (lv_at hl 3 rfl) ?_
          refine lv_if_eq (tgt := 47) hx hb dXM_power_40 (by decide) (fun hc => ?_) (fun hc => ?_)
          · have hc : r0 = false := pz_b0.mp hc
            refine lv_iconst (v := nI 1) hx hb dXM_power_47 (by decide) ?_
            refine va_put (D := (dC, dI)) (ci := 3) (v := .int (nI 1)) (ty := .int) (C := "ParityArrayModel") (T := TXM) (N := 9) hx hb hts (fun w h => List.mem_cons_of_mem _ (inXM w h)) tyXM tyXM_ok nmXM hown hK hP hD hS 0 rfl rfl 5 (by decide) (hts _ (List.mem_cons_of_mem _ tw_396)) (fun _ h9 => h9) rfl (by decide +kernel) rfl rfl (Nat.le_of_ble_eq_true rfl) dXM_power_48 (fun H locs hP hD hS => ?_)
            have hP : va_P (dC, dI) vwCl [(h0, .inr (3, [.ref aB, .int (pz_b (pz_mo x)), .int (pz_o (pz_ms x)), .int (pz_b (pz_mf x)), .int (nI (pz_mr x)), .int (nI 1), .int (nI (pz_mw x)), .int (nI (pz_mc x)), .int (nI 0)])), (aB, .inl (cB, 76800, .inl f))] H := hP
            have hD : va_D A [(h0, .inr (3, [.ref aB, .int (pz_b (pz_mo x)), .int (pz_o (pz_ms x)), .int (pz_b (pz_mf x)), .int (nI (pz_mr x)), .int (nI 1), .int (nI (pz_mw x)), .int (nI (pz_mc x)), .int (nI 0)])), (aB, .inl (cB, 76800, .inl f))] := hD
            refine lv_aload_n hx hb dXM_power_51 rfl (lv_at hl 0 rfl) ?_
            refine lv_iload_n hx hb dXM_power_52 rfl (lv_at hl 1 rfl) ?_
            refine va_put (D := (dC, dI)) (ci := 3) (v := .int (nI k0)) (ty := .int) (C := "ParityArrayModel") (T := TXM) (N := 9) hx hb hts (fun w h => List.mem_cons_of_mem _ (inXM w h)) tyXM tyXM_ok nmXM hown hK hP hD hS 0 rfl rfl 6 (by decide) (hts _ (List.mem_cons_of_mem _ tw_397)) (fun _ h9 => h9) rfl (by decide +kernel) rfl rfl (Nat.le_of_ble_eq_true rfl) dXM_power_53 (fun H locs hP hD hS => ?_)
            have hP : va_P (dC, dI) vwCl [(h0, .inr (3, [.ref aB, .int (pz_b (pz_mo x)), .int (pz_o (pz_ms x)), .int (pz_b (pz_mf x)), .int (nI (pz_mr x)), .int (nI 1), .int (nI k0), .int (nI (pz_mc x)), .int (nI 0)])), (aB, .inl (cB, 76800, .inl f))] H := hP
            have hD : va_D A [(h0, .inr (3, [.ref aB, .int (pz_b (pz_mo x)), .int (pz_o (pz_ms x)), .int (pz_b (pz_mf x)), .int (nI (pz_mr x)), .int (nI 1), .int (nI k0), .int (nI (pz_mc x)), .int (nI 0)])), (aB, .inl (cB, 76800, .inl f))] := hD
            refine lv_aload_n hx hb dXM_power_56 rfl (lv_at hl 0 rfl) ?_
            refine lv_iload_n hx hb dXM_power_57 rfl (lv_at hl 2 rfl) ?_
            refine va_put (D := (dC, dI)) (ci := 3) (v := .int (nI b0)) (ty := .int) (C := "ParityArrayModel") (T := TXM) (N := 9) hx hb hts (fun w h => List.mem_cons_of_mem _ (inXM w h)) tyXM tyXM_ok nmXM hown hK hP hD hS 0 rfl rfl 7 (by decide) (hts _ (List.mem_cons_of_mem _ tw_398)) (fun _ h9 => h9) rfl (by decide +kernel) rfl rfl (Nat.le_of_ble_eq_true rfl) dXM_power_58 (fun H locs hP hD hS => ?_)
            have hP : va_P (dC, dI) vwCl [(h0, .inr (3, [.ref aB, .int (pz_b (pz_mo x)), .int (pz_o (pz_ms x)), .int (pz_b (pz_mf x)), .int (nI (pz_mr x)), .int (nI 1), .int (nI k0), .int (nI b0), .int (nI 0)])), (aB, .inl (cB, 76800, .inl f))] H := hP
            have hD : va_D A [(h0, .inr (3, [.ref aB, .int (pz_b (pz_mo x)), .int (pz_o (pz_ms x)), .int (pz_b (pz_mf x)), .int (nI (pz_mr x)), .int (nI 1), .int (nI k0), .int (nI b0), .int (nI 0)])), (aB, .inl (cB, 76800, .inl f))] := hD
            exact W.vret hx hb hr (fun t ht hW => ⟨⟨((pz_mM x, pz_mo x, pz_ms x, pz_mf x, pz_mr x, 1, k0, b0), 0, f), rfl, ⟨by unfold pz_gP; rw [if_neg (by rw [pz_isW_nI hk0 hb0]; decide), nI_clamp (by omega), nI_clamp (by omega), hc]; rfl, rfl⟩, by rw [ht]; exact hP, va_K.moved hW.alike hK, hAe ▸ hD⟩, hS.F ht⟩) hS.2.2 dXM_power_61
          · have hc : r0 = true := pz_bn hc
            refine lv_iconst (v := nI 2) hx hb dXM_power_43 (by decide) ?_
            refine lv_goto (tgt := 48) hx hb dXM_power_44 (by decide) ?_
            refine va_put (D := (dC, dI)) (ci := 3) (v := .int (nI 2)) (ty := .int) (C := "ParityArrayModel") (T := TXM) (N := 9) hx hb hts (fun w h => List.mem_cons_of_mem _ (inXM w h)) tyXM tyXM_ok nmXM hown hK hP hD hS 0 rfl rfl 5 (by decide) (hts _ (List.mem_cons_of_mem _ tw_396)) (fun _ h9 => h9) rfl (by decide +kernel) rfl rfl (Nat.le_of_ble_eq_true rfl) dXM_power_48 (fun H locs hP hD hS => ?_)
            have hP : va_P (dC, dI) vwCl [(h0, .inr (3, [.ref aB, .int (pz_b (pz_mo x)), .int (pz_o (pz_ms x)), .int (pz_b (pz_mf x)), .int (nI (pz_mr x)), .int (nI 2), .int (nI (pz_mw x)), .int (nI (pz_mc x)), .int (nI 0)])), (aB, .inl (cB, 76800, .inl f))] H := hP
            have hD : va_D A [(h0, .inr (3, [.ref aB, .int (pz_b (pz_mo x)), .int (pz_o (pz_ms x)), .int (pz_b (pz_mf x)), .int (nI (pz_mr x)), .int (nI 2), .int (nI (pz_mw x)), .int (nI (pz_mc x)), .int (nI 0)])), (aB, .inl (cB, 76800, .inl f))] := hD
            refine lv_aload_n hx hb dXM_power_51 rfl (lv_at hl 0 rfl) ?_
            refine lv_iload_n hx hb dXM_power_52 rfl (lv_at hl 1 rfl) ?_
            refine va_put (D := (dC, dI)) (ci := 3) (v := .int (nI k0)) (ty := .int) (C := "ParityArrayModel") (T := TXM) (N := 9) hx hb hts (fun w h => List.mem_cons_of_mem _ (inXM w h)) tyXM tyXM_ok nmXM hown hK hP hD hS 0 rfl rfl 6 (by decide) (hts _ (List.mem_cons_of_mem _ tw_397)) (fun _ h9 => h9) rfl (by decide +kernel) rfl rfl (Nat.le_of_ble_eq_true rfl) dXM_power_53 (fun H locs hP hD hS => ?_)
            have hP : va_P (dC, dI) vwCl [(h0, .inr (3, [.ref aB, .int (pz_b (pz_mo x)), .int (pz_o (pz_ms x)), .int (pz_b (pz_mf x)), .int (nI (pz_mr x)), .int (nI 2), .int (nI k0), .int (nI (pz_mc x)), .int (nI 0)])), (aB, .inl (cB, 76800, .inl f))] H := hP
            have hD : va_D A [(h0, .inr (3, [.ref aB, .int (pz_b (pz_mo x)), .int (pz_o (pz_ms x)), .int (pz_b (pz_mf x)), .int (nI (pz_mr x)), .int (nI 2), .int (nI k0), .int (nI (pz_mc x)), .int (nI 0)])), (aB, .inl (cB, 76800, .inl f))] := hD
            refine lv_aload_n hx hb dXM_power_56 rfl (lv_at hl 0 rfl) ?_
            refine lv_iload_n hx hb dXM_power_57 rfl (lv_at hl 2 rfl) ?_
            refine va_put (D := (dC, dI)) (ci := 3) (v := .int (nI b0)) (ty := .int) (C := "ParityArrayModel") (T := TXM) (N := 9) hx hb hts (fun w h => List.mem_cons_of_mem _ (inXM w h)) tyXM tyXM_ok nmXM hown hK hP hD hS 0 rfl rfl 7 (by decide) (hts _ (List.mem_cons_of_mem _ tw_398)) (fun _ h9 => h9) rfl (by decide +kernel) rfl rfl (Nat.le_of_ble_eq_true rfl) dXM_power_58 (fun H locs hP hD hS => ?_)
            have hP : va_P (dC, dI) vwCl [(h0, .inr (3, [.ref aB, .int (pz_b (pz_mo x)), .int (pz_o (pz_ms x)), .int (pz_b (pz_mf x)), .int (nI (pz_mr x)), .int (nI 2), .int (nI k0), .int (nI b0), .int (nI 0)])), (aB, .inl (cB, 76800, .inl f))] H := hP
            have hD : va_D A [(h0, .inr (3, [.ref aB, .int (pz_b (pz_mo x)), .int (pz_o (pz_ms x)), .int (pz_b (pz_mf x)), .int (nI (pz_mr x)), .int (nI 2), .int (nI k0), .int (nI b0), .int (nI 0)])), (aB, .inl (cB, 76800, .inl f))] := hD
            exact W.vret hx hb hr (fun t ht hW => ⟨⟨((pz_mM x, pz_mo x, pz_ms x, pz_mf x, pz_mr x, 2, k0, b0), 0, f), rfl, ⟨by unfold pz_gP; rw [if_neg (by rw [pz_isW_nI hk0 hb0]; decide), nI_clamp (by omega), nI_clamp (by omega), hc]; rfl, rfl⟩, by rw [ht]; exact hP, va_K.moved hW.alike hK, hAe ▸ hD⟩, hS.F ht⟩) hS.2.2 dXM_power_61
        · refine lv_iconst (v := nI 1) hx hb dXM_power_22 (by decide) ?_
          refine lv_goto (tgt := 27) hx hb dXM_power_23 (by decide) ?_
          refine va_put (D := (dC, dI)) (ci := 3) (v := .int (nI 1)) (ty := .int) (C := "ParityArrayModel") (T := TXM) (N := 9) hx hb hts (fun w h => List.mem_cons_of_mem _ (inXM w h)) tyXM tyXM_ok nmXM hown hK hP hD hS 0 rfl rfl 8 (by decide) (hts _ (List.mem_cons_of_mem _ tw_399)) (fun _ h9 => h9) rfl (by decide +kernel) rfl rfl (Nat.le_of_ble_eq_true rfl) dXM_power_27 (fun H locs hP hD hS => ?_)
          have hP : va_P (dC, dI) vwCl [(h0, .inr (3, [.ref aB, .int (pz_b (pz_mo x)), .int (pz_o (pz_ms x)), .int (pz_b (pz_mf x)), .int (nI (pz_mr x)), .int (nI (pz_mF x)), .int (nI (pz_mw x)), .int (nI (pz_mc x)), .int (nI 1)])), (aB, .inl (cB, 76800, .inl f))] H := hP
          have hD : va_D A [(h0, .inr (3, [.ref aB, .int (pz_b (pz_mo x)), .int (pz_o (pz_ms x)), .int (pz_b (pz_mf x)), .int (nI (pz_mr x)), .int (nI (pz_mF x)), .int (nI (pz_mw x)), .int (nI (pz_mc x)), .int (nI 1)])), (aB, .inl (cB, 76800, .inl f))] := hD
          refine lv_aload_n hx hb dXM_power_30 rfl (lv_at hl 0 rfl) ?_
          refine va_get (D := (dC, dI)) (ci := 3) (v := .int (nI 1)) (C := "ParityArrayModel") (T := TXM) (N := 9) hx hb hts (fun w h => List.mem_cons_of_mem _ (inXM w h)) hown hK hP 0 rfl rfl 8 (by decide) (hts _ (List.mem_cons_of_mem _ tw_399)) (fun _ h9 => h9) rfl dXM_power_31 ?_
          refine lv_if_eq (tgt := 38) hx hb dXM_power_34 (by decide) (fun hc => absurd hc (by decide)) (fun _ => ?_)
          exact W.vret hx hb hr (fun t ht hW => ⟨⟨(x, 1, f), rfl, ⟨by unfold pz_gP; rw [if_pos (show pz_isW k b = false from decide_eq_false (fun h9 => hc ((pz_lt_succ rfl (by decide)).mpr h9.2.2.2)))], rfl⟩, by rw [ht]; exact hP, va_K.moved hW.alike hK, hAe ▸ hD⟩, hS.F ht⟩) hS.2.2 dXM_power_37

set_option maxHeartbeats 4000000 in
set_option maxRecDepth 100000 in
theorem c_XM_recover (l : Launch) (dC : Nat → ClassId) (dI : Nat → Nat → Nat) (sz : Nat) (h0 aB : Nat) (cB : ClassId) (f : Nat → Int32) (x : pz_Mu) (th : Nat) (hm1 : pz_mr x ≤ 150) (hm2 : pz_mF x ≤ 2) (hm3 : pz_mw x ≤ 10) (hm4 : pz_mc x ≤ 200) (hm5 : ∀ e, pz_ms x = some e → e < 5) (hth : th < 10) : Met l yXM_recover wsXM_recover ({ frames := 0, cells := 0, slots := 0, locals := 0 }) (va_Pc [.ref h0] (fun U => U.heap.size = sz ∧ va_P (dC, dI) vwCl (pz_MW h0 aB cB f x th) U.heap ∧ va_K (dC, dI) vwCl [(cB, .byte)] U ∧ va_D (fun _ => True) (pz_MW h0 aB cB f x th))) (va_Qv (fun (u : pz_Mu × Nat × (Nat → Int32)) => (u.1, u.2.1) = (pz_mrec x, if pz_mF x = 2 then 1 else 0) ∧ u.2.2 = f) (fun u t => va_P (dC, dI) vwCl (pz_MW h0 aB cB u.2.2 u.1 u.2.1) t.heap ∧ va_K (dC, dI) vwCl [(cB, .byte)] t ∧ va_D (va_A (pz_MW h0 aB cB f x th) sz) (pz_MW h0 aB cB u.2.2 u.1 u.2.1)) (va_A (pz_MW h0 aB cB f x th) sz)) 0 0 (va_A (pz_MW h0 aB cB f x th) sz) := by
  refine Met.ofW (cc := cXM_recover) (maxL := 1) (ret := none) (by decide) rfl ?_
  intro p e s m args below meth c s₁ B hml hv
  obtain ⟨rfl, hsz, hP, hK, hD0⟩ := hv
  have hx := B.exec
  have hb := B.bytes
  have hr := B.returns
  have hts := atoms_spec (ws := wsXM_recover) B.pre
  have hown : s.vm.findClass "ParityArrayModel" = some m.cls := findClass_of_methodNamed B.named
  have hlocks := B.notSynchronized
  subst hsz
  have hD := hD0.self (sz := s.heap.size)
  generalize hAe : va_A (pz_MW h0 aB cB f x th) s.heap.size = A at hD ⊢
  have hA : ∀ q : Nat, s.heap.size ≤ q → A q := fun q h => by rw [← hAe]; exact Or.inr h
  have hS : va_S A s.heap s.heap [] := va_S.rf
  have hl := lv_entry ([.ref h0]) (n := 1) (Nat.le_of_ble_eq_true rfl)
  rw [lg_entry_eq]
  generalize (lg_sl ([.ref h0]) ++ List.replicate (1 - (lg_sl ([.ref h0])).length) Slot.unset).toArray = ls at hl ⊢
  have hl : lv_has ls 1 [(0, .ref h0)] := hl
  have hP : va_P (dC, dI) vwCl [(h0, .inr (3, [.ref aB, .int (pz_b (pz_mo x)), .int (pz_o (pz_ms x)), .int (pz_b (pz_mf x)), .int (nI (pz_mr x)), .int (nI (pz_mF x)), .int (nI (pz_mw x)), .int (nI (pz_mc x)), .int (nI th)])), (aB, .inl (cB, 76800, .inl f))] s.heap := hP
  have hD : va_D A [(h0, .inr (3, [.ref aB, .int (pz_b (pz_mo x)), .int (pz_o (pz_ms x)), .int (pz_b (pz_mf x)), .int (nI (pz_mr x)), .int (nI (pz_mF x)), .int (nI (pz_mw x)), .int (nI (pz_mc x)), .int (nI th)])), (aB, .inl (cB, 76800, .inl f))] := hD
  refine lv_aload_n hx hb dXM_recover_0 rfl (lv_at hl 0 rfl) ?_
  refine lv_aload_n hx hb dXM_recover_1 rfl (lv_at hl 0 rfl) ?_
  refine va_get (D := (dC, dI)) (ci := 3) (v := .int (nI (pz_mF x))) (C := "ParityArrayModel") (T := TXM) (N := 9) hx hb hts (fun w h => List.mem_cons_of_mem _ (inXM w h)) hown hK hP 0 rfl rfl 5 (by decide) (hts _ (List.mem_cons_of_mem _ tw_396)) (fun _ h9 => h9) rfl dXM_recover_2 ?_
  refine lv_iconst (v := nI 2) hx hb dXM_recover_5 (by decide) ?_
  refine lv_icmp_eq (tgt := 13) hx hb dXM_recover_6 (by decide) (fun hc => ?_) (fun hc => ?_)
  · have hc : (pz_mF x) = 2 := (nI_eq (a := (pz_mF x)) (b := 2) (by omega) (by omega)).mp hc
    have h2 := hc
    refine lv_iconst (v := nI 0) hx hb dXM_recover_13 (by decide) ?_
    refine va_put (D := (dC, dI)) (ci := 3) (v := .int (nI 0)) (ty := .boolean) (C := "ParityArrayModel") (T := TXM) (N := 9) hx hb hts (fun w h => List.mem_cons_of_mem _ (inXM w h)) tyXM tyXM_ok nmXM hown hK hP hD hS 0 rfl rfl 1 (by decide) (hts _ (List.mem_cons_of_mem _ tw_392)) (fun _ h9 => h9) rfl (by decide +kernel) rfl rfl (Nat.le_of_ble_eq_true rfl) dXM_recover_14 (fun H locs hP hD hS => ?_)
    have hP : va_P (dC, dI) vwCl [(h0, .inr (3, [.ref aB, .int (pz_b false), .int (pz_o (pz_ms x)), .int (pz_b (pz_mf x)), .int (nI (pz_mr x)), .int (nI (pz_mF x)), .int (nI (pz_mw x)), .int (nI (pz_mc x)), .int (nI th)])), (aB, .inl (cB, 76800, .inl f))] H := hP
    have hD : va_D A [(h0, .inr (3, [.ref aB, .int (pz_b false), .int (pz_o (pz_ms x)), .int (pz_b (pz_mf x)), .int (nI (pz_mr x)), .int (nI (pz_mF x)), .int (nI (pz_mw x)), .int (nI (pz_mc x)), .int (nI th)])), (aB, .inl (cB, 76800, .inl f))] := hD
    refine lv_aload_n hx hb dXM_recover_17 rfl (lv_at hl 0 rfl) ?_
    refine lv_aload_n hx hb dXM_recover_18 rfl (lv_at hl 0 rfl) ?_
    refine va_get (D := (dC, dI)) (ci := 3) (v := .int (pz_b false)) (C := "ParityArrayModel") (T := TXM) (N := 9) hx hb hts (fun w h => List.mem_cons_of_mem _ (inXM w h)) hown hK hP 0 rfl rfl 1 (by decide) (hts _ (List.mem_cons_of_mem _ tw_392)) (fun _ h9 => h9) rfl dXM_recover_19 ?_
    refine lv_if_eq (tgt := 29) hx hb dXM_recover_22 (by decide) (fun _ => ?_) (fun hc => absurd hc (by decide))
    refine lv_iconst (v := nI 1) hx hb dXM_recover_29 (by decide) ?_
    refine va_put (D := (dC, dI)) (ci := 3) (v := .int (nI 1)) (ty := .int) (C := "ParityArrayModel") (T := TXM) (N := 9) hx hb hts (fun w h => List.mem_cons_of_mem _ (inXM w h)) tyXM tyXM_ok nmXM hown hK hP hD hS 0 rfl rfl 8 (by decide) (hts _ (List.mem_cons_of_mem _ tw_399)) (fun _ h9 => h9) rfl (by decide +kernel) rfl rfl (Nat.le_of_ble_eq_true rfl) dXM_recover_30 (fun H locs hP hD hS => ?_)
    have hP : va_P (dC, dI) vwCl [(h0, .inr (3, [.ref aB, .int (pz_b false), .int (pz_o (pz_ms x)), .int (pz_b (pz_mf x)), .int (nI (pz_mr x)), .int (nI (pz_mF x)), .int (nI (pz_mw x)), .int (nI (pz_mc x)), .int (nI 1)])), (aB, .inl (cB, 76800, .inl f))] H := hP
    have hD : va_D A [(h0, .inr (3, [.ref aB, .int (pz_b false), .int (pz_o (pz_ms x)), .int (pz_b (pz_mf x)), .int (nI (pz_mr x)), .int (nI (pz_mF x)), .int (nI (pz_mw x)), .int (nI (pz_mc x)), .int (nI 1)])), (aB, .inl (cB, 76800, .inl f))] := hD
    refine lv_aload_n hx hb dXM_recover_33 rfl (lv_at hl 0 rfl) ?_
    refine lv_iconst (v := nI 0) hx hb dXM_recover_34 (by decide) ?_
    refine va_put (D := (dC, dI)) (ci := 3) (v := .int (nI 0)) (ty := .int) (C := "ParityArrayModel") (T := TXM) (N := 9) hx hb hts (fun w h => List.mem_cons_of_mem _ (inXM w h)) tyXM tyXM_ok nmXM hown hK hP hD hS 0 rfl rfl 5 (by decide) (hts _ (List.mem_cons_of_mem _ tw_396)) (fun _ h9 => h9) rfl (by decide +kernel) rfl rfl (Nat.le_of_ble_eq_true rfl) dXM_recover_35 (fun H locs hP hD hS => ?_)
    have hP : va_P (dC, dI) vwCl [(h0, .inr (3, [.ref aB, .int (pz_b false), .int (pz_o (pz_ms x)), .int (pz_b (pz_mf x)), .int (nI (pz_mr x)), .int (nI 0), .int (nI (pz_mw x)), .int (nI (pz_mc x)), .int (nI 1)])), (aB, .inl (cB, 76800, .inl f))] H := hP
    have hD : va_D A [(h0, .inr (3, [.ref aB, .int (pz_b false), .int (pz_o (pz_ms x)), .int (pz_b (pz_mf x)), .int (nI (pz_mr x)), .int (nI 0), .int (nI (pz_mw x)), .int (nI (pz_mc x)), .int (nI 1)])), (aB, .inl (cB, 76800, .inl f))] := hD
    exact W.vret hx hb hr (fun t ht hW => ⟨⟨((pz_mM x, false, pz_ms x, pz_mf x, pz_mr x, 0, pz_mw x, pz_mc x), 1, f), rfl, ⟨by unfold pz_mrec; simp [h2], rfl⟩, by rw [ht]; exact hP, va_K.moved hW.alike hK, hAe ▸ hD⟩, hS.F ht⟩) hS.2.2 dXM_recover_38
  · have hc : ¬ (pz_mF x) = 2 := fun h9 => hc ((nI_eq (a := (pz_mF x)) (b := 2) (by omega) (by omega)).mpr h9)
    have h2 := hc
    refine lv_iconst (v := nI 1) hx hb dXM_recover_9 (by decide) ?_
    refine lv_goto (tgt := 14) hx hb dXM_recover_10 (by decide) ?_
    refine va_put (D := (dC, dI)) (ci := 3) (v := .int (nI 1)) (ty := .boolean) (C := "ParityArrayModel") (T := TXM) (N := 9) hx hb hts (fun w h => List.mem_cons_of_mem _ (inXM w h)) tyXM tyXM_ok nmXM hown hK hP hD hS 0 rfl rfl 1 (by decide) (hts _ (List.mem_cons_of_mem _ tw_392)) (fun _ h9 => h9) rfl (by decide +kernel) rfl rfl (Nat.le_of_ble_eq_true rfl) dXM_recover_14 (fun H locs hP hD hS => ?_)
    have hP : va_P (dC, dI) vwCl [(h0, .inr (3, [.ref aB, .int (pz_b true), .int (pz_o (pz_ms x)), .int (pz_b (pz_mf x)), .int (nI (pz_mr x)), .int (nI (pz_mF x)), .int (nI (pz_mw x)), .int (nI (pz_mc x)), .int (nI th)])), (aB, .inl (cB, 76800, .inl f))] H := hP
    have hD : va_D A [(h0, .inr (3, [.ref aB, .int (pz_b true), .int (pz_o (pz_ms x)), .int (pz_b (pz_mf x)), .int (nI (pz_mr x)), .int (nI (pz_mF x)), .int (nI (pz_mw x)), .int (nI (pz_mc x)), .int (nI th)])), (aB, .inl (cB, 76800, .inl f))] := hD
    refine lv_aload_n hx hb dXM_recover_17 rfl (lv_at hl 0 rfl) ?_
    refine lv_aload_n hx hb dXM_recover_18 rfl (lv_at hl 0 rfl) ?_
    refine va_get (D := (dC, dI)) (ci := 3) (v := .int (pz_b true)) (C := "ParityArrayModel") (T := TXM) (N := 9) hx hb hts (fun w h => List.mem_cons_of_mem _ (inXM w h)) hown hK hP 0 rfl rfl 1 (by decide) (hts _ (List.mem_cons_of_mem _ tw_392)) (fun _ h9 => h9) rfl dXM_recover_19 ?_
    refine lv_if_eq (tgt := 29) hx hb dXM_recover_22 (by decide) (fun hc => absurd hc (by decide)) (fun _ => ?_)
    refine lv_iconst (v := nI 0) hx hb dXM_recover_25 (by decide) ?_
    refine lv_goto (tgt := 30) hx hb dXM_recover_26 (by decide) ?_
    refine va_put (D := (dC, dI)) (ci := 3) (v := .int (nI 0)) (ty := .int) (C := "ParityArrayModel") (T := TXM) (N := 9) hx hb hts (fun w h => List.mem_cons_of_mem _ (inXM w h)) tyXM tyXM_ok nmXM hown hK hP hD hS 0 rfl rfl 8 (by decide) (hts _ (List.mem_cons_of_mem _ tw_399)) (fun _ h9 => h9) rfl (by decide +kernel) rfl rfl (Nat.le_of_ble_eq_true rfl) dXM_recover_30 (fun H locs hP hD hS => ?_)
    have hP : va_P (dC, dI) vwCl [(h0, .inr (3, [.ref aB, .int (pz_b true), .int (pz_o (pz_ms x)), .int (pz_b (pz_mf x)), .int (nI (pz_mr x)), .int (nI (pz_mF x)), .int (nI (pz_mw x)), .int (nI (pz_mc x)), .int (nI 0)])), (aB, .inl (cB, 76800, .inl f))] H := hP
    have hD : va_D A [(h0, .inr (3, [.ref aB, .int (pz_b true), .int (pz_o (pz_ms x)), .int (pz_b (pz_mf x)), .int (nI (pz_mr x)), .int (nI (pz_mF x)), .int (nI (pz_mw x)), .int (nI (pz_mc x)), .int (nI 0)])), (aB, .inl (cB, 76800, .inl f))] := hD
    refine lv_aload_n hx hb dXM_recover_33 rfl (lv_at hl 0 rfl) ?_
    refine lv_iconst (v := nI 0) hx hb dXM_recover_34 (by decide) ?_
    refine va_put (D := (dC, dI)) (ci := 3) (v := .int (nI 0)) (ty := .int) (C := "ParityArrayModel") (T := TXM) (N := 9) hx hb hts (fun w h => List.mem_cons_of_mem _ (inXM w h)) tyXM tyXM_ok nmXM hown hK hP hD hS 0 rfl rfl 5 (by decide) (hts _ (List.mem_cons_of_mem _ tw_396)) (fun _ h9 => h9) rfl (by decide +kernel) rfl rfl (Nat.le_of_ble_eq_true rfl) dXM_recover_35 (fun H locs hP hD hS => ?_)
    have hP : va_P (dC, dI) vwCl [(h0, .inr (3, [.ref aB, .int (pz_b true), .int (pz_o (pz_ms x)), .int (pz_b (pz_mf x)), .int (nI (pz_mr x)), .int (nI 0), .int (nI (pz_mw x)), .int (nI (pz_mc x)), .int (nI 0)])), (aB, .inl (cB, 76800, .inl f))] H := hP
    have hD : va_D A [(h0, .inr (3, [.ref aB, .int (pz_b true), .int (pz_o (pz_ms x)), .int (pz_b (pz_mf x)), .int (nI (pz_mr x)), .int (nI 0), .int (nI (pz_mw x)), .int (nI (pz_mc x)), .int (nI 0)])), (aB, .inl (cB, 76800, .inl f))] := hD
    exact W.vret hx hb hr (fun t ht hW => ⟨⟨((pz_mM x, true, pz_ms x, pz_mf x, pz_mr x, 0, pz_mw x, pz_mc x), 0, f), rfl, ⟨by unfold pz_mrec; simp [h2], rfl⟩, by rw [ht]; exact hP, va_K.moved hW.alike hK, hAe ▸ hD⟩, hS.F ht⟩) hS.2.2 dXM_recover_38

set_option maxHeartbeats 4000000 in
set_option maxRecDepth 100000 in
theorem c_XM_told (l : Launch) (dC : Nat → ClassId) (dI : Nat → Nat → Nat) (sz : Nat) (h0 aB : Nat) (cB : ClassId) (f : Nat → Int32) (x : pz_Mu) (th : Nat) (w0 : Int32) (hm1 : pz_mr x ≤ 150) (hm2 : pz_mF x ≤ 2) (hm3 : pz_mw x ≤ 10) (hm4 : pz_mc x ≤ 200) (hm5 : ∀ e, pz_ms x = some e → e < 5) (hth : th < 10) : Met l yXM_told wsXM_told ({ frames := 1, cells := 0, slots := 0, locals := 21 }) (va_Pc [.ref h0, .int w0] (fun U => U.heap.size = sz ∧ va_P (dC, dI) vwCl (pz_MW h0 aB cB f x th) U.heap ∧ va_K (dC, dI) vwCl [(cB, .byte)] U ∧ va_D (fun _ => True) (pz_MW h0 aB cB f x th))) (va_Qi (fun (r : Int32) (u : pz_Mu × Nat × (Nat → Int32)) => (r, u.2.1) = pz_gT x w0 ∧ u.1 = x ∧ u.2.2 = f) (fun u t => va_P (dC, dI) vwCl (pz_MW h0 aB cB u.2.2 u.1 u.2.1) t.heap ∧ va_K (dC, dI) vwCl [(cB, .byte)] t ∧ va_D (va_A (pz_MW h0 aB cB f x th) sz) (pz_MW h0 aB cB u.2.2 u.1 u.2.1)) (va_A (pz_MW h0 aB cB f x th) sz)) 0 0 (va_A (pz_MW h0 aB cB f x th) sz) := by
  refine Met.ofW (cc := cXM_told) (maxL := 2) (ret := (some .int)) (by decide) rfl ?_
  intro p e s m args below meth c s₁ B hml hv
  obtain ⟨rfl, hsz, hP, hK, hD0⟩ := hv
  have hx := B.exec
  have hb := B.bytes
  have hr := B.returns
  have hts := atoms_spec (ws := wsXM_told) B.pre
  have hown : s.vm.findClass "ParityArrayModel" = some m.cls := findClass_of_methodNamed B.named
  have hlocks := B.notSynchronized
  subst hsz
  have hD := hD0.self (sz := s.heap.size)
  generalize hAe : va_A (pz_MW h0 aB cB f x th) s.heap.size = A at hD ⊢
  have hA : ∀ q : Nat, s.heap.size ≤ q → A q := fun q h => by rw [← hAe]; exact Or.inr h
  have hS : va_S A s.heap s.heap [] := va_S.rf
  have hl := lv_entry ([.ref h0, .int w0]) (n := 2) (Nat.le_of_ble_eq_true rfl)
  rw [lg_entry_eq]
  generalize (lg_sl ([.ref h0, .int w0]) ++ List.replicate (2 - (lg_sl ([.ref h0, .int w0])).length) Slot.unset).toArray = ls at hl ⊢
  have hl : lv_has ls 2 [(0, .ref h0), (1, .int w0)] := hl
  have hP : va_P (dC, dI) vwCl [(h0, .inr (3, [.ref aB, .int (pz_b (pz_mo x)), .int (pz_o (pz_ms x)), .int (pz_b (pz_mf x)), .int (nI (pz_mr x)), .int (nI (pz_mF x)), .int (nI (pz_mw x)), .int (nI (pz_mc x)), .int (nI th)])), (aB, .inl (cB, 76800, .inl f))] s.heap := hP
  have hD : va_D A [(h0, .inr (3, [.ref aB, .int (pz_b (pz_mo x)), .int (pz_o (pz_ms x)), .int (pz_b (pz_mf x)), .int (nI (pz_mr x)), .int (nI (pz_mF x)), .int (nI (pz_mw x)), .int (nI (pz_mc x)), .int (nI th)])), (aB, .inl (cB, 76800, .inl f))] := hD
  refine lv_iload_n hx hb dXM_told_0 rfl (lv_at hl 1 rfl) ?_
  refine lv_if_lt (tgt := 9) hx hb dXM_told_1 (by decide) (fun hc => ?_) (fun hc => ?_)
  · refine lv_aload_n hx hb dXM_told_9 rfl (lv_at hl 0 rfl) ?_
    refine lv_iconst (v := nI 1) hx hb dXM_told_10 (by decide) ?_
    have hPc := hP
    have hDc := hD
    have hFc := va_free (wc := [(h0, .inr (3, [.ref aB, .int (pz_b (pz_mo x)), .int (pz_o (pz_ms x)), .int (pz_b (pz_mf x)), .int (nI (pz_mr x)), .int (nI (pz_mF x)), .int (nI (pz_mw x)), .int (nI (pz_mc x)), .int (nI th)])), (aB, .inl (cB, 76800, .inl f))]) hD hS hA [0, 1] rfl
    refine va_calli (va_runV (As := [.int (nI 1)]) (rest := []) ⟨hx, hb, hml, hown, hts⟩ (c_XM_fails l dC dI _ h0 aB cB f x th 1) (cwV 1 hts (pz_gc (List.mem_cons_of_mem _ tw_427) rfl (pz_gc (List.mem_cons_of_mem _ tw_429) rfl (pz_gc (List.mem_cons_of_mem _ ts_9) rfl (pz_gc (List.mem_cons_of_mem _ tw_4) rfl (pz_gi tcXM_fails))))) rfl rfl rfl (by decide +kernel) ⟨Nat.le_of_ble_eq_true rfl, Nat.le_of_ble_eq_true rfl⟩) (pz_preVw (va_recv hK hPc (q0 := 0) rfl rfl) hPc hK hDc) rfl rfl hl.1 rfl (lv_room (Nat.le_of_ble_eq_true rfl)) dXM_told_11 ⟨Nat.zero_le _, Nat.zero_le _⟩) hS (fun q _ h => hFc q h) hFc (fun r u t H1 locs ht hvm hw hB hz hk1 hS => ?_)
    obtain ⟨hP1, hK1, hD1⟩ := hB
    rw [ht] at hP1
    obtain ⟨rfl, rfl⟩ := hw
    obtain ⟨hP, hD⟩ := va_join (wr := []) hP hD [0, 1] [] rfl rfl (by decide) (by decide) hk1 hFc hP1 hD1
    clear hPc hDc hFc hP1 hD1 hK1 hk1 hz ht hvm
    generalize H1 = H at hP hS ⊢
    have hP : va_P (dC, dI) vwCl [(h0, .inr (3, [.ref aB, .int (pz_b (pz_mo x)), .int (pz_o (pz_ms x)), .int (pz_b (pz_mf x)), .int (nI (pz_mr x)), .int (nI (pz_mF x)), .int (nI (pz_mw x)), .int (nI (pz_mc x)), .int (nI 1)])), (aB, .inl (cB, 76800, .inl f))] H := hP
    have hD : va_D A [(h0, .inr (3, [.ref aB, .int (pz_b (pz_mo x)), .int (pz_o (pz_ms x)), .int (pz_b (pz_mf x)), .int (nI (pz_mr x)), .int (nI (pz_mF x)), .int (nI (pz_mw x)), .int (nI (pz_mc x)), .int (nI 1)])), (aB, .inl (cB, 76800, .inl f))] := hD
    exact W.iret (v := nI 0) hx hb hr (fun t ht hW => ⟨⟨_, (x, 1, f), rfl, ⟨by unfold pz_gT; rw [if_pos (Or.inl hc)], rfl, rfl⟩, by rw [ht]; exact hP, va_K.moved hW.alike hK, hAe ▸ hD⟩, hS.F ht⟩) hS.2.2 dXM_told_14
  · have h1 := hc
    refine lv_iload_n hx hb dXM_told_4 rfl (lv_at hl 1 rfl) ?_
    refine lv_iconst (v := nI 3) hx hb dXM_told_5 (by decide) ?_
    refine lv_icmp_le (tgt := 15) hx hb dXM_told_6 (by decide) (fun hc => ?_) (fun hc => ?_)
    · have hn : ¬ (w0 < 0 ∨ nI 4 ≤ w0) := fun h9 => h9.elim h1 (fun h => Int32.not_lt.mpr h ((pz_lt_succ rfl (by decide)).mp hc))
      refine lv_aload_n hx hb dXM_told_15 rfl (lv_at hl 0 rfl) ?_
      refine lv_iconst (v := nI 0) hx hb dXM_told_16 (by decide) ?_
      refine va_put (D := (dC, dI)) (ci := 3) (v := .int (nI 0)) (ty := .int) (C := "ParityArrayModel") (T := TXM) (N := 9) hx hb hts (fun w h => List.mem_cons_of_mem _ (inXM w h)) tyXM tyXM_ok nmXM hown hK hP hD hS 0 rfl rfl 8 (by decide) (hts _ (List.mem_cons_of_mem _ tw_399)) (fun _ h9 => h9) rfl (by decide +kernel) rfl rfl (Nat.le_of_ble_eq_true rfl) dXM_told_17 (fun H locs hP hD hS => ?_)
      have hP : va_P (dC, dI) vwCl [(h0, .inr (3, [.ref aB, .int (pz_b (pz_mo x)), .int (pz_o (pz_ms x)), .int (pz_b (pz_mf x)), .int (nI (pz_mr x)), .int (nI (pz_mF x)), .int (nI (pz_mw x)), .int (nI (pz_mc x)), .int (nI 0)])), (aB, .inl (cB, 76800, .inl f))] H := hP
      have hD : va_D A [(h0, .inr (3, [.ref aB, .int (pz_b (pz_mo x)), .int (pz_o (pz_ms x)), .int (pz_b (pz_mf x)), .int (nI (pz_mr x)), .int (nI (pz_mF x)), .int (nI (pz_mw x)), .int (nI (pz_mc x)), .int (nI 0)])), (aB, .inl (cB, 76800, .inl f))] := hD
      refine lv_iload_n hx hb dXM_told_20 rfl (lv_at hl 1 rfl) ?_
      refine lv_if_ne (tgt := 39) hx hb dXM_told_21 (by decide) (fun hc => ?_) (fun hc => ?_)
      · have q0 := hc
        refine lv_iload_n hx hb dXM_told_39 rfl (lv_at hl 1 rfl) ?_
        refine lv_iconst (v := nI 1) hx hb dXM_told_40 (by decide) ?_
        refine lv_icmp_ne (tgt := 51) hx hb dXM_told_41 (by decide) (fun hc => ?_) (fun hc => ?_)
        · have q1 := hc
          refine lv_iload_n hx hb dXM_told_51 rfl (lv_at hl 1 rfl) ?_
          refine lv_iconst (v := nI 2) hx hb dXM_told_52 (by decide) ?_
          refine lv_icmp_ne (tgt := 71) hx hb dXM_told_53 (by decide) (fun hc => ?_) (fun hc => ?_)
          · refine lv_aload_n hx hb dXM_told_71 rfl (lv_at hl 0 rfl) ?_
            refine va_get (D := (dC, dI)) (ci := 3) (v := .int (nI (pz_mr x))) (C := "ParityArrayModel") (T := TXM) (N := 9) hx hb hts (fun w h => List.mem_cons_of_mem _ (inXM w h)) hown hK hP 0 rfl rfl 4 (by decide) (hts _ (List.mem_cons_of_mem _ tw_395)) (fun _ h9 => h9) rfl dXM_told_72 ?_
            exact W.iret (v := nI (pz_mr x)) hx hb hr (fun t ht hW => ⟨⟨_, (x, 0, f), rfl, ⟨by unfold pz_gT; rw [if_neg hn, if_neg q0, if_neg q1, if_neg hc], rfl, rfl⟩, by rw [ht]; exact hP, va_K.moved hW.alike hK, hAe ▸ hD⟩, hS.F ht⟩) hS.2.2 dXM_told_75
          · have q2 := hc
            refine lv_aload_n hx hb dXM_told_56 rfl (lv_at hl 0 rfl) ?_
            refine va_get (D := (dC, dI)) (ci := 3) (v := .int (pz_b (pz_mf x))) (C := "ParityArrayModel") (T := TXM) (N := 9) hx hb hts (fun w h => List.mem_cons_of_mem _ (inXM w h)) hown hK hP 0 rfl rfl 3 (by decide) (hts _ (List.mem_cons_of_mem _ tw_394)) (fun _ h9 => h9) rfl dXM_told_57 ?_
            refine lv_if_eq (tgt := 67) hx hb dXM_told_60 (by decide) (fun hc => ?_) (fun hc => ?_)
            · have hc : (pz_mf x) = false := pz_b0.mp hc
              refine lv_iconst (v := nI 0) hx hb dXM_told_67 (by decide) ?_
              refine lv_goto (tgt := 75) hx hb dXM_told_68 (by decide) ?_
              exact W.iret (v := nI 0) hx hb hr (fun t ht hW => ⟨⟨_, (x, 0, f), rfl, ⟨by unfold pz_gT; rw [if_neg hn, if_neg q0, if_neg q1, if_pos q2, hc]; rfl, rfl, rfl⟩, by rw [ht]; exact hP, va_K.moved hW.alike hK, hAe ▸ hD⟩, hS.F ht⟩) hS.2.2 dXM_told_75
            · have hc : (pz_mf x) = true := pz_bn hc
              refine lv_iconst (v := nI 1) hx hb dXM_told_63 (by decide) ?_
              refine lv_goto (tgt := 75) hx hb dXM_told_64 (by decide) ?_
              exact W.iret (v := nI 1) hx hb hr (fun t ht hW => ⟨⟨_, (x, 0, f), rfl, ⟨by unfold pz_gT; rw [if_neg hn, if_neg q0, if_neg q1, if_pos q2, hc]; rfl, rfl, rfl⟩, by rw [ht]; exact hP, va_K.moved hW.alike hK, hAe ▸ hD⟩, hS.F ht⟩) hS.2.2 dXM_told_75
        · refine lv_aload_n hx hb dXM_told_44 rfl (lv_at hl 0 rfl) ?_
          refine va_get (D := (dC, dI)) (ci := 3) (v := .int (pz_o (pz_ms x))) (C := "ParityArrayModel") (T := TXM) (N := 9) hx hb hts (fun w h => List.mem_cons_of_mem _ (inXM w h)) hown hK hP 0 rfl rfl 2 (by decide) (hts _ (List.mem_cons_of_mem _ tw_393)) (fun _ h9 => h9) rfl dXM_told_45 ?_
          refine lv_goto (tgt := 75) hx hb dXM_told_48 (by decide) ?_
          exact W.iret (v := pz_o (pz_ms x)) hx hb hr (fun t ht hW => ⟨⟨_, (x, 0, f), rfl, ⟨by unfold pz_gT; rw [if_neg hn, if_neg q0, if_pos hc], rfl, rfl⟩, by rw [ht]; exact hP, va_K.moved hW.alike hK, hAe ▸ hD⟩, hS.F ht⟩) hS.2.2 dXM_told_75
      · have q0 := hc
        refine lv_aload_n hx hb dXM_told_24 rfl (lv_at hl 0 rfl) ?_
        refine va_get (D := (dC, dI)) (ci := 3) (v := .int (pz_b (pz_mo x))) (C := "ParityArrayModel") (T := TXM) (N := 9) hx hb hts (fun w h => List.mem_cons_of_mem _ (inXM w h)) hown hK hP 0 rfl rfl 1 (by decide) (hts _ (List.mem_cons_of_mem _ tw_392)) (fun _ h9 => h9) rfl dXM_told_25 ?_
        refine lv_if_eq (tgt := 35) hx hb dXM_told_28 (by decide) (fun hc => ?_) (fun hc => ?_)
        · have hc : (pz_mo x) = false := pz_b0.mp hc
          refine lv_iconst (v := nI 0) hx hb dXM_told_35 (by decide) ?_
          refine lv_goto (tgt := 75) hx hb dXM_told_36 (by decide) ?_
          exact W.iret (v := nI 0) hx hb hr (fun t ht hW => ⟨⟨_, (x, 0, f), rfl, ⟨by unfold pz_gT; rw [if_neg hn, if_pos q0, hc]; rfl, rfl, rfl⟩, by rw [ht]; exact hP, va_K.moved hW.alike hK, hAe ▸ hD⟩, hS.F ht⟩) hS.2.2 dXM_told_75
        · have hc : (pz_mo x) = true := pz_bn hc
          refine lv_iconst (v := nI 1) hx hb dXM_told_31 (by decide) ?_
          refine lv_goto (tgt := 75) hx hb dXM_told_32 (by decide) ?_
          exact W.iret (v := nI 1) hx hb hr (fun t ht hW => ⟨⟨_, (x, 0, f), rfl, ⟨by unfold pz_gT; rw [if_neg hn, if_pos q0, hc]; rfl, rfl, rfl⟩, by rw [ht]; exact hP, va_K.moved hW.alike hK, hAe ▸ hD⟩, hS.F ht⟩) hS.2.2 dXM_told_75
    · refine lv_aload_n hx hb dXM_told_9 rfl (lv_at hl 0 rfl) ?_
      refine lv_iconst (v := nI 1) hx hb dXM_told_10 (by decide) ?_
      have hPc := hP
      have hDc := hD
      have hFc := va_free (wc := [(h0, .inr (3, [.ref aB, .int (pz_b (pz_mo x)), .int (pz_o (pz_ms x)), .int (pz_b (pz_mf x)), .int (nI (pz_mr x)), .int (nI (pz_mF x)), .int (nI (pz_mw x)), .int (nI (pz_mc x)), .int (nI th)])), (aB, .inl (cB, 76800, .inl f))]) hD hS hA [0, 1] rfl
      refine va_calli (va_runV (As := [.int (nI 1)]) (rest := []) ⟨hx, hb, hml, hown, hts⟩ (c_XM_fails l dC dI _ h0 aB cB f x th 1) (cwV 1 hts (pz_gc (List.mem_cons_of_mem _ tw_427) rfl (pz_gc (List.mem_cons_of_mem _ tw_429) rfl (pz_gc (List.mem_cons_of_mem _ ts_9) rfl (pz_gc (List.mem_cons_of_mem _ tw_4) rfl (pz_gi tcXM_fails))))) rfl rfl rfl (by decide +kernel) ⟨Nat.le_of_ble_eq_true rfl, Nat.le_of_ble_eq_true rfl⟩) (pz_preVw (va_recv hK hPc (q0 := 0) rfl rfl) hPc hK hDc) rfl rfl hl.1 rfl (lv_room (Nat.le_of_ble_eq_true rfl)) dXM_told_11 ⟨Nat.zero_le _, Nat.zero_le _⟩) hS (fun q _ h => hFc q h) hFc (fun r u t H1 locs ht hvm hw hB hz hk1 hS => ?_)
      obtain ⟨hP1, hK1, hD1⟩ := hB
      rw [ht] at hP1
      obtain ⟨rfl, rfl⟩ := hw
      obtain ⟨hP, hD⟩ := va_join (wr := []) hP hD [0, 1] [] rfl rfl (by decide) (by decide) hk1 hFc hP1 hD1
      clear hPc hDc hFc hP1 hD1 hK1 hk1 hz ht hvm
      generalize H1 = H at hP hS ⊢
      have hP : va_P (dC, dI) vwCl [(h0, .inr (3, [.ref aB, .int (pz_b (pz_mo x)), .int (pz_o (pz_ms x)), .int (pz_b (pz_mf x)), .int (nI (pz_mr x)), .int (nI (pz_mF x)), .int (nI (pz_mw x)), .int (nI (pz_mc x)), .int (nI 1)])), (aB, .inl (cB, 76800, .inl f))] H := hP
      have hD : va_D A [(h0, .inr (3, [.ref aB, .int (pz_b (pz_mo x)), .int (pz_o (pz_ms x)), .int (pz_b (pz_mf x)), .int (nI (pz_mr x)), .int (nI (pz_mF x)), .int (nI (pz_mw x)), .int (nI (pz_mc x)), .int (nI 1)])), (aB, .inl (cB, 76800, .inl f))] := hD
      exact W.iret (v := nI 0) hx hb hr (fun t ht hW => ⟨⟨_, (x, 1, f), rfl, ⟨by unfold pz_gT; rw [if_pos (Or.inr (Int32.not_lt.mp fun h9 => hc ((pz_lt_succ rfl (by decide)).mpr h9)))], rfl, rfl⟩, by rw [ht]; exact hP, va_K.moved hW.alike hK, hAe ▸ hD⟩, hS.F ht⟩) hS.2.2 dXM_told_14

set_option maxHeartbeats 4000000 in
set_option maxRecDepth 100000 in
theorem c_XM_check (l : Launch) (dC : Nat → ClassId) (dI : Nat → Nat → Nat) (sz : Nat) (h0 aB : Nat) (cB : ClassId) (f : Nat → Int32) (x : pz_Mu) (th : Nat) (hm1 : pz_mr x ≤ 150) (hm2 : pz_mF x ≤ 2) (hm3 : pz_mw x ≤ 10) (hm4 : pz_mc x ≤ 200) (hm5 : ∀ e, pz_ms x = some e → e < 5) (hth : th < 10) : Met l yXM_check wsXM_check ({ frames := 0, cells := 0, slots := 0, locals := 0 }) (va_Pc [.ref h0] (fun U => U.heap.size = sz ∧ va_P (dC, dI) vwCl (pz_MW h0 aB cB f x th) U.heap ∧ va_K (dC, dI) vwCl [(cB, .byte)] U ∧ va_D (fun _ => True) (pz_MW h0 aB cB f x th))) (va_Qi (fun (r : Int32) (u : pz_Mu × Nat × (Nat → Int32)) => r = nI 0 ∧ u = (x, (if pz_mo x = true then 0 else 1), f)) (fun u t => va_P (dC, dI) vwCl (pz_MW h0 aB cB u.2.2 u.1 u.2.1) t.heap ∧ va_K (dC, dI) vwCl [(cB, .byte)] t ∧ va_D (va_A (pz_MW h0 aB cB f x th) sz) (pz_MW h0 aB cB u.2.2 u.1 u.2.1)) (va_A (pz_MW h0 aB cB f x th) sz)) 0 0 (va_A (pz_MW h0 aB cB f x th) sz) := by
  refine Met.ofW (cc := cXM_check) (maxL := 1) (ret := (some .int)) (by decide) rfl ?_
  intro p e s m args below meth c s₁ B hml hv
  obtain ⟨rfl, hsz, hP, hK, hD0⟩ := hv
  have hx := B.exec
  have hb := B.bytes
  have hr := B.returns
  have hts := atoms_spec (ws := wsXM_check) B.pre
  have hown : s.vm.findClass "ParityArrayModel" = some m.cls := findClass_of_methodNamed B.named
  have hlocks := B.notSynchronized
  subst hsz
  have hD := hD0.self (sz := s.heap.size)
  generalize hAe : va_A (pz_MW h0 aB cB f x th) s.heap.size = A at hD ⊢
  have hA : ∀ q : Nat, s.heap.size ≤ q → A q := fun q h => by rw [← hAe]; exact Or.inr h
  have hS : va_S A s.heap s.heap [] := va_S.rf
  have hl := lv_entry ([.ref h0]) (n := 1) (Nat.le_of_ble_eq_true rfl)
  rw [lg_entry_eq]
  generalize (lg_sl ([.ref h0]) ++ List.replicate (1 - (lg_sl ([.ref h0])).length) Slot.unset).toArray = ls at hl ⊢
  have hl : lv_has ls 1 [(0, .ref h0)] := hl
  have hP : va_P (dC, dI) vwCl [(h0, .inr (3, [.ref aB, .int (pz_b (pz_mo x)), .int (pz_o (pz_ms x)), .int (pz_b (pz_mf x)), .int (nI (pz_mr x)), .int (nI (pz_mF x)), .int (nI (pz_mw x)), .int (nI (pz_mc x)), .int (nI th)])), (aB, .inl (cB, 76800, .inl f))] s.heap := hP
  have hD : va_D A [(h0, .inr (3, [.ref aB, .int (pz_b (pz_mo x)), .int (pz_o (pz_ms x)), .int (pz_b (pz_mf x)), .int (nI (pz_mr x)), .int (nI (pz_mF x)), .int (nI (pz_mw x)), .int (nI (pz_mc x)), .int (nI th)])), (aB, .inl (cB, 76800, .inl f))] := hD
  refine lv_aload_n hx hb dXM_check_0 rfl (lv_at hl 0 rfl) ?_
  refine lv_aload_n hx hb dXM_check_1 rfl (lv_at hl 0 rfl) ?_
  refine va_get (D := (dC, dI)) (ci := 3) (v := .int (pz_b (pz_mo x))) (C := "ParityArrayModel") (T := TXM) (N := 9) hx hb hts (fun w h => List.mem_cons_of_mem _ (inXM w h)) hown hK hP 0 rfl rfl 1 (by decide) (hts _ (List.mem_cons_of_mem _ tw_392)) (fun _ h9 => h9) rfl dXM_check_2 ?_
  refine lv_if_eq (tgt := 12) hx hb dXM_check_5 (by decide) (fun hc => ?_) (fun hc => ?_)
  · have hc : (pz_mo x) = false := pz_b0.mp hc
    refine lv_iconst (v := nI 1) hx hb dXM_check_12 (by decide) ?_
    refine va_put (D := (dC, dI)) (ci := 3) (v := .int (nI 1)) (ty := .int) (C := "ParityArrayModel") (T := TXM) (N := 9) hx hb hts (fun w h => List.mem_cons_of_mem _ (inXM w h)) tyXM tyXM_ok nmXM hown hK hP hD hS 0 rfl rfl 8 (by decide) (hts _ (List.mem_cons_of_mem _ tw_399)) (fun _ h9 => h9) rfl (by decide +kernel) rfl rfl (Nat.le_of_ble_eq_true rfl) dXM_check_13 (fun H locs hP hD hS => ?_)
    have hP : va_P (dC, dI) vwCl [(h0, .inr (3, [.ref aB, .int (pz_b (pz_mo x)), .int (pz_o (pz_ms x)), .int (pz_b (pz_mf x)), .int (nI (pz_mr x)), .int (nI (pz_mF x)), .int (nI (pz_mw x)), .int (nI (pz_mc x)), .int (nI 1)])), (aB, .inl (cB, 76800, .inl f))] H := hP
    have hD : va_D A [(h0, .inr (3, [.ref aB, .int (pz_b (pz_mo x)), .int (pz_o (pz_ms x)), .int (pz_b (pz_mf x)), .int (nI (pz_mr x)), .int (nI (pz_mF x)), .int (nI (pz_mw x)), .int (nI (pz_mc x)), .int (nI 1)])), (aB, .inl (cB, 76800, .inl f))] := hD
    refine lv_iconst (v := nI 0) hx hb dXM_check_16 (by decide) ?_
    exact W.iret (v := nI 0) hx hb hr (fun t ht hW => ⟨⟨_, (x, 1, f), rfl, ⟨rfl, by rw [hc]; rfl⟩, by rw [ht]; exact hP, va_K.moved hW.alike hK, hAe ▸ hD⟩, hS.F ht⟩) hS.2.2 dXM_check_17
  · have hc : (pz_mo x) = true := pz_bn hc
    refine lv_iconst (v := nI 0) hx hb dXM_check_8 (by decide) ?_
    refine lv_goto (tgt := 13) hx hb dXM_check_9 (by decide) ?_
    refine va_put (D := (dC, dI)) (ci := 3) (v := .int (nI 0)) (ty := .int) (C := "ParityArrayModel") (T := TXM) (N := 9) hx hb hts (fun w h => List.mem_cons_of_mem _ (inXM w h)) tyXM tyXM_ok nmXM hown hK hP hD hS 0 rfl rfl 8 (by decide) (hts _ (List.mem_cons_of_mem _ tw_399)) (fun _ h9 => h9) rfl (by decide +kernel) rfl rfl (Nat.le_of_ble_eq_true rfl) dXM_check_13 (fun H locs hP hD hS => ?_)
    have hP : va_P (dC, dI) vwCl [(h0, .inr (3, [.ref aB, .int (pz_b (pz_mo x)), .int (pz_o (pz_ms x)), .int (pz_b (pz_mf x)), .int (nI (pz_mr x)), .int (nI (pz_mF x)), .int (nI (pz_mw x)), .int (nI (pz_mc x)), .int (nI 0)])), (aB, .inl (cB, 76800, .inl f))] H := hP
    have hD : va_D A [(h0, .inr (3, [.ref aB, .int (pz_b (pz_mo x)), .int (pz_o (pz_ms x)), .int (pz_b (pz_mf x)), .int (nI (pz_mr x)), .int (nI (pz_mF x)), .int (nI (pz_mw x)), .int (nI (pz_mc x)), .int (nI 0)])), (aB, .inl (cB, 76800, .inl f))] := hD
    refine lv_iconst (v := nI 0) hx hb dXM_check_16 (by decide) ?_
    exact W.iret (v := nI 0) hx hb hr (fun t ht hW => ⟨⟨_, (x, 0, f), rfl, ⟨rfl, by rw [hc]; rfl⟩, by rw [ht]; exact hP, va_K.moved hW.alike hK, hAe ▸ hD⟩, hS.F ht⟩) hS.2.2 dXM_check_17
end
section
/-! constructors, loseAll, mendParity, isParityRight (laid by a program) -/
set_option maxHeartbeats 4000000 in
set_option maxRecDepth 100000 in
theorem c_XA_fill (l : Launch) (dC : Nat → ClassId) (dI : Nat → Nat → Nat) (sz : Nat) (aR : Nat) (cJ : ClassId) (f : Nat → Int64) (v : Int64) : Met l yXA_fill wsXA_fill ({ frames := 0, cells := 0, slots := 0, locals := 0 }) (va_Pc [.ref aR, .long v] (fun U => U.heap.size = sz ∧ va_P (dC, dI) vwCl [(aR, .inl (cJ, 2400, .inr (.inl f)))] U.heap ∧ va_K (dC, dI) vwCl [(cJ, .long)] U ∧ va_D (fun _ => True) [(aR, .inl (cJ, 2400, .inr (.inl f)))])) (va_Qv (fun (u : Nat → Int64) => True) (fun u t => va_P (dC, dI) vwCl [(aR, .inl (cJ, 2400, .inr (.inl u)))] t.heap ∧ va_K (dC, dI) vwCl [(cJ, .long)] t ∧ va_D (va_A [(aR, .inl (cJ, 2400, .inr (.inl f)))] sz) [(aR, .inl (cJ, 2400, .inr (.inl u)))]) (va_A [(aR, .inl (cJ, 2400, .inr (.inl f)))] sz)) 0 0 (va_A [(aR, .inl (cJ, 2400, .inr (.inl f)))] sz) := by
  refine Met.ofW (cc := cXA_fill) (maxL := 5) (ret := none) (by decide) rfl ?_
  intro p e s m args below meth c s₁ B hml hv
  obtain ⟨rfl, hsz, hP, hK, hD0⟩ := hv
  have hx := B.exec
  have hb := B.bytes
  have hr := B.returns
  have hts := atoms_spec (ws := wsXA_fill) B.pre
  have hown : s.vm.findClass "java/util/Arrays" = some m.cls := findClass_of_methodNamed B.named
  have hlocks := B.notSynchronized
  subst hsz
  have hD := hD0.self (sz := s.heap.size)
  generalize hAe : va_A [(aR, .inl (cJ, 2400, .inr (.inl f)))] s.heap.size = A at hD ⊢
  have hA : ∀ q : Nat, s.heap.size ≤ q → A q := fun q h => by rw [← hAe]; exact Or.inr h
  have hS : va_S A s.heap s.heap [] := va_S.rf
  have hl := lv_entry ([.ref aR, .long v]) (n := 5) (Nat.le_of_ble_eq_true rfl)
  rw [lg_entry_eq]
  generalize (lg_sl ([.ref aR, .long v]) ++ List.replicate (5 - (lg_sl ([.ref aR, .long v])).length) Slot.unset).toArray = ls at hl ⊢
  have hl : lv_has ls 5 [(0, .ref aR), (1, .long v)] := hl
  have hP : va_P (dC, dI) vwCl [(aR, .inl (cJ, 2400, .inr (.inl f)))] s.heap := hP
  have hD : va_D A [(aR, .inl (cJ, 2400, .inr (.inl f)))] := hD
  refine lv_iconst (v := nI 0) hx hb dXA_fill_0 (by decide) ?_
  refine lv_istore_n hx hb dXA_fill_1 rfl hl (by decide) rfl (fun ls hl => ?_)
  have hl : lv_has ls 5 [(3, .int (nI 0)), (0, .ref aR), (1, .long v)] := hl
  refine lv_aload_n hx hb dXA_fill_2 rfl (lv_at hl 1 rfl) ?_
  refine va_alen (v := nI 2400) hx hb hK hP 0 0 rfl rfl rfl dXA_fill_3 ?_
  refine lv_istore hx hb dXA_fill_4 hl (by decide) rfl (fun ls hl => ?_)
  have hl : lv_has ls 5 [(4, .int (nI 2400)), (3, .int (nI 0)), (0, .ref aR), (1, .long v)] := hl
  refine pz_loop (fun _ => 0) (fun _ => 0) 2400 (fun k ls H locs => ∃ f1 : Nat → Int64, (lv_has ls 5 [(4, .int (nI 2400)), (3, .int (nI k)), (0, .ref aR), (1, .long v)] ∨ lv_has ls 5 [(3, .int (nI k)), (4, .int (nI 2400)), (0, .ref aR), (1, .long v)]) ∧ va_P (dC, dI) vwCl [(aR, .inl (cJ, 2400, .inr (.inl f1)))] H ∧ va_D A [(aR, .inl (cJ, 2400, .inr (.inl f1)))] ∧ va_S A s.heap H locs) ?_ ?_ 2400 0 (by omega) _ _ _ ⟨f, Or.inl hl, hP, hD, hS⟩
  · intro k ls H locs hk hI ih
    obtain ⟨f1, hl, hP, hD, hS⟩ := hI
    have hl : lv_has ls 5 [(4, .int (nI 2400)), (3, .int (nI k)), (0, .ref aR), (1, .long v)] := hl.elim (fun h => h) (fun h => lv_sub h [1, 0, 2, 3] rfl)
    refine lv_iload_n hx hb dXA_fill_6 rfl (lv_at hl 1 rfl) ?_
    refine lv_iload hx hb dXA_fill_7 (lv_at hl 0 rfl) ?_
    refine lv_icmp_ge (tgt := 22) hx hb dXA_fill_9 (by decide) (fun hc => absurd hc (nI_ge hk (by decide))) (fun _ => ?_)
    refine lv_aload_n hx hb dXA_fill_12 rfl (lv_at hl 2 rfl) ?_
    refine lv_iload_n hx hb dXA_fill_13 rfl (lv_at hl 1 rfl) ?_
    refine lv_lload_n hx hb dXA_fill_14 rfl (lv_at hl 3 rfl) ?_
    refine va_last hx hb hK hP hD hS 0 0 rfl rfl (vp_in_nI (by omega) (by decide)) dXA_fill_15 (fun H locs hP hD hS => ?_)
    rw [nI_clamp (show k < 2 ^ 31 by omega)] at hP hD
    have hP : va_P (dC, dI) vwCl [(aR, .inl (cJ, 2400, .inr (.inl (vp_updL f1 k v))))] H := hP
    have hD : va_D A [(aR, .inl (cJ, 2400, .inr (.inl (vp_updL f1 k v))))] := hD
    refine lv_iinc (k := 1) (v := nI (k + 1)) hx hb dXA_fill_16 hl rfl (by rw [nI_succ]; rfl) (by decide) rfl (fun ls hl => ?_)
    have hl : lv_has ls 5 [(3, .int (nI (k + 1))), (4, .int (nI 2400)), (0, .ref aR), (1, .long v)] := hl
    refine lv_goto (tgt := 6) hx hb dXA_fill_19 (by decide) ?_
    exact ih _ _ _ ⟨_, Or.inr hl, hP, hD, hS⟩
  · intro ls H locs hI
    obtain ⟨f1, hl, hP, hD, hS⟩ := hI
    have hl : lv_has ls 5 [(4, .int (nI 2400)), (3, .int (nI 2400)), (0, .ref aR), (1, .long v)] := hl.elim (fun h => h) (fun h => lv_sub h [1, 0, 2, 3] rfl)
    refine lv_iload_n hx hb dXA_fill_6 rfl (lv_at hl 1 rfl) ?_
    refine lv_iload hx hb dXA_fill_7 (lv_at hl 0 rfl) ?_
    refine lv_icmp_ge (tgt := 22) hx hb dXA_fill_9 (by decide) (fun _ => ?_) (fun hc => absurd hc (fun h9 => h9 (nI_le (Nat.le_refl 2400) (by decide))))
    exact W.vret hx hb hr (fun t ht hW => ⟨⟨f1, rfl, trivial, by rw [ht]; exact hP, va_K.moved hW.alike hK, hAe ▸ hD⟩, hS.F ht⟩) hS.2.2 dXA_fill_22

set_option maxHeartbeats 4000000 in
set_option maxRecDepth 100000 in
/-- all is lost -/
theorem c_XD_loseAll (l : Launch) (dC : Nat → ClassId) (dI : Nat → Nat → Nat) (sz : Nat) (h0 aR aC : Nat) (cJ : ClassId) (x : pz_Dk) : Met l yXD_loseAll wsXD_loseAll ({ frames := 1, cells := 0, slots := 0, locals := 24 }) (va_Pc [.ref h0] (fun U => U.heap.size = sz ∧ va_P (dC, dI) vwCl (pz_DW h0 aR aC cJ x) U.heap ∧ va_K (dC, dI) vwCl [(cJ, .long)] U ∧ va_D (fun _ => True) (pz_DW h0 aR aC cJ x))) (va_Qv (fun (u : pz_Dk) => ∃ f : Nat → Int64, u = (f, pz_rc x, none, true, 0)) (fun u t => va_P (dC, dI) vwCl (pz_DW h0 aR aC cJ u) t.heap ∧ va_K (dC, dI) vwCl [(cJ, .long)] t ∧ va_D (va_A (pz_DW h0 aR aC cJ x) sz) (pz_DW h0 aR aC cJ u)) (va_A (pz_DW h0 aR aC cJ x) sz)) 0 0 (va_A (pz_DW h0 aR aC cJ x) sz) := by
  refine Met.ofW (cc := cXD_loseAll) (maxL := 1) (ret := none) (by decide) rfl ?_
  intro p e s m args below meth c s₁ B hml hv
  obtain ⟨rfl, hsz, hP, hK, hD0⟩ := hv
  have hx := B.exec
  have hb := B.bytes
  have hr := B.returns
  have hts := atoms_spec (ws := wsXD_loseAll) B.pre
  have hown : s.vm.findClass "ParityArray$Disk" = some m.cls := findClass_of_methodNamed B.named
  have hlocks := B.notSynchronized
  subst hsz
  have hD := hD0.self (sz := s.heap.size)
  generalize hAe : va_A (pz_DW h0 aR aC cJ x) s.heap.size = A at hD ⊢
  have hA : ∀ q : Nat, s.heap.size ≤ q → A q := fun q h => by rw [← hAe]; exact Or.inr h
  have hS : va_S A s.heap s.heap [] := va_S.rf
  have hl := lv_entry ([.ref h0]) (n := 1) (Nat.le_of_ble_eq_true rfl)
  rw [lg_entry_eq]
  generalize (lg_sl ([.ref h0]) ++ List.replicate (1 - (lg_sl ([.ref h0])).length) Slot.unset).toArray = ls at hl ⊢
  have hl : lv_has ls 1 [(0, .ref h0)] := hl
  have hP : va_P (dC, dI) vwCl [(h0, .inr (0, [.ref aR, .ref aC, .int (pz_o (pz_rb x)), .int (pz_b (pz_dd x)), .int (nI (pz_th x))])), (aR, .inl (cJ, 2400, .inr (.inl (pz_R x)))), (aC, .inl (cJ, 16, .inr (.inl (pz_rc x))))] s.heap := hP
  have hD : va_D A [(h0, .inr (0, [.ref aR, .ref aC, .int (pz_o (pz_rb x)), .int (pz_b (pz_dd x)), .int (nI (pz_th x))])), (aR, .inl (cJ, 2400, .inr (.inl (pz_R x)))), (aC, .inl (cJ, 16, .inr (.inl (pz_rc x))))] := hD
  refine lv_aload_n hx hb dXD_loseAll_0 rfl (lv_at hl 0 rfl) ?_
  refine va_get (D := (dC, dI)) (ci := 0) (v := .ref aR) (C := "ParityArray$Disk") (T := TXD) (N := 5) hx hb hts (fun w h => List.mem_cons_of_mem _ (inXD w h)) hown hK hP 0 rfl rfl 0 (by decide) (hts _ (List.mem_cons_of_mem _ tw_59)) (fun _ h9 => h9) rfl dXD_loseAll_1 ?_
  refine lv_lconst (v := 0) hx hb dXD_loseAll_4 (by decide) ?_
  have hPc := hP.sub (ws' := [(aR, .inl (cJ, 2400, .inr (.inl (pz_R x))))]) [1] rfl
  have hDc := hD.sub (ws' := [(aR, .inl (cJ, 2400, .inr (.inl (pz_R x))))]) [1] (by decide) rfl
  have hFc := va_free (wc := [(aR, .inl (cJ, 2400, .inr (.inl (pz_R x))))]) hD hS hA [1] rfl
  refine va_callv (va_runS (As := [.ref aR, .long 0]) (rest := []) ⟨hx, hb, hml, hown, hts⟩ (c_XA_fill l dC dI _ aR cJ (pz_R x) 0) (va_cwS 2 hts (pz_gc (List.mem_cons_of_mem _ tw_298) rfl (pz_gc (List.mem_cons_of_mem _ tw_299) rfl (pz_gc (List.mem_cons_of_mem _ tw_13) rfl (pz_gi tcXA_fill)))) rfl rfl rfl (by decide +kernel) ⟨Nat.le_of_ble_eq_true rfl, Nat.le_of_ble_eq_true rfl⟩) (pz_preSw hPc hK hDc) rfl rfl hl.1 rfl (lv_room (Nat.le_of_ble_eq_true rfl)) dXD_loseAll_5 ⟨Nat.zero_le _, Nat.zero_le _⟩) hS (fun q _ h => hFc q h) hFc (fun u t H1 locs ht hvm hw hB hz hk1 hS => ?_)
  obtain ⟨hP1, hK1, hD1⟩ := hB
  rw [ht] at hP1
  obtain ⟨hP, hD⟩ := va_join (wr := [(h0, .inr (0, [.ref aR, .ref aC, .int (pz_o (pz_rb x)), .int (pz_b (pz_dd x)), .int (nI (pz_th x))])), (aC, .inl (cJ, 16, .inr (.inl (pz_rc x))))]) hP hD [1] [0, 2] rfl rfl (by decide) (by decide) hk1 hFc hP1 hD1
  obtain ⟨hP, hD⟩ := (show va_P (dC, dI) vwCl [(h0, .inr (0, [.ref aR, .ref aC, .int (pz_o (pz_rb x)), .int (pz_b (pz_dd x)), .int (nI (pz_th x))])), (aR, .inl (cJ, 2400, .inr (.inl u))), (aC, .inl (cJ, 16, .inr (.inl (pz_rc x))))] H1 ∧ va_D A [(h0, .inr (0, [.ref aR, .ref aC, .int (pz_o (pz_rb x)), .int (pz_b (pz_dd x)), .int (nI (pz_th x))])), (aR, .inl (cJ, 2400, .inr (.inl u))), (aC, .inl (cJ, 16, .inr (.inl (pz_rc x))))] from ⟨hP.sub [0, 2, 1] rfl, hD.sub [0, 2, 1] (by decide) rfl⟩)
  clear hPc hDc hFc hP1 hD1 hK1 hk1 hz ht hvm
  generalize H1 = H at hP hS ⊢
  refine lv_aload_n hx hb dXD_loseAll_8 rfl (lv_at hl 0 rfl) ?_
  refine lv_iconst (v := (-1)) hx hb dXD_loseAll_9 (by decide) ?_
  refine va_put (D := (dC, dI)) (ci := 0) (v := .int (-1)) (ty := .int) (C := "ParityArray$Disk") (T := TXD) (N := 5) hx hb hts (fun w h => List.mem_cons_of_mem _ (inXD w h)) tyXD tyXD_ok nmXD hown hK hP hD hS 0 rfl rfl 2 (by decide) (hts _ (List.mem_cons_of_mem _ tw_62)) (fun _ h9 => h9) rfl (by decide +kernel) rfl rfl (Nat.le_of_ble_eq_true rfl) dXD_loseAll_10 (fun H locs hP hD hS => ?_)
  have hP : va_P (dC, dI) vwCl [(h0, .inr (0, [.ref aR, .ref aC, .int (-1), .int (pz_b (pz_dd x)), .int (nI (pz_th x))])), (aR, .inl (cJ, 2400, .inr (.inl u))), (aC, .inl (cJ, 16, .inr (.inl (pz_rc x))))] H := hP
  have hD : va_D A [(h0, .inr (0, [.ref aR, .ref aC, .int (-1), .int (pz_b (pz_dd x)), .int (nI (pz_th x))])), (aR, .inl (cJ, 2400, .inr (.inl u))), (aC, .inl (cJ, 16, .inr (.inl (pz_rc x))))] := hD
  refine lv_aload_n hx hb dXD_loseAll_13 rfl (lv_at hl 0 rfl) ?_
  refine lv_iconst (v := nI 1) hx hb dXD_loseAll_14 (by decide) ?_
  refine va_put (D := (dC, dI)) (ci := 0) (v := .int (nI 1)) (ty := .boolean) (C := "ParityArray$Disk") (T := TXD) (N := 5) hx hb hts (fun w h => List.mem_cons_of_mem _ (inXD w h)) tyXD tyXD_ok nmXD hown hK hP hD hS 0 rfl rfl 3 (by decide) (hts _ (List.mem_cons_of_mem _ tw_64)) (fun _ h9 => h9) rfl (by decide +kernel) rfl rfl (Nat.le_of_ble_eq_true rfl) dXD_loseAll_15 (fun H locs hP hD hS => ?_)
  have hP : va_P (dC, dI) vwCl [(h0, .inr (0, [.ref aR, .ref aC, .int (-1), .int (pz_b true), .int (nI (pz_th x))])), (aR, .inl (cJ, 2400, .inr (.inl u))), (aC, .inl (cJ, 16, .inr (.inl (pz_rc x))))] H := hP
  have hD : va_D A [(h0, .inr (0, [.ref aR, .ref aC, .int (-1), .int (pz_b true), .int (nI (pz_th x))])), (aR, .inl (cJ, 2400, .inr (.inl u))), (aC, .inl (cJ, 16, .inr (.inl (pz_rc x))))] := hD
  refine lv_aload_n hx hb dXD_loseAll_18 rfl (lv_at hl 0 rfl) ?_
  refine lv_iconst (v := nI 0) hx hb dXD_loseAll_19 (by decide) ?_
  refine va_put (D := (dC, dI)) (ci := 0) (v := .int (nI 0)) (ty := .int) (C := "ParityArray$Disk") (T := TXD) (N := 5) hx hb hts (fun w h => List.mem_cons_of_mem _ (inXD w h)) tyXD tyXD_ok nmXD hown hK hP hD hS 0 rfl rfl 4 (by decide) (hts _ (List.mem_cons_of_mem _ tw_66)) (fun _ h9 => h9) rfl (by decide +kernel) rfl rfl (Nat.le_of_ble_eq_true rfl) dXD_loseAll_20 (fun H locs hP hD hS => ?_)
  have hP : va_P (dC, dI) vwCl [(h0, .inr (0, [.ref aR, .ref aC, .int (-1), .int (pz_b true), .int (nI 0)])), (aR, .inl (cJ, 2400, .inr (.inl u))), (aC, .inl (cJ, 16, .inr (.inl (pz_rc x))))] H := hP
  have hD : va_D A [(h0, .inr (0, [.ref aR, .ref aC, .int (-1), .int (pz_b true), .int (nI 0)])), (aR, .inl (cJ, 2400, .inr (.inl u))), (aC, .inl (cJ, 16, .inr (.inl (pz_rc x))))] := hD
  exact W.vret hx hb hr (fun t ht hW => ⟨⟨(u, pz_rc x, none, true, 0), rfl, ⟨u, rfl⟩, by rw [ht]; exact hP, va_K.moved hW.alike hK, hAe ▸ hD⟩, hS.F ht⟩) hS.2.2 dXD_loseAll_23

set_option maxHeartbeats 4000000 in
set_option maxRecDepth 100000 in
theorem c_XS_init (l : Launch) (dC : Nat → ClassId) (dI : Nat → Nat → Nat) (sz : Nat) (h0 : Nat) : Met l yXS_init wsXS_init ({ frames := 1, cells := 0, slots := 0, locals := 20 }) (va_Pc [.ref h0] (fun U => U.heap.size = sz ∧ va_P (dC, dI) vwCl (pz_SW h0 (false, false, false, 0, 0, false, 0)) U.heap ∧ va_K (dC, dI) vwCl [] U ∧ va_D (fun _ => True) (pz_SW h0 (false, false, false, 0, 0, false, 0)))) (va_Qv (fun (u : pz_Su) => u = (true, false, false, 0, 0, false, 0)) (fun u t => va_P (dC, dI) vwCl (pz_SW h0 u) t.heap ∧ va_K (dC, dI) vwCl [] t ∧ va_D (va_A (pz_SW h0 (false, false, false, 0, 0, false, 0)) sz) (pz_SW h0 u)) (va_A (pz_SW h0 (false, false, false, 0, 0, false, 0)) sz)) 0 0 (va_A (pz_SW h0 (false, false, false, 0, 0, false, 0)) sz) := by
  refine Met.ofW (cc := cXS_init) (maxL := 1) (ret := none) (by decide) rfl ?_
  intro p e s m args below meth c s₁ B hml hv
  obtain ⟨rfl, hsz, hP, hK, hD0⟩ := hv
  have hx := B.exec
  have hb := B.bytes
  have hr := B.returns
  have hts := atoms_spec (ws := wsXS_init) B.pre
  have hown : s.vm.findClass "ParityArray$Supply" = some m.cls := findClass_of_methodNamed B.named
  have hlocks := B.notSynchronized
  have hin : meth.name = "<init>" := (name_of_methodNamed B.named B.method).1
  subst hsz
  have hD := hD0.self (sz := s.heap.size)
  generalize hAe : va_A (pz_SW h0 (false, false, false, 0, 0, false, 0)) s.heap.size = A at hD ⊢
  have hA : ∀ q : Nat, s.heap.size ≤ q → A q := fun q h => by rw [← hAe]; exact Or.inr h
  have hS : va_S A s.heap s.heap [] := va_S.rf
  have hl := lv_entry ([.ref h0]) (n := 1) (Nat.le_of_ble_eq_true rfl)
  rw [lg_entry_eq]
  generalize (lg_sl ([.ref h0]) ++ List.replicate (1 - (lg_sl ([.ref h0])).length) Slot.unset).toArray = ls at hl ⊢
  have hl : lv_has ls 1 [(0, .ref h0)] := hl
  have hP : va_P (dC, dI) vwCl [(h0, .inr (1, [.int (pz_b false), .int (pz_b false), .int (pz_b false), .int (nI 0), .int (nI 0), .int (pz_b false), .int (nI 0)]))] s.heap := hP
  have hD : va_D A [(h0, .inr (1, [.int (pz_b false), .int (pz_b false), .int (pz_b false), .int (nI 0), .int (nI 0), .int (pz_b false), .int (nI 0)]))] := hD
  refine lv_aload_n hx hb dXS_init_0 rfl (lv_at hl 0 rfl) ?_
  refine W.objInit hx hb hown (hts _ (List.mem_cons_of_mem _ tw_30)) (hts _ (List.mem_cons_of_mem _ tw_21)) (hts _ (List.mem_cons_of_mem _ tw_22)) rfl (by rw [hml]; exact hl.1) rfl dXS_init_1 (Nat.le_of_ble_eq_true rfl) (Nat.le_of_ble_eq_true rfl) ?_
  refine W.eq (g2 := F0 m 4 ls []) rfl ?_
  refine lv_aload_n hx hb dXS_init_4 rfl (lv_at hl 0 rfl) ?_
  refine lv_iconst (v := nI 1) hx hb dXS_init_5 (by decide) ?_
  refine va_put (D := (dC, dI)) (ci := 1) (v := .int (nI 1)) (ty := .boolean) (C := "ParityArray$Supply") (T := TXS) (N := 7) hx hb hts (fun w h => List.mem_cons_of_mem _ (inXS w h)) tyXS tyXS_ok nmXS hown hK hP hD hS 0 rfl rfl 0 (by decide) (hts _ (List.mem_cons_of_mem _ tw_31)) (fun _ h9 => h9) rfl (by decide +kernel) rfl rfl (Nat.le_of_ble_eq_true rfl) dXS_init_6 (fun H locs hP hD hS => ?_)
  have hP : va_P (dC, dI) vwCl [(h0, .inr (1, [.int (pz_b true), .int (pz_b false), .int (pz_b false), .int (nI 0), .int (nI 0), .int (pz_b false), .int (nI 0)]))] H := hP
  have hD : va_D A [(h0, .inr (1, [.int (pz_b true), .int (pz_b false), .int (pz_b false), .int (nI 0), .int (nI 0), .int (pz_b false), .int (nI 0)]))] := hD
  refine lv_aload_n hx hb dXS_init_9 rfl (lv_at hl 0 rfl) ?_
  refine lv_iconst (v := nI 0) hx hb dXS_init_10 (by decide) ?_
  refine va_put (D := (dC, dI)) (ci := 1) (v := .int (nI 0)) (ty := .boolean) (C := "ParityArray$Supply") (T := TXS) (N := 7) hx hb hts (fun w h => List.mem_cons_of_mem _ (inXS w h)) tyXS tyXS_ok nmXS hown hK hP hD hS 0 rfl rfl 1 (by decide) (hts _ (List.mem_cons_of_mem _ tw_33)) (fun _ h9 => h9) rfl (by decide +kernel) rfl rfl (Nat.le_of_ble_eq_true rfl) dXS_init_11 (fun H locs hP hD hS => ?_)
  have hP : va_P (dC, dI) vwCl [(h0, .inr (1, [.int (pz_b true), .int (pz_b false), .int (pz_b false), .int (nI 0), .int (nI 0), .int (pz_b false), .int (nI 0)]))] H := hP
  have hD : va_D A [(h0, .inr (1, [.int (pz_b true), .int (pz_b false), .int (pz_b false), .int (nI 0), .int (nI 0), .int (pz_b false), .int (nI 0)]))] := hD
  refine lv_aload_n hx hb dXS_init_14 rfl (lv_at hl 0 rfl) ?_
  refine lv_iconst (v := nI 0) hx hb dXS_init_15 (by decide) ?_
  refine va_put (D := (dC, dI)) (ci := 1) (v := .int (nI 0)) (ty := .boolean) (C := "ParityArray$Supply") (T := TXS) (N := 7) hx hb hts (fun w h => List.mem_cons_of_mem _ (inXS w h)) tyXS tyXS_ok nmXS hown hK hP hD hS 0 rfl rfl 2 (by decide) (hts _ (List.mem_cons_of_mem _ tw_34)) (fun _ h9 => h9) rfl (by decide +kernel) rfl rfl (Nat.le_of_ble_eq_true rfl) dXS_init_16 (fun H locs hP hD hS => ?_)
  have hP : va_P (dC, dI) vwCl [(h0, .inr (1, [.int (pz_b true), .int (pz_b false), .int (pz_b false), .int (nI 0), .int (nI 0), .int (pz_b false), .int (nI 0)]))] H := hP
  have hD : va_D A [(h0, .inr (1, [.int (pz_b true), .int (pz_b false), .int (pz_b false), .int (nI 0), .int (nI 0), .int (pz_b false), .int (nI 0)]))] := hD
  refine lv_aload_n hx hb dXS_init_19 rfl (lv_at hl 0 rfl) ?_
  refine lv_iconst (v := nI 0) hx hb dXS_init_20 (by decide) ?_
  refine va_put (D := (dC, dI)) (ci := 1) (v := .int (nI 0)) (ty := .int) (C := "ParityArray$Supply") (T := TXS) (N := 7) hx hb hts (fun w h => List.mem_cons_of_mem _ (inXS w h)) tyXS tyXS_ok nmXS hown hK hP hD hS 0 rfl rfl 3 (by decide) (hts _ (List.mem_cons_of_mem _ tw_35)) (fun _ h9 => h9) rfl (by decide +kernel) rfl rfl (Nat.le_of_ble_eq_true rfl) dXS_init_21 (fun H locs hP hD hS => ?_)
  have hP : va_P (dC, dI) vwCl [(h0, .inr (1, [.int (pz_b true), .int (pz_b false), .int (pz_b false), .int (nI 0), .int (nI 0), .int (pz_b false), .int (nI 0)]))] H := hP
  have hD : va_D A [(h0, .inr (1, [.int (pz_b true), .int (pz_b false), .int (pz_b false), .int (nI 0), .int (nI 0), .int (pz_b false), .int (nI 0)]))] := hD
  refine lv_aload_n hx hb dXS_init_24 rfl (lv_at hl 0 rfl) ?_
  refine lv_iconst (v := nI 0) hx hb dXS_init_25 (by decide) ?_
  refine va_put (D := (dC, dI)) (ci := 1) (v := .int (nI 0)) (ty := .int) (C := "ParityArray$Supply") (T := TXS) (N := 7) hx hb hts (fun w h => List.mem_cons_of_mem _ (inXS w h)) tyXS tyXS_ok nmXS hown hK hP hD hS 0 rfl rfl 4 (by decide) (hts _ (List.mem_cons_of_mem _ tw_36)) (fun _ h9 => h9) rfl (by decide +kernel) rfl rfl (Nat.le_of_ble_eq_true rfl) dXS_init_26 (fun H locs hP hD hS => ?_)
  have hP : va_P (dC, dI) vwCl [(h0, .inr (1, [.int (pz_b true), .int (pz_b false), .int (pz_b false), .int (nI 0), .int (nI 0), .int (pz_b false), .int (nI 0)]))] H := hP
  have hD : va_D A [(h0, .inr (1, [.int (pz_b true), .int (pz_b false), .int (pz_b false), .int (nI 0), .int (nI 0), .int (pz_b false), .int (nI 0)]))] := hD
  refine lv_aload_n hx hb dXS_init_29 rfl (lv_at hl 0 rfl) ?_
  refine lv_iconst (v := nI 0) hx hb dXS_init_30 (by decide) ?_
  refine va_put (D := (dC, dI)) (ci := 1) (v := .int (nI 0)) (ty := .boolean) (C := "ParityArray$Supply") (T := TXS) (N := 7) hx hb hts (fun w h => List.mem_cons_of_mem _ (inXS w h)) tyXS tyXS_ok nmXS hown hK hP hD hS 0 rfl rfl 5 (by decide) (hts _ (List.mem_cons_of_mem _ tw_37)) (fun _ h9 => h9) rfl (by decide +kernel) rfl rfl (Nat.le_of_ble_eq_true rfl) dXS_init_31 (fun H locs hP hD hS => ?_)
  have hP : va_P (dC, dI) vwCl [(h0, .inr (1, [.int (pz_b true), .int (pz_b false), .int (pz_b false), .int (nI 0), .int (nI 0), .int (pz_b false), .int (nI 0)]))] H := hP
  have hD : va_D A [(h0, .inr (1, [.int (pz_b true), .int (pz_b false), .int (pz_b false), .int (nI 0), .int (nI 0), .int (pz_b false), .int (nI 0)]))] := hD
  refine lv_aload_n hx hb dXS_init_34 rfl (lv_at hl 0 rfl) ?_
  refine lv_iconst (v := nI 0) hx hb dXS_init_35 (by decide) ?_
  refine va_put (D := (dC, dI)) (ci := 1) (v := .int (nI 0)) (ty := .int) (C := "ParityArray$Supply") (T := TXS) (N := 7) hx hb hts (fun w h => List.mem_cons_of_mem _ (inXS w h)) tyXS tyXS_ok nmXS hown hK hP hD hS 0 rfl rfl 6 (by decide) (hts _ (List.mem_cons_of_mem _ tw_38)) (fun _ h9 => h9) rfl (by decide +kernel) rfl rfl (Nat.le_of_ble_eq_true rfl) dXS_init_36 (fun H locs hP hD hS => ?_)
  have hP : va_P (dC, dI) vwCl [(h0, .inr (1, [.int (pz_b true), .int (pz_b false), .int (pz_b false), .int (nI 0), .int (nI 0), .int (pz_b false), .int (nI 0)]))] H := hP
  have hD : va_D A [(h0, .inr (1, [.int (pz_b true), .int (pz_b false), .int (pz_b false), .int (nI 0), .int (nI 0), .int (pz_b false), .int (nI 0)]))] := hD
  exact W.vret hx hb hr (fun t ht hW => ⟨⟨(true, false, false, 0, 0, false, 0), rfl, rfl, by rw [ht]; exact hP, va_K.moved hW.alike hK, hAe ▸ hD⟩, hS.F ht⟩) hS.2.2 dXS_init_39

set_option maxHeartbeats 4000000 in
set_option maxRecDepth 100000 in
theorem c_XD_init (l : Launch) (dC : Nat → ClassId) (dI : Nat → Nat → Nat) (sz : Nat) (h0 : Nat) (cJ : ClassId) : Met l yXD_init wsXD_init ({ frames := 1, cells := 2, slots := 2416, locals := 20 }) (va_Pc [.ref h0] (fun U => U.heap.size = sz ∧ va_P (dC, dI) vwCl [(h0, .inr (0, [.null, .null, .int (nI 0), .int (pz_b false), .int (nI 0)]))] U.heap ∧ va_K (dC, dI) vwCl [(cJ, .long)] U ∧ va_D (fun _ => True) [(h0, .inr (0, [.null, .null, .int (nI 0), .int (pz_b false), .int (nI 0)]))])) (va_Qv (fun (u : Nat × Nat × Nat) => u.1 = h0) (fun u t => va_P (dC, dI) vwCl (pz_DW u.1 u.2.1 u.2.2 cJ (fun _ => 0, fun _ => 0, none, false, 150)) t.heap ∧ va_K (dC, dI) vwCl [(cJ, .long)] t ∧ va_D (va_A [(h0, .inr (0, [.null, .null, .int (nI 0), .int (pz_b false), .int (nI 0)]))] sz) (pz_DW u.1 u.2.1 u.2.2 cJ (fun _ => 0, fun _ => 0, none, false, 150))) (va_A [(h0, .inr (0, [.null, .null, .int (nI 0), .int (pz_b false), .int (nI 0)]))] sz)) 2 2416 (va_A [(h0, .inr (0, [.null, .null, .int (nI 0), .int (pz_b false), .int (nI 0)]))] sz) := by
  refine Met.ofW (cc := cXD_init) (maxL := 1) (ret := none) (by decide) rfl ?_
  intro p e s m args below meth c s₁ B hml hv
  obtain ⟨rfl, hsz, hP, hK, hD0⟩ := hv
  have hx := B.exec
  have hb := B.bytes
  have hr := B.returns
  have hts := atoms_spec (ws := wsXD_init) B.pre
  have hown : s.vm.findClass "ParityArray$Disk" = some m.cls := findClass_of_methodNamed B.named
  have hlocks := B.notSynchronized
  have hin : meth.name = "<init>" := (name_of_methodNamed B.named B.method).1
  subst hsz
  have hD := hD0.self (sz := s.heap.size)
  generalize hAe : va_A [(h0, .inr (0, [.null, .null, .int (nI 0), .int (pz_b false), .int (nI 0)]))] s.heap.size = A at hD ⊢
  have hA : ∀ q : Nat, s.heap.size ≤ q → A q := fun q h => by rw [← hAe]; exact Or.inr h
  have hS : va_S A s.heap s.heap [] := va_S.rf
  have hl := lv_entry ([.ref h0]) (n := 1) (Nat.le_of_ble_eq_true rfl)
  rw [lg_entry_eq]
  generalize (lg_sl ([.ref h0]) ++ List.replicate (1 - (lg_sl ([.ref h0])).length) Slot.unset).toArray = ls at hl ⊢
  have hl : lv_has ls 1 [(0, .ref h0)] := hl
  have hP : va_P (dC, dI) vwCl [(h0, .inr (0, [.null, .null, .int (nI 0), .int (pz_b false), .int (nI 0)]))] s.heap := hP
  have hD : va_D A [(h0, .inr (0, [.null, .null, .int (nI 0), .int (pz_b false), .int (nI 0)]))] := hD
  refine lv_aload_n hx hb dXD_init_0 rfl (lv_at hl 0 rfl) ?_
  refine W.objInit hx hb hown (hts _ (List.mem_cons_of_mem _ tw_58)) (hts _ (List.mem_cons_of_mem _ tw_21)) (hts _ (List.mem_cons_of_mem _ tw_22)) rfl (by rw [hml]; exact hl.1) rfl dXD_init_1 (Nat.le_of_ble_eq_true rfl) (Nat.le_of_ble_eq_true rfl) ?_
  refine W.eq (g2 := F0 m 4 ls []) rfl ?_
  refine lv_aload_n hx hb dXD_init_4 rfl (lv_at hl 0 rfl) ?_
  refine lv_sipush (v := nI 2400) hx hb dXD_init_5 (by decide) ?_
  refine va_newa (atype := .long) (ty := .long) (N' := 2400) (a0 := (2400, .inr (.inl (fun _ => 0)))) hx hb (hts _ (List.mem_cons_of_mem _ tw_79)) rfl hK hP hD hS hA (fun _ => rfl) (nI_pos (by decide)) (nI_clamp (by decide)) (by decide) (Nat.le_of_ble_eq_true rfl) (Nat.le_of_ble_eq_true rfl) dXD_init_8 (fun q1 c1 H hK hP hD hS => ?_)
  have hK : va_K (dC, dI) vwCl [(cJ, .long), (c1, .long)] s := hK
  obtain rfl := pz_sameJ hK (i := 0) (j := 1) rfl rfl
  have hK : va_K (dC, dI) vwCl [(cJ, .long)] s := hK.sub [0] rfl
  have hP : va_P (dC, dI) vwCl [(h0, .inr (0, [.null, .null, .int (nI 0), .int (pz_b false), .int (nI 0)])), (q1, .inl (cJ, 2400, .inr (.inl (fun _ => 0))))] H := hP
  have hD : va_D A [(h0, .inr (0, [.null, .null, .int (nI 0), .int (pz_b false), .int (nI 0)])), (q1, .inl (cJ, 2400, .inr (.inl (fun _ => 0))))] := hD
  refine W.widen (k := 1) (n := 2400) (Nat.le_of_ble_eq_true rfl) (Nat.le_of_ble_eq_true rfl) ?_
  refine va_putF (D := (dC, dI)) (ci := 0) (v := .ref q1) (ty := .array .long) (C := "ParityArray$Disk") (T := TXD) (N := 5) hx hb hts (fun w h => List.mem_cons_of_mem _ (inXD w h)) tyXD tyXD_ok nmXD hown hK hP hD hS 0 rfl rfl 0 (by decide) (hts _ (List.mem_cons_of_mem _ tw_59)) (fun _ h9 => h9) rfl hin rfl (by decide +kernel) rfl rfl (Nat.le_of_ble_eq_true rfl) dXD_init_10 (fun H locs hP hD hS => ?_)
  have hP : va_P (dC, dI) vwCl [(h0, .inr (0, [.ref q1, .null, .int (nI 0), .int (pz_b false), .int (nI 0)])), (q1, .inl (cJ, 2400, .inr (.inl (fun _ => 0))))] H := hP
  have hD : va_D A [(h0, .inr (0, [.ref q1, .null, .int (nI 0), .int (pz_b false), .int (nI 0)])), (q1, .inl (cJ, 2400, .inr (.inl (fun _ => 0))))] := hD
  refine lv_aload_n hx hb dXD_init_13 rfl (lv_at hl 0 rfl) ?_
  refine lv_bipush (v := nI 16) hx hb dXD_init_14 (by decide) ?_
  refine va_newa (atype := .long) (ty := .long) (N' := 16) (a0 := (16, .inr (.inl (fun _ => 0)))) hx hb (hts _ (List.mem_cons_of_mem _ tw_79)) rfl hK hP hD hS hA (fun _ => rfl) (nI_pos (by decide)) (nI_clamp (by decide)) (by decide) (Nat.le_of_ble_eq_true rfl) (Nat.le_of_ble_eq_true rfl) dXD_init_16 (fun q2 c2 H hK hP hD hS => ?_)
  have hK : va_K (dC, dI) vwCl [(cJ, .long), (c2, .long)] s := hK
  obtain rfl := pz_sameJ hK (i := 0) (j := 1) rfl rfl
  have hK : va_K (dC, dI) vwCl [(cJ, .long)] s := hK.sub [0] rfl
  have hP : va_P (dC, dI) vwCl [(h0, .inr (0, [.ref q1, .null, .int (nI 0), .int (pz_b false), .int (nI 0)])), (q1, .inl (cJ, 2400, .inr (.inl (fun _ => 0)))), (q2, .inl (cJ, 16, .inr (.inl (fun _ => 0))))] H := hP
  have hD : va_D A [(h0, .inr (0, [.ref q1, .null, .int (nI 0), .int (pz_b false), .int (nI 0)])), (q1, .inl (cJ, 2400, .inr (.inl (fun _ => 0)))), (q2, .inl (cJ, 16, .inr (.inl (fun _ => 0))))] := hD
  refine W.widen (k := 2) (n := 2416) (Nat.le_of_ble_eq_true rfl) (Nat.le_of_ble_eq_true rfl) ?_
  refine va_putF (D := (dC, dI)) (ci := 0) (v := .ref q2) (ty := .array .long) (C := "ParityArray$Disk") (T := TXD) (N := 5) hx hb hts (fun w h => List.mem_cons_of_mem _ (inXD w h)) tyXD tyXD_ok nmXD hown hK hP hD hS 0 rfl rfl 1 (by decide) (hts _ (List.mem_cons_of_mem _ tw_60)) (fun _ h9 => h9) rfl hin rfl (by decide +kernel) rfl rfl (Nat.le_of_ble_eq_true rfl) dXD_init_18 (fun H locs hP hD hS => ?_)
  have hP : va_P (dC, dI) vwCl [(h0, .inr (0, [.ref q1, .ref q2, .int (nI 0), .int (pz_b false), .int (nI 0)])), (q1, .inl (cJ, 2400, .inr (.inl (fun _ => 0)))), (q2, .inl (cJ, 16, .inr (.inl (fun _ => 0))))] H := hP
  have hD : va_D A [(h0, .inr (0, [.ref q1, .ref q2, .int (nI 0), .int (pz_b false), .int (nI 0)])), (q1, .inl (cJ, 2400, .inr (.inl (fun _ => 0)))), (q2, .inl (cJ, 16, .inr (.inl (fun _ => 0))))] := hD
  refine lv_aload_n hx hb dXD_init_21 rfl (lv_at hl 0 rfl) ?_
  refine lv_iconst (v := (-1)) hx hb dXD_init_22 (by decide) ?_
  refine va_put (D := (dC, dI)) (ci := 0) (v := .int (-1)) (ty := .int) (C := "ParityArray$Disk") (T := TXD) (N := 5) hx hb hts (fun w h => List.mem_cons_of_mem _ (inXD w h)) tyXD tyXD_ok nmXD hown hK hP hD hS 0 rfl rfl 2 (by decide) (hts _ (List.mem_cons_of_mem _ tw_62)) (fun _ h9 => h9) rfl (by decide +kernel) rfl rfl (Nat.le_of_ble_eq_true rfl) dXD_init_23 (fun H locs hP hD hS => ?_)
  have hP : va_P (dC, dI) vwCl [(h0, .inr (0, [.ref q1, .ref q2, .int (-1), .int (pz_b false), .int (nI 0)])), (q1, .inl (cJ, 2400, .inr (.inl (fun _ => 0)))), (q2, .inl (cJ, 16, .inr (.inl (fun _ => 0))))] H := hP
  have hD : va_D A [(h0, .inr (0, [.ref q1, .ref q2, .int (-1), .int (pz_b false), .int (nI 0)])), (q1, .inl (cJ, 2400, .inr (.inl (fun _ => 0)))), (q2, .inl (cJ, 16, .inr (.inl (fun _ => 0))))] := hD
  refine lv_aload_n hx hb dXD_init_26 rfl (lv_at hl 0 rfl) ?_
  refine lv_iconst (v := nI 0) hx hb dXD_init_27 (by decide) ?_
  refine va_put (D := (dC, dI)) (ci := 0) (v := .int (nI 0)) (ty := .boolean) (C := "ParityArray$Disk") (T := TXD) (N := 5) hx hb hts (fun w h => List.mem_cons_of_mem _ (inXD w h)) tyXD tyXD_ok nmXD hown hK hP hD hS 0 rfl rfl 3 (by decide) (hts _ (List.mem_cons_of_mem _ tw_64)) (fun _ h9 => h9) rfl (by decide +kernel) rfl rfl (Nat.le_of_ble_eq_true rfl) dXD_init_28 (fun H locs hP hD hS => ?_)
  have hP : va_P (dC, dI) vwCl [(h0, .inr (0, [.ref q1, .ref q2, .int (-1), .int (pz_b false), .int (nI 0)])), (q1, .inl (cJ, 2400, .inr (.inl (fun _ => 0)))), (q2, .inl (cJ, 16, .inr (.inl (fun _ => 0))))] H := hP
  have hD : va_D A [(h0, .inr (0, [.ref q1, .ref q2, .int (-1), .int (pz_b false), .int (nI 0)])), (q1, .inl (cJ, 2400, .inr (.inl (fun _ => 0)))), (q2, .inl (cJ, 16, .inr (.inl (fun _ => 0))))] := hD
  refine lv_aload_n hx hb dXD_init_31 rfl (lv_at hl 0 rfl) ?_
  refine lv_sipush (v := nI 150) hx hb dXD_init_32 (by decide) ?_
  refine va_put (D := (dC, dI)) (ci := 0) (v := .int (nI 150)) (ty := .int) (C := "ParityArray$Disk") (T := TXD) (N := 5) hx hb hts (fun w h => List.mem_cons_of_mem _ (inXD w h)) tyXD tyXD_ok nmXD hown hK hP hD hS 0 rfl rfl 4 (by decide) (hts _ (List.mem_cons_of_mem _ tw_66)) (fun _ h9 => h9) rfl (by decide +kernel) rfl rfl (Nat.le_of_ble_eq_true rfl) dXD_init_35 (fun H locs hP hD hS => ?_)
  have hP : va_P (dC, dI) vwCl [(h0, .inr (0, [.ref q1, .ref q2, .int (-1), .int (pz_b false), .int (nI 150)])), (q1, .inl (cJ, 2400, .inr (.inl (fun _ => 0)))), (q2, .inl (cJ, 16, .inr (.inl (fun _ => 0))))] H := hP
  have hD : va_D A [(h0, .inr (0, [.ref q1, .ref q2, .int (-1), .int (pz_b false), .int (nI 150)])), (q1, .inl (cJ, 2400, .inr (.inl (fun _ => 0)))), (q2, .inl (cJ, 16, .inr (.inl (fun _ => 0))))] := hD
  exact W.vret hx hb hr (fun t ht hW => ⟨⟨(h0, q1, q2), rfl, rfl, by rw [ht]; exact hP, va_K.moved hW.alike hK, hAe ▸ hD⟩, hS.F ht⟩) hS.2.2 dXD_init_38

set_option maxHeartbeats 4000000 in
set_option maxRecDepth 100000 in
theorem c_XM_init (l : Launch) (dC : Nat → ClassId) (dI : Nat → Nat → Nat) (sz : Nat) (h0 : Nat) : Met l yXM_init wsXM_init ({ frames := 1, cells := 1, slots := 76800, locals := 20 }) (va_Pc [.ref h0] (fun U => U.heap.size = sz ∧ va_P (dC, dI) vwCl [(h0, .inr (3, [.null, .int (pz_b false), .int (nI 0), .int (pz_b false), .int (nI 0), .int (nI 0), .int (nI 0), .int (nI 0), .int (nI 0)]))] U.heap ∧ va_K (dC, dI) vwCl [] U ∧ va_D (fun _ => True) [(h0, .inr (3, [.null, .int (pz_b false), .int (nI 0), .int (pz_b false), .int (nI 0), .int (nI 0), .int (nI 0), .int (nI 0), .int (nI 0)]))])) (va_Qv (fun (u : Nat × ClassId) => True) (fun u t => va_P (dC, dI) vwCl (pz_MW h0 u.1 u.2 (fun _ => 0) (fun _ => 0, true, none, false, 0, 0, 0, 0) 0) t.heap ∧ va_K (dC, dI) vwCl [(u.2, .byte)] t ∧ va_D (va_A [(h0, .inr (3, [.null, .int (pz_b false), .int (nI 0), .int (pz_b false), .int (nI 0), .int (nI 0), .int (nI 0), .int (nI 0), .int (nI 0)]))] sz) (pz_MW h0 u.1 u.2 (fun _ => 0) (fun _ => 0, true, none, false, 0, 0, 0, 0) 0)) (va_A [(h0, .inr (3, [.null, .int (pz_b false), .int (nI 0), .int (pz_b false), .int (nI 0), .int (nI 0), .int (nI 0), .int (nI 0), .int (nI 0)]))] sz)) 1 76800 (va_A [(h0, .inr (3, [.null, .int (pz_b false), .int (nI 0), .int (pz_b false), .int (nI 0), .int (nI 0), .int (nI 0), .int (nI 0), .int (nI 0)]))] sz) := by
  refine Met.ofW (cc := cXM_init) (maxL := 1) (ret := none) (by decide) rfl ?_
  intro p e s m args below meth c s₁ B hml hv
  obtain ⟨rfl, hsz, hP, hK, hD0⟩ := hv
  have hx := B.exec
  have hb := B.bytes
  have hr := B.returns
  have hts := atoms_spec (ws := wsXM_init) B.pre
  have hown : s.vm.findClass "ParityArrayModel" = some m.cls := findClass_of_methodNamed B.named
  have hlocks := B.notSynchronized
  have hin : meth.name = "<init>" := (name_of_methodNamed B.named B.method).1
  subst hsz
  have hD := hD0.self (sz := s.heap.size)
  generalize hAe : va_A [(h0, .inr (3, [.null, .int (pz_b false), .int (nI 0), .int (pz_b false), .int (nI 0), .int (nI 0), .int (nI 0), .int (nI 0), .int (nI 0)]))] s.heap.size = A at hD ⊢
  have hA : ∀ q : Nat, s.heap.size ≤ q → A q := fun q h => by rw [← hAe]; exact Or.inr h
  have hS : va_S A s.heap s.heap [] := va_S.rf
  have hl := lv_entry ([.ref h0]) (n := 1) (Nat.le_of_ble_eq_true rfl)
  rw [lg_entry_eq]
  generalize (lg_sl ([.ref h0]) ++ List.replicate (1 - (lg_sl ([.ref h0])).length) Slot.unset).toArray = ls at hl ⊢
  have hl : lv_has ls 1 [(0, .ref h0)] := hl
  have hP : va_P (dC, dI) vwCl [(h0, .inr (3, [.null, .int (pz_b false), .int (nI 0), .int (pz_b false), .int (nI 0), .int (nI 0), .int (nI 0), .int (nI 0), .int (nI 0)]))] s.heap := hP
  have hD : va_D A [(h0, .inr (3, [.null, .int (pz_b false), .int (nI 0), .int (pz_b false), .int (nI 0), .int (nI 0), .int (nI 0), .int (nI 0), .int (nI 0)]))] := hD
  refine lv_aload_n hx hb dXM_init_0 rfl (lv_at hl 0 rfl) ?_
  refine W.objInit hx hb hown (hts _ (List.mem_cons_of_mem _ tw_389)) (hts _ (List.mem_cons_of_mem _ tw_21)) (hts _ (List.mem_cons_of_mem _ tw_22)) rfl (by rw [hml]; exact hl.1) rfl dXM_init_1 (Nat.le_of_ble_eq_true rfl) (Nat.le_of_ble_eq_true rfl) ?_
  refine W.eq (g2 := F0 m 4 ls []) rfl ?_
  refine lv_aload_n hx hb dXM_init_4 rfl (lv_at hl 0 rfl) ?_
  refine lv_ldc (v := nI 76800) hx hb hown (hts _ (List.mem_cons_of_mem _ tw_390)) dXM_init_5 ?_
  refine va_newa (atype := .byte) (ty := .byte) (N' := 76800) (a0 := (76800, .inl (fun _ => 0))) hx hb (hts _ (List.mem_cons_of_mem _ tw_174)) rfl hK hP hD hS hA (fun _ => rfl) (nI_pos (by decide)) (nI_clamp (by decide)) (by decide) (Nat.le_of_ble_eq_true rfl) (Nat.le_of_ble_eq_true rfl) dXM_init_7 (fun q1 c1 H hK hP hD hS => ?_)
  have hK : va_K (dC, dI) vwCl [(c1, .byte)] s := hK
  have hP : va_P (dC, dI) vwCl [(h0, .inr (3, [.null, .int (pz_b false), .int (nI 0), .int (pz_b false), .int (nI 0), .int (nI 0), .int (nI 0), .int (nI 0), .int (nI 0)])), (q1, .inl (c1, 76800, .inl (fun _ => 0)))] H := hP
  have hD : va_D A [(h0, .inr (3, [.null, .int (pz_b false), .int (nI 0), .int (pz_b false), .int (nI 0), .int (nI 0), .int (nI 0), .int (nI 0), .int (nI 0)])), (q1, .inl (c1, 76800, .inl (fun _ => 0)))] := hD
  refine W.widen (k := 1) (n := 76800) (Nat.le_of_ble_eq_true rfl) (Nat.le_of_ble_eq_true rfl) ?_
  refine va_putF (D := (dC, dI)) (ci := 3) (v := .ref q1) (ty := .array .byte) (C := "ParityArrayModel") (T := TXM) (N := 9) hx hb hts (fun w h => List.mem_cons_of_mem _ (inXM w h)) tyXM tyXM_ok nmXM hown hK hP hD hS 0 rfl rfl 0 (by decide) (hts _ (List.mem_cons_of_mem _ tw_391)) (fun _ h9 => h9) rfl hin rfl (by decide +kernel) rfl rfl (Nat.le_of_ble_eq_true rfl) dXM_init_9 (fun H locs hP hD hS => ?_)
  have hP : va_P (dC, dI) vwCl [(h0, .inr (3, [.ref q1, .int (pz_b false), .int (nI 0), .int (pz_b false), .int (nI 0), .int (nI 0), .int (nI 0), .int (nI 0), .int (nI 0)])), (q1, .inl (c1, 76800, .inl (fun _ => 0)))] H := hP
  have hD : va_D A [(h0, .inr (3, [.ref q1, .int (pz_b false), .int (nI 0), .int (pz_b false), .int (nI 0), .int (nI 0), .int (nI 0), .int (nI 0), .int (nI 0)])), (q1, .inl (c1, 76800, .inl (fun _ => 0)))] := hD
  refine lv_aload_n hx hb dXM_init_12 rfl (lv_at hl 0 rfl) ?_
  refine lv_iconst (v := nI 1) hx hb dXM_init_13 (by decide) ?_
  refine va_put (D := (dC, dI)) (ci := 3) (v := .int (nI 1)) (ty := .boolean) (C := "ParityArrayModel") (T := TXM) (N := 9) hx hb hts (fun w h => List.mem_cons_of_mem _ (inXM w h)) tyXM tyXM_ok nmXM hown hK hP hD hS 0 rfl rfl 1 (by decide) (hts _ (List.mem_cons_of_mem _ tw_392)) (fun _ h9 => h9) rfl (by decide +kernel) rfl rfl (Nat.le_of_ble_eq_true rfl) dXM_init_14 (fun H locs hP hD hS => ?_)
  have hP : va_P (dC, dI) vwCl [(h0, .inr (3, [.ref q1, .int (pz_b true), .int (nI 0), .int (pz_b false), .int (nI 0), .int (nI 0), .int (nI 0), .int (nI 0), .int (nI 0)])), (q1, .inl (c1, 76800, .inl (fun _ => 0)))] H := hP
  have hD : va_D A [(h0, .inr (3, [.ref q1, .int (pz_b true), .int (nI 0), .int (pz_b false), .int (nI 0), .int (nI 0), .int (nI 0), .int (nI 0), .int (nI 0)])), (q1, .inl (c1, 76800, .inl (fun _ => 0)))] := hD
  refine lv_aload_n hx hb dXM_init_17 rfl (lv_at hl 0 rfl) ?_
  refine lv_iconst (v := (-1)) hx hb dXM_init_18 (by decide) ?_
  refine va_put (D := (dC, dI)) (ci := 3) (v := .int (-1)) (ty := .int) (C := "ParityArrayModel") (T := TXM) (N := 9) hx hb hts (fun w h => List.mem_cons_of_mem _ (inXM w h)) tyXM tyXM_ok nmXM hown hK hP hD hS 0 rfl rfl 2 (by decide) (hts _ (List.mem_cons_of_mem _ tw_393)) (fun _ h9 => h9) rfl (by decide +kernel) rfl rfl (Nat.le_of_ble_eq_true rfl) dXM_init_19 (fun H locs hP hD hS => ?_)
  have hP : va_P (dC, dI) vwCl [(h0, .inr (3, [.ref q1, .int (pz_b true), .int (-1), .int (pz_b false), .int (nI 0), .int (nI 0), .int (nI 0), .int (nI 0), .int (nI 0)])), (q1, .inl (c1, 76800, .inl (fun _ => 0)))] H := hP
  have hD : va_D A [(h0, .inr (3, [.ref q1, .int (pz_b true), .int (-1), .int (pz_b false), .int (nI 0), .int (nI 0), .int (nI 0), .int (nI 0), .int (nI 0)])), (q1, .inl (c1, 76800, .inl (fun _ => 0)))] := hD
  exact W.vret hx hb hr (fun t ht hW => ⟨⟨(q1, c1), rfl, trivial, by rw [ht]; exact hP, va_K.moved hW.alike hK, hAe ▸ hD⟩, hS.F ht⟩) hS.2.2 dXM_init_22

set_option maxHeartbeats 4000000 in
set_option maxRecDepth 100000 in
theorem c_XP_isParityRight (l : Launch) (dC : Nat → ClassId) (dI : Nat → Nat → Nat) (a : pz_Ad) (cJ cD : ClassId) (dk : Nat → pz_Dk) (su : pz_Su) (bl pt py : Nat → Int64) (s0 : Nat) (hth : ∀ d, d < 5 → pz_th (dk d) ≤ 150) (hs0 : s0 < 150) (hck : ∀ j, j < 16 → pz_R (dk (s0 % 5)) (16 * s0 + j) = pz_oth (fun e => pz_R (dk e) (16 * s0 + j)) (s0 % 5) 5) : Met l yXP_isParityRight wsXP_isParityRight ({ frames := 2, cells := 0, slots := 0, locals := 48 }) (va_Pc [.ref (pz_ax a), .int (nI s0)] (fun U => va_P (dC, dI) vwCl (pz_XW a cJ cD dk su bl pt py) U.heap ∧ va_K (dC, dI) vwCl [(cJ, .long), (cD, .object "ParityArray$Disk")] U)) (va_Qi (fun (r : Int32) (u : Unit) => r = nI 1) (fun _ _ => True) (fun _ => False)) 0 0 (fun _ => False) := by
  refine Met.ofW (cc := cXP_isParityRight) (maxL := 4) (ret := (some .boolean)) (by decide) rfl ?_
  intro p e s m args below meth c s₁ B hml hv
  obtain ⟨rfl, hP, hK⟩ := hv
  have hx := B.exec
  have hb := B.bytes
  have hr := B.returns
  have hts := atoms_spec (ws := wsXP_isParityRight) B.pre
  have hown : s.vm.findClass "ParityArray" = some m.cls := findClass_of_methodNamed B.named
  have hlocks := B.notSynchronized
  have hS : va_S (fun _ => False) s.heap s.heap [] := va_S.rf
  have hl := lv_entry ([.ref (pz_ax a), .int (nI s0)]) (n := 4) (Nat.le_of_ble_eq_true rfl)
  rw [lg_entry_eq]
  generalize (lg_sl ([.ref (pz_ax a), .int (nI s0)]) ++ List.replicate (4 - (lg_sl ([.ref (pz_ax a), .int (nI s0)])).length) Slot.unset).toArray = ls at hl ⊢
  have hl : lv_has ls 4 [(0, .ref (pz_ax a)), (1, .int (nI s0))] := hl
  have hP : va_P (dC, dI) vwCl (pz_XW a cJ cD dk su bl pt py) s.heap := hP
  refine lv_iload_n hx hb dXP_isParityRight_0 rfl (lv_at hl 1 rfl) ?_
  refine va_calli (va_runS (As := [.int (nI s0)]) (rest := []) ⟨hx, hb, hml, hown, hts⟩ (c_XP_parityDiskOf l s0 hs0) (va_cwS 1 hts (pz_gc (List.mem_cons_of_mem _ tw_204) rfl (pz_gc (List.mem_cons_of_mem _ tw_205) rfl (pz_gc (List.mem_cons_of_mem _ tw_1) rfl (pz_gi tcXP_parityDiskOf)))) rfl rfl rfl (by decide +kernel) ⟨Nat.le_of_ble_eq_true rfl, Nat.le_of_ble_eq_true rfl⟩) pz_preS0 rfl rfl hl.1 rfl (lv_room (Nat.le_of_ble_eq_true rfl)) dXP_isParityRight_1 ⟨Nat.zero_le _, Nat.zero_le _⟩) hS (fun q _ h => h.elim) (fun q h => h.elim) (fun r u t H locs ht hvm hw _ hz hk9 hS => ?_)
  have hP := pz_keep hP hk9
  clear hk9 hz ht hvm
  subst hw
  refine lv_istore_n hx hb dXP_isParityRight_4 rfl hl (by decide) rfl (fun ls hl => ?_)
  have hl : lv_has ls 4 [(2, .int (nI (s0 % 5))), (0, .ref (pz_ax a)), (1, .int (nI s0))] := hl
  refine lv_iconst (v := nI 0) hx hb dXP_isParityRight_5 (by decide) ?_
  refine lv_istore_n hx hb dXP_isParityRight_6 rfl hl (by decide) rfl (fun ls hl => ?_)
  have hl : lv_has ls 4 [(3, .int (nI 0)), (2, .int (nI (s0 % 5))), (0, .ref (pz_ax a)), (1, .int (nI s0))] := hl
  refine pz_loop (fun _ => 0) (fun _ => 0) 16 (fun k ls H locs => lv_has ls 4 [(3, .int (nI k)), (2, .int (nI (s0 % 5))), (0, .ref (pz_ax a)), (1, .int (nI s0))] ∧ va_P (dC, dI) vwCl (pz_XW a cJ cD dk su bl pt py) H ∧ va_S (fun _ => False) s.heap H locs) ?_ ?_ 16 0 (by omega) _ _ _ ⟨hl, hP, hS⟩
  · intro k ls H locs hk hI ih
    obtain ⟨hl, hP, hS⟩ := hI
    refine lv_iload_n hx hb dXP_isParityRight_7 rfl (lv_at hl 0 rfl) ?_
    refine lv_bipush (v := nI 16) hx hb dXP_isParityRight_8 (by decide) ?_
    refine lv_icmp_ge (tgt := 43) hx hb dXP_isParityRight_10 (by decide) (fun hc => absurd hc (nI_ge hk (by decide))) (fun _ => ?_)
    refine lv_aload_n hx hb dXP_isParityRight_13 rfl (lv_at hl 2 rfl) ?_
    refine va_get (D := (dC, dI)) (ci := 2) (v := .ref (pz_ad a)) (C := "ParityArray") (T := TXP) (N := 5) hx hb hts (fun w h => List.mem_cons_of_mem _ (inXP w h)) hown hK hP 0 rfl rfl 0 (by decide) (hts _ (List.mem_cons_of_mem _ tw_80)) (fun _ h9 => h9) rfl dXP_isParityRight_14 ?_
    refine lv_iload_n hx hb dXP_isParityRight_17 rfl (lv_at hl 1 rfl) ?_
    refine pz_ald hx hb hK hP 1 rfl (show s0 % 5 < 5 by omega) dXP_isParityRight_18 ?_
    refine lv_iload_n hx hb dXP_isParityRight_19 rfl (lv_at hl 3 rfl) ?_
    refine lv_iload_n hx hb dXP_isParityRight_20 rfl (lv_at hl 0 rfl) ?_
    refine va_calll (va_runV (As := [.int (nI s0), .int (nI k)]) (rest := []) ⟨hx, hb, hml, hown, hts⟩ (c_XD_longAt l dC dI _ _ _ cJ (dk (s0 % 5)) s0 k hs0 hk) (cwV 2 hts (pz_gc (List.mem_cons_of_mem _ tw_211) rfl (pz_gc (List.mem_cons_of_mem _ tw_212) rfl (pz_gc (List.mem_cons_of_mem _ tw_213) rfl (pz_gc (List.mem_cons_of_mem _ tw_3) rfl (pz_gi tcXD_longAt))))) rfl rfl rfl (by decide +kernel) ⟨Nat.le_of_ble_eq_true rfl, Nat.le_of_ble_eq_true rfl⟩) (pz_preV (va_recv hK (pz_Xd_P (d := (s0 % 5)) (show s0 % 5 < 5 by omega) hP) (q0 := 0) rfl rfl) (pz_Xd_P (d := (s0 % 5)) (show s0 % 5 < 5 by omega) hP) (hK.sub [0] rfl)) rfl rfl hl.1 rfl (lv_room (Nat.le_of_ble_eq_true rfl)) dXP_isParityRight_21 ⟨Nat.zero_le _, Nat.zero_le _⟩) hS (fun q _ h => h.elim) (fun q h => h.elim) (fun r u t H locs ht hvm hw _ hz hk9 hS => ?_)
    have hP := pz_keep hP hk9
    clear hk9 hz ht hvm
    subst hw
    refine lv_aload_n hx hb dXP_isParityRight_24 rfl (lv_at hl 2 rfl) ?_
    refine lv_iload_n hx hb dXP_isParityRight_25 rfl (lv_at hl 1 rfl) ?_
    refine lv_iload_n hx hb dXP_isParityRight_26 rfl (lv_at hl 3 rfl) ?_
    refine lv_iload_n hx hb dXP_isParityRight_27 rfl (lv_at hl 0 rfl) ?_
    refine va_calll (va_runV (As := [.int (nI (s0 % 5)), .int (nI s0), .int (nI k)]) (rest := [.long (pz_R (dk (s0 % 5)) (16 * s0 + k))]) ⟨hx, hb, hml, hown, hts⟩ (c_XP_othersTogether l dC dI a cJ cD dk su bl pt py (s0 % 5) s0 k hth (show s0 % 5 < 5 by omega) hs0 hk) (cwV 3 hts (pz_gc (List.mem_cons_of_mem _ tw_215) rfl (pz_gc (List.mem_cons_of_mem _ tw_217) rfl (pz_gc (List.mem_cons_of_mem _ ts_2) rfl (pz_gc (List.mem_cons_of_mem _ tw_1) rfl (pz_gi tcXP_othersTogether))))) rfl rfl rfl (by decide +kernel) ⟨Nat.le_of_ble_eq_true rfl, Nat.le_of_ble_eq_true rfl⟩) (pz_preV (va_recv hK hP (q0 := 0) rfl rfl) hP hK) rfl rfl hl.1 rfl (lv_room (Nat.le_of_ble_eq_true rfl)) dXP_isParityRight_28 ⟨Nat.zero_le _, Nat.zero_le _⟩) hS (fun q _ h => h.elim) (fun q h => h.elim) (fun r u t H locs ht hvm hw _ hz hk9 hS => ?_)
    have hP := pz_keep hP hk9
    clear hk9 hz ht hvm
    subst hw
    refine W.lcmp hx hb dXP_isParityRight_31 ?_
    refine lv_if_eq (tgt := 37) hx hb dXP_isParityRight_32 (by decide) (fun _ => ?_) (fun hc => absurd hc (fun h9 => h9 ((lg_cmp_eq _ _).mpr (hck k hk))))
    refine lv_iinc (k := 0) (v := nI (k + 1)) hx hb dXP_isParityRight_37 hl rfl (by rw [nI_succ]; rfl) (by decide) rfl (fun ls hl => ?_)
    have hl : lv_has ls 4 [(3, .int (nI (k + 1))), (2, .int (nI (s0 % 5))), (0, .ref (pz_ax a)), (1, .int (nI s0))] := hl
    refine lv_goto (tgt := 7) hx hb dXP_isParityRight_40 (by decide) ?_
    exact ih _ _ _ ⟨hl, hP, hS⟩
  · intro ls H locs hI
    obtain ⟨hl, hP, hS⟩ := hI
    refine lv_iload_n hx hb dXP_isParityRight_7 rfl (lv_at hl 0 rfl) ?_
    refine lv_bipush (v := nI 16) hx hb dXP_isParityRight_8 (by decide) ?_
    refine lv_icmp_ge (tgt := 43) hx hb dXP_isParityRight_10 (by decide) (fun _ => ?_) (fun hc => absurd hc (fun h9 => h9 (nI_le (Nat.le_refl 16) (by decide))))
    refine lv_iconst (v := nI 1) hx hb dXP_isParityRight_43 (by decide) ?_
    exact W.zret (v := nI 1) hx hb hr rfl (fun t ht hW => ⟨⟨_, (), rfl, rfl, trivial⟩, hS.F ht⟩) hS.2.2 dXP_isParityRight_44

set_option maxHeartbeats 4000000 in
set_option maxRecDepth 100000 in
/-- a parity mended -/
theorem c_XP_mendParity (l : Launch) (dC : Nat → ClassId) (dI : Nat → Nat → Nat) (sz : Nat) (a : pz_Ad) (cJ cD : ClassId) (dk : Nat → pz_Dk) (su : pz_Su) (bl pt py : Nat → Int64) (d0 : Nat) (hth : ∀ d, d < 5 → pz_th (dk d) ≤ 150) (hcw : pz_cw su ≤ 10) (hcb : pz_cb su ≤ 200) (hwc : pz_wc su < 50) (hd0 : d0 < 5) (hrb : ∀ n, pz_rb (dk d0) = some n → n < 600) : Met l yXP_mendParity wsXP_mendParity ({ frames := 2, cells := 0, slots := 0, locals := 108 }) (va_Pc [.ref (pz_ax a), .ref ((pz_da a d0).1)] (fun U => U.heap.size = sz ∧ va_P (dC, dI) vwCl (pz_XW a cJ cD dk su bl pt py) U.heap ∧ va_K (dC, dI) vwCl [(cJ, .long), (cD, .object "ParityArray$Disk")] U ∧ va_D (fun _ => True) (pz_XW a cJ cD dk su bl pt py) ∧ pz_NW U)) (va_Qv (fun (u : ((Nat → pz_Dk) × pz_Su) × (Nat → Int64)) => u.1 = pz_mend (dk, su) d0) (fun u t => va_P (dC, dI) vwCl (pz_XW a cJ cD u.1.1 u.1.2 bl pt u.2) t.heap ∧ va_K (dC, dI) vwCl [(cJ, .long), (cD, .object "ParityArray$Disk")] t ∧ va_D (va_A (pz_XW a cJ cD dk su bl pt py) sz) (pz_XW a cJ cD u.1.1 u.1.2 bl pt u.2)) (va_A (pz_XW a cJ cD dk su bl pt py) sz)) 0 0 (va_A (pz_XW a cJ cD dk su bl pt py) sz) := by
  refine Met.ofW (cc := cXP_mendParity) (maxL := 6) (ret := none) (by decide) rfl ?_
  intro p e s m args below meth c s₁ B hml hv
  obtain ⟨rfl, hsz, hP, hK, hD0, hNW⟩ := hv
  have hx := B.exec
  have hb := B.bytes
  have hr := B.returns
  have hts := atoms_spec (ws := wsXP_mendParity) B.pre
  have hown : s.vm.findClass "ParityArray" = some m.cls := findClass_of_methodNamed B.named
  have hlocks := B.notSynchronized
  subst hsz
  have hD := hD0.self (sz := s.heap.size)
  generalize hAe : va_A (pz_XW a cJ cD dk su bl pt py) s.heap.size = A at hD ⊢
  have hA : ∀ q : Nat, s.heap.size ≤ q → A q := fun q h => by rw [← hAe]; exact Or.inr h
  have hS : va_S A s.heap s.heap [] := va_S.rf
  have hl := lv_entry ([.ref (pz_ax a), .ref ((pz_da a d0).1)]) (n := 6) (Nat.le_of_ble_eq_true rfl)
  rw [lg_entry_eq]
  generalize (lg_sl ([.ref (pz_ax a), .ref ((pz_da a d0).1)]) ++ List.replicate (6 - (lg_sl ([.ref (pz_ax a), .ref ((pz_da a d0).1)])).length) Slot.unset).toArray = ls at hl ⊢
  have hl : lv_has ls 6 [(0, .ref (pz_ax a)), (1, .ref ((pz_da a d0).1))] := hl
  have hP : va_P (dC, dI) vwCl (pz_XW a cJ cD dk su bl pt py) s.heap := hP
  have hD : va_D A (pz_XW a cJ cD dk su bl pt py) := hD
  refine lv_aload_n hx hb dXP_mendParity_0 rfl (lv_at hl 1 rfl) ?_
  refine va_getN (D := (dC, dI)) (ci := 0) (v := .int (pz_o (pz_rb (dk d0)))) (C := "ParityArray$Disk") (T := TXD) (N := 5) hx hb hts (fun w h => List.mem_cons_of_mem _ (inXD w h)) hown hK hP (6 + 3 * d0) (pz_X_o hd0) rfl 2 (by decide) (va_Nw.use rfl (hNW _ (List.mem_of_getElem? (i := 4) rfl))) (fun _ h9 => h9) rfl dXP_mendParity_1 ?_
  refine lv_istore_n hx hb dXP_mendParity_4 rfl hl (by decide) rfl (fun ls hl => ?_)
  have hl : lv_has ls 6 [(2, .int (pz_o (pz_rb (dk d0)))), (0, .ref (pz_ax a)), (1, .ref ((pz_da a d0).1))] := hl
  refine lv_iload_n hx hb dXP_mendParity_5 rfl (lv_at hl 0 rfl) ?_
  refine lv_iconst (v := (-1)) hx hb dXP_mendParity_6 (by decide) ?_
  refine lv_icmp_ne (tgt := 11) hx hb dXP_mendParity_7 (by decide) (fun hc => ?_) (fun hc => ?_)
  · obtain ⟨n0, hn⟩ : ∃ n0, pz_rb (dk d0) = some n0 := by
      cases h9 : pz_rb (dk d0) with
      | none => exact absurd ((pz_om1 hrb).mpr h9) hc
      | some z => exact ⟨z, rfl⟩
    have hn0 := hrb n0 hn
    rw [hn] at hl
    have hl : lv_has ls 6 [(2, .int (nI n0)), (0, .ref (pz_ax a)), (1, .ref ((pz_da a d0).1))] := hl
    refine lv_iload_n hx hb dXP_mendParity_11 rfl (lv_at hl 0 rfl) ?_
    refine va_calli (va_runS (As := [.int (nI n0)]) (rest := []) ⟨hx, hb, hml, hown, hts⟩ (c_XP_stripeOf l n0 hn0) (va_cwS 1 hts (pz_gc (List.mem_cons_of_mem _ tw_198) rfl (pz_gc (List.mem_cons_of_mem _ tw_199) rfl (pz_gc (List.mem_cons_of_mem _ tw_1) rfl (pz_gi tcXP_stripeOf)))) rfl rfl rfl (by decide +kernel) ⟨Nat.le_of_ble_eq_true rfl, Nat.le_of_ble_eq_true rfl⟩) pz_preS0 rfl rfl hl.1 rfl (lv_room (Nat.le_of_ble_eq_true rfl)) dXP_mendParity_12 ⟨Nat.zero_le _, Nat.zero_le _⟩) hS (fun q _ h => h.elim) (fun q h => h.elim) (fun r u t H locs ht hvm hw _ hz hk9 hS => ?_)
    have hP := pz_keep hP hk9
    clear hk9 hz ht hvm
    subst hw
    refine lv_istore_n hx hb dXP_mendParity_15 rfl hl (by decide) rfl (fun ls hl => ?_)
    have hl : lv_has ls 6 [(3, .int (nI (n0 / 4))), (2, .int (nI n0)), (0, .ref (pz_ax a)), (1, .ref ((pz_da a d0).1))] := hl
    refine lv_aload_n hx hb dXP_mendParity_16 rfl (lv_at hl 2 rfl) ?_
    refine va_get (D := (dC, dI)) (ci := 2) (v := .ref (pz_ad a)) (C := "ParityArray") (T := TXP) (N := 5) hx hb hts (fun w h => List.mem_cons_of_mem _ (inXP w h)) hown hK hP 0 rfl rfl 0 (by decide) (hts _ (List.mem_cons_of_mem _ tw_80)) (fun _ h9 => h9) rfl dXP_mendParity_17 ?_
    refine lv_iload_n hx hb dXP_mendParity_20 rfl (lv_at hl 1 rfl) ?_
    refine va_calli (va_runS (As := [.int (nI n0)]) (rest := [.ref (pz_ad a)]) ⟨hx, hb, hml, hown, hts⟩ (c_XP_diskOf l n0 hn0) (va_cwS 1 hts (pz_gc (List.mem_cons_of_mem _ tw_201) rfl (pz_gc (List.mem_cons_of_mem _ tw_202) rfl (pz_gc (List.mem_cons_of_mem _ tw_1) rfl (pz_gi tcXP_diskOf)))) rfl rfl rfl (by decide +kernel) ⟨Nat.le_of_ble_eq_true rfl, Nat.le_of_ble_eq_true rfl⟩) pz_preS0 rfl rfl hl.1 rfl (lv_room (Nat.le_of_ble_eq_true rfl)) dXP_mendParity_21 ⟨Nat.zero_le _, Nat.zero_le _⟩) hS (fun q _ h => h.elim) (fun q h => h.elim) (fun r u t H locs ht hvm hw _ hz hk9 hS => ?_)
    have hP := pz_keep hP hk9
    clear hk9 hz ht hvm
    subst hw
    refine pz_ald hx hb hK hP 1 rfl (pz_dn_lt n0) dXP_mendParity_24 ?_
    refine lv_astore hx hb dXP_mendParity_25 hl (by decide) rfl (fun ls hl => ?_)
    have hl : lv_has ls 6 [(4, .ref ((pz_da a (pz_dn n0)).1)), (3, .int (nI (n0 / 4))), (2, .int (nI n0)), (0, .ref (pz_ax a)), (1, .ref ((pz_da a d0).1))] := hl
    refine lv_aload hx hb dXP_mendParity_27 (lv_at hl 0 rfl) ?_
    refine lv_iload_n hx hb dXP_mendParity_29 rfl (lv_at hl 1 rfl) ?_
    refine va_calli (va_runV (As := [.int (nI (n0 / 4))]) (rest := []) ⟨hx, hb, hml, hown, hts⟩ (c_XD_isThere l dC dI _ _ _ cJ (dk (pz_dn n0)) (n0 / 4) (hth _ (pz_dn_lt n0)) (by omega)) (cwV 1 hts (pz_gc (List.mem_cons_of_mem _ tw_207) rfl (pz_gc (List.mem_cons_of_mem _ tw_208) rfl (pz_gc (List.mem_cons_of_mem _ tw_209) rfl (pz_gc (List.mem_cons_of_mem _ tw_3) rfl (pz_gi tcXD_isThere))))) rfl rfl rfl (by decide +kernel) ⟨Nat.le_of_ble_eq_true rfl, Nat.le_of_ble_eq_true rfl⟩) (pz_preV (va_recv hK (pz_Xd_P (d := (pz_dn n0)) (pz_dn_lt n0) hP) (q0 := 0) rfl rfl) (pz_Xd_P (d := (pz_dn n0)) (pz_dn_lt n0) hP) (hK.sub [0] rfl)) rfl rfl hl.1 rfl (lv_room (Nat.le_of_ble_eq_true rfl)) dXP_mendParity_30 ⟨Nat.zero_le _, Nat.zero_le _⟩) hS (fun q _ h => h.elim) (fun q h => h.elim) (fun r u t H locs ht hvm hw _ hz hk9 hS => ?_)
    have hP := pz_keep hP hk9
    clear hk9 hz ht hvm
    subst hw
    refine lv_if_ne (tgt := 37) hx hb dXP_mendParity_33 (by decide) (fun hc => ?_) (fun hc => ?_)
    · have hc : (decide (n0 / 4 < pz_th (dk (pz_dn n0)))) = true := pz_bn hc
      have hc := of_decide_eq_true hc
      refine lv_iconst (v := nI 0) hx hb dXP_mendParity_37 (by decide) ?_
      refine lv_istore hx hb dXP_mendParity_38 hl (by decide) rfl (fun ls hl => ?_)
      have hl : lv_has ls 6 [(5, .int (nI 0)), (4, .ref ((pz_da a (pz_dn n0)).1)), (3, .int (nI (n0 / 4))), (2, .int (nI n0)), (0, .ref (pz_ax a)), (1, .ref ((pz_da a d0).1))] := hl
      refine pz_loop (fun _ => 0) (fun _ => 0) 16 (fun k ls H locs => ∃ py1 : Nat → Int64, lv_has ls 6 [(5, .int (nI k)), (4, .ref ((pz_da a (pz_dn n0)).1)), (3, .int (nI (n0 / 4))), (2, .int (nI n0)), (0, .ref (pz_ax a)), (1, .ref ((pz_da a d0).1))] ∧ va_P (dC, dI) vwCl (pz_XW a cJ cD dk su bl pt py1) H ∧ va_D A (pz_XW a cJ cD dk su bl pt py1) ∧ va_S A s.heap H locs ∧ ∀ j, j < k → py1 j = pz_rc (dk d0) j ^^^ pz_R (dk (pz_dn n0)) (16 * (n0 / 4) + j)) ?_ ?_ 16 0 (by omega) _ _ _ ⟨py, hl, hP, hD, hS, fun j h9 => absurd h9 (Nat.not_lt_zero _)⟩
      · intro k ls H locs hk hI ih
        obtain ⟨py1, hl, hP, hD, hS, hq⟩ := hI
        refine lv_iload hx hb dXP_mendParity_40 (lv_at hl 0 rfl) ?_
        refine lv_bipush (v := nI 16) hx hb dXP_mendParity_42 (by decide) ?_
        refine lv_icmp_ge (tgt := 76) hx hb dXP_mendParity_44 (by decide) (fun hc => absurd hc (nI_ge hk (by decide))) (fun _ => ?_)
        refine lv_aload_n hx hb dXP_mendParity_47 rfl (lv_at hl 4 rfl) ?_
        refine va_get (D := (dC, dI)) (ci := 2) (v := .ref (pz_ay a)) (C := "ParityArray") (T := TXP) (N := 5) hx hb hts (fun w h => List.mem_cons_of_mem _ (inXP w h)) hown hK hP 0 rfl rfl 4 (by decide) (hts _ (List.mem_cons_of_mem _ tw_84)) (fun _ h9 => h9) rfl dXP_mendParity_48 ?_
        refine lv_iload hx hb dXP_mendParity_51 (lv_at hl 0 rfl) ?_
        refine lv_aload_n hx hb dXP_mendParity_53 rfl (lv_at hl 5 rfl) ?_
        refine va_getN (D := (dC, dI)) (ci := 0) (v := .ref ((pz_da a d0).2.2)) (C := "ParityArray$Disk") (T := TXD) (N := 5) hx hb hts (fun w h => List.mem_cons_of_mem _ (inXD w h)) hown hK hP (6 + 3 * d0) (pz_X_o hd0) rfl 1 (by decide) (va_Nw.use rfl (hNW _ (List.mem_of_getElem? (i := 3) rfl))) (fun _ h9 => h9) rfl dXP_mendParity_54 ?_
        refine lv_iload hx hb dXP_mendParity_57 (lv_at hl 0 rfl) ?_
        refine va_lald hx hb hK hP (8 + 3 * d0) 0 (pz_X_c hd0) rfl (vp_in_nI (by omega) (by decide)) dXP_mendParity_59 ?_
        refine lv_topl (nm_r (congrArg (pz_rc (dk d0)) (nI_clamp (by omega))) ?_)
        refine lv_aload hx hb dXP_mendParity_60 (lv_at hl 1 rfl) ?_
        refine lv_iload_n hx hb dXP_mendParity_62 rfl (lv_at hl 2 rfl) ?_
        refine lv_iload hx hb dXP_mendParity_63 (lv_at hl 0 rfl) ?_
        refine va_calll (va_runV (As := [.int (nI (n0 / 4)), .int (nI k)]) (rest := [.long ((pz_rc (dk d0)) k), .int (nI k), .ref (pz_ay a)]) ⟨hx, hb, hml, hown, hts⟩ (c_XD_longAt l dC dI _ _ _ cJ (dk (pz_dn n0)) (n0 / 4) k (by omega) hk) (cwV 2 hts (pz_gc (List.mem_cons_of_mem _ tw_211) rfl (pz_gc (List.mem_cons_of_mem _ tw_212) rfl (pz_gc (List.mem_cons_of_mem _ tw_213) rfl (pz_gc (List.mem_cons_of_mem _ tw_3) rfl (pz_gi tcXD_longAt))))) rfl rfl rfl (by decide +kernel) ⟨Nat.le_of_ble_eq_true rfl, Nat.le_of_ble_eq_true rfl⟩) (pz_preV (va_recv hK (pz_Xd_P (d := (pz_dn n0)) (pz_dn_lt n0) hP) (q0 := 0) rfl rfl) (pz_Xd_P (d := (pz_dn n0)) (pz_dn_lt n0) hP) (hK.sub [0] rfl)) rfl rfl hl.1 rfl (lv_room (Nat.le_of_ble_eq_true rfl)) dXP_mendParity_65 ⟨Nat.zero_le _, Nat.zero_le _⟩) hS (fun q _ h => h.elim) (fun q h => h.elim) (fun r u t H locs ht hvm hw _ hz hk9 hS => ?_)
        have hP := pz_keep hP hk9
        clear hk9 hz ht hvm
        subst hw
        refine lv_lxor hx hb dXP_mendParity_68 ?_
        refine va_last hx hb hK hP hD hS 5 0 rfl rfl (vp_in_nI (by omega) (by decide)) dXP_mendParity_69 (fun H locs hP hD hS => ?_)
        rw [nI_clamp (show k < 2 ^ 31 by omega)] at hP hD
        have hP : va_P (dC, dI) vwCl (pz_XW a cJ cD dk su bl pt (vp_updL py1 k (((pz_rc (dk d0)) k) ^^^ (pz_R (dk (pz_dn n0)) (16 * (n0 / 4) + k))))) H := hP
        have hD : va_D A (pz_XW a cJ cD dk su bl pt (vp_updL py1 k (((pz_rc (dk d0)) k) ^^^ (pz_R (dk (pz_dn n0)) (16 * (n0 / 4) + k))))) := hD
        refine lv_iinc (k := 0) (v := nI (k + 1)) hx hb dXP_mendParity_70 hl rfl (by rw [nI_succ]; rfl) (by decide) rfl (fun ls hl => ?_)
        have hl : lv_has ls 6 [(5, .int (nI (k + 1))), (4, .ref ((pz_da a (pz_dn n0)).1)), (3, .int (nI (n0 / 4))), (2, .int (nI n0)), (0, .ref (pz_ax a)), (1, .ref ((pz_da a d0).1))] := hl
        refine lv_goto (tgt := 40) hx hb dXP_mendParity_73 (by decide) ?_
        exact ih _ _ _ ⟨_, hl, hP, hD, hS, fun j h9 => by
          by_cases e9 : j = k
          · subst e9; exact pk_uLs
          · rw [pk_uLn e9]; exact hq j (by omega)⟩
      · intro ls H locs hI
        obtain ⟨py1, hl, hP, hD, hS, hq⟩ := hI
        refine lv_iload hx hb dXP_mendParity_40 (lv_at hl 0 rfl) ?_
        refine lv_bipush (v := nI 16) hx hb dXP_mendParity_42 (by decide) ?_
        refine lv_icmp_ge (tgt := 76) hx hb dXP_mendParity_44 (by decide) (fun _ => ?_) (fun hc => absurd hc (fun h9 => h9 (nI_le (Nat.le_refl 16) (by decide))))
        refine lv_aload_n hx hb dXP_mendParity_76 rfl (lv_at hl 5 rfl) ?_
        refine lv_iload_n hx hb dXP_mendParity_77 rfl (lv_at hl 2 rfl) ?_
        refine lv_aload_n hx hb dXP_mendParity_78 rfl (lv_at hl 4 rfl) ?_
        refine va_get (D := (dC, dI)) (ci := 2) (v := .ref (pz_ay a)) (C := "ParityArray") (T := TXP) (N := 5) hx hb hts (fun w h => List.mem_cons_of_mem _ (inXP w h)) hown hK hP 0 rfl rfl 4 (by decide) (hts _ (List.mem_cons_of_mem _ tw_84)) (fun _ h9 => h9) rfl dXP_mendParity_79 ?_
        refine lv_aload_n hx hb dXP_mendParity_82 rfl (lv_at hl 4 rfl) ?_
        refine va_get (D := (dC, dI)) (ci := 2) (v := .ref (pz_as a)) (C := "ParityArray") (T := TXP) (N := 5) hx hb hts (fun w h => List.mem_cons_of_mem _ (inXP w h)) hown hK hP 0 rfl rfl 1 (by decide) (hts _ (List.mem_cons_of_mem _ tw_81)) (fun _ h9 => h9) rfl dXP_mendParity_83 ?_
        refine lv_sipush (v := nI 128) hx hb dXP_mendParity_86 (by decide) ?_
        have hPc := pz_Xs_P hP
        have hDc := pz_Xs_D hD
        have hFc := pz_Xs_F hD hS hA
        refine va_calli (va_runV (As := [.int (nI 128)]) (rest := [.ref (pz_ay a), .int (nI (n0 / 4)), .ref ((pz_da a d0).1)]) ⟨hx, hb, hml, hown, hts⟩ (c_XS_letThrough l dC dI _ (pz_as a) su 128 (by omega) hcw hcb (by omega)) (cwV 1 hts (pz_gc (List.mem_cons_of_mem _ tw_231) rfl (pz_gc (List.mem_cons_of_mem _ tw_232) rfl (pz_gc (List.mem_cons_of_mem _ tw_233) rfl (pz_gc (List.mem_cons_of_mem _ tw_2) rfl (pz_gi tcXS_letThrough))))) rfl rfl rfl (by decide +kernel) ⟨Nat.le_of_ble_eq_true rfl, Nat.le_of_ble_eq_true rfl⟩) (pz_preVw (va_recv hK hPc (q0 := 0) rfl rfl) hPc (hK.sub [] rfl) hDc) rfl rfl hl.1 rfl (lv_room (Nat.le_of_ble_eq_true rfl)) dXP_mendParity_89 ⟨Nat.zero_le _, Nat.zero_le _⟩) hS (fun q _ h => hFc q h) hFc (fun r u t H1 locs ht hvm hw hB hz hk1 hS => ?_)
        obtain ⟨hP1, hK1, hD1⟩ := hB
        rw [ht] at hP1
        obtain ⟨rfl, rfl⟩ := hw
        obtain ⟨hP, hD⟩ := pz_Xs_J hP hD hk1 hFc hP1 hD1
        clear hPc hDc hFc hP1 hD1 hK1 hk1 hz ht hvm
        generalize H1 = H at hP hS ⊢
        have hPc := pz_Xy_P (d := d0) hd0 hP
        have hDc := pz_Xy_D (d := d0) hd0 hD
        have hFc := pz_Xy_F (d := d0) hd0 hD hS hA
        refine va_callv (va_runV (As := [.int (nI (n0 / 4)), .ref (pz_ay a), .int (nI ((pz_let 128 su).1))]) (rest := []) ⟨hx, hb, hml, hown, hts⟩ (c_XD_writeRow l dC dI _ _ _ _ cJ (dk d0) (pz_ay a) py1 (n0 / 4) (pz_let 128 su).1 (by omega) (pz_let_le 128 su)) (cwV 3 hts (pz_gc (List.mem_cons_of_mem _ tw_245) rfl (pz_gc (List.mem_cons_of_mem _ tw_246) rfl (pz_gc (List.mem_cons_of_mem _ tw_247) rfl (pz_gc (List.mem_cons_of_mem _ tw_3) rfl (pz_gi tcXD_writeRow))))) rfl rfl rfl (by decide +kernel) ⟨Nat.le_of_ble_eq_true rfl, Nat.le_of_ble_eq_true rfl⟩) (pz_preVw (va_recv hK hPc (q0 := 0) rfl rfl) hPc (hK.sub [0] rfl) hDc) rfl rfl hl.1 rfl (lv_room (Nat.le_of_ble_eq_true rfl)) dXP_mendParity_92 ⟨Nat.zero_le _, Nat.zero_le _⟩) hS (fun q _ h => hFc q h) hFc (fun u t H1 locs ht hvm hw hB hz hk1 hS => ?_)
        obtain ⟨hP1, hK1, hD1⟩ := hB
        rw [ht] at hP1
        subst hw
        obtain ⟨hP, hD⟩ := pz_Xy_J (d := d0) hd0 hP hD hk1 hFc hP1 hD1
        clear hPc hDc hFc hP1 hD1 hK1 hk1 hz ht hvm
        generalize H1 = H at hP hS ⊢
        exact W.vret hx hb hr (fun t ht hW => ⟨⟨((va_up dk d0 (pz_dwr (dk d0) (n0 / 4) py1 (pz_let 128 su).1), (pz_let 128 su).2), py1), rfl, by unfold pz_mend; dsimp only; rw [hn]; dsimp only; rw [if_pos hc, show pz_dwr (dk d0) (n0 / 4) py1 (pz_let 128 su).1 = pz_dwr (dk d0) (n0 / 4) (fun j => pz_rc (dk d0) j ^^^ pz_R (dk (pz_dn n0)) (16 * (n0 / 4) + j)) (pz_let 128 su).1 from by unfold pz_dwr; rw [pz_wr_congr hq]], by rw [ht]; exact hP, va_K.moved hW.alike hK, hAe ▸ hD⟩, hS.F ht⟩) hS.2.2 dXP_mendParity_95
    · have hc : (decide (n0 / 4 < pz_th (dk (pz_dn n0)))) = false := pz_b0.mp hc
      have hc := of_decide_eq_false hc
      exact W.vret hx hb hr (fun t ht hW => ⟨⟨((dk, su), py), rfl, by unfold pz_mend; dsimp only; rw [hn]; dsimp only; rw [if_neg hc], by rw [ht]; exact hP, va_K.moved hW.alike hK, hAe ▸ hD⟩, hS.F ht⟩) hS.2.2 dXP_mendParity_36
  · have hn : pz_rb (dk d0) = none := (pz_om1 hrb).mp hc
    exact W.vret hx hb hr (fun t ht hW => ⟨⟨((dk, su), py), rfl, by unfold pz_mend; dsimp only; rw [hn], by rw [ht]; exact hP, va_K.moved hW.alike hK, hAe ▸ hD⟩, hS.F ht⟩) hS.2.2 dXP_mendParity_10
end
section
/-! ParityArray's constructor (laid by a program) -/
def pz_da5 (p0 p1 p2 p3 p4 : Nat × Nat × Nat) : Nat → Nat × Nat × Nat := fun k => match k with
  | 0 => p0
  | 1 => p1
  | 2 => p2
  | 3 => p3
  | _ => p4
theorem pz_df5 (x d s b p y : Nat) (p0 p1 p2 p3 p4 : Nat × Nat × Nat) : va_up (va_up (va_up (va_up (va_up (fun _ => none) 0 (some p0.1)) 1 (some p1.1)) 2 (some p2.1)) 3 (some p3.1)) 4 (some p4.1) = pz_df (x, d, s, b, p, y, pz_da5 p0 p1 p2 p3 p4) := by
  funext k
  match k with
  | 0 => rfl
  | 1 => rfl
  | 2 => rfl
  | 3 => rfl
  | 4 => rfl
  | k + 5 =>
    unfold va_up pz_df
    rw [if_neg (by omega), if_neg (by omega), if_neg (by omega), if_neg (by omega), if_neg (by omega), if_neg (by omega)]
def pz_d0 : Nat → pz_Dk := fun _ => (fun _ => 0, fun _ => 0, none, false, 150)
def pz_s0 : pz_Su := (true, false, false, 0, 0, false, 0)
set_option maxHeartbeats 4000000 in
set_option maxRecDepth 100000 in
theorem c_XP_init (l : Launch) (dC : Nat → ClassId) (dI : Nat → Nat → Nat) (sz : Nat) (h0 : Nat) : Met l yXP_init wsXP_init ({ frames := 2, cells := 20, slots := 12165, locals := 60 }) (va_Pc [.ref h0] (fun U => U.heap.size = sz ∧ va_P (dC, dI) vwCl [(h0, .inr (2, [.null, .null, .null, .null, .null]))] U.heap ∧ va_K (dC, dI) vwCl [] U ∧ va_D (fun _ => True) [(h0, .inr (2, [.null, .null, .null, .null, .null]))] ∧ pz_NW U ∧ va_AO "ParityArray$Disk" U)) (va_Qv (fun (u : pz_Ad × ClassId × ClassId) => pz_ax u.1 = h0) (fun u t => va_P (dC, dI) vwCl (pz_XW u.1 u.2.1 u.2.2 pz_d0 pz_s0 (fun _ => 0) (fun _ => 0) (fun _ => 0)) t.heap ∧ va_K (dC, dI) vwCl [(u.2.1, .long), (u.2.2, .object "ParityArray$Disk")] t ∧ va_D (va_A [(h0, .inr (2, [.null, .null, .null, .null, .null]))] sz) (pz_XW u.1 u.2.1 u.2.2 pz_d0 pz_s0 (fun _ => 0) (fun _ => 0) (fun _ => 0))) (va_A [(h0, .inr (2, [.null, .null, .null, .null, .null]))] sz)) 20 12165 (va_A [(h0, .inr (2, [.null, .null, .null, .null, .null]))] sz) := by
  refine Met.ofW (cc := cXP_init) (maxL := 2) (ret := none) (by decide) rfl ?_
  intro p e s m args below meth c s₁ B hml hv
  obtain ⟨rfl, hsz, hP, hK, hD0, hNW⟩ := hv
  have hx := B.exec
  have hb := B.bytes
  have hr := B.returns
  have hts := atoms_spec (ws := wsXP_init) B.pre
  have hown : s.vm.findClass "ParityArray" = some m.cls := findClass_of_methodNamed B.named
  have hlocks := B.notSynchronized
  have hin : meth.name = "<init>" := (name_of_methodNamed B.named B.method).1
  subst hsz
  have hD := hD0.self (sz := s.heap.size)
  generalize hAe : va_A [(h0, .inr (2, [.null, .null, .null, .null, .null]))] s.heap.size = A at hD ⊢
  have hA : ∀ q : Nat, s.heap.size ≤ q → A q := fun q h => by rw [← hAe]; exact Or.inr h
  have hS : va_S A s.heap s.heap [] := va_S.rf
  have hl := lv_entry ([.ref h0]) (n := 2) (Nat.le_of_ble_eq_true rfl)
  rw [lg_entry_eq]
  generalize (lg_sl ([.ref h0]) ++ List.replicate (2 - (lg_sl ([.ref h0])).length) Slot.unset).toArray = ls at hl ⊢
  have hl : lv_has ls 2 [(0, .ref h0)] := hl
  have hP : va_P (dC, dI) vwCl [(h0, .inr (2, [.null, .null, .null, .null, .null]))] s.heap := hP
  have hD : va_D A [(h0, .inr (2, [.null, .null, .null, .null, .null]))] := hD
  obtain ⟨hNW, hAO⟩ := hNW
  refine lv_aload_n hx hb dXP_init_0 rfl (lv_at hl 0 rfl) ?_
  refine W.objInit hx hb hown (hts _ (List.mem_cons_of_mem _ tw_20)) (hts _ (List.mem_cons_of_mem _ tw_21)) (hts _ (List.mem_cons_of_mem _ tw_22)) rfl (by rw [hml]; exact hl.1) rfl dXP_init_1 (Nat.le_of_ble_eq_true rfl) (Nat.le_of_ble_eq_true rfl) ?_
  refine W.eq (g2 := F0 m 4 ls []) rfl ?_
  refine lv_aload_n hx hb dXP_init_4 rfl (lv_at hl 0 rfl) ?_
  refine lv_iconst (v := nI 5) hx hb dXP_init_5 (by decide) ?_
  refine va_newq (N' := 5) hx hb hown (hts _ (List.mem_cons_of_mem _ tw_23)) hAO hK hP hD hS hA (nI_pos (by decide)) (nI_clamp (by decide)) (by decide) (Nat.le_of_ble_eq_true rfl) (Nat.le_of_ble_eq_true rfl) dXP_init_6 (fun q1 cD H hK hP hD hS => ?_)
  have hK : va_K (dC, dI) vwCl [(cD, .object "ParityArray$Disk")] s := hK
  have hP : va_P (dC, dI) vwCl [(h0, .inr (2, [.null, .null, .null, .null, .null])), (q1, .inl (cD, 5, .inr (.inr (.inr (.inr (fun _ => none))))))] H := hP
  have hD : va_D A [(h0, .inr (2, [.null, .null, .null, .null, .null])), (q1, .inl (cD, 5, .inr (.inr (.inr (.inr (fun _ => none))))))] := hD
  refine W.widen (k := 1) (n := 5) (Nat.le_of_ble_eq_true rfl) (Nat.le_of_ble_eq_true rfl) ?_
  refine va_putF (D := (dC, dI)) (ci := 2) (v := .ref q1) (ty := .array (.object "ParityArray$Disk")) (C := "ParityArray") (T := TXP) (N := 5) hx hb hts (fun w h => List.mem_cons_of_mem _ (inXP w h)) tyXP tyXP_ok nmXP hown hK hP hD hS 0 rfl rfl 0 (by decide) (hts _ (List.mem_cons_of_mem _ tw_80)) (fun _ h9 => h9) rfl hin rfl (by decide +kernel) rfl rfl (Nat.le_of_ble_eq_true rfl) dXP_init_9 (fun H locs hP hD hS => ?_)
  have hP : va_P (dC, dI) vwCl [(h0, .inr (2, [.ref q1, .null, .null, .null, .null])), (q1, .inl (cD, 5, .inr (.inr (.inr (.inr (fun _ => none))))))] H := hP
  have hD : va_D A [(h0, .inr (2, [.ref q1, .null, .null, .null, .null])), (q1, .inl (cD, 5, .inr (.inr (.inr (.inr (fun _ => none))))))] := hD
  refine lv_aload_n hx hb dXP_init_12 rfl (lv_at hl 0 rfl) ?_
  refine va_new (ci := 1) (fs := [.int (pz_b false), .int (pz_b false), .int (pz_b false), .int (nI 0), .int (nI 0), .int (pz_b false), .int (nI 0)]) (C := "ParityArray$Supply") (T := TXS) (N := 7) hx hb hts (fun w h => List.mem_cons_of_mem _ (inXS w h)) tyXS tyXS_ok hown (hts _ (List.mem_cons_of_mem _ tw_25)) (hts _ (List.mem_cons_of_mem _ tw_26)) (hts _ (List.mem_cons_of_mem _ tw_2)) hK hP hD hS hA rfl (by decide +kernel) (Nat.le_of_ble_eq_true rfl) (Nat.le_of_ble_eq_true rfl) dXP_init_13 (fun q2 H hP hD hS => ?_)
  have hP : va_P (dC, dI) vwCl [(h0, .inr (2, [.ref q1, .null, .null, .null, .null])), (q1, .inl (cD, 5, .inr (.inr (.inr (.inr (fun _ => none)))))), (q2, .inr (1, [.int (pz_b false), .int (pz_b false), .int (pz_b false), .int (nI 0), .int (nI 0), .int (pz_b false), .int (nI 0)]))] H := hP
  have hD : va_D A [(h0, .inr (2, [.ref q1, .null, .null, .null, .null])), (q1, .inl (cD, 5, .inr (.inr (.inr (.inr (fun _ => none)))))), (q2, .inr (1, [.int (pz_b false), .int (pz_b false), .int (pz_b false), .int (nI 0), .int (nI 0), .int (pz_b false), .int (nI 0)]))] := hD
  refine W.widen (k := 2) (n := 12) (Nat.le_of_ble_eq_true rfl) (Nat.le_of_ble_eq_true rfl) ?_
  refine lv_dup hx hb dXP_init_16 rfl ?_
  have hPc := hP.sub (ws' := [(q2, .inr (1, [.int (pz_b false), .int (pz_b false), .int (pz_b false), .int (nI 0), .int (nI 0), .int (pz_b false), .int (nI 0)]))]) [2] rfl
  have hDc := hD.sub (ws' := [(q2, .inr (1, [.int (pz_b false), .int (pz_b false), .int (pz_b false), .int (nI 0), .int (nI 0), .int (pz_b false), .int (nI 0)]))]) [2] (by decide) rfl
  have hFc := va_free (wc := [(q2, .inr (1, [.int (pz_b false), .int (pz_b false), .int (pz_b false), .int (nI 0), .int (nI 0), .int (pz_b false), .int (nI 0)]))]) hD hS hA [2] rfl
  refine va_callv (va_runIN (As := []) (rest := [.ref q2, .ref h0]) ⟨hx, hb, hml, hown, hts⟩ (c_XS_init l dC dI _ q2) ⟨va_cnB 0 hts (pz_gi tcXS_init) rfl rfl rfl (hNW _ (List.mem_of_getElem? (i := 0) rfl)) (hts _ (List.mem_cons_of_mem _ tw_2)) (by decide +kernel) ⟨Nat.le_of_ble_eq_true rfl, Nat.le_of_ble_eq_true rfl⟩, rfl, hts _ (List.mem_cons_of_mem _ tw_28)⟩ (pz_preSw hPc (hK.sub [] rfl) hDc) rfl rfl hl.1 rfl (lv_room (Nat.le_of_ble_eq_true rfl)) dXP_init_17 ⟨Nat.le_of_ble_eq_true rfl, Nat.le_of_ble_eq_true rfl⟩) hS (fun q _ h => hFc q h) hFc (fun u t H1 locs ht hvm hw hB hz hk1 hS => ?_)
  obtain ⟨hP1, hK1, hD1⟩ := hB
  rw [ht] at hP1
  subst hw
  obtain ⟨hP, hD⟩ := va_join (wr := [(h0, .inr (2, [.ref q1, .null, .null, .null, .null])), (q1, .inl (cD, 5, .inr (.inr (.inr (.inr (fun _ => none))))))]) (w1 := [(q2, .inr (1, [.int (pz_b true), .int (pz_b false), .int (pz_b false), .int (nI 0), .int (nI 0), .int (pz_b false), .int (nI 0)]))]) hP hD [2] [0, 1] rfl rfl (by decide) (by decide) hk1 hFc hP1 hD1
  clear hPc hDc hFc hP1 hD1 hK1 hk1 hz ht hvm
  generalize H1 = H at hP hS ⊢
  have hP : va_P (dC, dI) vwCl [(h0, .inr (2, [.ref q1, .null, .null, .null, .null])), (q1, .inl (cD, 5, .inr (.inr (.inr (.inr (fun _ => none)))))), (q2, .inr (1, [.int (pz_b true), .int (pz_b false), .int (pz_b false), .int (nI 0), .int (nI 0), .int (pz_b false), .int (nI 0)]))] H := hP
  have hD : va_D A [(h0, .inr (2, [.ref q1, .null, .null, .null, .null])), (q1, .inl (cD, 5, .inr (.inr (.inr (.inr (fun _ => none)))))), (q2, .inr (1, [.int (pz_b true), .int (pz_b false), .int (pz_b false), .int (nI 0), .int (nI 0), .int (pz_b false), .int (nI 0)]))] := hD
  refine va_putF (D := (dC, dI)) (ci := 2) (v := .ref q2) (ty := .object "ParityArray$Supply") (C := "ParityArray") (T := TXP) (N := 5) hx hb hts (fun w h => List.mem_cons_of_mem _ (inXP w h)) tyXP tyXP_ok nmXP hown hK hP hD hS 0 rfl rfl 1 (by decide) (hts _ (List.mem_cons_of_mem _ tw_81)) (fun _ h9 => h9) rfl hin rfl (by decide +kernel) rfl rfl (Nat.le_of_ble_eq_true rfl) dXP_init_20 (fun H locs hP hD hS => ?_)
  have hP : va_P (dC, dI) vwCl [(h0, .inr (2, [.ref q1, .ref q2, .null, .null, .null])), (q1, .inl (cD, 5, .inr (.inr (.inr (.inr (fun _ => none)))))), (q2, .inr (1, [.int (pz_b true), .int (pz_b false), .int (pz_b false), .int (nI 0), .int (nI 0), .int (pz_b false), .int (nI 0)]))] H := hP
  have hD : va_D A [(h0, .inr (2, [.ref q1, .ref q2, .null, .null, .null])), (q1, .inl (cD, 5, .inr (.inr (.inr (.inr (fun _ => none)))))), (q2, .inr (1, [.int (pz_b true), .int (pz_b false), .int (pz_b false), .int (nI 0), .int (nI 0), .int (pz_b false), .int (nI 0)]))] := hD
  refine lv_aload_n hx hb dXP_init_23 rfl (lv_at hl 0 rfl) ?_
  refine lv_bipush (v := nI 16) hx hb dXP_init_24 (by decide) ?_
  refine va_newa (atype := .long) (ty := .long) (N' := 16) (a0 := (16, .inr (.inl (fun _ => 0)))) hx hb (hts _ (List.mem_cons_of_mem _ tw_79)) rfl hK hP hD hS hA (fun _ => rfl) (nI_pos (by decide)) (nI_clamp (by decide)) (by decide) (Nat.le_of_ble_eq_true rfl) (Nat.le_of_ble_eq_true rfl) dXP_init_26 (fun q3 cJ H hK hP hD hS => ?_)
  have hK : va_K (dC, dI) vwCl [(cD, .object "ParityArray$Disk"), (cJ, .long)] s := hK
  have hP : va_P (dC, dI) vwCl [(h0, .inr (2, [.ref q1, .ref q2, .null, .null, .null])), (q1, .inl (cD, 5, .inr (.inr (.inr (.inr (fun _ => none)))))), (q2, .inr (1, [.int (pz_b true), .int (pz_b false), .int (pz_b false), .int (nI 0), .int (nI 0), .int (pz_b false), .int (nI 0)])), (q3, .inl (cJ, 16, .inr (.inl (fun _ => 0))))] H := hP
  have hD : va_D A [(h0, .inr (2, [.ref q1, .ref q2, .null, .null, .null])), (q1, .inl (cD, 5, .inr (.inr (.inr (.inr (fun _ => none)))))), (q2, .inr (1, [.int (pz_b true), .int (pz_b false), .int (pz_b false), .int (nI 0), .int (nI 0), .int (pz_b false), .int (nI 0)])), (q3, .inl (cJ, 16, .inr (.inl (fun _ => 0))))] := hD
  refine W.widen (k := 3) (n := 28) (Nat.le_of_ble_eq_true rfl) (Nat.le_of_ble_eq_true rfl) ?_
  refine va_putF (D := (dC, dI)) (ci := 2) (v := .ref q3) (ty := .array .long) (C := "ParityArray") (T := TXP) (N := 5) hx hb hts (fun w h => List.mem_cons_of_mem _ (inXP w h)) tyXP tyXP_ok nmXP hown hK hP hD hS 0 rfl rfl 2 (by decide) (hts _ (List.mem_cons_of_mem _ tw_82)) (fun _ h9 => h9) rfl hin rfl (by decide +kernel) rfl rfl (Nat.le_of_ble_eq_true rfl) dXP_init_28 (fun H locs hP hD hS => ?_)
  have hP : va_P (dC, dI) vwCl [(h0, .inr (2, [.ref q1, .ref q2, .ref q3, .null, .null])), (q1, .inl (cD, 5, .inr (.inr (.inr (.inr (fun _ => none)))))), (q2, .inr (1, [.int (pz_b true), .int (pz_b false), .int (pz_b false), .int (nI 0), .int (nI 0), .int (pz_b false), .int (nI 0)])), (q3, .inl (cJ, 16, .inr (.inl (fun _ => 0))))] H := hP
  have hD : va_D A [(h0, .inr (2, [.ref q1, .ref q2, .ref q3, .null, .null])), (q1, .inl (cD, 5, .inr (.inr (.inr (.inr (fun _ => none)))))), (q2, .inr (1, [.int (pz_b true), .int (pz_b false), .int (pz_b false), .int (nI 0), .int (nI 0), .int (pz_b false), .int (nI 0)])), (q3, .inl (cJ, 16, .inr (.inl (fun _ => 0))))] := hD
  refine lv_aload_n hx hb dXP_init_31 rfl (lv_at hl 0 rfl) ?_
  refine lv_bipush (v := nI 16) hx hb dXP_init_32 (by decide) ?_
  refine va_newa (atype := .long) (ty := .long) (N' := 16) (a0 := (16, .inr (.inl (fun _ => 0)))) hx hb (hts _ (List.mem_cons_of_mem _ tw_79)) rfl hK hP hD hS hA (fun _ => rfl) (nI_pos (by decide)) (nI_clamp (by decide)) (by decide) (Nat.le_of_ble_eq_true rfl) (Nat.le_of_ble_eq_true rfl) dXP_init_34 (fun q4 c4 H hK hP hD hS => ?_)
  have hK : va_K (dC, dI) vwCl [(cD, .object "ParityArray$Disk"), (cJ, .long), (c4, .long)] s := hK
  obtain rfl := pz_sameJ hK (i := 1) (j := 2) rfl rfl
  have hK : va_K (dC, dI) vwCl [(cD, .object "ParityArray$Disk"), (cJ, .long)] s := hK.sub [0, 1] rfl
  have hP : va_P (dC, dI) vwCl [(h0, .inr (2, [.ref q1, .ref q2, .ref q3, .null, .null])), (q1, .inl (cD, 5, .inr (.inr (.inr (.inr (fun _ => none)))))), (q2, .inr (1, [.int (pz_b true), .int (pz_b false), .int (pz_b false), .int (nI 0), .int (nI 0), .int (pz_b false), .int (nI 0)])), (q3, .inl (cJ, 16, .inr (.inl (fun _ => 0)))), (q4, .inl (cJ, 16, .inr (.inl (fun _ => 0))))] H := hP
  have hD : va_D A [(h0, .inr (2, [.ref q1, .ref q2, .ref q3, .null, .null])), (q1, .inl (cD, 5, .inr (.inr (.inr (.inr (fun _ => none)))))), (q2, .inr (1, [.int (pz_b true), .int (pz_b false), .int (pz_b false), .int (nI 0), .int (nI 0), .int (pz_b false), .int (nI 0)])), (q3, .inl (cJ, 16, .inr (.inl (fun _ => 0)))), (q4, .inl (cJ, 16, .inr (.inl (fun _ => 0))))] := hD
  refine W.widen (k := 4) (n := 44) (Nat.le_of_ble_eq_true rfl) (Nat.le_of_ble_eq_true rfl) ?_
  refine va_putF (D := (dC, dI)) (ci := 2) (v := .ref q4) (ty := .array .long) (C := "ParityArray") (T := TXP) (N := 5) hx hb hts (fun w h => List.mem_cons_of_mem _ (inXP w h)) tyXP tyXP_ok nmXP hown hK hP hD hS 0 rfl rfl 3 (by decide) (hts _ (List.mem_cons_of_mem _ tw_83)) (fun _ h9 => h9) rfl hin rfl (by decide +kernel) rfl rfl (Nat.le_of_ble_eq_true rfl) dXP_init_36 (fun H locs hP hD hS => ?_)
  have hP : va_P (dC, dI) vwCl [(h0, .inr (2, [.ref q1, .ref q2, .ref q3, .ref q4, .null])), (q1, .inl (cD, 5, .inr (.inr (.inr (.inr (fun _ => none)))))), (q2, .inr (1, [.int (pz_b true), .int (pz_b false), .int (pz_b false), .int (nI 0), .int (nI 0), .int (pz_b false), .int (nI 0)])), (q3, .inl (cJ, 16, .inr (.inl (fun _ => 0)))), (q4, .inl (cJ, 16, .inr (.inl (fun _ => 0))))] H := hP
  have hD : va_D A [(h0, .inr (2, [.ref q1, .ref q2, .ref q3, .ref q4, .null])), (q1, .inl (cD, 5, .inr (.inr (.inr (.inr (fun _ => none)))))), (q2, .inr (1, [.int (pz_b true), .int (pz_b false), .int (pz_b false), .int (nI 0), .int (nI 0), .int (pz_b false), .int (nI 0)])), (q3, .inl (cJ, 16, .inr (.inl (fun _ => 0)))), (q4, .inl (cJ, 16, .inr (.inl (fun _ => 0))))] := hD
  refine lv_aload_n hx hb dXP_init_39 rfl (lv_at hl 0 rfl) ?_
  refine lv_bipush (v := nI 16) hx hb dXP_init_40 (by decide) ?_
  refine va_newa (atype := .long) (ty := .long) (N' := 16) (a0 := (16, .inr (.inl (fun _ => 0)))) hx hb (hts _ (List.mem_cons_of_mem _ tw_79)) rfl hK hP hD hS hA (fun _ => rfl) (nI_pos (by decide)) (nI_clamp (by decide)) (by decide) (Nat.le_of_ble_eq_true rfl) (Nat.le_of_ble_eq_true rfl) dXP_init_42 (fun q5 c5 H hK hP hD hS => ?_)
  have hK : va_K (dC, dI) vwCl [(cD, .object "ParityArray$Disk"), (cJ, .long), (c5, .long)] s := hK
  obtain rfl := pz_sameJ hK (i := 1) (j := 2) rfl rfl
  have hK : va_K (dC, dI) vwCl [(cD, .object "ParityArray$Disk"), (cJ, .long)] s := hK.sub [0, 1] rfl
  have hP : va_P (dC, dI) vwCl [(h0, .inr (2, [.ref q1, .ref q2, .ref q3, .ref q4, .null])), (q1, .inl (cD, 5, .inr (.inr (.inr (.inr (fun _ => none)))))), (q2, .inr (1, [.int (pz_b true), .int (pz_b false), .int (pz_b false), .int (nI 0), .int (nI 0), .int (pz_b false), .int (nI 0)])), (q3, .inl (cJ, 16, .inr (.inl (fun _ => 0)))), (q4, .inl (cJ, 16, .inr (.inl (fun _ => 0)))), (q5, .inl (cJ, 16, .inr (.inl (fun _ => 0))))] H := hP
  have hD : va_D A [(h0, .inr (2, [.ref q1, .ref q2, .ref q3, .ref q4, .null])), (q1, .inl (cD, 5, .inr (.inr (.inr (.inr (fun _ => none)))))), (q2, .inr (1, [.int (pz_b true), .int (pz_b false), .int (pz_b false), .int (nI 0), .int (nI 0), .int (pz_b false), .int (nI 0)])), (q3, .inl (cJ, 16, .inr (.inl (fun _ => 0)))), (q4, .inl (cJ, 16, .inr (.inl (fun _ => 0)))), (q5, .inl (cJ, 16, .inr (.inl (fun _ => 0))))] := hD
  refine W.widen (k := 5) (n := 60) (Nat.le_of_ble_eq_true rfl) (Nat.le_of_ble_eq_true rfl) ?_
  refine va_putF (D := (dC, dI)) (ci := 2) (v := .ref q5) (ty := .array .long) (C := "ParityArray") (T := TXP) (N := 5) hx hb hts (fun w h => List.mem_cons_of_mem _ (inXP w h)) tyXP tyXP_ok nmXP hown hK hP hD hS 0 rfl rfl 4 (by decide) (hts _ (List.mem_cons_of_mem _ tw_84)) (fun _ h9 => h9) rfl hin rfl (by decide +kernel) rfl rfl (Nat.le_of_ble_eq_true rfl) dXP_init_44 (fun H locs hP hD hS => ?_)
  have hP : va_P (dC, dI) vwCl [(h0, .inr (2, [.ref q1, .ref q2, .ref q3, .ref q4, .ref q5])), (q1, .inl (cD, 5, .inr (.inr (.inr (.inr (fun _ => none)))))), (q2, .inr (1, [.int (pz_b true), .int (pz_b false), .int (pz_b false), .int (nI 0), .int (nI 0), .int (pz_b false), .int (nI 0)])), (q3, .inl (cJ, 16, .inr (.inl (fun _ => 0)))), (q4, .inl (cJ, 16, .inr (.inl (fun _ => 0)))), (q5, .inl (cJ, 16, .inr (.inl (fun _ => 0))))] H := hP
  have hD : va_D A [(h0, .inr (2, [.ref q1, .ref q2, .ref q3, .ref q4, .ref q5])), (q1, .inl (cD, 5, .inr (.inr (.inr (.inr (fun _ => none)))))), (q2, .inr (1, [.int (pz_b true), .int (pz_b false), .int (pz_b false), .int (nI 0), .int (nI 0), .int (pz_b false), .int (nI 0)])), (q3, .inl (cJ, 16, .inr (.inl (fun _ => 0)))), (q4, .inl (cJ, 16, .inr (.inl (fun _ => 0)))), (q5, .inl (cJ, 16, .inr (.inl (fun _ => 0))))] := hD
  refine lv_iconst (v := nI 0) hx hb dXP_init_47 (by decide) ?_
  refine lv_istore_n hx hb dXP_init_48 rfl hl (by decide) rfl (fun ls hl => ?_)
  have hl : lv_has ls 2 [(1, .int (nI 0)), (0, .ref h0)] := hl
  refine lv_iload_n hx hb dXP_init_49 rfl (lv_at hl 0 rfl) ?_
  refine lv_iconst (v := nI 5) hx hb dXP_init_50 (by decide) ?_
  refine lv_icmp_ge (tgt := 73) hx hb dXP_init_51 (by decide) (fun hc => absurd hc (by decide)) (fun _ => ?_)
  refine lv_aload_n hx hb dXP_init_54 rfl (lv_at hl 1 rfl) ?_
  refine va_get (D := (dC, dI)) (ci := 2) (v := .ref q1) (C := "ParityArray") (T := TXP) (N := 5) hx hb hts (fun w h => List.mem_cons_of_mem _ (inXP w h)) hown hK hP 0 rfl rfl 0 (by decide) (hts _ (List.mem_cons_of_mem _ tw_80)) (fun _ h9 => h9) rfl dXP_init_55 ?_
  refine lv_iload_n hx hb dXP_init_58 rfl (lv_at hl 0 rfl) ?_
  refine va_new (ci := 0) (fs := [.null, .null, .int (nI 0), .int (pz_b false), .int (nI 0)]) (C := "ParityArray$Disk") (T := TXD) (N := 5) hx hb hts (fun w h => List.mem_cons_of_mem _ (inXD w h)) tyXD tyXD_ok hown (hts _ (List.mem_cons_of_mem _ tw_23)) (hts _ (List.mem_cons_of_mem _ tw_54)) (hts _ (List.mem_cons_of_mem _ tw_3)) hK hP hD hS hA rfl (by decide +kernel) (Nat.le_of_ble_eq_true rfl) (Nat.le_of_ble_eq_true rfl) dXP_init_59 (fun q6 H hP hD hS => ?_)
  have hP : va_P (dC, dI) vwCl [(h0, .inr (2, [.ref q1, .ref q2, .ref q3, .ref q4, .ref q5])), (q1, .inl (cD, 5, .inr (.inr (.inr (.inr (fun _ => none)))))), (q2, .inr (1, [.int (pz_b true), .int (pz_b false), .int (pz_b false), .int (nI 0), .int (nI 0), .int (pz_b false), .int (nI 0)])), (q3, .inl (cJ, 16, .inr (.inl (fun _ => 0)))), (q4, .inl (cJ, 16, .inr (.inl (fun _ => 0)))), (q5, .inl (cJ, 16, .inr (.inl (fun _ => 0)))), (q6, .inr (0, [.null, .null, .int (nI 0), .int (pz_b false), .int (nI 0)]))] H := hP
  have hD : va_D A [(h0, .inr (2, [.ref q1, .ref q2, .ref q3, .ref q4, .ref q5])), (q1, .inl (cD, 5, .inr (.inr (.inr (.inr (fun _ => none)))))), (q2, .inr (1, [.int (pz_b true), .int (pz_b false), .int (pz_b false), .int (nI 0), .int (nI 0), .int (pz_b false), .int (nI 0)])), (q3, .inl (cJ, 16, .inr (.inl (fun _ => 0)))), (q4, .inl (cJ, 16, .inr (.inl (fun _ => 0)))), (q5, .inl (cJ, 16, .inr (.inl (fun _ => 0)))), (q6, .inr (0, [.null, .null, .int (nI 0), .int (pz_b false), .int (nI 0)]))] := hD
  refine W.widen (k := 6) (n := 65) (Nat.le_of_ble_eq_true rfl) (Nat.le_of_ble_eq_true rfl) ?_
  refine lv_dup hx hb dXP_init_62 rfl ?_
  have hPc := hP.sub (ws' := [(q6, .inr (0, [.null, .null, .int (nI 0), .int (pz_b false), .int (nI 0)]))]) [6] rfl
  have hDc := hD.sub (ws' := [(q6, .inr (0, [.null, .null, .int (nI 0), .int (pz_b false), .int (nI 0)]))]) [6] (by decide) rfl
  have hFc := va_free (wc := [(q6, .inr (0, [.null, .null, .int (nI 0), .int (pz_b false), .int (nI 0)]))]) hD hS hA [6] rfl
  refine va_callv (va_runIN (As := []) (rest := [.ref q6, .int (nI 0), .ref q1]) ⟨hx, hb, hml, hown, hts⟩ (c_XD_init l dC dI _ q6 cJ) ⟨va_cnB 0 hts (pz_gi tcXD_init) rfl rfl rfl (hNW _ (List.mem_of_getElem? (i := 2) rfl)) (hts _ (List.mem_cons_of_mem _ tw_3)) (by decide +kernel) ⟨Nat.le_of_ble_eq_true rfl, Nat.le_of_ble_eq_true rfl⟩, rfl, hts _ (List.mem_cons_of_mem _ tw_56)⟩ (pz_preSw hPc (hK.sub [1] rfl) hDc) rfl rfl hl.1 rfl (lv_room (Nat.le_of_ble_eq_true rfl)) dXP_init_63 ⟨Nat.le_of_ble_eq_true rfl, Nat.le_of_ble_eq_true rfl⟩) hS (fun q _ h => hFc q h) hFc (fun u t H1 locs ht hvm hw hB hz hk1 hS => ?_)
  obtain ⟨hP1, hK1, hD1⟩ := hB
  rw [ht] at hP1
  obtain ⟨z1, q7, q8⟩ := u; obtain rfl : q6 = z1 := Eq.symm hw
  obtain ⟨hP, hD⟩ := va_join (wr := [(h0, .inr (2, [.ref q1, .ref q2, .ref q3, .ref q4, .ref q5])), (q1, .inl (cD, 5, .inr (.inr (.inr (.inr (fun _ => none)))))), (q2, .inr (1, [.int (pz_b true), .int (pz_b false), .int (pz_b false), .int (nI 0), .int (nI 0), .int (pz_b false), .int (nI 0)])), (q3, .inl (cJ, 16, .inr (.inl (fun _ => 0)))), (q4, .inl (cJ, 16, .inr (.inl (fun _ => 0)))), (q5, .inl (cJ, 16, .inr (.inl (fun _ => 0))))]) (w1 := [(q6, .inr (0, [.ref q7, .ref q8, .int (pz_o (pz_rb ((fun _ => 0, fun _ => 0, none, false, 150) : pz_Dk))), .int (pz_b (pz_dd ((fun _ => 0, fun _ => 0, none, false, 150) : pz_Dk))), .int (nI (pz_th ((fun _ => 0, fun _ => 0, none, false, 150) : pz_Dk)))])), (q7, .inl (cJ, 2400, .inr (.inl (pz_R ((fun _ => 0, fun _ => 0, none, false, 150) : pz_Dk))))), (q8, .inl (cJ, 16, .inr (.inl (pz_rc ((fun _ => 0, fun _ => 0, none, false, 150) : pz_Dk)))))]) hP hD [6] [0, 1, 2, 3, 4, 5] rfl rfl (by decide) (by decide) hk1 hFc hP1 hD1
  clear hPc hDc hFc hP1 hD1 hK1 hk1 hz ht hvm
  generalize H1 = H at hP hS ⊢
  refine W.widen (k := 8) (n := 2481) (Nat.le_of_ble_eq_true rfl) (Nat.le_of_ble_eq_true rfl) ?_
  have hP : va_P (dC, dI) vwCl [(h0, .inr (2, [.ref q1, .ref q2, .ref q3, .ref q4, .ref q5])), (q1, .inl (cD, 5, .inr (.inr (.inr (.inr (fun _ => none)))))), (q2, .inr (1, [.int (pz_b true), .int (pz_b false), .int (pz_b false), .int (nI 0), .int (nI 0), .int (pz_b false), .int (nI 0)])), (q3, .inl (cJ, 16, .inr (.inl (fun _ => 0)))), (q4, .inl (cJ, 16, .inr (.inl (fun _ => 0)))), (q5, .inl (cJ, 16, .inr (.inl (fun _ => 0)))), (q6, .inr (0, [.ref q7, .ref q8, .int (pz_o (pz_rb ((fun _ => 0, fun _ => 0, none, false, 150) : pz_Dk))), .int (pz_b (pz_dd ((fun _ => 0, fun _ => 0, none, false, 150) : pz_Dk))), .int (nI (pz_th ((fun _ => 0, fun _ => 0, none, false, 150) : pz_Dk)))])), (q7, .inl (cJ, 2400, .inr (.inl (pz_R ((fun _ => 0, fun _ => 0, none, false, 150) : pz_Dk))))), (q8, .inl (cJ, 16, .inr (.inl (pz_rc ((fun _ => 0, fun _ => 0, none, false, 150) : pz_Dk)))))] H := hP
  have hD : va_D A [(h0, .inr (2, [.ref q1, .ref q2, .ref q3, .ref q4, .ref q5])), (q1, .inl (cD, 5, .inr (.inr (.inr (.inr (fun _ => none)))))), (q2, .inr (1, [.int (pz_b true), .int (pz_b false), .int (pz_b false), .int (nI 0), .int (nI 0), .int (pz_b false), .int (nI 0)])), (q3, .inl (cJ, 16, .inr (.inl (fun _ => 0)))), (q4, .inl (cJ, 16, .inr (.inl (fun _ => 0)))), (q5, .inl (cJ, 16, .inr (.inl (fun _ => 0)))), (q6, .inr (0, [.ref q7, .ref q8, .int (pz_o (pz_rb ((fun _ => 0, fun _ => 0, none, false, 150) : pz_Dk))), .int (pz_b (pz_dd ((fun _ => 0, fun _ => 0, none, false, 150) : pz_Dk))), .int (nI (pz_th ((fun _ => 0, fun _ => 0, none, false, 150) : pz_Dk)))])), (q7, .inl (cJ, 2400, .inr (.inl (pz_R ((fun _ => 0, fun _ => 0, none, false, 150) : pz_Dk))))), (q8, .inl (cJ, 16, .inr (.inl (pz_rc ((fun _ => 0, fun _ => 0, none, false, 150) : pz_Dk)))))] := hD
  refine va_astq hx hb hK hP hD hS 1 0 6 0 rfl rfl rfl rfl (vp_in_nI (by decide) (by decide)) dXP_init_66 (fun H locs hP hD hS => ?_)
  rw [nI_clamp (show 0 < 2 ^ 31 by decide)] at hP hD
  have hP : va_P (dC, dI) vwCl [(h0, .inr (2, [.ref q1, .ref q2, .ref q3, .ref q4, .ref q5])), (q1, .inl (cD, 5, .inr (.inr (.inr (.inr (va_up (fun _ => none) 0 (some q6))))))), (q2, .inr (1, [.int (pz_b true), .int (pz_b false), .int (pz_b false), .int (nI 0), .int (nI 0), .int (pz_b false), .int (nI 0)])), (q3, .inl (cJ, 16, .inr (.inl (fun _ => 0)))), (q4, .inl (cJ, 16, .inr (.inl (fun _ => 0)))), (q5, .inl (cJ, 16, .inr (.inl (fun _ => 0)))), (q6, .inr (0, [.ref q7, .ref q8, .int (pz_o (pz_rb ((fun _ => 0, fun _ => 0, none, false, 150) : pz_Dk))), .int (pz_b (pz_dd ((fun _ => 0, fun _ => 0, none, false, 150) : pz_Dk))), .int (nI (pz_th ((fun _ => 0, fun _ => 0, none, false, 150) : pz_Dk)))])), (q7, .inl (cJ, 2400, .inr (.inl (pz_R ((fun _ => 0, fun _ => 0, none, false, 150) : pz_Dk))))), (q8, .inl (cJ, 16, .inr (.inl (pz_rc ((fun _ => 0, fun _ => 0, none, false, 150) : pz_Dk)))))] H := hP
  have hD : va_D A [(h0, .inr (2, [.ref q1, .ref q2, .ref q3, .ref q4, .ref q5])), (q1, .inl (cD, 5, .inr (.inr (.inr (.inr (va_up (fun _ => none) 0 (some q6))))))), (q2, .inr (1, [.int (pz_b true), .int (pz_b false), .int (pz_b false), .int (nI 0), .int (nI 0), .int (pz_b false), .int (nI 0)])), (q3, .inl (cJ, 16, .inr (.inl (fun _ => 0)))), (q4, .inl (cJ, 16, .inr (.inl (fun _ => 0)))), (q5, .inl (cJ, 16, .inr (.inl (fun _ => 0)))), (q6, .inr (0, [.ref q7, .ref q8, .int (pz_o (pz_rb ((fun _ => 0, fun _ => 0, none, false, 150) : pz_Dk))), .int (pz_b (pz_dd ((fun _ => 0, fun _ => 0, none, false, 150) : pz_Dk))), .int (nI (pz_th ((fun _ => 0, fun _ => 0, none, false, 150) : pz_Dk)))])), (q7, .inl (cJ, 2400, .inr (.inl (pz_R ((fun _ => 0, fun _ => 0, none, false, 150) : pz_Dk))))), (q8, .inl (cJ, 16, .inr (.inl (pz_rc ((fun _ => 0, fun _ => 0, none, false, 150) : pz_Dk)))))] := hD
  refine lv_iinc (k := 0) (v := nI 1) hx hb dXP_init_67 hl rfl (by decide) (by decide) rfl (fun ls hl => ?_)
  have hl : lv_has ls 2 [(1, .int (nI 1)), (0, .ref h0)] := hl
  refine lv_goto (tgt := 49) hx hb dXP_init_70 (by decide) ?_
  refine lv_iload_n hx hb dXP_init_49 rfl (lv_at hl 0 rfl) ?_
  refine lv_iconst (v := nI 5) hx hb dXP_init_50 (by decide) ?_
  refine lv_icmp_ge (tgt := 73) hx hb dXP_init_51 (by decide) (fun hc => absurd hc (by decide)) (fun _ => ?_)
  refine lv_aload_n hx hb dXP_init_54 rfl (lv_at hl 1 rfl) ?_
  refine va_get (D := (dC, dI)) (ci := 2) (v := .ref q1) (C := "ParityArray") (T := TXP) (N := 5) hx hb hts (fun w h => List.mem_cons_of_mem _ (inXP w h)) hown hK hP 0 rfl rfl 0 (by decide) (hts _ (List.mem_cons_of_mem _ tw_80)) (fun _ h9 => h9) rfl dXP_init_55 ?_
  refine lv_iload_n hx hb dXP_init_58 rfl (lv_at hl 0 rfl) ?_
  refine va_new (ci := 0) (fs := [.null, .null, .int (nI 0), .int (pz_b false), .int (nI 0)]) (C := "ParityArray$Disk") (T := TXD) (N := 5) hx hb hts (fun w h => List.mem_cons_of_mem _ (inXD w h)) tyXD tyXD_ok hown (hts _ (List.mem_cons_of_mem _ tw_23)) (hts _ (List.mem_cons_of_mem _ tw_54)) (hts _ (List.mem_cons_of_mem _ tw_3)) hK hP hD hS hA rfl (by decide +kernel) (Nat.le_of_ble_eq_true rfl) (Nat.le_of_ble_eq_true rfl) dXP_init_59 (fun q9 H hP hD hS => ?_)
  have hP : va_P (dC, dI) vwCl [(h0, .inr (2, [.ref q1, .ref q2, .ref q3, .ref q4, .ref q5])), (q1, .inl (cD, 5, .inr (.inr (.inr (.inr (va_up (fun _ => none) 0 (some q6))))))), (q2, .inr (1, [.int (pz_b true), .int (pz_b false), .int (pz_b false), .int (nI 0), .int (nI 0), .int (pz_b false), .int (nI 0)])), (q3, .inl (cJ, 16, .inr (.inl (fun _ => 0)))), (q4, .inl (cJ, 16, .inr (.inl (fun _ => 0)))), (q5, .inl (cJ, 16, .inr (.inl (fun _ => 0)))), (q6, .inr (0, [.ref q7, .ref q8, .int (pz_o (pz_rb ((fun _ => 0, fun _ => 0, none, false, 150) : pz_Dk))), .int (pz_b (pz_dd ((fun _ => 0, fun _ => 0, none, false, 150) : pz_Dk))), .int (nI (pz_th ((fun _ => 0, fun _ => 0, none, false, 150) : pz_Dk)))])), (q7, .inl (cJ, 2400, .inr (.inl (pz_R ((fun _ => 0, fun _ => 0, none, false, 150) : pz_Dk))))), (q8, .inl (cJ, 16, .inr (.inl (pz_rc ((fun _ => 0, fun _ => 0, none, false, 150) : pz_Dk))))), (q9, .inr (0, [.null, .null, .int (nI 0), .int (pz_b false), .int (nI 0)]))] H := hP
  have hD : va_D A [(h0, .inr (2, [.ref q1, .ref q2, .ref q3, .ref q4, .ref q5])), (q1, .inl (cD, 5, .inr (.inr (.inr (.inr (va_up (fun _ => none) 0 (some q6))))))), (q2, .inr (1, [.int (pz_b true), .int (pz_b false), .int (pz_b false), .int (nI 0), .int (nI 0), .int (pz_b false), .int (nI 0)])), (q3, .inl (cJ, 16, .inr (.inl (fun _ => 0)))), (q4, .inl (cJ, 16, .inr (.inl (fun _ => 0)))), (q5, .inl (cJ, 16, .inr (.inl (fun _ => 0)))), (q6, .inr (0, [.ref q7, .ref q8, .int (pz_o (pz_rb ((fun _ => 0, fun _ => 0, none, false, 150) : pz_Dk))), .int (pz_b (pz_dd ((fun _ => 0, fun _ => 0, none, false, 150) : pz_Dk))), .int (nI (pz_th ((fun _ => 0, fun _ => 0, none, false, 150) : pz_Dk)))])), (q7, .inl (cJ, 2400, .inr (.inl (pz_R ((fun _ => 0, fun _ => 0, none, false, 150) : pz_Dk))))), (q8, .inl (cJ, 16, .inr (.inl (pz_rc ((fun _ => 0, fun _ => 0, none, false, 150) : pz_Dk))))), (q9, .inr (0, [.null, .null, .int (nI 0), .int (pz_b false), .int (nI 0)]))] := hD
  refine W.widen (k := 9) (n := 2486) (Nat.le_of_ble_eq_true rfl) (Nat.le_of_ble_eq_true rfl) ?_
  refine lv_dup hx hb dXP_init_62 rfl ?_
  have hPc := hP.sub (ws' := [(q9, .inr (0, [.null, .null, .int (nI 0), .int (pz_b false), .int (nI 0)]))]) [9] rfl
  have hDc := hD.sub (ws' := [(q9, .inr (0, [.null, .null, .int (nI 0), .int (pz_b false), .int (nI 0)]))]) [9] (by decide) rfl
  have hFc := va_free (wc := [(q9, .inr (0, [.null, .null, .int (nI 0), .int (pz_b false), .int (nI 0)]))]) hD hS hA [9] rfl
  refine va_callv (va_runIN (As := []) (rest := [.ref q9, .int (nI 1), .ref q1]) ⟨hx, hb, hml, hown, hts⟩ (c_XD_init l dC dI _ q9 cJ) ⟨va_cnB 0 hts (pz_gi tcXD_init) rfl rfl rfl (hNW _ (List.mem_of_getElem? (i := 2) rfl)) (hts _ (List.mem_cons_of_mem _ tw_3)) (by decide +kernel) ⟨Nat.le_of_ble_eq_true rfl, Nat.le_of_ble_eq_true rfl⟩, rfl, hts _ (List.mem_cons_of_mem _ tw_56)⟩ (pz_preSw hPc (hK.sub [1] rfl) hDc) rfl rfl hl.1 rfl (lv_room (Nat.le_of_ble_eq_true rfl)) dXP_init_63 ⟨Nat.le_of_ble_eq_true rfl, Nat.le_of_ble_eq_true rfl⟩) hS (fun q _ h => hFc q h) hFc (fun u t H1 locs ht hvm hw hB hz hk1 hS => ?_)
  obtain ⟨hP1, hK1, hD1⟩ := hB
  rw [ht] at hP1
  obtain ⟨z1, q10, q11⟩ := u; obtain rfl : q9 = z1 := Eq.symm hw
  obtain ⟨hP, hD⟩ := va_join (wr := [(h0, .inr (2, [.ref q1, .ref q2, .ref q3, .ref q4, .ref q5])), (q1, .inl (cD, 5, .inr (.inr (.inr (.inr (va_up (fun _ => none) 0 (some q6))))))), (q2, .inr (1, [.int (pz_b true), .int (pz_b false), .int (pz_b false), .int (nI 0), .int (nI 0), .int (pz_b false), .int (nI 0)])), (q3, .inl (cJ, 16, .inr (.inl (fun _ => 0)))), (q4, .inl (cJ, 16, .inr (.inl (fun _ => 0)))), (q5, .inl (cJ, 16, .inr (.inl (fun _ => 0)))), (q6, .inr (0, [.ref q7, .ref q8, .int (pz_o (pz_rb ((fun _ => 0, fun _ => 0, none, false, 150) : pz_Dk))), .int (pz_b (pz_dd ((fun _ => 0, fun _ => 0, none, false, 150) : pz_Dk))), .int (nI (pz_th ((fun _ => 0, fun _ => 0, none, false, 150) : pz_Dk)))])), (q7, .inl (cJ, 2400, .inr (.inl (pz_R ((fun _ => 0, fun _ => 0, none, false, 150) : pz_Dk))))), (q8, .inl (cJ, 16, .inr (.inl (pz_rc ((fun _ => 0, fun _ => 0, none, false, 150) : pz_Dk)))))]) (w1 := [(q9, .inr (0, [.ref q10, .ref q11, .int (pz_o (pz_rb ((fun _ => 0, fun _ => 0, none, false, 150) : pz_Dk))), .int (pz_b (pz_dd ((fun _ => 0, fun _ => 0, none, false, 150) : pz_Dk))), .int (nI (pz_th ((fun _ => 0, fun _ => 0, none, false, 150) : pz_Dk)))])), (q10, .inl (cJ, 2400, .inr (.inl (pz_R ((fun _ => 0, fun _ => 0, none, false, 150) : pz_Dk))))), (q11, .inl (cJ, 16, .inr (.inl (pz_rc ((fun _ => 0, fun _ => 0, none, false, 150) : pz_Dk)))))]) hP hD [9] [0, 1, 2, 3, 4, 5, 6, 7, 8] rfl rfl (by decide) (by decide) hk1 hFc hP1 hD1
  clear hPc hDc hFc hP1 hD1 hK1 hk1 hz ht hvm
  generalize H1 = H at hP hS ⊢
  refine W.widen (k := 11) (n := 4902) (Nat.le_of_ble_eq_true rfl) (Nat.le_of_ble_eq_true rfl) ?_
  have hP : va_P (dC, dI) vwCl [(h0, .inr (2, [.ref q1, .ref q2, .ref q3, .ref q4, .ref q5])), (q1, .inl (cD, 5, .inr (.inr (.inr (.inr (va_up (fun _ => none) 0 (some q6))))))), (q2, .inr (1, [.int (pz_b true), .int (pz_b false), .int (pz_b false), .int (nI 0), .int (nI 0), .int (pz_b false), .int (nI 0)])), (q3, .inl (cJ, 16, .inr (.inl (fun _ => 0)))), (q4, .inl (cJ, 16, .inr (.inl (fun _ => 0)))), (q5, .inl (cJ, 16, .inr (.inl (fun _ => 0)))), (q6, .inr (0, [.ref q7, .ref q8, .int (pz_o (pz_rb ((fun _ => 0, fun _ => 0, none, false, 150) : pz_Dk))), .int (pz_b (pz_dd ((fun _ => 0, fun _ => 0, none, false, 150) : pz_Dk))), .int (nI (pz_th ((fun _ => 0, fun _ => 0, none, false, 150) : pz_Dk)))])), (q7, .inl (cJ, 2400, .inr (.inl (pz_R ((fun _ => 0, fun _ => 0, none, false, 150) : pz_Dk))))), (q8, .inl (cJ, 16, .inr (.inl (pz_rc ((fun _ => 0, fun _ => 0, none, false, 150) : pz_Dk))))), (q9, .inr (0, [.ref q10, .ref q11, .int (pz_o (pz_rb ((fun _ => 0, fun _ => 0, none, false, 150) : pz_Dk))), .int (pz_b (pz_dd ((fun _ => 0, fun _ => 0, none, false, 150) : pz_Dk))), .int (nI (pz_th ((fun _ => 0, fun _ => 0, none, false, 150) : pz_Dk)))])), (q10, .inl (cJ, 2400, .inr (.inl (pz_R ((fun _ => 0, fun _ => 0, none, false, 150) : pz_Dk))))), (q11, .inl (cJ, 16, .inr (.inl (pz_rc ((fun _ => 0, fun _ => 0, none, false, 150) : pz_Dk)))))] H := hP
  have hD : va_D A [(h0, .inr (2, [.ref q1, .ref q2, .ref q3, .ref q4, .ref q5])), (q1, .inl (cD, 5, .inr (.inr (.inr (.inr (va_up (fun _ => none) 0 (some q6))))))), (q2, .inr (1, [.int (pz_b true), .int (pz_b false), .int (pz_b false), .int (nI 0), .int (nI 0), .int (pz_b false), .int (nI 0)])), (q3, .inl (cJ, 16, .inr (.inl (fun _ => 0)))), (q4, .inl (cJ, 16, .inr (.inl (fun _ => 0)))), (q5, .inl (cJ, 16, .inr (.inl (fun _ => 0)))), (q6, .inr (0, [.ref q7, .ref q8, .int (pz_o (pz_rb ((fun _ => 0, fun _ => 0, none, false, 150) : pz_Dk))), .int (pz_b (pz_dd ((fun _ => 0, fun _ => 0, none, false, 150) : pz_Dk))), .int (nI (pz_th ((fun _ => 0, fun _ => 0, none, false, 150) : pz_Dk)))])), (q7, .inl (cJ, 2400, .inr (.inl (pz_R ((fun _ => 0, fun _ => 0, none, false, 150) : pz_Dk))))), (q8, .inl (cJ, 16, .inr (.inl (pz_rc ((fun _ => 0, fun _ => 0, none, false, 150) : pz_Dk))))), (q9, .inr (0, [.ref q10, .ref q11, .int (pz_o (pz_rb ((fun _ => 0, fun _ => 0, none, false, 150) : pz_Dk))), .int (pz_b (pz_dd ((fun _ => 0, fun _ => 0, none, false, 150) : pz_Dk))), .int (nI (pz_th ((fun _ => 0, fun _ => 0, none, false, 150) : pz_Dk)))])), (q10, .inl (cJ, 2400, .inr (.inl (pz_R ((fun _ => 0, fun _ => 0, none, false, 150) : pz_Dk))))), (q11, .inl (cJ, 16, .inr (.inl (pz_rc ((fun _ => 0, fun _ => 0, none, false, 150) : pz_Dk)))))] := hD
  refine va_astq hx hb hK hP hD hS 1 0 9 0 rfl rfl rfl rfl (vp_in_nI (by decide) (by decide)) dXP_init_66 (fun H locs hP hD hS => ?_)
  rw [nI_clamp (show 1 < 2 ^ 31 by decide)] at hP hD
  have hP : va_P (dC, dI) vwCl [(h0, .inr (2, [.ref q1, .ref q2, .ref q3, .ref q4, .ref q5])), (q1, .inl (cD, 5, .inr (.inr (.inr (.inr (va_up (va_up (fun _ => none) 0 (some q6)) 1 (some q9))))))), (q2, .inr (1, [.int (pz_b true), .int (pz_b false), .int (pz_b false), .int (nI 0), .int (nI 0), .int (pz_b false), .int (nI 0)])), (q3, .inl (cJ, 16, .inr (.inl (fun _ => 0)))), (q4, .inl (cJ, 16, .inr (.inl (fun _ => 0)))), (q5, .inl (cJ, 16, .inr (.inl (fun _ => 0)))), (q6, .inr (0, [.ref q7, .ref q8, .int (pz_o (pz_rb ((fun _ => 0, fun _ => 0, none, false, 150) : pz_Dk))), .int (pz_b (pz_dd ((fun _ => 0, fun _ => 0, none, false, 150) : pz_Dk))), .int (nI (pz_th ((fun _ => 0, fun _ => 0, none, false, 150) : pz_Dk)))])), (q7, .inl (cJ, 2400, .inr (.inl (pz_R ((fun _ => 0, fun _ => 0, none, false, 150) : pz_Dk))))), (q8, .inl (cJ, 16, .inr (.inl (pz_rc ((fun _ => 0, fun _ => 0, none, false, 150) : pz_Dk))))), (q9, .inr (0, [.ref q10, .ref q11, .int (pz_o (pz_rb ((fun _ => 0, fun _ => 0, none, false, 150) : pz_Dk))), .int (pz_b (pz_dd ((fun _ => 0, fun _ => 0, none, false, 150) : pz_Dk))), .int (nI (pz_th ((fun _ => 0, fun _ => 0, none, false, 150) : pz_Dk)))])), (q10, .inl (cJ, 2400, .inr (.inl (pz_R ((fun _ => 0, fun _ => 0, none, false, 150) : pz_Dk))))), (q11, .inl (cJ, 16, .inr (.inl (pz_rc ((fun _ => 0, fun _ => 0, none, false, 150) : pz_Dk)))))] H := hP
  have hD : va_D A [(h0, .inr (2, [.ref q1, .ref q2, .ref q3, .ref q4, .ref q5])), (q1, .inl (cD, 5, .inr (.inr (.inr (.inr (va_up (va_up (fun _ => none) 0 (some q6)) 1 (some q9))))))), (q2, .inr (1, [.int (pz_b true), .int (pz_b false), .int (pz_b false), .int (nI 0), .int (nI 0), .int (pz_b false), .int (nI 0)])), (q3, .inl (cJ, 16, .inr (.inl (fun _ => 0)))), (q4, .inl (cJ, 16, .inr (.inl (fun _ => 0)))), (q5, .inl (cJ, 16, .inr (.inl (fun _ => 0)))), (q6, .inr (0, [.ref q7, .ref q8, .int (pz_o (pz_rb ((fun _ => 0, fun _ => 0, none, false, 150) : pz_Dk))), .int (pz_b (pz_dd ((fun _ => 0, fun _ => 0, none, false, 150) : pz_Dk))), .int (nI (pz_th ((fun _ => 0, fun _ => 0, none, false, 150) : pz_Dk)))])), (q7, .inl (cJ, 2400, .inr (.inl (pz_R ((fun _ => 0, fun _ => 0, none, false, 150) : pz_Dk))))), (q8, .inl (cJ, 16, .inr (.inl (pz_rc ((fun _ => 0, fun _ => 0, none, false, 150) : pz_Dk))))), (q9, .inr (0, [.ref q10, .ref q11, .int (pz_o (pz_rb ((fun _ => 0, fun _ => 0, none, false, 150) : pz_Dk))), .int (pz_b (pz_dd ((fun _ => 0, fun _ => 0, none, false, 150) : pz_Dk))), .int (nI (pz_th ((fun _ => 0, fun _ => 0, none, false, 150) : pz_Dk)))])), (q10, .inl (cJ, 2400, .inr (.inl (pz_R ((fun _ => 0, fun _ => 0, none, false, 150) : pz_Dk))))), (q11, .inl (cJ, 16, .inr (.inl (pz_rc ((fun _ => 0, fun _ => 0, none, false, 150) : pz_Dk)))))] := hD
  refine lv_iinc (k := 0) (v := nI 2) hx hb dXP_init_67 hl rfl (by decide) (by decide) rfl (fun ls hl => ?_)
  have hl : lv_has ls 2 [(1, .int (nI 2)), (0, .ref h0)] := hl
  refine lv_goto (tgt := 49) hx hb dXP_init_70 (by decide) ?_
  refine lv_iload_n hx hb dXP_init_49 rfl (lv_at hl 0 rfl) ?_
  refine lv_iconst (v := nI 5) hx hb dXP_init_50 (by decide) ?_
  refine lv_icmp_ge (tgt := 73) hx hb dXP_init_51 (by decide) (fun hc => absurd hc (by decide)) (fun _ => ?_)
  refine lv_aload_n hx hb dXP_init_54 rfl (lv_at hl 1 rfl) ?_
  refine va_get (D := (dC, dI)) (ci := 2) (v := .ref q1) (C := "ParityArray") (T := TXP) (N := 5) hx hb hts (fun w h => List.mem_cons_of_mem _ (inXP w h)) hown hK hP 0 rfl rfl 0 (by decide) (hts _ (List.mem_cons_of_mem _ tw_80)) (fun _ h9 => h9) rfl dXP_init_55 ?_
  refine lv_iload_n hx hb dXP_init_58 rfl (lv_at hl 0 rfl) ?_
  refine va_new (ci := 0) (fs := [.null, .null, .int (nI 0), .int (pz_b false), .int (nI 0)]) (C := "ParityArray$Disk") (T := TXD) (N := 5) hx hb hts (fun w h => List.mem_cons_of_mem _ (inXD w h)) tyXD tyXD_ok hown (hts _ (List.mem_cons_of_mem _ tw_23)) (hts _ (List.mem_cons_of_mem _ tw_54)) (hts _ (List.mem_cons_of_mem _ tw_3)) hK hP hD hS hA rfl (by decide +kernel) (Nat.le_of_ble_eq_true rfl) (Nat.le_of_ble_eq_true rfl) dXP_init_59 (fun q12 H hP hD hS => ?_)
  have hP : va_P (dC, dI) vwCl [(h0, .inr (2, [.ref q1, .ref q2, .ref q3, .ref q4, .ref q5])), (q1, .inl (cD, 5, .inr (.inr (.inr (.inr (va_up (va_up (fun _ => none) 0 (some q6)) 1 (some q9))))))), (q2, .inr (1, [.int (pz_b true), .int (pz_b false), .int (pz_b false), .int (nI 0), .int (nI 0), .int (pz_b false), .int (nI 0)])), (q3, .inl (cJ, 16, .inr (.inl (fun _ => 0)))), (q4, .inl (cJ, 16, .inr (.inl (fun _ => 0)))), (q5, .inl (cJ, 16, .inr (.inl (fun _ => 0)))), (q6, .inr (0, [.ref q7, .ref q8, .int (pz_o (pz_rb ((fun _ => 0, fun _ => 0, none, false, 150) : pz_Dk))), .int (pz_b (pz_dd ((fun _ => 0, fun _ => 0, none, false, 150) : pz_Dk))), .int (nI (pz_th ((fun _ => 0, fun _ => 0, none, false, 150) : pz_Dk)))])), (q7, .inl (cJ, 2400, .inr (.inl (pz_R ((fun _ => 0, fun _ => 0, none, false, 150) : pz_Dk))))), (q8, .inl (cJ, 16, .inr (.inl (pz_rc ((fun _ => 0, fun _ => 0, none, false, 150) : pz_Dk))))), (q9, .inr (0, [.ref q10, .ref q11, .int (pz_o (pz_rb ((fun _ => 0, fun _ => 0, none, false, 150) : pz_Dk))), .int (pz_b (pz_dd ((fun _ => 0, fun _ => 0, none, false, 150) : pz_Dk))), .int (nI (pz_th ((fun _ => 0, fun _ => 0, none, false, 150) : pz_Dk)))])), (q10, .inl (cJ, 2400, .inr (.inl (pz_R ((fun _ => 0, fun _ => 0, none, false, 150) : pz_Dk))))), (q11, .inl (cJ, 16, .inr (.inl (pz_rc ((fun _ => 0, fun _ => 0, none, false, 150) : pz_Dk))))), (q12, .inr (0, [.null, .null, .int (nI 0), .int (pz_b false), .int (nI 0)]))] H := hP
  have hD : va_D A [(h0, .inr (2, [.ref q1, .ref q2, .ref q3, .ref q4, .ref q5])), (q1, .inl (cD, 5, .inr (.inr (.inr (.inr (va_up (va_up (fun _ => none) 0 (some q6)) 1 (some q9))))))), (q2, .inr (1, [.int (pz_b true), .int (pz_b false), .int (pz_b false), .int (nI 0), .int (nI 0), .int (pz_b false), .int (nI 0)])), (q3, .inl (cJ, 16, .inr (.inl (fun _ => 0)))), (q4, .inl (cJ, 16, .inr (.inl (fun _ => 0)))), (q5, .inl (cJ, 16, .inr (.inl (fun _ => 0)))), (q6, .inr (0, [.ref q7, .ref q8, .int (pz_o (pz_rb ((fun _ => 0, fun _ => 0, none, false, 150) : pz_Dk))), .int (pz_b (pz_dd ((fun _ => 0, fun _ => 0, none, false, 150) : pz_Dk))), .int (nI (pz_th ((fun _ => 0, fun _ => 0, none, false, 150) : pz_Dk)))])), (q7, .inl (cJ, 2400, .inr (.inl (pz_R ((fun _ => 0, fun _ => 0, none, false, 150) : pz_Dk))))), (q8, .inl (cJ, 16, .inr (.inl (pz_rc ((fun _ => 0, fun _ => 0, none, false, 150) : pz_Dk))))), (q9, .inr (0, [.ref q10, .ref q11, .int (pz_o (pz_rb ((fun _ => 0, fun _ => 0, none, false, 150) : pz_Dk))), .int (pz_b (pz_dd ((fun _ => 0, fun _ => 0, none, false, 150) : pz_Dk))), .int (nI (pz_th ((fun _ => 0, fun _ => 0, none, false, 150) : pz_Dk)))])), (q10, .inl (cJ, 2400, .inr (.inl (pz_R ((fun _ => 0, fun _ => 0, none, false, 150) : pz_Dk))))), (q11, .inl (cJ, 16, .inr (.inl (pz_rc ((fun _ => 0, fun _ => 0, none, false, 150) : pz_Dk))))), (q12, .inr (0, [.null, .null, .int (nI 0), .int (pz_b false), .int (nI 0)]))] := hD
  refine W.widen (k := 12) (n := 4907) (Nat.le_of_ble_eq_true rfl) (Nat.le_of_ble_eq_true rfl) ?_
  refine lv_dup hx hb dXP_init_62 rfl ?_
  have hPc := hP.sub (ws' := [(q12, .inr (0, [.null, .null, .int (nI 0), .int (pz_b false), .int (nI 0)]))]) [12] rfl
  have hDc := hD.sub (ws' := [(q12, .inr (0, [.null, .null, .int (nI 0), .int (pz_b false), .int (nI 0)]))]) [12] (by decide) rfl
  have hFc := va_free (wc := [(q12, .inr (0, [.null, .null, .int (nI 0), .int (pz_b false), .int (nI 0)]))]) hD hS hA [12] rfl
  refine va_callv (va_runIN (As := []) (rest := [.ref q12, .int (nI 2), .ref q1]) ⟨hx, hb, hml, hown, hts⟩ (c_XD_init l dC dI _ q12 cJ) ⟨va_cnB 0 hts (pz_gi tcXD_init) rfl rfl rfl (hNW _ (List.mem_of_getElem? (i := 2) rfl)) (hts _ (List.mem_cons_of_mem _ tw_3)) (by decide +kernel) ⟨Nat.le_of_ble_eq_true rfl, Nat.le_of_ble_eq_true rfl⟩, rfl, hts _ (List.mem_cons_of_mem _ tw_56)⟩ (pz_preSw hPc (hK.sub [1] rfl) hDc) rfl rfl hl.1 rfl (lv_room (Nat.le_of_ble_eq_true rfl)) dXP_init_63 ⟨Nat.le_of_ble_eq_true rfl, Nat.le_of_ble_eq_true rfl⟩) hS (fun q _ h => hFc q h) hFc (fun u t H1 locs ht hvm hw hB hz hk1 hS => ?_)
  obtain ⟨hP1, hK1, hD1⟩ := hB
  rw [ht] at hP1
  obtain ⟨z1, q13, q14⟩ := u; obtain rfl : q12 = z1 := Eq.symm hw
  obtain ⟨hP, hD⟩ := va_join (wr := [(h0, .inr (2, [.ref q1, .ref q2, .ref q3, .ref q4, .ref q5])), (q1, .inl (cD, 5, .inr (.inr (.inr (.inr (va_up (va_up (fun _ => none) 0 (some q6)) 1 (some q9))))))), (q2, .inr (1, [.int (pz_b true), .int (pz_b false), .int (pz_b false), .int (nI 0), .int (nI 0), .int (pz_b false), .int (nI 0)])), (q3, .inl (cJ, 16, .inr (.inl (fun _ => 0)))), (q4, .inl (cJ, 16, .inr (.inl (fun _ => 0)))), (q5, .inl (cJ, 16, .inr (.inl (fun _ => 0)))), (q6, .inr (0, [.ref q7, .ref q8, .int (pz_o (pz_rb ((fun _ => 0, fun _ => 0, none, false, 150) : pz_Dk))), .int (pz_b (pz_dd ((fun _ => 0, fun _ => 0, none, false, 150) : pz_Dk))), .int (nI (pz_th ((fun _ => 0, fun _ => 0, none, false, 150) : pz_Dk)))])), (q7, .inl (cJ, 2400, .inr (.inl (pz_R ((fun _ => 0, fun _ => 0, none, false, 150) : pz_Dk))))), (q8, .inl (cJ, 16, .inr (.inl (pz_rc ((fun _ => 0, fun _ => 0, none, false, 150) : pz_Dk))))), (q9, .inr (0, [.ref q10, .ref q11, .int (pz_o (pz_rb ((fun _ => 0, fun _ => 0, none, false, 150) : pz_Dk))), .int (pz_b (pz_dd ((fun _ => 0, fun _ => 0, none, false, 150) : pz_Dk))), .int (nI (pz_th ((fun _ => 0, fun _ => 0, none, false, 150) : pz_Dk)))])), (q10, .inl (cJ, 2400, .inr (.inl (pz_R ((fun _ => 0, fun _ => 0, none, false, 150) : pz_Dk))))), (q11, .inl (cJ, 16, .inr (.inl (pz_rc ((fun _ => 0, fun _ => 0, none, false, 150) : pz_Dk)))))]) (w1 := [(q12, .inr (0, [.ref q13, .ref q14, .int (pz_o (pz_rb ((fun _ => 0, fun _ => 0, none, false, 150) : pz_Dk))), .int (pz_b (pz_dd ((fun _ => 0, fun _ => 0, none, false, 150) : pz_Dk))), .int (nI (pz_th ((fun _ => 0, fun _ => 0, none, false, 150) : pz_Dk)))])), (q13, .inl (cJ, 2400, .inr (.inl (pz_R ((fun _ => 0, fun _ => 0, none, false, 150) : pz_Dk))))), (q14, .inl (cJ, 16, .inr (.inl (pz_rc ((fun _ => 0, fun _ => 0, none, false, 150) : pz_Dk)))))]) hP hD [12] [0, 1, 2, 3, 4, 5, 6, 7, 8, 9, 10, 11] rfl rfl (by decide) (by decide) hk1 hFc hP1 hD1
  clear hPc hDc hFc hP1 hD1 hK1 hk1 hz ht hvm
  generalize H1 = H at hP hS ⊢
  refine W.widen (k := 14) (n := 7323) (Nat.le_of_ble_eq_true rfl) (Nat.le_of_ble_eq_true rfl) ?_
  have hP : va_P (dC, dI) vwCl [(h0, .inr (2, [.ref q1, .ref q2, .ref q3, .ref q4, .ref q5])), (q1, .inl (cD, 5, .inr (.inr (.inr (.inr (va_up (va_up (fun _ => none) 0 (some q6)) 1 (some q9))))))), (q2, .inr (1, [.int (pz_b true), .int (pz_b false), .int (pz_b false), .int (nI 0), .int (nI 0), .int (pz_b false), .int (nI 0)])), (q3, .inl (cJ, 16, .inr (.inl (fun _ => 0)))), (q4, .inl (cJ, 16, .inr (.inl (fun _ => 0)))), (q5, .inl (cJ, 16, .inr (.inl (fun _ => 0)))), (q6, .inr (0, [.ref q7, .ref q8, .int (pz_o (pz_rb ((fun _ => 0, fun _ => 0, none, false, 150) : pz_Dk))), .int (pz_b (pz_dd ((fun _ => 0, fun _ => 0, none, false, 150) : pz_Dk))), .int (nI (pz_th ((fun _ => 0, fun _ => 0, none, false, 150) : pz_Dk)))])), (q7, .inl (cJ, 2400, .inr (.inl (pz_R ((fun _ => 0, fun _ => 0, none, false, 150) : pz_Dk))))), (q8, .inl (cJ, 16, .inr (.inl (pz_rc ((fun _ => 0, fun _ => 0, none, false, 150) : pz_Dk))))), (q9, .inr (0, [.ref q10, .ref q11, .int (pz_o (pz_rb ((fun _ => 0, fun _ => 0, none, false, 150) : pz_Dk))), .int (pz_b (pz_dd ((fun _ => 0, fun _ => 0, none, false, 150) : pz_Dk))), .int (nI (pz_th ((fun _ => 0, fun _ => 0, none, false, 150) : pz_Dk)))])), (q10, .inl (cJ, 2400, .inr (.inl (pz_R ((fun _ => 0, fun _ => 0, none, false, 150) : pz_Dk))))), (q11, .inl (cJ, 16, .inr (.inl (pz_rc ((fun _ => 0, fun _ => 0, none, false, 150) : pz_Dk))))), (q12, .inr (0, [.ref q13, .ref q14, .int (pz_o (pz_rb ((fun _ => 0, fun _ => 0, none, false, 150) : pz_Dk))), .int (pz_b (pz_dd ((fun _ => 0, fun _ => 0, none, false, 150) : pz_Dk))), .int (nI (pz_th ((fun _ => 0, fun _ => 0, none, false, 150) : pz_Dk)))])), (q13, .inl (cJ, 2400, .inr (.inl (pz_R ((fun _ => 0, fun _ => 0, none, false, 150) : pz_Dk))))), (q14, .inl (cJ, 16, .inr (.inl (pz_rc ((fun _ => 0, fun _ => 0, none, false, 150) : pz_Dk)))))] H := hP
  have hD : va_D A [(h0, .inr (2, [.ref q1, .ref q2, .ref q3, .ref q4, .ref q5])), (q1, .inl (cD, 5, .inr (.inr (.inr (.inr (va_up (va_up (fun _ => none) 0 (some q6)) 1 (some q9))))))), (q2, .inr (1, [.int (pz_b true), .int (pz_b false), .int (pz_b false), .int (nI 0), .int (nI 0), .int (pz_b false), .int (nI 0)])), (q3, .inl (cJ, 16, .inr (.inl (fun _ => 0)))), (q4, .inl (cJ, 16, .inr (.inl (fun _ => 0)))), (q5, .inl (cJ, 16, .inr (.inl (fun _ => 0)))), (q6, .inr (0, [.ref q7, .ref q8, .int (pz_o (pz_rb ((fun _ => 0, fun _ => 0, none, false, 150) : pz_Dk))), .int (pz_b (pz_dd ((fun _ => 0, fun _ => 0, none, false, 150) : pz_Dk))), .int (nI (pz_th ((fun _ => 0, fun _ => 0, none, false, 150) : pz_Dk)))])), (q7, .inl (cJ, 2400, .inr (.inl (pz_R ((fun _ => 0, fun _ => 0, none, false, 150) : pz_Dk))))), (q8, .inl (cJ, 16, .inr (.inl (pz_rc ((fun _ => 0, fun _ => 0, none, false, 150) : pz_Dk))))), (q9, .inr (0, [.ref q10, .ref q11, .int (pz_o (pz_rb ((fun _ => 0, fun _ => 0, none, false, 150) : pz_Dk))), .int (pz_b (pz_dd ((fun _ => 0, fun _ => 0, none, false, 150) : pz_Dk))), .int (nI (pz_th ((fun _ => 0, fun _ => 0, none, false, 150) : pz_Dk)))])), (q10, .inl (cJ, 2400, .inr (.inl (pz_R ((fun _ => 0, fun _ => 0, none, false, 150) : pz_Dk))))), (q11, .inl (cJ, 16, .inr (.inl (pz_rc ((fun _ => 0, fun _ => 0, none, false, 150) : pz_Dk))))), (q12, .inr (0, [.ref q13, .ref q14, .int (pz_o (pz_rb ((fun _ => 0, fun _ => 0, none, false, 150) : pz_Dk))), .int (pz_b (pz_dd ((fun _ => 0, fun _ => 0, none, false, 150) : pz_Dk))), .int (nI (pz_th ((fun _ => 0, fun _ => 0, none, false, 150) : pz_Dk)))])), (q13, .inl (cJ, 2400, .inr (.inl (pz_R ((fun _ => 0, fun _ => 0, none, false, 150) : pz_Dk))))), (q14, .inl (cJ, 16, .inr (.inl (pz_rc ((fun _ => 0, fun _ => 0, none, false, 150) : pz_Dk)))))] := hD
  refine va_astq hx hb hK hP hD hS 1 0 12 0 rfl rfl rfl rfl (vp_in_nI (by decide) (by decide)) dXP_init_66 (fun H locs hP hD hS => ?_)
  rw [nI_clamp (show 2 < 2 ^ 31 by decide)] at hP hD
  have hP : va_P (dC, dI) vwCl [(h0, .inr (2, [.ref q1, .ref q2, .ref q3, .ref q4, .ref q5])), (q1, .inl (cD, 5, .inr (.inr (.inr (.inr (va_up (va_up (va_up (fun _ => none) 0 (some q6)) 1 (some q9)) 2 (some q12))))))), (q2, .inr (1, [.int (pz_b true), .int (pz_b false), .int (pz_b false), .int (nI 0), .int (nI 0), .int (pz_b false), .int (nI 0)])), (q3, .inl (cJ, 16, .inr (.inl (fun _ => 0)))), (q4, .inl (cJ, 16, .inr (.inl (fun _ => 0)))), (q5, .inl (cJ, 16, .inr (.inl (fun _ => 0)))), (q6, .inr (0, [.ref q7, .ref q8, .int (pz_o (pz_rb ((fun _ => 0, fun _ => 0, none, false, 150) : pz_Dk))), .int (pz_b (pz_dd ((fun _ => 0, fun _ => 0, none, false, 150) : pz_Dk))), .int (nI (pz_th ((fun _ => 0, fun _ => 0, none, false, 150) : pz_Dk)))])), (q7, .inl (cJ, 2400, .inr (.inl (pz_R ((fun _ => 0, fun _ => 0, none, false, 150) : pz_Dk))))), (q8, .inl (cJ, 16, .inr (.inl (pz_rc ((fun _ => 0, fun _ => 0, none, false, 150) : pz_Dk))))), (q9, .inr (0, [.ref q10, .ref q11, .int (pz_o (pz_rb ((fun _ => 0, fun _ => 0, none, false, 150) : pz_Dk))), .int (pz_b (pz_dd ((fun _ => 0, fun _ => 0, none, false, 150) : pz_Dk))), .int (nI (pz_th ((fun _ => 0, fun _ => 0, none, false, 150) : pz_Dk)))])), (q10, .inl (cJ, 2400, .inr (.inl (pz_R ((fun _ => 0, fun _ => 0, none, false, 150) : pz_Dk))))), (q11, .inl (cJ, 16, .inr (.inl (pz_rc ((fun _ => 0, fun _ => 0, none, false, 150) : pz_Dk))))), (q12, .inr (0, [.ref q13, .ref q14, .int (pz_o (pz_rb ((fun _ => 0, fun _ => 0, none, false, 150) : pz_Dk))), .int (pz_b (pz_dd ((fun _ => 0, fun _ => 0, none, false, 150) : pz_Dk))), .int (nI (pz_th ((fun _ => 0, fun _ => 0, none, false, 150) : pz_Dk)))])), (q13, .inl (cJ, 2400, .inr (.inl (pz_R ((fun _ => 0, fun _ => 0, none, false, 150) : pz_Dk))))), (q14, .inl (cJ, 16, .inr (.inl (pz_rc ((fun _ => 0, fun _ => 0, none, false, 150) : pz_Dk)))))] H := hP
  have hD : va_D A [(h0, .inr (2, [.ref q1, .ref q2, .ref q3, .ref q4, .ref q5])), (q1, .inl (cD, 5, .inr (.inr (.inr (.inr (va_up (va_up (va_up (fun _ => none) 0 (some q6)) 1 (some q9)) 2 (some q12))))))), (q2, .inr (1, [.int (pz_b true), .int (pz_b false), .int (pz_b false), .int (nI 0), .int (nI 0), .int (pz_b false), .int (nI 0)])), (q3, .inl (cJ, 16, .inr (.inl (fun _ => 0)))), (q4, .inl (cJ, 16, .inr (.inl (fun _ => 0)))), (q5, .inl (cJ, 16, .inr (.inl (fun _ => 0)))), (q6, .inr (0, [.ref q7, .ref q8, .int (pz_o (pz_rb ((fun _ => 0, fun _ => 0, none, false, 150) : pz_Dk))), .int (pz_b (pz_dd ((fun _ => 0, fun _ => 0, none, false, 150) : pz_Dk))), .int (nI (pz_th ((fun _ => 0, fun _ => 0, none, false, 150) : pz_Dk)))])), (q7, .inl (cJ, 2400, .inr (.inl (pz_R ((fun _ => 0, fun _ => 0, none, false, 150) : pz_Dk))))), (q8, .inl (cJ, 16, .inr (.inl (pz_rc ((fun _ => 0, fun _ => 0, none, false, 150) : pz_Dk))))), (q9, .inr (0, [.ref q10, .ref q11, .int (pz_o (pz_rb ((fun _ => 0, fun _ => 0, none, false, 150) : pz_Dk))), .int (pz_b (pz_dd ((fun _ => 0, fun _ => 0, none, false, 150) : pz_Dk))), .int (nI (pz_th ((fun _ => 0, fun _ => 0, none, false, 150) : pz_Dk)))])), (q10, .inl (cJ, 2400, .inr (.inl (pz_R ((fun _ => 0, fun _ => 0, none, false, 150) : pz_Dk))))), (q11, .inl (cJ, 16, .inr (.inl (pz_rc ((fun _ => 0, fun _ => 0, none, false, 150) : pz_Dk))))), (q12, .inr (0, [.ref q13, .ref q14, .int (pz_o (pz_rb ((fun _ => 0, fun _ => 0, none, false, 150) : pz_Dk))), .int (pz_b (pz_dd ((fun _ => 0, fun _ => 0, none, false, 150) : pz_Dk))), .int (nI (pz_th ((fun _ => 0, fun _ => 0, none, false, 150) : pz_Dk)))])), (q13, .inl (cJ, 2400, .inr (.inl (pz_R ((fun _ => 0, fun _ => 0, none, false, 150) : pz_Dk))))), (q14, .inl (cJ, 16, .inr (.inl (pz_rc ((fun _ => 0, fun _ => 0, none, false, 150) : pz_Dk)))))] := hD
  refine lv_iinc (k := 0) (v := nI 3) hx hb dXP_init_67 hl rfl (by decide) (by decide) rfl (fun ls hl => ?_)
  have hl : lv_has ls 2 [(1, .int (nI 3)), (0, .ref h0)] := hl
  refine lv_goto (tgt := 49) hx hb dXP_init_70 (by decide) ?_
  refine lv_iload_n hx hb dXP_init_49 rfl (lv_at hl 0 rfl) ?_
  refine lv_iconst (v := nI 5) hx hb dXP_init_50 (by decide) ?_
  refine lv_icmp_ge (tgt := 73) hx hb dXP_init_51 (by decide) (fun hc => absurd hc (by decide)) (fun _ => ?_)
  refine lv_aload_n hx hb dXP_init_54 rfl (lv_at hl 1 rfl) ?_
  refine va_get (D := (dC, dI)) (ci := 2) (v := .ref q1) (C := "ParityArray") (T := TXP) (N := 5) hx hb hts (fun w h => List.mem_cons_of_mem _ (inXP w h)) hown hK hP 0 rfl rfl 0 (by decide) (hts _ (List.mem_cons_of_mem _ tw_80)) (fun _ h9 => h9) rfl dXP_init_55 ?_
  refine lv_iload_n hx hb dXP_init_58 rfl (lv_at hl 0 rfl) ?_
  refine va_new (ci := 0) (fs := [.null, .null, .int (nI 0), .int (pz_b false), .int (nI 0)]) (C := "ParityArray$Disk") (T := TXD) (N := 5) hx hb hts (fun w h => List.mem_cons_of_mem _ (inXD w h)) tyXD tyXD_ok hown (hts _ (List.mem_cons_of_mem _ tw_23)) (hts _ (List.mem_cons_of_mem _ tw_54)) (hts _ (List.mem_cons_of_mem _ tw_3)) hK hP hD hS hA rfl (by decide +kernel) (Nat.le_of_ble_eq_true rfl) (Nat.le_of_ble_eq_true rfl) dXP_init_59 (fun q15 H hP hD hS => ?_)
  have hP : va_P (dC, dI) vwCl [(h0, .inr (2, [.ref q1, .ref q2, .ref q3, .ref q4, .ref q5])), (q1, .inl (cD, 5, .inr (.inr (.inr (.inr (va_up (va_up (va_up (fun _ => none) 0 (some q6)) 1 (some q9)) 2 (some q12))))))), (q2, .inr (1, [.int (pz_b true), .int (pz_b false), .int (pz_b false), .int (nI 0), .int (nI 0), .int (pz_b false), .int (nI 0)])), (q3, .inl (cJ, 16, .inr (.inl (fun _ => 0)))), (q4, .inl (cJ, 16, .inr (.inl (fun _ => 0)))), (q5, .inl (cJ, 16, .inr (.inl (fun _ => 0)))), (q6, .inr (0, [.ref q7, .ref q8, .int (pz_o (pz_rb ((fun _ => 0, fun _ => 0, none, false, 150) : pz_Dk))), .int (pz_b (pz_dd ((fun _ => 0, fun _ => 0, none, false, 150) : pz_Dk))), .int (nI (pz_th ((fun _ => 0, fun _ => 0, none, false, 150) : pz_Dk)))])), (q7, .inl (cJ, 2400, .inr (.inl (pz_R ((fun _ => 0, fun _ => 0, none, false, 150) : pz_Dk))))), (q8, .inl (cJ, 16, .inr (.inl (pz_rc ((fun _ => 0, fun _ => 0, none, false, 150) : pz_Dk))))), (q9, .inr (0, [.ref q10, .ref q11, .int (pz_o (pz_rb ((fun _ => 0, fun _ => 0, none, false, 150) : pz_Dk))), .int (pz_b (pz_dd ((fun _ => 0, fun _ => 0, none, false, 150) : pz_Dk))), .int (nI (pz_th ((fun _ => 0, fun _ => 0, none, false, 150) : pz_Dk)))])), (q10, .inl (cJ, 2400, .inr (.inl (pz_R ((fun _ => 0, fun _ => 0, none, false, 150) : pz_Dk))))), (q11, .inl (cJ, 16, .inr (.inl (pz_rc ((fun _ => 0, fun _ => 0, none, false, 150) : pz_Dk))))), (q12, .inr (0, [.ref q13, .ref q14, .int (pz_o (pz_rb ((fun _ => 0, fun _ => 0, none, false, 150) : pz_Dk))), .int (pz_b (pz_dd ((fun _ => 0, fun _ => 0, none, false, 150) : pz_Dk))), .int (nI (pz_th ((fun _ => 0, fun _ => 0, none, false, 150) : pz_Dk)))])), (q13, .inl (cJ, 2400, .inr (.inl (pz_R ((fun _ => 0, fun _ => 0, none, false, 150) : pz_Dk))))), (q14, .inl (cJ, 16, .inr (.inl (pz_rc ((fun _ => 0, fun _ => 0, none, false, 150) : pz_Dk))))), (q15, .inr (0, [.null, .null, .int (nI 0), .int (pz_b false), .int (nI 0)]))] H := hP
  have hD : va_D A [(h0, .inr (2, [.ref q1, .ref q2, .ref q3, .ref q4, .ref q5])), (q1, .inl (cD, 5, .inr (.inr (.inr (.inr (va_up (va_up (va_up (fun _ => none) 0 (some q6)) 1 (some q9)) 2 (some q12))))))), (q2, .inr (1, [.int (pz_b true), .int (pz_b false), .int (pz_b false), .int (nI 0), .int (nI 0), .int (pz_b false), .int (nI 0)])), (q3, .inl (cJ, 16, .inr (.inl (fun _ => 0)))), (q4, .inl (cJ, 16, .inr (.inl (fun _ => 0)))), (q5, .inl (cJ, 16, .inr (.inl (fun _ => 0)))), (q6, .inr (0, [.ref q7, .ref q8, .int (pz_o (pz_rb ((fun _ => 0, fun _ => 0, none, false, 150) : pz_Dk))), .int (pz_b (pz_dd ((fun _ => 0, fun _ => 0, none, false, 150) : pz_Dk))), .int (nI (pz_th ((fun _ => 0, fun _ => 0, none, false, 150) : pz_Dk)))])), (q7, .inl (cJ, 2400, .inr (.inl (pz_R ((fun _ => 0, fun _ => 0, none, false, 150) : pz_Dk))))), (q8, .inl (cJ, 16, .inr (.inl (pz_rc ((fun _ => 0, fun _ => 0, none, false, 150) : pz_Dk))))), (q9, .inr (0, [.ref q10, .ref q11, .int (pz_o (pz_rb ((fun _ => 0, fun _ => 0, none, false, 150) : pz_Dk))), .int (pz_b (pz_dd ((fun _ => 0, fun _ => 0, none, false, 150) : pz_Dk))), .int (nI (pz_th ((fun _ => 0, fun _ => 0, none, false, 150) : pz_Dk)))])), (q10, .inl (cJ, 2400, .inr (.inl (pz_R ((fun _ => 0, fun _ => 0, none, false, 150) : pz_Dk))))), (q11, .inl (cJ, 16, .inr (.inl (pz_rc ((fun _ => 0, fun _ => 0, none, false, 150) : pz_Dk))))), (q12, .inr (0, [.ref q13, .ref q14, .int (pz_o (pz_rb ((fun _ => 0, fun _ => 0, none, false, 150) : pz_Dk))), .int (pz_b (pz_dd ((fun _ => 0, fun _ => 0, none, false, 150) : pz_Dk))), .int (nI (pz_th ((fun _ => 0, fun _ => 0, none, false, 150) : pz_Dk)))])), (q13, .inl (cJ, 2400, .inr (.inl (pz_R ((fun _ => 0, fun _ => 0, none, false, 150) : pz_Dk))))), (q14, .inl (cJ, 16, .inr (.inl (pz_rc ((fun _ => 0, fun _ => 0, none, false, 150) : pz_Dk))))), (q15, .inr (0, [.null, .null, .int (nI 0), .int (pz_b false), .int (nI 0)]))] := hD
  refine W.widen (k := 15) (n := 7328) (Nat.le_of_ble_eq_true rfl) (Nat.le_of_ble_eq_true rfl) ?_
  refine lv_dup hx hb dXP_init_62 rfl ?_
  have hPc := hP.sub (ws' := [(q15, .inr (0, [.null, .null, .int (nI 0), .int (pz_b false), .int (nI 0)]))]) [15] rfl
  have hDc := hD.sub (ws' := [(q15, .inr (0, [.null, .null, .int (nI 0), .int (pz_b false), .int (nI 0)]))]) [15] (by decide) rfl
  have hFc := va_free (wc := [(q15, .inr (0, [.null, .null, .int (nI 0), .int (pz_b false), .int (nI 0)]))]) hD hS hA [15] rfl
  refine va_callv (va_runIN (As := []) (rest := [.ref q15, .int (nI 3), .ref q1]) ⟨hx, hb, hml, hown, hts⟩ (c_XD_init l dC dI _ q15 cJ) ⟨va_cnB 0 hts (pz_gi tcXD_init) rfl rfl rfl (hNW _ (List.mem_of_getElem? (i := 2) rfl)) (hts _ (List.mem_cons_of_mem _ tw_3)) (by decide +kernel) ⟨Nat.le_of_ble_eq_true rfl, Nat.le_of_ble_eq_true rfl⟩, rfl, hts _ (List.mem_cons_of_mem _ tw_56)⟩ (pz_preSw hPc (hK.sub [1] rfl) hDc) rfl rfl hl.1 rfl (lv_room (Nat.le_of_ble_eq_true rfl)) dXP_init_63 ⟨Nat.le_of_ble_eq_true rfl, Nat.le_of_ble_eq_true rfl⟩) hS (fun q _ h => hFc q h) hFc (fun u t H1 locs ht hvm hw hB hz hk1 hS => ?_)
  obtain ⟨hP1, hK1, hD1⟩ := hB
  rw [ht] at hP1
  obtain ⟨z1, q16, q17⟩ := u; obtain rfl : q15 = z1 := Eq.symm hw
  obtain ⟨hP, hD⟩ := va_join (wr := [(h0, .inr (2, [.ref q1, .ref q2, .ref q3, .ref q4, .ref q5])), (q1, .inl (cD, 5, .inr (.inr (.inr (.inr (va_up (va_up (va_up (fun _ => none) 0 (some q6)) 1 (some q9)) 2 (some q12))))))), (q2, .inr (1, [.int (pz_b true), .int (pz_b false), .int (pz_b false), .int (nI 0), .int (nI 0), .int (pz_b false), .int (nI 0)])), (q3, .inl (cJ, 16, .inr (.inl (fun _ => 0)))), (q4, .inl (cJ, 16, .inr (.inl (fun _ => 0)))), (q5, .inl (cJ, 16, .inr (.inl (fun _ => 0)))), (q6, .inr (0, [.ref q7, .ref q8, .int (pz_o (pz_rb ((fun _ => 0, fun _ => 0, none, false, 150) : pz_Dk))), .int (pz_b (pz_dd ((fun _ => 0, fun _ => 0, none, false, 150) : pz_Dk))), .int (nI (pz_th ((fun _ => 0, fun _ => 0, none, false, 150) : pz_Dk)))])), (q7, .inl (cJ, 2400, .inr (.inl (pz_R ((fun _ => 0, fun _ => 0, none, false, 150) : pz_Dk))))), (q8, .inl (cJ, 16, .inr (.inl (pz_rc ((fun _ => 0, fun _ => 0, none, false, 150) : pz_Dk))))), (q9, .inr (0, [.ref q10, .ref q11, .int (pz_o (pz_rb ((fun _ => 0, fun _ => 0, none, false, 150) : pz_Dk))), .int (pz_b (pz_dd ((fun _ => 0, fun _ => 0, none, false, 150) : pz_Dk))), .int (nI (pz_th ((fun _ => 0, fun _ => 0, none, false, 150) : pz_Dk)))])), (q10, .inl (cJ, 2400, .inr (.inl (pz_R ((fun _ => 0, fun _ => 0, none, false, 150) : pz_Dk))))), (q11, .inl (cJ, 16, .inr (.inl (pz_rc ((fun _ => 0, fun _ => 0, none, false, 150) : pz_Dk))))), (q12, .inr (0, [.ref q13, .ref q14, .int (pz_o (pz_rb ((fun _ => 0, fun _ => 0, none, false, 150) : pz_Dk))), .int (pz_b (pz_dd ((fun _ => 0, fun _ => 0, none, false, 150) : pz_Dk))), .int (nI (pz_th ((fun _ => 0, fun _ => 0, none, false, 150) : pz_Dk)))])), (q13, .inl (cJ, 2400, .inr (.inl (pz_R ((fun _ => 0, fun _ => 0, none, false, 150) : pz_Dk))))), (q14, .inl (cJ, 16, .inr (.inl (pz_rc ((fun _ => 0, fun _ => 0, none, false, 150) : pz_Dk)))))]) (w1 := [(q15, .inr (0, [.ref q16, .ref q17, .int (pz_o (pz_rb ((fun _ => 0, fun _ => 0, none, false, 150) : pz_Dk))), .int (pz_b (pz_dd ((fun _ => 0, fun _ => 0, none, false, 150) : pz_Dk))), .int (nI (pz_th ((fun _ => 0, fun _ => 0, none, false, 150) : pz_Dk)))])), (q16, .inl (cJ, 2400, .inr (.inl (pz_R ((fun _ => 0, fun _ => 0, none, false, 150) : pz_Dk))))), (q17, .inl (cJ, 16, .inr (.inl (pz_rc ((fun _ => 0, fun _ => 0, none, false, 150) : pz_Dk)))))]) hP hD [15] [0, 1, 2, 3, 4, 5, 6, 7, 8, 9, 10, 11, 12, 13, 14] rfl rfl (by decide) (by decide) hk1 hFc hP1 hD1
  clear hPc hDc hFc hP1 hD1 hK1 hk1 hz ht hvm
  generalize H1 = H at hP hS ⊢
  refine W.widen (k := 17) (n := 9744) (Nat.le_of_ble_eq_true rfl) (Nat.le_of_ble_eq_true rfl) ?_
  have hP : va_P (dC, dI) vwCl [(h0, .inr (2, [.ref q1, .ref q2, .ref q3, .ref q4, .ref q5])), (q1, .inl (cD, 5, .inr (.inr (.inr (.inr (va_up (va_up (va_up (fun _ => none) 0 (some q6)) 1 (some q9)) 2 (some q12))))))), (q2, .inr (1, [.int (pz_b true), .int (pz_b false), .int (pz_b false), .int (nI 0), .int (nI 0), .int (pz_b false), .int (nI 0)])), (q3, .inl (cJ, 16, .inr (.inl (fun _ => 0)))), (q4, .inl (cJ, 16, .inr (.inl (fun _ => 0)))), (q5, .inl (cJ, 16, .inr (.inl (fun _ => 0)))), (q6, .inr (0, [.ref q7, .ref q8, .int (pz_o (pz_rb ((fun _ => 0, fun _ => 0, none, false, 150) : pz_Dk))), .int (pz_b (pz_dd ((fun _ => 0, fun _ => 0, none, false, 150) : pz_Dk))), .int (nI (pz_th ((fun _ => 0, fun _ => 0, none, false, 150) : pz_Dk)))])), (q7, .inl (cJ, 2400, .inr (.inl (pz_R ((fun _ => 0, fun _ => 0, none, false, 150) : pz_Dk))))), (q8, .inl (cJ, 16, .inr (.inl (pz_rc ((fun _ => 0, fun _ => 0, none, false, 150) : pz_Dk))))), (q9, .inr (0, [.ref q10, .ref q11, .int (pz_o (pz_rb ((fun _ => 0, fun _ => 0, none, false, 150) : pz_Dk))), .int (pz_b (pz_dd ((fun _ => 0, fun _ => 0, none, false, 150) : pz_Dk))), .int (nI (pz_th ((fun _ => 0, fun _ => 0, none, false, 150) : pz_Dk)))])), (q10, .inl (cJ, 2400, .inr (.inl (pz_R ((fun _ => 0, fun _ => 0, none, false, 150) : pz_Dk))))), (q11, .inl (cJ, 16, .inr (.inl (pz_rc ((fun _ => 0, fun _ => 0, none, false, 150) : pz_Dk))))), (q12, .inr (0, [.ref q13, .ref q14, .int (pz_o (pz_rb ((fun _ => 0, fun _ => 0, none, false, 150) : pz_Dk))), .int (pz_b (pz_dd ((fun _ => 0, fun _ => 0, none, false, 150) : pz_Dk))), .int (nI (pz_th ((fun _ => 0, fun _ => 0, none, false, 150) : pz_Dk)))])), (q13, .inl (cJ, 2400, .inr (.inl (pz_R ((fun _ => 0, fun _ => 0, none, false, 150) : pz_Dk))))), (q14, .inl (cJ, 16, .inr (.inl (pz_rc ((fun _ => 0, fun _ => 0, none, false, 150) : pz_Dk))))), (q15, .inr (0, [.ref q16, .ref q17, .int (pz_o (pz_rb ((fun _ => 0, fun _ => 0, none, false, 150) : pz_Dk))), .int (pz_b (pz_dd ((fun _ => 0, fun _ => 0, none, false, 150) : pz_Dk))), .int (nI (pz_th ((fun _ => 0, fun _ => 0, none, false, 150) : pz_Dk)))])), (q16, .inl (cJ, 2400, .inr (.inl (pz_R ((fun _ => 0, fun _ => 0, none, false, 150) : pz_Dk))))), (q17, .inl (cJ, 16, .inr (.inl (pz_rc ((fun _ => 0, fun _ => 0, none, false, 150) : pz_Dk)))))] H := hP
  have hD : va_D A [(h0, .inr (2, [.ref q1, .ref q2, .ref q3, .ref q4, .ref q5])), (q1, .inl (cD, 5, .inr (.inr (.inr (.inr (va_up (va_up (va_up (fun _ => none) 0 (some q6)) 1 (some q9)) 2 (some q12))))))), (q2, .inr (1, [.int (pz_b true), .int (pz_b false), .int (pz_b false), .int (nI 0), .int (nI 0), .int (pz_b false), .int (nI 0)])), (q3, .inl (cJ, 16, .inr (.inl (fun _ => 0)))), (q4, .inl (cJ, 16, .inr (.inl (fun _ => 0)))), (q5, .inl (cJ, 16, .inr (.inl (fun _ => 0)))), (q6, .inr (0, [.ref q7, .ref q8, .int (pz_o (pz_rb ((fun _ => 0, fun _ => 0, none, false, 150) : pz_Dk))), .int (pz_b (pz_dd ((fun _ => 0, fun _ => 0, none, false, 150) : pz_Dk))), .int (nI (pz_th ((fun _ => 0, fun _ => 0, none, false, 150) : pz_Dk)))])), (q7, .inl (cJ, 2400, .inr (.inl (pz_R ((fun _ => 0, fun _ => 0, none, false, 150) : pz_Dk))))), (q8, .inl (cJ, 16, .inr (.inl (pz_rc ((fun _ => 0, fun _ => 0, none, false, 150) : pz_Dk))))), (q9, .inr (0, [.ref q10, .ref q11, .int (pz_o (pz_rb ((fun _ => 0, fun _ => 0, none, false, 150) : pz_Dk))), .int (pz_b (pz_dd ((fun _ => 0, fun _ => 0, none, false, 150) : pz_Dk))), .int (nI (pz_th ((fun _ => 0, fun _ => 0, none, false, 150) : pz_Dk)))])), (q10, .inl (cJ, 2400, .inr (.inl (pz_R ((fun _ => 0, fun _ => 0, none, false, 150) : pz_Dk))))), (q11, .inl (cJ, 16, .inr (.inl (pz_rc ((fun _ => 0, fun _ => 0, none, false, 150) : pz_Dk))))), (q12, .inr (0, [.ref q13, .ref q14, .int (pz_o (pz_rb ((fun _ => 0, fun _ => 0, none, false, 150) : pz_Dk))), .int (pz_b (pz_dd ((fun _ => 0, fun _ => 0, none, false, 150) : pz_Dk))), .int (nI (pz_th ((fun _ => 0, fun _ => 0, none, false, 150) : pz_Dk)))])), (q13, .inl (cJ, 2400, .inr (.inl (pz_R ((fun _ => 0, fun _ => 0, none, false, 150) : pz_Dk))))), (q14, .inl (cJ, 16, .inr (.inl (pz_rc ((fun _ => 0, fun _ => 0, none, false, 150) : pz_Dk))))), (q15, .inr (0, [.ref q16, .ref q17, .int (pz_o (pz_rb ((fun _ => 0, fun _ => 0, none, false, 150) : pz_Dk))), .int (pz_b (pz_dd ((fun _ => 0, fun _ => 0, none, false, 150) : pz_Dk))), .int (nI (pz_th ((fun _ => 0, fun _ => 0, none, false, 150) : pz_Dk)))])), (q16, .inl (cJ, 2400, .inr (.inl (pz_R ((fun _ => 0, fun _ => 0, none, false, 150) : pz_Dk))))), (q17, .inl (cJ, 16, .inr (.inl (pz_rc ((fun _ => 0, fun _ => 0, none, false, 150) : pz_Dk)))))] := hD
  refine va_astq hx hb hK hP hD hS 1 0 15 0 rfl rfl rfl rfl (vp_in_nI (by decide) (by decide)) dXP_init_66 (fun H locs hP hD hS => ?_)
  rw [nI_clamp (show 3 < 2 ^ 31 by decide)] at hP hD
  have hP : va_P (dC, dI) vwCl [(h0, .inr (2, [.ref q1, .ref q2, .ref q3, .ref q4, .ref q5])), (q1, .inl (cD, 5, .inr (.inr (.inr (.inr (va_up (va_up (va_up (va_up (fun _ => none) 0 (some q6)) 1 (some q9)) 2 (some q12)) 3 (some q15))))))), (q2, .inr (1, [.int (pz_b true), .int (pz_b false), .int (pz_b false), .int (nI 0), .int (nI 0), .int (pz_b false), .int (nI 0)])), (q3, .inl (cJ, 16, .inr (.inl (fun _ => 0)))), (q4, .inl (cJ, 16, .inr (.inl (fun _ => 0)))), (q5, .inl (cJ, 16, .inr (.inl (fun _ => 0)))), (q6, .inr (0, [.ref q7, .ref q8, .int (pz_o (pz_rb ((fun _ => 0, fun _ => 0, none, false, 150) : pz_Dk))), .int (pz_b (pz_dd ((fun _ => 0, fun _ => 0, none, false, 150) : pz_Dk))), .int (nI (pz_th ((fun _ => 0, fun _ => 0, none, false, 150) : pz_Dk)))])), (q7, .inl (cJ, 2400, .inr (.inl (pz_R ((fun _ => 0, fun _ => 0, none, false, 150) : pz_Dk))))), (q8, .inl (cJ, 16, .inr (.inl (pz_rc ((fun _ => 0, fun _ => 0, none, false, 150) : pz_Dk))))), (q9, .inr (0, [.ref q10, .ref q11, .int (pz_o (pz_rb ((fun _ => 0, fun _ => 0, none, false, 150) : pz_Dk))), .int (pz_b (pz_dd ((fun _ => 0, fun _ => 0, none, false, 150) : pz_Dk))), .int (nI (pz_th ((fun _ => 0, fun _ => 0, none, false, 150) : pz_Dk)))])), (q10, .inl (cJ, 2400, .inr (.inl (pz_R ((fun _ => 0, fun _ => 0, none, false, 150) : pz_Dk))))), (q11, .inl (cJ, 16, .inr (.inl (pz_rc ((fun _ => 0, fun _ => 0, none, false, 150) : pz_Dk))))), (q12, .inr (0, [.ref q13, .ref q14, .int (pz_o (pz_rb ((fun _ => 0, fun _ => 0, none, false, 150) : pz_Dk))), .int (pz_b (pz_dd ((fun _ => 0, fun _ => 0, none, false, 150) : pz_Dk))), .int (nI (pz_th ((fun _ => 0, fun _ => 0, none, false, 150) : pz_Dk)))])), (q13, .inl (cJ, 2400, .inr (.inl (pz_R ((fun _ => 0, fun _ => 0, none, false, 150) : pz_Dk))))), (q14, .inl (cJ, 16, .inr (.inl (pz_rc ((fun _ => 0, fun _ => 0, none, false, 150) : pz_Dk))))), (q15, .inr (0, [.ref q16, .ref q17, .int (pz_o (pz_rb ((fun _ => 0, fun _ => 0, none, false, 150) : pz_Dk))), .int (pz_b (pz_dd ((fun _ => 0, fun _ => 0, none, false, 150) : pz_Dk))), .int (nI (pz_th ((fun _ => 0, fun _ => 0, none, false, 150) : pz_Dk)))])), (q16, .inl (cJ, 2400, .inr (.inl (pz_R ((fun _ => 0, fun _ => 0, none, false, 150) : pz_Dk))))), (q17, .inl (cJ, 16, .inr (.inl (pz_rc ((fun _ => 0, fun _ => 0, none, false, 150) : pz_Dk)))))] H := hP
  have hD : va_D A [(h0, .inr (2, [.ref q1, .ref q2, .ref q3, .ref q4, .ref q5])), (q1, .inl (cD, 5, .inr (.inr (.inr (.inr (va_up (va_up (va_up (va_up (fun _ => none) 0 (some q6)) 1 (some q9)) 2 (some q12)) 3 (some q15))))))), (q2, .inr (1, [.int (pz_b true), .int (pz_b false), .int (pz_b false), .int (nI 0), .int (nI 0), .int (pz_b false), .int (nI 0)])), (q3, .inl (cJ, 16, .inr (.inl (fun _ => 0)))), (q4, .inl (cJ, 16, .inr (.inl (fun _ => 0)))), (q5, .inl (cJ, 16, .inr (.inl (fun _ => 0)))), (q6, .inr (0, [.ref q7, .ref q8, .int (pz_o (pz_rb ((fun _ => 0, fun _ => 0, none, false, 150) : pz_Dk))), .int (pz_b (pz_dd ((fun _ => 0, fun _ => 0, none, false, 150) : pz_Dk))), .int (nI (pz_th ((fun _ => 0, fun _ => 0, none, false, 150) : pz_Dk)))])), (q7, .inl (cJ, 2400, .inr (.inl (pz_R ((fun _ => 0, fun _ => 0, none, false, 150) : pz_Dk))))), (q8, .inl (cJ, 16, .inr (.inl (pz_rc ((fun _ => 0, fun _ => 0, none, false, 150) : pz_Dk))))), (q9, .inr (0, [.ref q10, .ref q11, .int (pz_o (pz_rb ((fun _ => 0, fun _ => 0, none, false, 150) : pz_Dk))), .int (pz_b (pz_dd ((fun _ => 0, fun _ => 0, none, false, 150) : pz_Dk))), .int (nI (pz_th ((fun _ => 0, fun _ => 0, none, false, 150) : pz_Dk)))])), (q10, .inl (cJ, 2400, .inr (.inl (pz_R ((fun _ => 0, fun _ => 0, none, false, 150) : pz_Dk))))), (q11, .inl (cJ, 16, .inr (.inl (pz_rc ((fun _ => 0, fun _ => 0, none, false, 150) : pz_Dk))))), (q12, .inr (0, [.ref q13, .ref q14, .int (pz_o (pz_rb ((fun _ => 0, fun _ => 0, none, false, 150) : pz_Dk))), .int (pz_b (pz_dd ((fun _ => 0, fun _ => 0, none, false, 150) : pz_Dk))), .int (nI (pz_th ((fun _ => 0, fun _ => 0, none, false, 150) : pz_Dk)))])), (q13, .inl (cJ, 2400, .inr (.inl (pz_R ((fun _ => 0, fun _ => 0, none, false, 150) : pz_Dk))))), (q14, .inl (cJ, 16, .inr (.inl (pz_rc ((fun _ => 0, fun _ => 0, none, false, 150) : pz_Dk))))), (q15, .inr (0, [.ref q16, .ref q17, .int (pz_o (pz_rb ((fun _ => 0, fun _ => 0, none, false, 150) : pz_Dk))), .int (pz_b (pz_dd ((fun _ => 0, fun _ => 0, none, false, 150) : pz_Dk))), .int (nI (pz_th ((fun _ => 0, fun _ => 0, none, false, 150) : pz_Dk)))])), (q16, .inl (cJ, 2400, .inr (.inl (pz_R ((fun _ => 0, fun _ => 0, none, false, 150) : pz_Dk))))), (q17, .inl (cJ, 16, .inr (.inl (pz_rc ((fun _ => 0, fun _ => 0, none, false, 150) : pz_Dk)))))] := hD
  refine lv_iinc (k := 0) (v := nI 4) hx hb dXP_init_67 hl rfl (by decide) (by decide) rfl (fun ls hl => ?_)
  have hl : lv_has ls 2 [(1, .int (nI 4)), (0, .ref h0)] := hl
  refine lv_goto (tgt := 49) hx hb dXP_init_70 (by decide) ?_
  refine lv_iload_n hx hb dXP_init_49 rfl (lv_at hl 0 rfl) ?_
  refine lv_iconst (v := nI 5) hx hb dXP_init_50 (by decide) ?_
  refine lv_icmp_ge (tgt := 73) hx hb dXP_init_51 (by decide) (fun hc => absurd hc (by decide)) (fun _ => ?_)
  refine lv_aload_n hx hb dXP_init_54 rfl (lv_at hl 1 rfl) ?_
  refine va_get (D := (dC, dI)) (ci := 2) (v := .ref q1) (C := "ParityArray") (T := TXP) (N := 5) hx hb hts (fun w h => List.mem_cons_of_mem _ (inXP w h)) hown hK hP 0 rfl rfl 0 (by decide) (hts _ (List.mem_cons_of_mem _ tw_80)) (fun _ h9 => h9) rfl dXP_init_55 ?_
  refine lv_iload_n hx hb dXP_init_58 rfl (lv_at hl 0 rfl) ?_
  refine va_new (ci := 0) (fs := [.null, .null, .int (nI 0), .int (pz_b false), .int (nI 0)]) (C := "ParityArray$Disk") (T := TXD) (N := 5) hx hb hts (fun w h => List.mem_cons_of_mem _ (inXD w h)) tyXD tyXD_ok hown (hts _ (List.mem_cons_of_mem _ tw_23)) (hts _ (List.mem_cons_of_mem _ tw_54)) (hts _ (List.mem_cons_of_mem _ tw_3)) hK hP hD hS hA rfl (by decide +kernel) (Nat.le_of_ble_eq_true rfl) (Nat.le_of_ble_eq_true rfl) dXP_init_59 (fun q18 H hP hD hS => ?_)
  have hP : va_P (dC, dI) vwCl [(h0, .inr (2, [.ref q1, .ref q2, .ref q3, .ref q4, .ref q5])), (q1, .inl (cD, 5, .inr (.inr (.inr (.inr (va_up (va_up (va_up (va_up (fun _ => none) 0 (some q6)) 1 (some q9)) 2 (some q12)) 3 (some q15))))))), (q2, .inr (1, [.int (pz_b true), .int (pz_b false), .int (pz_b false), .int (nI 0), .int (nI 0), .int (pz_b false), .int (nI 0)])), (q3, .inl (cJ, 16, .inr (.inl (fun _ => 0)))), (q4, .inl (cJ, 16, .inr (.inl (fun _ => 0)))), (q5, .inl (cJ, 16, .inr (.inl (fun _ => 0)))), (q6, .inr (0, [.ref q7, .ref q8, .int (pz_o (pz_rb ((fun _ => 0, fun _ => 0, none, false, 150) : pz_Dk))), .int (pz_b (pz_dd ((fun _ => 0, fun _ => 0, none, false, 150) : pz_Dk))), .int (nI (pz_th ((fun _ => 0, fun _ => 0, none, false, 150) : pz_Dk)))])), (q7, .inl (cJ, 2400, .inr (.inl (pz_R ((fun _ => 0, fun _ => 0, none, false, 150) : pz_Dk))))), (q8, .inl (cJ, 16, .inr (.inl (pz_rc ((fun _ => 0, fun _ => 0, none, false, 150) : pz_Dk))))), (q9, .inr (0, [.ref q10, .ref q11, .int (pz_o (pz_rb ((fun _ => 0, fun _ => 0, none, false, 150) : pz_Dk))), .int (pz_b (pz_dd ((fun _ => 0, fun _ => 0, none, false, 150) : pz_Dk))), .int (nI (pz_th ((fun _ => 0, fun _ => 0, none, false, 150) : pz_Dk)))])), (q10, .inl (cJ, 2400, .inr (.inl (pz_R ((fun _ => 0, fun _ => 0, none, false, 150) : pz_Dk))))), (q11, .inl (cJ, 16, .inr (.inl (pz_rc ((fun _ => 0, fun _ => 0, none, false, 150) : pz_Dk))))), (q12, .inr (0, [.ref q13, .ref q14, .int (pz_o (pz_rb ((fun _ => 0, fun _ => 0, none, false, 150) : pz_Dk))), .int (pz_b (pz_dd ((fun _ => 0, fun _ => 0, none, false, 150) : pz_Dk))), .int (nI (pz_th ((fun _ => 0, fun _ => 0, none, false, 150) : pz_Dk)))])), (q13, .inl (cJ, 2400, .inr (.inl (pz_R ((fun _ => 0, fun _ => 0, none, false, 150) : pz_Dk))))), (q14, .inl (cJ, 16, .inr (.inl (pz_rc ((fun _ => 0, fun _ => 0, none, false, 150) : pz_Dk))))), (q15, .inr (0, [.ref q16, .ref q17, .int (pz_o (pz_rb ((fun _ => 0, fun _ => 0, none, false, 150) : pz_Dk))), .int (pz_b (pz_dd ((fun _ => 0, fun _ => 0, none, false, 150) : pz_Dk))), .int (nI (pz_th ((fun _ => 0, fun _ => 0, none, false, 150) : pz_Dk)))])), (q16, .inl (cJ, 2400, .inr (.inl (pz_R ((fun _ => 0, fun _ => 0, none, false, 150) : pz_Dk))))), (q17, .inl (cJ, 16, .inr (.inl (pz_rc ((fun _ => 0, fun _ => 0, none, false, 150) : pz_Dk))))), (q18, .inr (0, [.null, .null, .int (nI 0), .int (pz_b false), .int (nI 0)]))] H := hP
  have hD : va_D A [(h0, .inr (2, [.ref q1, .ref q2, .ref q3, .ref q4, .ref q5])), (q1, .inl (cD, 5, .inr (.inr (.inr (.inr (va_up (va_up (va_up (va_up (fun _ => none) 0 (some q6)) 1 (some q9)) 2 (some q12)) 3 (some q15))))))), (q2, .inr (1, [.int (pz_b true), .int (pz_b false), .int (pz_b false), .int (nI 0), .int (nI 0), .int (pz_b false), .int (nI 0)])), (q3, .inl (cJ, 16, .inr (.inl (fun _ => 0)))), (q4, .inl (cJ, 16, .inr (.inl (fun _ => 0)))), (q5, .inl (cJ, 16, .inr (.inl (fun _ => 0)))), (q6, .inr (0, [.ref q7, .ref q8, .int (pz_o (pz_rb ((fun _ => 0, fun _ => 0, none, false, 150) : pz_Dk))), .int (pz_b (pz_dd ((fun _ => 0, fun _ => 0, none, false, 150) : pz_Dk))), .int (nI (pz_th ((fun _ => 0, fun _ => 0, none, false, 150) : pz_Dk)))])), (q7, .inl (cJ, 2400, .inr (.inl (pz_R ((fun _ => 0, fun _ => 0, none, false, 150) : pz_Dk))))), (q8, .inl (cJ, 16, .inr (.inl (pz_rc ((fun _ => 0, fun _ => 0, none, false, 150) : pz_Dk))))), (q9, .inr (0, [.ref q10, .ref q11, .int (pz_o (pz_rb ((fun _ => 0, fun _ => 0, none, false, 150) : pz_Dk))), .int (pz_b (pz_dd ((fun _ => 0, fun _ => 0, none, false, 150) : pz_Dk))), .int (nI (pz_th ((fun _ => 0, fun _ => 0, none, false, 150) : pz_Dk)))])), (q10, .inl (cJ, 2400, .inr (.inl (pz_R ((fun _ => 0, fun _ => 0, none, false, 150) : pz_Dk))))), (q11, .inl (cJ, 16, .inr (.inl (pz_rc ((fun _ => 0, fun _ => 0, none, false, 150) : pz_Dk))))), (q12, .inr (0, [.ref q13, .ref q14, .int (pz_o (pz_rb ((fun _ => 0, fun _ => 0, none, false, 150) : pz_Dk))), .int (pz_b (pz_dd ((fun _ => 0, fun _ => 0, none, false, 150) : pz_Dk))), .int (nI (pz_th ((fun _ => 0, fun _ => 0, none, false, 150) : pz_Dk)))])), (q13, .inl (cJ, 2400, .inr (.inl (pz_R ((fun _ => 0, fun _ => 0, none, false, 150) : pz_Dk))))), (q14, .inl (cJ, 16, .inr (.inl (pz_rc ((fun _ => 0, fun _ => 0, none, false, 150) : pz_Dk))))), (q15, .inr (0, [.ref q16, .ref q17, .int (pz_o (pz_rb ((fun _ => 0, fun _ => 0, none, false, 150) : pz_Dk))), .int (pz_b (pz_dd ((fun _ => 0, fun _ => 0, none, false, 150) : pz_Dk))), .int (nI (pz_th ((fun _ => 0, fun _ => 0, none, false, 150) : pz_Dk)))])), (q16, .inl (cJ, 2400, .inr (.inl (pz_R ((fun _ => 0, fun _ => 0, none, false, 150) : pz_Dk))))), (q17, .inl (cJ, 16, .inr (.inl (pz_rc ((fun _ => 0, fun _ => 0, none, false, 150) : pz_Dk))))), (q18, .inr (0, [.null, .null, .int (nI 0), .int (pz_b false), .int (nI 0)]))] := hD
  refine W.widen (k := 18) (n := 9749) (Nat.le_of_ble_eq_true rfl) (Nat.le_of_ble_eq_true rfl) ?_
  refine lv_dup hx hb dXP_init_62 rfl ?_
  have hPc := hP.sub (ws' := [(q18, .inr (0, [.null, .null, .int (nI 0), .int (pz_b false), .int (nI 0)]))]) [18] rfl
  have hDc := hD.sub (ws' := [(q18, .inr (0, [.null, .null, .int (nI 0), .int (pz_b false), .int (nI 0)]))]) [18] (by decide) rfl
  have hFc := va_free (wc := [(q18, .inr (0, [.null, .null, .int (nI 0), .int (pz_b false), .int (nI 0)]))]) hD hS hA [18] rfl
  refine va_callv (va_runIN (As := []) (rest := [.ref q18, .int (nI 4), .ref q1]) ⟨hx, hb, hml, hown, hts⟩ (c_XD_init l dC dI _ q18 cJ) ⟨va_cnB 0 hts (pz_gi tcXD_init) rfl rfl rfl (hNW _ (List.mem_of_getElem? (i := 2) rfl)) (hts _ (List.mem_cons_of_mem _ tw_3)) (by decide +kernel) ⟨Nat.le_of_ble_eq_true rfl, Nat.le_of_ble_eq_true rfl⟩, rfl, hts _ (List.mem_cons_of_mem _ tw_56)⟩ (pz_preSw hPc (hK.sub [1] rfl) hDc) rfl rfl hl.1 rfl (lv_room (Nat.le_of_ble_eq_true rfl)) dXP_init_63 ⟨Nat.le_of_ble_eq_true rfl, Nat.le_of_ble_eq_true rfl⟩) hS (fun q _ h => hFc q h) hFc (fun u t H1 locs ht hvm hw hB hz hk1 hS => ?_)
  obtain ⟨hP1, hK1, hD1⟩ := hB
  rw [ht] at hP1
  obtain ⟨z1, q19, q20⟩ := u; obtain rfl : q18 = z1 := Eq.symm hw
  obtain ⟨hP, hD⟩ := va_join (wr := [(h0, .inr (2, [.ref q1, .ref q2, .ref q3, .ref q4, .ref q5])), (q1, .inl (cD, 5, .inr (.inr (.inr (.inr (va_up (va_up (va_up (va_up (fun _ => none) 0 (some q6)) 1 (some q9)) 2 (some q12)) 3 (some q15))))))), (q2, .inr (1, [.int (pz_b true), .int (pz_b false), .int (pz_b false), .int (nI 0), .int (nI 0), .int (pz_b false), .int (nI 0)])), (q3, .inl (cJ, 16, .inr (.inl (fun _ => 0)))), (q4, .inl (cJ, 16, .inr (.inl (fun _ => 0)))), (q5, .inl (cJ, 16, .inr (.inl (fun _ => 0)))), (q6, .inr (0, [.ref q7, .ref q8, .int (pz_o (pz_rb ((fun _ => 0, fun _ => 0, none, false, 150) : pz_Dk))), .int (pz_b (pz_dd ((fun _ => 0, fun _ => 0, none, false, 150) : pz_Dk))), .int (nI (pz_th ((fun _ => 0, fun _ => 0, none, false, 150) : pz_Dk)))])), (q7, .inl (cJ, 2400, .inr (.inl (pz_R ((fun _ => 0, fun _ => 0, none, false, 150) : pz_Dk))))), (q8, .inl (cJ, 16, .inr (.inl (pz_rc ((fun _ => 0, fun _ => 0, none, false, 150) : pz_Dk))))), (q9, .inr (0, [.ref q10, .ref q11, .int (pz_o (pz_rb ((fun _ => 0, fun _ => 0, none, false, 150) : pz_Dk))), .int (pz_b (pz_dd ((fun _ => 0, fun _ => 0, none, false, 150) : pz_Dk))), .int (nI (pz_th ((fun _ => 0, fun _ => 0, none, false, 150) : pz_Dk)))])), (q10, .inl (cJ, 2400, .inr (.inl (pz_R ((fun _ => 0, fun _ => 0, none, false, 150) : pz_Dk))))), (q11, .inl (cJ, 16, .inr (.inl (pz_rc ((fun _ => 0, fun _ => 0, none, false, 150) : pz_Dk))))), (q12, .inr (0, [.ref q13, .ref q14, .int (pz_o (pz_rb ((fun _ => 0, fun _ => 0, none, false, 150) : pz_Dk))), .int (pz_b (pz_dd ((fun _ => 0, fun _ => 0, none, false, 150) : pz_Dk))), .int (nI (pz_th ((fun _ => 0, fun _ => 0, none, false, 150) : pz_Dk)))])), (q13, .inl (cJ, 2400, .inr (.inl (pz_R ((fun _ => 0, fun _ => 0, none, false, 150) : pz_Dk))))), (q14, .inl (cJ, 16, .inr (.inl (pz_rc ((fun _ => 0, fun _ => 0, none, false, 150) : pz_Dk))))), (q15, .inr (0, [.ref q16, .ref q17, .int (pz_o (pz_rb ((fun _ => 0, fun _ => 0, none, false, 150) : pz_Dk))), .int (pz_b (pz_dd ((fun _ => 0, fun _ => 0, none, false, 150) : pz_Dk))), .int (nI (pz_th ((fun _ => 0, fun _ => 0, none, false, 150) : pz_Dk)))])), (q16, .inl (cJ, 2400, .inr (.inl (pz_R ((fun _ => 0, fun _ => 0, none, false, 150) : pz_Dk))))), (q17, .inl (cJ, 16, .inr (.inl (pz_rc ((fun _ => 0, fun _ => 0, none, false, 150) : pz_Dk)))))]) (w1 := [(q18, .inr (0, [.ref q19, .ref q20, .int (pz_o (pz_rb ((fun _ => 0, fun _ => 0, none, false, 150) : pz_Dk))), .int (pz_b (pz_dd ((fun _ => 0, fun _ => 0, none, false, 150) : pz_Dk))), .int (nI (pz_th ((fun _ => 0, fun _ => 0, none, false, 150) : pz_Dk)))])), (q19, .inl (cJ, 2400, .inr (.inl (pz_R ((fun _ => 0, fun _ => 0, none, false, 150) : pz_Dk))))), (q20, .inl (cJ, 16, .inr (.inl (pz_rc ((fun _ => 0, fun _ => 0, none, false, 150) : pz_Dk)))))]) hP hD [18] [0, 1, 2, 3, 4, 5, 6, 7, 8, 9, 10, 11, 12, 13, 14, 15, 16, 17] rfl rfl (by decide) (by decide) hk1 hFc hP1 hD1
  clear hPc hDc hFc hP1 hD1 hK1 hk1 hz ht hvm
  generalize H1 = H at hP hS ⊢
  refine W.widen (k := 20) (n := 12165) (Nat.le_of_ble_eq_true rfl) (Nat.le_of_ble_eq_true rfl) ?_
  have hP : va_P (dC, dI) vwCl [(h0, .inr (2, [.ref q1, .ref q2, .ref q3, .ref q4, .ref q5])), (q1, .inl (cD, 5, .inr (.inr (.inr (.inr (va_up (va_up (va_up (va_up (fun _ => none) 0 (some q6)) 1 (some q9)) 2 (some q12)) 3 (some q15))))))), (q2, .inr (1, [.int (pz_b true), .int (pz_b false), .int (pz_b false), .int (nI 0), .int (nI 0), .int (pz_b false), .int (nI 0)])), (q3, .inl (cJ, 16, .inr (.inl (fun _ => 0)))), (q4, .inl (cJ, 16, .inr (.inl (fun _ => 0)))), (q5, .inl (cJ, 16, .inr (.inl (fun _ => 0)))), (q6, .inr (0, [.ref q7, .ref q8, .int (pz_o (pz_rb ((fun _ => 0, fun _ => 0, none, false, 150) : pz_Dk))), .int (pz_b (pz_dd ((fun _ => 0, fun _ => 0, none, false, 150) : pz_Dk))), .int (nI (pz_th ((fun _ => 0, fun _ => 0, none, false, 150) : pz_Dk)))])), (q7, .inl (cJ, 2400, .inr (.inl (pz_R ((fun _ => 0, fun _ => 0, none, false, 150) : pz_Dk))))), (q8, .inl (cJ, 16, .inr (.inl (pz_rc ((fun _ => 0, fun _ => 0, none, false, 150) : pz_Dk))))), (q9, .inr (0, [.ref q10, .ref q11, .int (pz_o (pz_rb ((fun _ => 0, fun _ => 0, none, false, 150) : pz_Dk))), .int (pz_b (pz_dd ((fun _ => 0, fun _ => 0, none, false, 150) : pz_Dk))), .int (nI (pz_th ((fun _ => 0, fun _ => 0, none, false, 150) : pz_Dk)))])), (q10, .inl (cJ, 2400, .inr (.inl (pz_R ((fun _ => 0, fun _ => 0, none, false, 150) : pz_Dk))))), (q11, .inl (cJ, 16, .inr (.inl (pz_rc ((fun _ => 0, fun _ => 0, none, false, 150) : pz_Dk))))), (q12, .inr (0, [.ref q13, .ref q14, .int (pz_o (pz_rb ((fun _ => 0, fun _ => 0, none, false, 150) : pz_Dk))), .int (pz_b (pz_dd ((fun _ => 0, fun _ => 0, none, false, 150) : pz_Dk))), .int (nI (pz_th ((fun _ => 0, fun _ => 0, none, false, 150) : pz_Dk)))])), (q13, .inl (cJ, 2400, .inr (.inl (pz_R ((fun _ => 0, fun _ => 0, none, false, 150) : pz_Dk))))), (q14, .inl (cJ, 16, .inr (.inl (pz_rc ((fun _ => 0, fun _ => 0, none, false, 150) : pz_Dk))))), (q15, .inr (0, [.ref q16, .ref q17, .int (pz_o (pz_rb ((fun _ => 0, fun _ => 0, none, false, 150) : pz_Dk))), .int (pz_b (pz_dd ((fun _ => 0, fun _ => 0, none, false, 150) : pz_Dk))), .int (nI (pz_th ((fun _ => 0, fun _ => 0, none, false, 150) : pz_Dk)))])), (q16, .inl (cJ, 2400, .inr (.inl (pz_R ((fun _ => 0, fun _ => 0, none, false, 150) : pz_Dk))))), (q17, .inl (cJ, 16, .inr (.inl (pz_rc ((fun _ => 0, fun _ => 0, none, false, 150) : pz_Dk))))), (q18, .inr (0, [.ref q19, .ref q20, .int (pz_o (pz_rb ((fun _ => 0, fun _ => 0, none, false, 150) : pz_Dk))), .int (pz_b (pz_dd ((fun _ => 0, fun _ => 0, none, false, 150) : pz_Dk))), .int (nI (pz_th ((fun _ => 0, fun _ => 0, none, false, 150) : pz_Dk)))])), (q19, .inl (cJ, 2400, .inr (.inl (pz_R ((fun _ => 0, fun _ => 0, none, false, 150) : pz_Dk))))), (q20, .inl (cJ, 16, .inr (.inl (pz_rc ((fun _ => 0, fun _ => 0, none, false, 150) : pz_Dk)))))] H := hP
  have hD : va_D A [(h0, .inr (2, [.ref q1, .ref q2, .ref q3, .ref q4, .ref q5])), (q1, .inl (cD, 5, .inr (.inr (.inr (.inr (va_up (va_up (va_up (va_up (fun _ => none) 0 (some q6)) 1 (some q9)) 2 (some q12)) 3 (some q15))))))), (q2, .inr (1, [.int (pz_b true), .int (pz_b false), .int (pz_b false), .int (nI 0), .int (nI 0), .int (pz_b false), .int (nI 0)])), (q3, .inl (cJ, 16, .inr (.inl (fun _ => 0)))), (q4, .inl (cJ, 16, .inr (.inl (fun _ => 0)))), (q5, .inl (cJ, 16, .inr (.inl (fun _ => 0)))), (q6, .inr (0, [.ref q7, .ref q8, .int (pz_o (pz_rb ((fun _ => 0, fun _ => 0, none, false, 150) : pz_Dk))), .int (pz_b (pz_dd ((fun _ => 0, fun _ => 0, none, false, 150) : pz_Dk))), .int (nI (pz_th ((fun _ => 0, fun _ => 0, none, false, 150) : pz_Dk)))])), (q7, .inl (cJ, 2400, .inr (.inl (pz_R ((fun _ => 0, fun _ => 0, none, false, 150) : pz_Dk))))), (q8, .inl (cJ, 16, .inr (.inl (pz_rc ((fun _ => 0, fun _ => 0, none, false, 150) : pz_Dk))))), (q9, .inr (0, [.ref q10, .ref q11, .int (pz_o (pz_rb ((fun _ => 0, fun _ => 0, none, false, 150) : pz_Dk))), .int (pz_b (pz_dd ((fun _ => 0, fun _ => 0, none, false, 150) : pz_Dk))), .int (nI (pz_th ((fun _ => 0, fun _ => 0, none, false, 150) : pz_Dk)))])), (q10, .inl (cJ, 2400, .inr (.inl (pz_R ((fun _ => 0, fun _ => 0, none, false, 150) : pz_Dk))))), (q11, .inl (cJ, 16, .inr (.inl (pz_rc ((fun _ => 0, fun _ => 0, none, false, 150) : pz_Dk))))), (q12, .inr (0, [.ref q13, .ref q14, .int (pz_o (pz_rb ((fun _ => 0, fun _ => 0, none, false, 150) : pz_Dk))), .int (pz_b (pz_dd ((fun _ => 0, fun _ => 0, none, false, 150) : pz_Dk))), .int (nI (pz_th ((fun _ => 0, fun _ => 0, none, false, 150) : pz_Dk)))])), (q13, .inl (cJ, 2400, .inr (.inl (pz_R ((fun _ => 0, fun _ => 0, none, false, 150) : pz_Dk))))), (q14, .inl (cJ, 16, .inr (.inl (pz_rc ((fun _ => 0, fun _ => 0, none, false, 150) : pz_Dk))))), (q15, .inr (0, [.ref q16, .ref q17, .int (pz_o (pz_rb ((fun _ => 0, fun _ => 0, none, false, 150) : pz_Dk))), .int (pz_b (pz_dd ((fun _ => 0, fun _ => 0, none, false, 150) : pz_Dk))), .int (nI (pz_th ((fun _ => 0, fun _ => 0, none, false, 150) : pz_Dk)))])), (q16, .inl (cJ, 2400, .inr (.inl (pz_R ((fun _ => 0, fun _ => 0, none, false, 150) : pz_Dk))))), (q17, .inl (cJ, 16, .inr (.inl (pz_rc ((fun _ => 0, fun _ => 0, none, false, 150) : pz_Dk))))), (q18, .inr (0, [.ref q19, .ref q20, .int (pz_o (pz_rb ((fun _ => 0, fun _ => 0, none, false, 150) : pz_Dk))), .int (pz_b (pz_dd ((fun _ => 0, fun _ => 0, none, false, 150) : pz_Dk))), .int (nI (pz_th ((fun _ => 0, fun _ => 0, none, false, 150) : pz_Dk)))])), (q19, .inl (cJ, 2400, .inr (.inl (pz_R ((fun _ => 0, fun _ => 0, none, false, 150) : pz_Dk))))), (q20, .inl (cJ, 16, .inr (.inl (pz_rc ((fun _ => 0, fun _ => 0, none, false, 150) : pz_Dk)))))] := hD
  refine va_astq hx hb hK hP hD hS 1 0 18 0 rfl rfl rfl rfl (vp_in_nI (by decide) (by decide)) dXP_init_66 (fun H locs hP hD hS => ?_)
  rw [nI_clamp (show 4 < 2 ^ 31 by decide)] at hP hD
  have hP : va_P (dC, dI) vwCl [(h0, .inr (2, [.ref q1, .ref q2, .ref q3, .ref q4, .ref q5])), (q1, .inl (cD, 5, .inr (.inr (.inr (.inr (va_up (va_up (va_up (va_up (va_up (fun _ => none) 0 (some q6)) 1 (some q9)) 2 (some q12)) 3 (some q15)) 4 (some q18))))))), (q2, .inr (1, [.int (pz_b true), .int (pz_b false), .int (pz_b false), .int (nI 0), .int (nI 0), .int (pz_b false), .int (nI 0)])), (q3, .inl (cJ, 16, .inr (.inl (fun _ => 0)))), (q4, .inl (cJ, 16, .inr (.inl (fun _ => 0)))), (q5, .inl (cJ, 16, .inr (.inl (fun _ => 0)))), (q6, .inr (0, [.ref q7, .ref q8, .int (pz_o (pz_rb ((fun _ => 0, fun _ => 0, none, false, 150) : pz_Dk))), .int (pz_b (pz_dd ((fun _ => 0, fun _ => 0, none, false, 150) : pz_Dk))), .int (nI (pz_th ((fun _ => 0, fun _ => 0, none, false, 150) : pz_Dk)))])), (q7, .inl (cJ, 2400, .inr (.inl (pz_R ((fun _ => 0, fun _ => 0, none, false, 150) : pz_Dk))))), (q8, .inl (cJ, 16, .inr (.inl (pz_rc ((fun _ => 0, fun _ => 0, none, false, 150) : pz_Dk))))), (q9, .inr (0, [.ref q10, .ref q11, .int (pz_o (pz_rb ((fun _ => 0, fun _ => 0, none, false, 150) : pz_Dk))), .int (pz_b (pz_dd ((fun _ => 0, fun _ => 0, none, false, 150) : pz_Dk))), .int (nI (pz_th ((fun _ => 0, fun _ => 0, none, false, 150) : pz_Dk)))])), (q10, .inl (cJ, 2400, .inr (.inl (pz_R ((fun _ => 0, fun _ => 0, none, false, 150) : pz_Dk))))), (q11, .inl (cJ, 16, .inr (.inl (pz_rc ((fun _ => 0, fun _ => 0, none, false, 150) : pz_Dk))))), (q12, .inr (0, [.ref q13, .ref q14, .int (pz_o (pz_rb ((fun _ => 0, fun _ => 0, none, false, 150) : pz_Dk))), .int (pz_b (pz_dd ((fun _ => 0, fun _ => 0, none, false, 150) : pz_Dk))), .int (nI (pz_th ((fun _ => 0, fun _ => 0, none, false, 150) : pz_Dk)))])), (q13, .inl (cJ, 2400, .inr (.inl (pz_R ((fun _ => 0, fun _ => 0, none, false, 150) : pz_Dk))))), (q14, .inl (cJ, 16, .inr (.inl (pz_rc ((fun _ => 0, fun _ => 0, none, false, 150) : pz_Dk))))), (q15, .inr (0, [.ref q16, .ref q17, .int (pz_o (pz_rb ((fun _ => 0, fun _ => 0, none, false, 150) : pz_Dk))), .int (pz_b (pz_dd ((fun _ => 0, fun _ => 0, none, false, 150) : pz_Dk))), .int (nI (pz_th ((fun _ => 0, fun _ => 0, none, false, 150) : pz_Dk)))])), (q16, .inl (cJ, 2400, .inr (.inl (pz_R ((fun _ => 0, fun _ => 0, none, false, 150) : pz_Dk))))), (q17, .inl (cJ, 16, .inr (.inl (pz_rc ((fun _ => 0, fun _ => 0, none, false, 150) : pz_Dk))))), (q18, .inr (0, [.ref q19, .ref q20, .int (pz_o (pz_rb ((fun _ => 0, fun _ => 0, none, false, 150) : pz_Dk))), .int (pz_b (pz_dd ((fun _ => 0, fun _ => 0, none, false, 150) : pz_Dk))), .int (nI (pz_th ((fun _ => 0, fun _ => 0, none, false, 150) : pz_Dk)))])), (q19, .inl (cJ, 2400, .inr (.inl (pz_R ((fun _ => 0, fun _ => 0, none, false, 150) : pz_Dk))))), (q20, .inl (cJ, 16, .inr (.inl (pz_rc ((fun _ => 0, fun _ => 0, none, false, 150) : pz_Dk)))))] H := hP
  have hD : va_D A [(h0, .inr (2, [.ref q1, .ref q2, .ref q3, .ref q4, .ref q5])), (q1, .inl (cD, 5, .inr (.inr (.inr (.inr (va_up (va_up (va_up (va_up (va_up (fun _ => none) 0 (some q6)) 1 (some q9)) 2 (some q12)) 3 (some q15)) 4 (some q18))))))), (q2, .inr (1, [.int (pz_b true), .int (pz_b false), .int (pz_b false), .int (nI 0), .int (nI 0), .int (pz_b false), .int (nI 0)])), (q3, .inl (cJ, 16, .inr (.inl (fun _ => 0)))), (q4, .inl (cJ, 16, .inr (.inl (fun _ => 0)))), (q5, .inl (cJ, 16, .inr (.inl (fun _ => 0)))), (q6, .inr (0, [.ref q7, .ref q8, .int (pz_o (pz_rb ((fun _ => 0, fun _ => 0, none, false, 150) : pz_Dk))), .int (pz_b (pz_dd ((fun _ => 0, fun _ => 0, none, false, 150) : pz_Dk))), .int (nI (pz_th ((fun _ => 0, fun _ => 0, none, false, 150) : pz_Dk)))])), (q7, .inl (cJ, 2400, .inr (.inl (pz_R ((fun _ => 0, fun _ => 0, none, false, 150) : pz_Dk))))), (q8, .inl (cJ, 16, .inr (.inl (pz_rc ((fun _ => 0, fun _ => 0, none, false, 150) : pz_Dk))))), (q9, .inr (0, [.ref q10, .ref q11, .int (pz_o (pz_rb ((fun _ => 0, fun _ => 0, none, false, 150) : pz_Dk))), .int (pz_b (pz_dd ((fun _ => 0, fun _ => 0, none, false, 150) : pz_Dk))), .int (nI (pz_th ((fun _ => 0, fun _ => 0, none, false, 150) : pz_Dk)))])), (q10, .inl (cJ, 2400, .inr (.inl (pz_R ((fun _ => 0, fun _ => 0, none, false, 150) : pz_Dk))))), (q11, .inl (cJ, 16, .inr (.inl (pz_rc ((fun _ => 0, fun _ => 0, none, false, 150) : pz_Dk))))), (q12, .inr (0, [.ref q13, .ref q14, .int (pz_o (pz_rb ((fun _ => 0, fun _ => 0, none, false, 150) : pz_Dk))), .int (pz_b (pz_dd ((fun _ => 0, fun _ => 0, none, false, 150) : pz_Dk))), .int (nI (pz_th ((fun _ => 0, fun _ => 0, none, false, 150) : pz_Dk)))])), (q13, .inl (cJ, 2400, .inr (.inl (pz_R ((fun _ => 0, fun _ => 0, none, false, 150) : pz_Dk))))), (q14, .inl (cJ, 16, .inr (.inl (pz_rc ((fun _ => 0, fun _ => 0, none, false, 150) : pz_Dk))))), (q15, .inr (0, [.ref q16, .ref q17, .int (pz_o (pz_rb ((fun _ => 0, fun _ => 0, none, false, 150) : pz_Dk))), .int (pz_b (pz_dd ((fun _ => 0, fun _ => 0, none, false, 150) : pz_Dk))), .int (nI (pz_th ((fun _ => 0, fun _ => 0, none, false, 150) : pz_Dk)))])), (q16, .inl (cJ, 2400, .inr (.inl (pz_R ((fun _ => 0, fun _ => 0, none, false, 150) : pz_Dk))))), (q17, .inl (cJ, 16, .inr (.inl (pz_rc ((fun _ => 0, fun _ => 0, none, false, 150) : pz_Dk))))), (q18, .inr (0, [.ref q19, .ref q20, .int (pz_o (pz_rb ((fun _ => 0, fun _ => 0, none, false, 150) : pz_Dk))), .int (pz_b (pz_dd ((fun _ => 0, fun _ => 0, none, false, 150) : pz_Dk))), .int (nI (pz_th ((fun _ => 0, fun _ => 0, none, false, 150) : pz_Dk)))])), (q19, .inl (cJ, 2400, .inr (.inl (pz_R ((fun _ => 0, fun _ => 0, none, false, 150) : pz_Dk))))), (q20, .inl (cJ, 16, .inr (.inl (pz_rc ((fun _ => 0, fun _ => 0, none, false, 150) : pz_Dk)))))] := hD
  refine lv_iinc (k := 0) (v := nI 5) hx hb dXP_init_67 hl rfl (by decide) (by decide) rfl (fun ls hl => ?_)
  have hl : lv_has ls 2 [(1, .int (nI 5)), (0, .ref h0)] := hl
  refine lv_goto (tgt := 49) hx hb dXP_init_70 (by decide) ?_
  refine lv_iload_n hx hb dXP_init_49 rfl (lv_at hl 0 rfl) ?_
  refine lv_iconst (v := nI 5) hx hb dXP_init_50 (by decide) ?_
  refine lv_icmp_ge (tgt := 73) hx hb dXP_init_51 (by decide) (fun _ => ?_) (fun hc => absurd hc (by decide))
  have e9 := pz_df5 h0 q1 q2 q3 q4 q5 (q6, q7, q8) (q9, q10, q11) (q12, q13, q14) (q15, q16, q17) (q18, q19, q20)
  dsimp only at e9
  rw [e9] at hP hD
  have hP : va_P (dC, dI) vwCl (pz_XW (h0, q1, q2, q3, q4, q5, pz_da5 (q6, q7, q8) (q9, q10, q11) (q12, q13, q14) (q15, q16, q17) (q18, q19, q20)) cJ cD pz_d0 pz_s0 (fun _ => 0) (fun _ => 0) (fun _ => 0)) H := hP
  have hD : va_D A (pz_XW (h0, q1, q2, q3, q4, q5, pz_da5 (q6, q7, q8) (q9, q10, q11) (q12, q13, q14) (q15, q16, q17) (q18, q19, q20)) cJ cD pz_d0 pz_s0 (fun _ => 0) (fun _ => 0) (fun _ => 0)) := hD
  exact W.vret hx hb hr (fun t ht hW => ⟨⟨((h0, q1, q2, q3, q4, q5, pz_da5 (q6, q7, q8) (q9, q10, q11) (q12, q13, q14) (q15, q16, q17) (q18, q19, q20)), cJ, cD), rfl, rfl, by rw [ht]; exact hP, va_K.moved hW.alike (hK.sub [1, 0] rfl), hAe ▸ hD⟩, hS.F ht⟩) hS.2.2 dXP_init_73
end
