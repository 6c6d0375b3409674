/-! the state in numbers; what is right on a disk (pz_C); the invariant -/
abbrev pz_Dk : Type := (Nat → Int64) × (Nat → Int64) × Option Nat × Bool × Nat
abbrev pz_Su : Type := Bool × Bool × Bool × Nat × Nat × Bool × Nat
def pz_b (b : Bool) : Int32 := match b with
  | true => 1
  | false => 0
def pz_o (o : Option Nat) : Int32 := match o with
  | none => -1
  | some n => nI n
abbrev pz_R (x : pz_Dk) : Nat → Int64 := x.1
abbrev pz_rc (x : pz_Dk) : Nat → Int64 := x.2.1
abbrev pz_rb (x : pz_Dk) : Option Nat := x.2.2.1
abbrev pz_dd (x : pz_Dk) : Bool := x.2.2.2.1
abbrev pz_th (x : pz_Dk) : Nat := x.2.2.2.2
abbrev pz_on (x : pz_Su) : Bool := x.1
abbrev pz_pl (x : pz_Su) : Bool := x.2.1
abbrev pz_pr (x : pz_Su) : Bool := x.2.2.1
abbrev pz_cw (x : pz_Su) : Nat := x.2.2.2.1
abbrev pz_cb (x : pz_Su) : Nat := x.2.2.2.2.1
abbrev pz_fa (x : pz_Su) : Bool := x.2.2.2.2.2.1
abbrev pz_wc (x : pz_Su) : Nat := x.2.2.2.2.2.2
def pz_beg (r : Bool) (x : pz_Su) : pz_Su := (x.1, x.2.1, x.2.2.1, x.2.2.2.1, x.2.2.2.2.1, x.2.1 && (x.2.2.1 == r), 0)
/-- how many bytes of k come through, and the supply behind it -/
def pz_let (k : Nat) (x : pz_Su) : Nat × pz_Su :=
  if pz_on x = false then (0, x) else if pz_fa x = true ∧ pz_wc x = pz_cw x then (min (pz_cb x) k, (false, x.2)) else (k, (x.1, x.2.1, x.2.2.1, x.2.2.2.1, x.2.2.2.2.1, x.2.2.2.2.2.1, x.2.2.2.2.2.2 + 1))
def pz_end (x : pz_Su) : pz_Su := if pz_fa x = true then (false, false, x.2.2.1, x.2.2.2.1, x.2.2.2.2.1, false, x.2.2.2.2.2.2) else x
def pz_fgt (x : pz_Su) : pz_Su := (x.1, false, x.2.2)
/-- a row written up to byte b -/
def pz_wr (f : Nat → Int64) (s : Nat) (row : Nat → Int64) (b : Nat) : Nat → Int64 := fun j => if 16 * s ≤ j ∧ j < 16 * s + 16 then pz_cut b (j - 16 * s) (row (j - 16 * s)) (f j) else f j
theorem pz_wr_congr {f : Nat → Int64} {s b : Nat} {r r' : Nat → Int64} (h : ∀ j, j < 16 → r j = r' j) : pz_wr f s r b = pz_wr f s r' b := by
  funext j
  unfold pz_wr
  by_cases g : 16 * s ≤ j ∧ j < 16 * s + 16
  · rw [if_pos g, if_pos g, h _ (by omega)]
  · rw [if_neg g, if_neg g]
theorem pz_wr_in (f : Nat → Int64) (s : Nat) (row : Nat → Int64) (b : Nat) {j : Nat} (hj : j < 16) : pz_wr f s row b (16 * s + j) = pz_cut b j (row j) (f (16 * s + j)) := by
  unfold pz_wr
  rw [if_pos ⟨by omega, by omega⟩, show 16 * s + j - 16 * s = j by omega]
theorem pz_wr_out (f : Nat → Int64) {s t : Nat} (row : Nat → Int64) (b : Nat) {j : Nat} (hj : j < 16) (h : t ≠ s) : pz_wr f s row b (16 * t + j) = f (16 * t + j) := by
  unfold pz_wr
  rw [if_neg (by omega)]
def pz_dwr (x : pz_Dk) (s : Nat) (row : Nat → Int64) (b : Nat) : pz_Dk := (pz_wr x.1 s row b, x.2)
theorem pz_R_dwr (x : pz_Dk) (s : Nat) (row : Nat → Int64) (b : Nat) : pz_R (pz_dwr x s row b) = pz_wr (pz_R x) s row b := rfl
theorem pz_rb_dwr (x : pz_Dk) (s : Nat) (row : Nat → Int64) (b : Nat) : pz_rb (pz_dwr x s row b) = pz_rb x := rfl
theorem pz_rc_dwr (x : pz_Dk) (s : Nat) (row : Nat → Int64) (b : Nat) : pz_rc (pz_dwr x s row b) = pz_rc x := rfl
theorem pz_th_dwr (x : pz_Dk) (s : Nat) (row : Nat → Int64) (b : Nat) : pz_th (pz_dwr x s row b) = pz_th x := rfl
theorem pz_dd_dwr (x : pz_Dk) (s : Nat) (row : Nat → Int64) (b : Nat) : pz_dd (pz_dwr x s row b) = pz_dd x := rfl
def pz_drec (x : pz_Dk) (n : Nat) (pt : Nat → Int64) (b : Nat) : pz_Dk := if b < 136 then (x.1, x.2.1, none, x.2.2.2) else (x.1, va_cpy pt x.2.1 0 0 16, some n, x.2.2.2)
def pz_dn (n : Nat) : Nat := if n % 4 < n / 4 % 5 then n % 4 else n % 4 + 1
/-- together of the disks below k but d -/
def pz_oth (f : Nat → Int64) (d : Nat) : Nat → Int64
  | 0 => 0
  | k + 1 => if k = d then pz_oth f d k else pz_oth f d k ^^^ f k
theorem pz_bt_0 (i : Nat) : pz_bt 0 i = false := by rw [show (0 : Int64) = lN 0 from rfl, pz_b_lN, Nat.zero_testBit]; simp
theorem pz_oth_5 {f : Nat → Int64} (h : f 0 ^^^ f 1 ^^^ f 2 ^^^ f 3 ^^^ f 4 = 0) {d : Nat} (hd : d < 5) : pz_oth f d 5 = f d := by
  refine pz_ext fun i hi => ?_
  have hb := congrArg (fun z => pz_bt z i) h
  simp only [pz_b_xor, pz_bt_0] at hb
  have hc : d = 0 ∨ d = 1 ∨ d = 2 ∨ d = 3 ∨ d = 4 := by omega
  rcases hc with rfl | rfl | rfl | rfl | rfl <;> simp only [pz_oth, pz_b_xor, pz_bt_0, if_pos, if_neg, reduceIte, Nat.reduceEqDiff, reduceCtorEq] <;> revert hb <;> generalize pz_bt (f 0) i = a0 <;> generalize pz_bt (f 1) i = a1 <;> generalize pz_bt (f 2) i = a2 <;> generalize pz_bt (f 3) i = a3 <;> generalize pz_bt (f 4) i = a4 <;> revert a0 a1 a2 a3 a4 <;> decide
/-- what is right on disk d, stripe s, long j, where M is what the blocks hold -/
def pz_C (M : Nat → Int64) (d s j : Nat) : Int64 :=
  if d = s % 5 then M (64 * s + j) ^^^ M (64 * s + 16 + j) ^^^ M (64 * s + 32 + j) ^^^ M (64 * s + 48 + j) else M (64 * s + 16 * (if d < s % 5 then d else d - 1) + j)
theorem pz_C_sum (M : Nat → Int64) (s j : Nat) : pz_C M 0 s j ^^^ pz_C M 1 s j ^^^ pz_C M 2 s j ^^^ pz_C M 3 s j ^^^ pz_C M 4 s j = 0 := by
  refine pz_ext fun i hi => ?_
  have hc : s % 5 = 0 ∨ s % 5 = 1 ∨ s % 5 = 2 ∨ s % 5 = 3 ∨ s % 5 = 4 := by omega
  rcases hc with h | h | h | h | h <;> simp (decide := true) only [pz_C, h, pz_b_xor, pz_bt_0, reduceIte, if_true, if_false, Nat.reduceSub, Nat.reduceMul, Nat.add_zero, Nat.mul_zero] <;> generalize pz_bt (M (64 * s + j)) i = a0 <;> generalize pz_bt (M (64 * s + 16 + j)) i = a1 <;> generalize pz_bt (M (64 * s + 32 + j)) i = a2 <;> generalize pz_bt (M (64 * s + 48 + j)) i = a3 <;> revert a0 a1 a2 a3 <;> decide
theorem pz_C_oth (M : Nat → Int64) (s j : Nat) {d : Nat} (hd : d < 5) : pz_oth (fun e => pz_C M e s j) d 5 = pz_C M d s j := by
  have h := pz_C_sum M s j
  exact pz_oth_5 (f := fun e => pz_C M e s j) h hd
theorem pz_oth_congr {f g : Nat → Int64} {d : Nat} : ∀ k, (∀ e, e < k → e ≠ d → f e = g e) → pz_oth f d k = pz_oth g d k
  | 0, _ => rfl
  | k + 1, h => by
    unfold pz_oth
    by_cases c : k = d
    · rw [if_pos c, if_pos c, pz_oth_congr k fun e he => h e (by omega)]
    · rw [if_neg c, if_neg c, pz_oth_congr k fun e he => h e (by omega), h k (by omega) c]
theorem pz_dn_lt (n : Nat) : pz_dn n < 5 := by unfold pz_dn; split <;> omega
theorem pz_dn_ne (n : Nat) : pz_dn n ≠ n / 4 % 5 := by unfold pz_dn; split <;> omega
theorem pz_C_blk (M : Nat → Int64) (n j : Nat) : pz_C M (pz_dn n) (n / 4) j = M (16 * n + j) := by
  unfold pz_C
  rw [if_neg (pz_dn_ne n)]
  congr 1
  unfold pz_dn
  by_cases h : n % 4 < n / 4 % 5
  · rw [if_pos h, if_pos h]; omega
  · rw [if_neg h, if_neg (by omega)]; omega
/-- two contents that differ in block n alone -/
def pz_Same (M M' : Nat → Int64) (n : Nat) : Prop := ∀ k, (k < 16 * n ∨ 16 * n + 16 ≤ k) → M' k = M k
theorem pz_C_far {M M' : Nat → Int64} {n : Nat} (h : pz_Same M M' n) {d s j : Nat} (hd : d < 5) (hj : j < 16) (hne : s ≠ n / 4 ∨ (d ≠ s % 5 ∧ d ≠ pz_dn n)) : pz_C M' d s j = pz_C M d s j := by
  unfold pz_C
  by_cases c : d = s % 5
  · have hs : s ≠ n / 4 := by
      rcases hne with h1 | h1
      · exact h1
      · exact absurd c h1.1
    rw [if_pos c, if_pos c, h _ (by omega), h _ (by omega), h _ (by omega), h _ (by omega)]
  · rw [if_neg c, if_neg c]
    by_cases hs : s = n / 4
    · have hdn : d ≠ pz_dn n := by
        rcases hne with h1 | h1
        · exact absurd hs h1
        · exact h1.2
      refine h _ ?_
      subst hs
      unfold pz_dn at hdn
      by_cases g : n % 4 < n / 4 % 5
      · rw [if_pos g] at hdn
        by_cases g2 : d < n / 4 % 5
        · rw [if_pos g2]; omega
        · rw [if_neg g2]; omega
      · rw [if_neg g] at hdn
        by_cases g2 : d < n / 4 % 5
        · rw [if_pos g2]; omega
        · rw [if_neg g2]; omega
    · refine h _ ?_
      by_cases g2 : d < s % 5
      · rw [if_pos g2]; omega
      · rw [if_neg g2]; omega
theorem pz_C_par {M M' : Nat → Int64} {n : Nat} (h : pz_Same M M' n) {j : Nat} (hj : j < 16) : pz_C M' (n / 4 % 5) (n / 4) j = pz_C M (n / 4 % 5) (n / 4) j ^^^ M (16 * n + j) ^^^ M' (16 * n + j) := by
  unfold pz_C
  rw [if_pos rfl, if_pos rfl]
  refine pz_ext fun i hi => ?_
  have hc : n % 4 = 0 ∨ n % 4 = 1 ∨ n % 4 = 2 ∨ n % 4 = 3 := by omega
  rcases hc with c | c | c | c
  · rw [h (64 * (n / 4) + 16 + j) (by omega), h (64 * (n / 4) + 32 + j) (by omega), h (64 * (n / 4) + 48 + j) (by omega), show 64 * (n / 4) + j = 16 * n + j by omega]
    simp only [pz_b_xor]
    generalize pz_bt (M (16 * n + j)) i = a0
    generalize pz_bt (M' (16 * n + j)) i = a1
    generalize pz_bt (M (64 * (n / 4) + 16 + j)) i = a2
    generalize pz_bt (M (64 * (n / 4) + 32 + j)) i = a3
    generalize pz_bt (M (64 * (n / 4) + 48 + j)) i = a4
    revert a0 a1 a2 a3 a4; decide
  · rw [h (64 * (n / 4) + j) (by omega), h (64 * (n / 4) + 32 + j) (by omega), h (64 * (n / 4) + 48 + j) (by omega), show 64 * (n / 4) + 16 + j = 16 * n + j by omega]
    simp only [pz_b_xor]
    generalize pz_bt (M (16 * n + j)) i = a0
    generalize pz_bt (M' (16 * n + j)) i = a1
    generalize pz_bt (M (64 * (n / 4) + j)) i = a2
    generalize pz_bt (M (64 * (n / 4) + 32 + j)) i = a3
    generalize pz_bt (M (64 * (n / 4) + 48 + j)) i = a4
    revert a0 a1 a2 a3 a4; decide
  · rw [h (64 * (n / 4) + j) (by omega), h (64 * (n / 4) + 16 + j) (by omega), h (64 * (n / 4) + 48 + j) (by omega), show 64 * (n / 4) + 32 + j = 16 * n + j by omega]
    simp only [pz_b_xor]
    generalize pz_bt (M (16 * n + j)) i = a0
    generalize pz_bt (M' (16 * n + j)) i = a1
    generalize pz_bt (M (64 * (n / 4) + j)) i = a2
    generalize pz_bt (M (64 * (n / 4) + 16 + j)) i = a3
    generalize pz_bt (M (64 * (n / 4) + 48 + j)) i = a4
    revert a0 a1 a2 a3 a4; decide
  · rw [h (64 * (n / 4) + j) (by omega), h (64 * (n / 4) + 16 + j) (by omega), h (64 * (n / 4) + 32 + j) (by omega), show 64 * (n / 4) + 48 + j = 16 * n + j by omega]
    simp only [pz_b_xor]
    generalize pz_bt (M (16 * n + j)) i = a0
    generalize pz_bt (M' (16 * n + j)) i = a1
    generalize pz_bt (M (64 * (n / 4) + j)) i = a2
    generalize pz_bt (M (64 * (n / 4) + 16 + j)) i = a3
    generalize pz_bt (M (64 * (n / 4) + 32 + j)) i = a4
    revert a0 a1 a2 a3 a4; decide
