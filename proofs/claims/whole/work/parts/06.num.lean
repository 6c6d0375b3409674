/-! numbers of the reference -/
def pz_isL (n i : Int32) : Bool := decide (0 ≤ n ∧ n < nI 600 ∧ 0 ≤ i ∧ i < nI 16)
def pz_By (f : Nat → Int32) (M : Nat → Int64) : Prop := ∀ q k, q < 9600 → k < 8 → f (8 * q + k) = pz_by (M q) k
theorem pz_om1 {o : Option Nat} (h : ∀ e, o = some e → e < 600) : pz_o o = -1 ↔ o = none := by
  cases o with
  | none => exact ⟨fun _ => rfl, fun _ => rfl⟩
  | some e =>
    constructor
    · intro h1
      have h2 : (nI e).toInt = (-1 : Int32).toInt := congrArg Int32.toInt h1
      have h3 := h e rfl
      rw [nI_toInt (by omega), show (-1 : Int32).toInt = -1 from by decide] at h2
      omega
    · intro h1; cases h1
theorem pz_oeq {o : Option Nat} {d : Nat} (hd : d < 600) (h : ∀ e, o = some e → e < 600) : pz_o o = nI d ↔ o = some d := by
  cases o with
  | none =>
    constructor
    · intro h1
      have h2 : (-1 : Int32).toInt = (nI d).toInt := congrArg Int32.toInt h1
      rw [nI_toInt (by omega), show (-1 : Int32).toInt = -1 from by decide] at h2
      omega
    · intro h1; cases h1
  | some e =>
    have h3 := h e rfl
    constructor
    · intro h1
      rw [(nI_eq (by omega) (by omega)).mp h1]
    · intro h1; cases h1; rfl
theorem pz_isL_of {n i : Int32} (h : pz_isL n i = true) : ∃ n0 i0 : Nat, n0 < 600 ∧ i0 < 16 ∧ n = nI n0 ∧ i = nI i0 := by
  obtain ⟨h1, h2, h3, h4⟩ := of_decide_eq_true h
  rcases pk_ix n (show 600 < 2 ^ 31 by decide) with a | a | ⟨n0, a1, a2⟩
  · exact absurd h1 (Int32.not_le.mpr a)
  · exact absurd h2 (Int32.not_lt.mpr a)
  · rcases pk_ix i (show 16 < 2 ^ 31 by decide) with b | b | ⟨i0, b1, b2⟩
    · exact absurd h3 (Int32.not_le.mpr b)
    · exact absurd h4 (Int32.not_lt.mpr b)
    · exact ⟨n0, i0, a1, b1, a2, b2⟩
theorem pz_isL_nI {n0 i0 : Nat} (h1 : n0 < 600) (h2 : i0 < 16) : pz_isL (nI n0) (nI i0) = true := decide_eq_true ⟨nI_pos' (by omega), nI_lt h1 (by decide), nI_pos' (by omega), nI_lt h2 (by decide)⟩
/-- the bytes that a set of the reference leaves, k of the long's eight done -/
def pz_Bk (f : Nat → Int32) (M : Nat → Int64) (Q now i : Nat) (w : Int64) (k : Nat) : Prop := ∀ q t, q < 9600 → t < 8 → f (8 * q + t) = if q = Q ∧ t < k ∧ 8 * i + t < now then pz_by w t else pz_by (M q) t
theorem pz_Bk_0 {f : Nat → Int32} {M : Nat → Int64} (h : pz_By f M) (Q now i : Nat) (w : Int64) : pz_Bk f M Q now i w 0 := fun q t hq ht => by
  rw [if_neg (by omega)]; exact h q t hq ht
theorem pz_Bk_8 {f : Nat → Int32} {M : Nat → Int64} {Q now i : Nat} {w : Int64} (h : pz_Bk f M Q now i w 8) : pz_By f (vp_updL M Q (pz_cut now i w (M Q))) := fun q t hq ht => by
  rw [h q t hq ht]
  by_cases e : q = Q
  · subst e
    rw [pk_uLs, pz_by_cut now i w _ ht]
    by_cases g : 8 * i + t < now
    · rw [if_pos g, if_pos ⟨rfl, ht, g⟩]
    · rw [if_neg g, if_neg (by omega)]
  · rw [pk_uLn e, if_neg (by omega)]
theorem pz_Bk_put {f : Nat → Int32} {M : Nat → Int64} {Q now i : Nat} {w : Int64} {k : Nat} (h : pz_Bk f M Q now i w k) (hk : k < 8) (g : 8 * i + k < now) : pz_Bk (upd f (8 * Q + k) (pz_by w k)) M Q now i w (k + 1) := fun q t hq ht => by
  by_cases e : 8 * q + t = 8 * Q + k
  · have e1 : q = Q := by omega
    have e2 : t = k := by omega
    subst e1 e2
    rw [pk_us, if_pos ⟨rfl, by omega, g⟩]
  · rw [pk_un e, h q t hq ht]
    by_cases c : q = Q ∧ t < k ∧ 8 * i + t < now
    · rw [if_pos c, if_pos ⟨c.1, by omega, c.2.2⟩]
    · rw [if_neg c, if_neg (by omega)]
theorem pz_Bk_skip {f : Nat → Int32} {M : Nat → Int64} {Q now i : Nat} {w : Int64} {k : Nat} (h : pz_Bk f M Q now i w k) (g : ¬ 8 * i + k < now) : pz_Bk f M Q now i w (k + 1) := fun q t hq ht => by
  rw [h q t hq ht]
  by_cases c : q = Q ∧ t < k ∧ 8 * i + t < now
  · rw [if_pos c, if_pos ⟨c.1, by omega, c.2.2⟩]
  · rw [if_neg c, if_neg]
    intro h9
    exact c ⟨h9.1, Classical.byContradiction fun h8 => g (by rw [show k = t by omega]; exact h9.2.2), h9.2.2⟩
