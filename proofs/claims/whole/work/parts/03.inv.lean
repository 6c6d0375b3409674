/-! the invariant of the contents, and that writes keep it; ex d: disk d's parity may be wrong where its record mends it -/
def pz_IC (dk : Nat → pz_Dk) (M : Nat → Int64) (ex : Nat → Prop) : Prop :=
  (∀ d s, d < 5 → s < 150 → s < pz_th (dk d) → (∀ j, j < 16 → pz_R (dk d) (16 * s + j) = pz_C M d s j) ∨ (ex d ∧ s % 5 = d ∧ ∃ n, n / 4 = s ∧ pz_rb (dk d) = some n ∧ s < pz_th (dk (pz_dn n)))) ∧
  ∀ d n, d < 5 → pz_rb (dk d) = some n → n < 600 ∧ n / 4 % 5 = d ∧ n / 4 < pz_th (dk d) ∧ ∀ j, j < 16 → pz_rc (dk d) j = pz_C M d (n / 4) j ^^^ M (16 * n + j)
theorem pz_IC.ex {dk : Nat → pz_Dk} {M : Nat → Int64} {e1 e2 : Nat → Prop} (h : pz_IC dk M e1) (hh : ∀ d, d < 5 → e1 d → e2 d) : pz_IC dk M e2 := by
  refine ⟨fun d s hd hs ht => ?_, h.2⟩
  rcases h.1 d s hd hs ht with g | ⟨g1, g2⟩
  · exact Or.inl g
  · exact Or.inr ⟨hh d hd g1, g2⟩
/-- a row that is THERE and not its stripe's parity, or with no exception at hand, is right -/
theorem pz_IC.row {dk : Nat → pz_Dk} {M : Nat → Int64} {ex : Nat → Prop} (h : pz_IC dk M ex) {d s j : Nat} (hd : d < 5) (hs : s < 150) (ht : s < pz_th (dk d)) (hj : j < 16) (hn : ¬ ex d ∨ s % 5 ≠ d) : pz_R (dk d) (16 * s + j) = pz_C M d s j := by
  rcases h.1 d s hd hs ht with g | ⟨g1, g2, _⟩
  · exact g j hj
  · rcases hn with k | k
    · exact absurd g1 k
    · exact absurd g2 k
/-- all but d THERE, no exception: the others together give what is right on d -/
theorem pz_IC.oth {dk : Nat → pz_Dk} {M : Nat → Int64} (h : pz_IC dk M (fun _ => False)) {d s j : Nat} (hd : d < 5) (hs : s < 150) (hj : j < 16) (ht : ∀ e, e < 5 → e ≠ d → s < pz_th (dk e)) : pz_oth (fun e => pz_R (dk e) (16 * s + j)) d 5 = pz_C M d s j := by
  rw [← pz_C_oth M s j hd]
  exact pz_oth_congr 5 fun e he hne => h.row he hs (ht e he hne) hj (Or.inl fun k => k)
/-- writes of a set: p its parity's disk, q its block's -/
theorem pz_IC.set {dk dk' : Nat → pz_Dk} {M M' : Nat → Int64} {ex : Nat → Prop} {n : Nat} (h : pz_IC dk M (fun _ => False)) (hn : n < 600) (hM : pz_Same M M' n)
    (ho : ∀ d, d < 5 → d ≠ n / 4 % 5 → d ≠ pz_dn n → dk' d = dk d) (hth : ∀ d, d < 5 → pz_th (dk' d) = pz_th (dk d))
    (hqo : ∀ t j, t < 150 → j < 16 → t ≠ n / 4 → pz_R (dk' (pz_dn n)) (16 * t + j) = pz_R (dk (pz_dn n)) (16 * t + j)) (hqi : n / 4 < pz_th (dk (pz_dn n)) → ∀ j, j < 16 → pz_R (dk' (pz_dn n)) (16 * (n / 4) + j) = M' (16 * n + j))
    (hqr : pz_rb (dk' (pz_dn n)) = pz_rb (dk (pz_dn n)) ∧ pz_rc (dk' (pz_dn n)) = pz_rc (dk (pz_dn n)))
    (hpo : ∀ t j, t < 150 → j < 16 → t ≠ n / 4 → pz_R (dk' (n / 4 % 5)) (16 * t + j) = pz_R (dk (n / 4 % 5)) (16 * t + j))
    (hpi : n / 4 < pz_th (dk (n / 4 % 5)) → (∀ j, j < 16 → pz_R (dk' (n / 4 % 5)) (16 * (n / 4) + j) = pz_C M' (n / 4 % 5) (n / 4) j) ∨ (ex (n / 4 % 5) ∧ pz_rb (dk' (n / 4 % 5)) = some n ∧ n / 4 < pz_th (dk (pz_dn n))))
    (hpr : (pz_rb (dk' (n / 4 % 5)) = none) ∨ (n / 4 < pz_th (dk (n / 4 % 5)) ∧ pz_rb (dk' (n / 4 % 5)) = some n ∧ ∀ j, j < 16 → pz_rc (dk' (n / 4 % 5)) j = pz_C M (n / 4 % 5) (n / 4) j ^^^ M (16 * n + j)) ∨ (¬ n / 4 < pz_th (dk (n / 4 % 5)) ∧ pz_rb (dk' (n / 4 % 5)) = pz_rb (dk (n / 4 % 5)) ∧ pz_rc (dk' (n / 4 % 5)) = pz_rc (dk (n / 4 % 5)))) : pz_IC dk' M' ex := by
  have hs : n / 4 < 150 := by omega
  have hp5 : n / 4 % 5 < 5 := by omega
  have hq5 := pz_dn_lt n
  have hqp := pz_dn_ne n
  have keep : ∀ d r, d < 5 → r < 600 → r / 4 % 5 = d → r / 4 ≠ n / 4 → (∀ j, j < 16 → pz_rc (dk d) j = pz_C M d (r / 4) j ^^^ M (16 * r + j)) → ∀ j, j < 16 → pz_rc (dk d) j = pz_C M' d (r / 4) j ^^^ M' (16 * r + j) := by
    intro d r hd hr hrd hrs g j hj
    rw [g j hj, pz_C_far hM hd hj (Or.inl hrs), hM (16 * r + j) (by omega)]
  constructor
  · intro d s hd hsl ht
    rw [hth d hd] at ht
    by_cases c1 : d = pz_dn n
    · subst c1
      left
      intro j hj
      by_cases c2 : s = n / 4
      · subst c2
        rw [hqi ht j hj, pz_C_blk]
      · rw [hqo s j hsl hj c2, pz_C_far hM hd hj (Or.inl c2)]
        exact h.row hd hsl ht hj (Or.inl fun k => k)
    · by_cases c2 : d = n / 4 % 5
      · subst c2
        by_cases c3 : s = n / 4
        · subst c3
          rcases hpi ht with g | ⟨g1, g2, g3⟩
          · exact Or.inl g
          · exact Or.inr ⟨g1, rfl, n, rfl, g2, by rw [hth _ hq5]; exact g3⟩
        · left
          intro j hj
          rw [hpo s j hsl hj c3, pz_C_far hM hd hj (Or.inl c3)]
          exact h.row hd hsl ht hj (Or.inl fun k => k)
      · left
        intro j hj
        rw [ho d hd c2 c1]
        by_cases c3 : s = n / 4
        · rw [pz_C_far hM hd hj (Or.inr ⟨by rw [c3]; exact c2, c1⟩)]
          exact h.row hd hsl ht hj (Or.inl fun k => k)
        · rw [pz_C_far hM hd hj (Or.inl c3)]
          exact h.row hd hsl ht hj (Or.inl fun k => k)
  · intro d r hd hrb
    rw [hth d hd]
    by_cases c2 : d = n / 4 % 5
    · subst c2
      rcases hpr with g | ⟨g1, g2, g3⟩ | ⟨g1, g2, g3⟩
      · rw [g] at hrb; cases hrb
      · rw [g2] at hrb
        cases hrb
        refine ⟨hn, rfl, g1, fun j hj => ?_⟩
        rw [g3 j hj, pz_C_par hM hj]
        refine pz_ext fun i hi => ?_
        simp only [pz_b_xor]
        generalize pz_bt (M (16 * n + j)) i = a0
        generalize pz_bt (M' (16 * n + j)) i = a1
        generalize pz_bt (pz_C M (n / 4 % 5) (n / 4) j) i = a2
        revert a0 a1 a2; decide
      · rw [g2] at hrb
        obtain ⟨k1, k2, k3, k4⟩ := h.2 _ r hd hrb
        refine ⟨k1, k2, k3, ?_⟩
        rw [g3]
        exact keep _ r hd k1 k2 (fun e => g1 (by omega)) k4
    · have hne : ∀ k, k / 4 % 5 = d → k / 4 ≠ n / 4 := fun k e1 e2 => c2 (by rw [← e1, e2])
      by_cases c1 : d = pz_dn n
      · subst c1
        rw [hqr.1] at hrb
        obtain ⟨k1, k2, k3, k4⟩ := h.2 _ r hd hrb
        refine ⟨k1, k2, k3, ?_⟩
        rw [hqr.2]
        exact keep _ r hd k1 k2 (hne r k2) k4
      · rw [ho d hd c2 c1] at hrb
        obtain ⟨k1, k2, k3, k4⟩ := h.2 _ r hd hrb
        refine ⟨k1, k2, k3, ?_⟩
        rw [ho d hd c2 c1]
        exact keep _ r hd k1 k2 (hne r k2) k4
/-- a parity mended up to byte b -/
theorem pz_IC.mend {dk : Nat → pz_Dk} {M : Nat → Int64} {ex : Nat → Prop} (h : pz_IC dk M ex) {d n b : Nat} (hd : d < 5) (hr : pz_rb (dk d) = some n) (ht : n / 4 < pz_th (dk (pz_dn n))) :
    pz_IC (va_up dk d (pz_dwr (dk d) (n / 4) (fun j => pz_rc (dk d) j ^^^ pz_R (dk (pz_dn n)) (16 * (n / 4) + j)) b)) M ex ∧ (128 ≤ b → pz_IC (va_up dk d (pz_dwr (dk d) (n / 4) (fun j => pz_rc (dk d) j ^^^ pz_R (dk (pz_dn n)) (16 * (n / 4) + j)) b)) M (fun e => ex e ∧ e ≠ d)) := by
  obtain ⟨k1, k2, k3, k4⟩ := h.2 d n hd hr
  have hs : n / 4 < 150 := by omega
  have hrow : ∀ j, j < 16 → pz_rc (dk d) j ^^^ pz_R (dk (pz_dn n)) (16 * (n / 4) + j) = pz_C M d (n / 4) j := by
    intro j hj
    rw [h.row (pz_dn_lt n) hs ht hj (Or.inr (fun e => pz_dn_ne n e.symm)), k4 j hj, pz_C_blk, Int64.xor_assoc, Int64.xor_self, Int64.xor_zero]
  have eu : ∀ e, e ≠ d → va_up dk d (pz_dwr (dk d) (n / 4) (fun j => pz_rc (dk d) j ^^^ pz_R (dk (pz_dn n)) (16 * (n / 4) + j)) b) e = dk e := fun e he => by unfold va_up; rw [if_neg he]
  have es : va_up dk d (pz_dwr (dk d) (n / 4) (fun j => pz_rc (dk d) j ^^^ pz_R (dk (pz_dn n)) (16 * (n / 4) + j)) b) d = pz_dwr (dk d) (n / 4) (fun j => pz_rc (dk d) j ^^^ pz_R (dk (pz_dn n)) (16 * (n / 4) + j)) b := by unfold va_up; rw [if_pos rfl]
  have eth : ∀ e, pz_th (va_up dk d (pz_dwr (dk d) (n / 4) (fun j => pz_rc (dk d) j ^^^ pz_R (dk (pz_dn n)) (16 * (n / 4) + j)) b) e) = pz_th (dk e) := by
    intro e
    by_cases c : e = d
    · subst c; rw [es, pz_th_dwr]
    · rw [eu e c]
  generalize va_up dk d (pz_dwr (dk d) (n / 4) (fun j => pz_rc (dk d) j ^^^ pz_R (dk (pz_dn n)) (16 * (n / 4) + j)) b) = dk' at eu es eth
  have hrec : ∀ e r, e < 5 → pz_rb (dk' e) = some r → r < 600 ∧ r / 4 % 5 = e ∧ r / 4 < pz_th (dk' e) ∧ ∀ j, j < 16 → pz_rc (dk' e) j = pz_C M e (r / 4) j ^^^ M (16 * r + j) := by
    intro e r he hrb
    rw [eth]
    by_cases c : e = d
    · subst c
      rw [es, pz_rb_dwr] at hrb
      rw [es, pz_rc_dwr]
      exact h.2 e r he hrb
    · rw [eu e c] at hrb ⊢
      exact h.2 e r he hrb
  have hrbd : pz_rb (dk' d) = some n := by rw [es, pz_rb_dwr]; exact hr
  refine ⟨⟨fun e s he hsl hte => ?_, hrec⟩, fun hb => ⟨fun e s he hsl hte => ?_, hrec⟩⟩
  · rw [eth] at hte
    by_cases c : e = d
    · subst c
      by_cases c2 : s = n / 4
      · rcases h.1 e s he hsl hte with g | ⟨g1, g2, g3⟩
        · left
          intro j hj
          subst c2
          rw [es]
          rw [pz_R_dwr]
          rw [pz_wr_in _ _ _ _ hj, hrow j hj]
          rw [g j hj, pz_cut_self]
        · right
          refine ⟨g1, g2, n, c2.symm, hrbd, ?_⟩
          rw [eth, c2]; exact ht
      · rcases h.1 e s he hsl hte with g | ⟨g1, g2, r, g3, g4, g5⟩
        · left
          intro j hj
          rw [es]
          rw [pz_R_dwr]
          rw [pz_wr_out _ _ _ hj c2]
          exact g j hj
        · exact absurd (by rw [hr] at g4; cases g4; exact g3.symm) c2
    · rw [eu e c]
      rcases h.1 e s he hsl hte with g | ⟨g1, g2, r, g3, g4, g5⟩
      · exact Or.inl g
      · exact Or.inr ⟨g1, g2, r, g3, g4, by rw [eth]; exact g5⟩
  · rw [eth] at hte
    by_cases c : e = d
    · subst c
      left
      intro j hj
      rw [es]
      rw [pz_R_dwr]
      by_cases c2 : s = n / 4
      · subst c2
        rw [pz_wr_in _ _ _ _ hj, hrow j hj, pz_cut_128 hj hb]
      · rw [pz_wr_out _ _ _ hj c2]
        rcases h.1 e s he hsl hte with g | ⟨g1, g2, r, g3, g4, g5⟩
        · exact g j hj
        · exact absurd (by rw [hr] at g4; cases g4; exact g3.symm) c2
    · rw [eu e c]
      rcases h.1 e s he hsl hte with g | ⟨g1, g2, r, g3, g4, g5⟩
      · exact Or.inl g
      · exact Or.inr ⟨⟨g1, c⟩, g2, r, g3, g4, by rw [eth]; exact g5⟩
/-- where nothing is to be mended -/
theorem pz_IC.skip {dk : Nat → pz_Dk} {M : Nat → Int64} {ex : Nat → Prop} (h : pz_IC dk M ex) {d : Nat} (hn : ∀ n, pz_rb (dk d) = some n → ¬ n / 4 < pz_th (dk (pz_dn n))) : pz_IC dk M (fun e => ex e ∧ e ≠ d) := by
  refine ⟨fun e s he hsl hte => ?_, h.2⟩
  rcases h.1 e s he hsl hte with g | ⟨g1, g2, r, g3, g4, g5⟩
  · exact Or.inl g
  · refine Or.inr ⟨⟨g1, fun c => ?_⟩, g2, r, g3, g4, g5⟩
    subst c
    exact hn r g4 (by rw [g3]; exact g5)
/-- disk d lost, all WELL before -/
theorem pz_IC.die {dk : Nat → pz_Dk} {M : Nat → Int64} (h : pz_IC dk M (fun _ => False)) {d : Nat} {f : Nat → Int64} {r : Nat → Int64} {b : Bool} : pz_IC (va_up dk d (f, r, none, b, 0)) M (fun _ => False) := by
  have eu : ∀ e, e ≠ d → va_up dk d (f, r, none, b, 0) e = dk e := fun e he => by unfold va_up; rw [if_neg he]
  have es : va_up dk d (f, r, none, b, 0) d = (f, r, none, b, 0) := by unfold va_up; rw [if_pos rfl]
  refine ⟨fun e s he hsl hte => ?_, fun e n he hrb => ?_⟩
  · by_cases c : e = d
    · subst c; rw [es] at hte; exact absurd hte (Nat.not_lt_zero _)
    · rw [eu e c] at hte ⊢
      exact Or.inl fun j hj => h.row he hsl hte hj (Or.inl fun k => k)
  · by_cases c : e = d
    · subst c; rw [es] at hrb; cases hrb
    · rw [eu e c] at hrb ⊢
      exact h.2 e n he hrb
/-- the next row of disk d rebuilt -/
theorem pz_IC.reb {dk : Nat → pz_Dk} {M : Nat → Int64} (h : pz_IC dk M (fun _ => False)) {d : Nat} (hd : d < 5) (hs : pz_th (dk d) < 150) (ho : ∀ e, e < 5 → e ≠ d → pz_th (dk e) = 150) {row : Nat → Int64} (hrow : ∀ j, j < 16 → row j = pz_C M d (pz_th (dk d)) j) {x : pz_Dk} (hx : x = (pz_wr (pz_R (dk d)) (pz_th (dk d)) row 128, (dk d).2.1, (dk d).2.2.1, (dk d).2.2.2.1, pz_th (dk d) + 1)) : pz_IC (va_up dk d x) M (fun _ => False) := by
  have eu : ∀ e, e ≠ d → va_up dk d x e = dk e := fun e he => by unfold va_up; rw [if_neg he]
  have es : va_up dk d x d = x := by unfold va_up; rw [if_pos rfl]
  have hr : pz_R x = pz_wr (pz_R (dk d)) (pz_th (dk d)) row 128 := by rw [hx]
  have ht : pz_th x = pz_th (dk d) + 1 := by rw [hx]
  have hrb9 : pz_rb x = pz_rb (dk d) := by rw [hx]
  have hrc9 : pz_rc x = pz_rc (dk d) := by rw [hx]
  refine ⟨fun e s he hsl hte => ?_, fun e n he hrb => ?_⟩
  · left
    intro j hj
    by_cases c : e = d
    · subst c
      rw [es, ht] at hte
      rw [es, hr]
      by_cases c2 : s = pz_th (dk e)
      · subst c2
        rw [pz_wr_in _ _ _ _ hj, hrow j hj, pz_cut_128 hj (Nat.le_refl _)]
      · rw [pz_wr_out _ _ _ hj c2]
        exact h.row he hsl (by omega) hj (Or.inl fun k => k)
    · rw [eu e c] at hte ⊢
      exact h.row he hsl hte hj (Or.inl fun k => k)
  · by_cases c : e = d
    · subst c
      rw [es, hrb9] at hrb
      rw [es, ht, hrc9]
      obtain ⟨k1, k2, k3, k4⟩ := h.2 e n he hrb
      exact ⟨k1, k2, by omega, k4⟩
    · rw [eu e c] at hrb ⊢
      exact h.2 e n he hrb
