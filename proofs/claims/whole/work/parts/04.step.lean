/-! the reference in numbers, the whole invariant, and what each call does to it -/
abbrev pz_Mu : Type := (Nat → Int64) × Bool × Option Nat × Bool × Nat × Nat × Nat × Nat
abbrev pz_mM (x : pz_Mu) : Nat → Int64 := x.1
abbrev pz_mo (x : pz_Mu) : Bool := x.2.1
abbrev pz_ms (x : pz_Mu) : Option Nat := x.2.2.1
abbrev pz_mf (x : pz_Mu) : Bool := x.2.2.2.1
abbrev pz_mr (x : pz_Mu) : Nat := x.2.2.2.2.1
abbrev pz_mF (x : pz_Mu) : Nat := x.2.2.2.2.2.1
abbrev pz_mw (x : pz_Mu) : Nat := x.2.2.2.2.2.2.1
abbrev pz_mc (x : pz_Mu) : Nat := x.2.2.2.2.2.2.2
def pz_IS (dk : Nat → pz_Dk) (sick : Option Nat) (fresh : Bool) (reb : Nat) : Prop :=
  (∀ d, d < 5 → sick ≠ some d → pz_th (dk d) = 150 ∧ pz_dd (dk d) = false) ∧ (∀ d, sick = some d → d < 5 ∧ reb < 150 ∧ pz_th (dk d) = reb ∧ pz_dd (dk d) = !fresh ∧ (fresh = false → reb = 0)) ∧ (sick = none → fresh = false ∧ reb = 0)
def pz_IP (su : pz_Su) (on : Bool) (fails wr ct : Nat) : Prop :=
  pz_on su = on ∧ fails = (if pz_pl su = true then (if pz_pr su = true then 2 else 1) else 0) ∧ pz_cw su = wr ∧ pz_cb su = ct ∧ wr ≤ 10 ∧ ct ≤ 200
def pz_Inv (dk : Nat → pz_Dk) (su : pz_Su) (x : pz_Mu) : Prop :=
  pz_IC dk (pz_mM x) (fun _ => pz_mo x = false) ∧ pz_IS dk (pz_ms x) (pz_mf x) (pz_mr x) ∧ pz_IP su (pz_mo x) (pz_mF x) (pz_mw x) (pz_mc x)
theorem pz_IS.th {dk : Nat → pz_Dk} {sick : Option Nat} {fresh : Bool} {reb : Nat} (h : pz_IS dk sick fresh reb) {d : Nat} (hd : d < 5) : pz_th (dk d) ≤ 150 := by
  by_cases c : sick = some d
  · have := h.2.1 d c; omega
  · have := (h.1 d hd c).1; omega
theorem pz_IS.one {dk : Nat → pz_Dk} {sick : Option Nat} {fresh : Bool} {reb : Nat} (h : pz_IS dk sick fresh reb) {d e : Nat} (hd : d < 5) (he : e < 5) (hne : e ≠ d) (hs : pz_th (dk d) < 150) : pz_th (dk e) = 150 := by
  by_cases c : sick = some e
  · by_cases c2 : sick = some d
    · rw [c] at c2; cases c2; exact absurd rfl hne
    · have := (h.1 d hd c2).1; omega
  · exact (h.1 e he c).1
theorem pz_IS.there {dk : Nat → pz_Dk} {sick : Option Nat} {fresh : Bool} {reb : Nat} (h : pz_IS dk sick fresh reb) {d s : Nat} (hd : d < 5) (hs : s < 150) : (sick ≠ some d ∨ (fresh = true ∧ s < reb)) ↔ s < pz_th (dk d) := by
  by_cases c : sick = some d
  · obtain ⟨_, h2, h3, h4, h5⟩ := h.2.1 d c
    rw [h3]
    constructor
    · rintro (g | g)
      · exact absurd c g
      · exact g.2
    · intro g
      right
      refine ⟨?_, g⟩
      cases hf : fresh
      · have := h5 hf; omega
      · rfl
  · have := (h.1 d hd c).1
    exact ⟨fun _ => by omega, fun _ => Or.inl c⟩
theorem pz_Inv.IC {dk : Nat → pz_Dk} {su : pz_Su} {x : pz_Mu} (h : pz_Inv dk su x) (hon : pz_mo x = true) : pz_IC dk (pz_mM x) (fun _ => False) := h.1.ex fun d _ g => by rw [hon] at g; cases g
/-- what a read answers -/
def pz_rl (dk : Nat → pz_Dk) (n j : Nat) : Int64 := if n / 4 < pz_th (dk (pz_dn n)) then pz_R (dk (pz_dn n)) (16 * (n / 4) + j) else pz_oth (fun e => pz_R (dk e) (16 * (n / 4) + j)) (pz_dn n) 5
theorem pz_Inv.rl {dk : Nat → pz_Dk} {su : pz_Su} {x : pz_Mu} (h : pz_Inv dk su x) (hon : pz_mo x = true) {n j : Nat} (hn : n < 600) (hj : j < 16) : pz_rl dk n j = pz_mM x (16 * n + j) := by
  unfold pz_rl
  rw [← pz_C_blk (pz_mM x) n j]
  by_cases c : n / 4 < pz_th (dk (pz_dn n))
  · rw [if_pos c]
    exact (h.IC hon).row (pz_dn_lt n) (by omega) c hj (Or.inl fun k => k)
  · rw [if_neg c]
    exact (h.IC hon).oth (pz_dn_lt n) (by omega) hj fun e he hne => by
      rw [h.2.1.one (pz_dn_lt n) he hne (by omega)]; omega
/-! set -/
def pz_l1 (a : Bool) (su : pz_Su) : Nat × pz_Su := if a = true then pz_let 136 su else (0, su)
def pz_l2 (a b : Bool) (su : pz_Su) : Nat × pz_Su := if b = true then pz_let 128 (pz_l1 a su).2 else (0, (pz_l1 a su).2)
def pz_l3 (a b : Bool) (su : pz_Su) : Nat × pz_Su := if a = true then pz_let 128 (pz_l2 a b su).2 else (0, (pz_l2 a b su).2)
def pz_nw (a : Bool) (wr ct : Nat) : Nat := if wr < (if a = true then 1 else 0) then 0 else if (if a = true then 1 else 0) < wr then 128 else min ct 128
theorem pz_amt {su : pz_Su} {fails wr ct : Nat} (h : pz_IP su true fails wr ct) (a b : Bool) (N : Nat) (hN : N = if fails = 1 then pz_nw a wr ct else 128) :
    (b = true → (pz_l2 a b (pz_beg false su)).1 = N) ∧ (a = true → b = false → (pz_l3 a b (pz_beg false su)).1 = N) ∧ (a = true → b = true → (pz_l3 a b (pz_beg false su)).1 = N ∨ (fails = 1 ∧ 136 ≤ (pz_l1 a (pz_beg false su)).1)) ∧
    pz_IP (pz_end (pz_l3 a b (pz_beg false su)).2) (decide (fails ≠ 1)) (if fails = 1 then 0 else fails) wr ct := by
  obtain ⟨on, pl, pr, cw, cb, fa, wc⟩ := su
  obtain ⟨h1, h2, h3, h4, h5, h6⟩ := h
  simp only [pz_on, pz_pl, pz_pr, pz_cw, pz_cb] at h1 h2 h3 h4
  subst h1 h3 h4 hN
  cases pl <;> cases pr <;> simp only [if_true, if_false, Bool.false_eq_true, reduceIte] at h2 <;> subst h2
  all_goals
    by_cases c0 : cw = 0
    · subst c0
      cases a <;> cases b <;> simp [pz_l1, pz_l2, pz_l3, pz_let, pz_beg, pz_nw, pz_end, pz_IP, pz_on, pz_pl, pz_pr, pz_cw, pz_cb, pz_fa, pz_wc] <;> omega
    · by_cases c1 : cw = 1
      · subst c1
        cases a <;> cases b <;> simp [pz_l1, pz_l2, pz_l3, pz_let, pz_beg, pz_nw, pz_end, pz_IP, pz_on, pz_pl, pz_pr, pz_cw, pz_cb, pz_fa, pz_wc] <;> omega
      · by_cases c2 : cw = 2
        · subst c2
          cases a <;> cases b <;> simp [pz_l1, pz_l2, pz_l3, pz_let, pz_beg, pz_nw, pz_end, pz_IP, pz_on, pz_pl, pz_pr, pz_cw, pz_cb, pz_fa, pz_wc] <;> omega
        · have d0 : ¬ 0 = cw := fun e => c0 e.symm
          have d1 : ¬ 1 = cw := fun e => c1 e.symm
          have d2 : ¬ 2 = cw := fun e => c2 e.symm
          have d3 : 1 < cw := by omega
          have d4 : 0 < cw := by omega
          cases a <;> cases b <;> simp [pz_l1, pz_l2, pz_l3, pz_let, pz_beg, pz_nw, pz_end, pz_IP, pz_on, pz_pl, pz_pr, pz_cw, pz_cb, pz_fa, pz_wc, c0, c1, c2, d0, d1, d2, d3, d4] <;> omega
/-- the three writes -/
def pz_w1 (dk : Nat → pz_Dk) (su : pz_Su) (pt : Nat → Int64) (n : Nat) : (Nat → pz_Dk) × pz_Su :=
  if n / 4 < pz_th (dk (n / 4 % 5)) then (va_up dk (n / 4 % 5) (pz_drec (dk (n / 4 % 5)) n pt (pz_let 136 su).1), (pz_let 136 su).2) else (dk, su)
def pz_w2 (x : (Nat → pz_Dk) × pz_Su) (bl : Nat → Int64) (n : Nat) : (Nat → pz_Dk) × pz_Su :=
  if n / 4 < pz_th (x.1 (pz_dn n)) then (va_up x.1 (pz_dn n) (pz_dwr (x.1 (pz_dn n)) (n / 4) bl (pz_let 128 x.2).1), (pz_let 128 x.2).2) else x
def pz_w3 (x : (Nat → pz_Dk) × pz_Su) (py : Nat → Int64) (n : Nat) : (Nat → pz_Dk) × pz_Su :=
  if n / 4 < pz_th (x.1 (n / 4 % 5)) then (va_up x.1 (n / 4 % 5) (pz_dwr (x.1 (n / 4 % 5)) (n / 4) py (pz_let 128 x.2).1), (pz_let 128 x.2).2) else x
def pz_wrs (dk : Nat → pz_Dk) (su : pz_Su) (bl pt py : Nat → Int64) (n : Nat) : (Nat → pz_Dk) × pz_Su := pz_w3 (pz_w2 (pz_w1 dk su pt n) bl n) py n
theorem pz_up_s {α : Type} (f : Nat → α) (k : Nat) (v : α) : va_up f k v k = v := by unfold va_up; rw [if_pos rfl]
theorem pz_up_n {α : Type} (f : Nat → α) {k j : Nat} (v : α) (h : j ≠ k) : va_up f k v j = f j := by unfold va_up; rw [if_neg h]
theorem pz_drec_th (x : pz_Dk) (n : Nat) (pt : Nat → Int64) (b : Nat) : pz_th (pz_drec x n pt b) = pz_th x := by unfold pz_drec; split <;> rfl
theorem pz_drec_dd (x : pz_Dk) (n : Nat) (pt : Nat → Int64) (b : Nat) : pz_dd (pz_drec x n pt b) = pz_dd x := by unfold pz_drec; split <;> rfl
theorem pz_drec_R (x : pz_Dk) (n : Nat) (pt : Nat → Int64) (b : Nat) : pz_R (pz_drec x n pt b) = pz_R x := by unfold pz_drec; split <;> rfl
/-- the three writes, disk by disk -/
theorem pz_wrs_at (dk : Nat → pz_Dk) (su : pz_Su) (bl pt py : Nat → Int64) (n : Nat) (a b : Bool) (ha : a = decide (n / 4 < pz_th (dk (n / 4 % 5)))) (hb : b = decide (n / 4 < pz_th (dk (pz_dn n)))) :
    (pz_wrs dk su bl pt py n).2 = (pz_l3 a b su).2 ∧ (∀ d, d ≠ n / 4 % 5 → d ≠ pz_dn n → (pz_wrs dk su bl pt py n).1 d = dk d) ∧
    (pz_wrs dk su bl pt py n).1 (n / 4 % 5) = (if a = true then pz_dwr (pz_drec (dk (n / 4 % 5)) n pt (pz_l1 a su).1) (n / 4) py (pz_l3 a b su).1 else dk (n / 4 % 5)) ∧
    (pz_wrs dk su bl pt py n).1 (pz_dn n) = (if b = true then pz_dwr (dk (pz_dn n)) (n / 4) bl (pz_l2 a b su).1 else dk (pz_dn n)) := by
  have hqp := pz_dn_ne n
  have hpq : n / 4 % 5 ≠ pz_dn n := fun e => hqp e.symm
  by_cases c1 : n / 4 < pz_th (dk (n / 4 % 5)) <;> by_cases c2 : n / 4 < pz_th (dk (pz_dn n)) <;> simp only [c1, c2, decide_true, decide_false] at ha hb <;> subst ha hb
  · have e1 : pz_w1 dk su pt n = (va_up dk (n / 4 % 5) (pz_drec (dk (n / 4 % 5)) n pt (pz_let 136 su).1), (pz_let 136 su).2) := by unfold pz_w1; rw [if_pos c1]
    have e2 : pz_w2 (pz_w1 dk su pt n) bl n = (va_up (va_up dk (n / 4 % 5) (pz_drec (dk (n / 4 % 5)) n pt (pz_let 136 su).1)) (pz_dn n) (pz_dwr (dk (pz_dn n)) (n / 4) bl (pz_let 128 (pz_let 136 su).2).1), (pz_let 128 (pz_let 136 su).2).2) := by
      rw [e1]; unfold pz_w2; simp only [pz_up_n _ _ hqp]; rw [if_pos c2]
    have e3 : pz_wrs dk su bl pt py n = (va_up (va_up (va_up dk (n / 4 % 5) (pz_drec (dk (n / 4 % 5)) n pt (pz_let 136 su).1)) (pz_dn n) (pz_dwr (dk (pz_dn n)) (n / 4) bl (pz_let 128 (pz_let 136 su).2).1)) (n / 4 % 5) (pz_dwr (pz_drec (dk (n / 4 % 5)) n pt (pz_let 136 su).1) (n / 4) py (pz_let 128 (pz_let 128 (pz_let 136 su).2).2).1), (pz_let 128 (pz_let 128 (pz_let 136 su).2).2).2) := by
      unfold pz_wrs; rw [e2]; unfold pz_w3; simp only [pz_up_n _ _ hpq, pz_up_s, pz_drec_th]; rw [if_pos c1]
    rw [e3]
    refine ⟨rfl, fun d h1 h2 => ?_, ?_, ?_⟩
    · simp only [pz_up_n _ _ h1, pz_up_n _ _ h2]
    · simp only [pz_up_s]; rfl
    · simp only [pz_up_n _ _ hqp, pz_up_s]; rfl
  · have e1 : pz_w1 dk su pt n = (va_up dk (n / 4 % 5) (pz_drec (dk (n / 4 % 5)) n pt (pz_let 136 su).1), (pz_let 136 su).2) := by unfold pz_w1; rw [if_pos c1]
    have e2 : pz_w2 (pz_w1 dk su pt n) bl n = (va_up dk (n / 4 % 5) (pz_drec (dk (n / 4 % 5)) n pt (pz_let 136 su).1), (pz_let 136 su).2) := by
      rw [e1]; unfold pz_w2; simp only [pz_up_n _ _ hqp]; rw [if_neg c2]
    have e3 : pz_wrs dk su bl pt py n = (va_up (va_up dk (n / 4 % 5) (pz_drec (dk (n / 4 % 5)) n pt (pz_let 136 su).1)) (n / 4 % 5) (pz_dwr (pz_drec (dk (n / 4 % 5)) n pt (pz_let 136 su).1) (n / 4) py (pz_let 128 (pz_let 136 su).2).1), (pz_let 128 (pz_let 136 su).2).2) := by
      unfold pz_wrs; rw [e2]; unfold pz_w3; simp only [pz_up_s, pz_drec_th]; rw [if_pos c1]
    rw [e3]
    refine ⟨rfl, fun d h1 h2 => ?_, ?_, ?_⟩
    · simp only [pz_up_n _ _ h1]
    · simp only [pz_up_s]; rfl
    · simp only [pz_up_n _ _ hqp]; rfl
  · have e1 : pz_w1 dk su pt n = (dk, su) := by unfold pz_w1; rw [if_neg c1]
    have e2 : pz_w2 (pz_w1 dk su pt n) bl n = (va_up dk (pz_dn n) (pz_dwr (dk (pz_dn n)) (n / 4) bl (pz_let 128 su).1), (pz_let 128 su).2) := by
      rw [e1]; unfold pz_w2; rw [if_pos c2]
    have e3 : pz_wrs dk su bl pt py n = (va_up dk (pz_dn n) (pz_dwr (dk (pz_dn n)) (n / 4) bl (pz_let 128 su).1), (pz_let 128 su).2) := by
      unfold pz_wrs; rw [e2]; unfold pz_w3; simp only [pz_up_n _ _ hpq]; rw [if_neg c1]
    rw [e3]
    refine ⟨rfl, fun d h1 h2 => ?_, ?_, ?_⟩
    · simp only [pz_up_n _ _ h2]
    · simp only [pz_up_n _ _ hpq]; rfl
    · simp only [pz_up_s]; rfl
  · have e1 : pz_w1 dk su pt n = (dk, su) := by unfold pz_w1; rw [if_neg c1]
    have e2 : pz_w2 (pz_w1 dk su pt n) bl n = (dk, su) := by
      rw [e1]; unfold pz_w2; rw [if_neg c2]
    have e3 : pz_wrs dk su bl pt py n = (dk, su) := by
      unfold pz_wrs; rw [e2]; unfold pz_w3; rw [if_neg c1]
    rw [e3]
    refine ⟨rfl, fun d h1 h2 => rfl, ?_, ?_⟩ <;> rfl
def pz_now (x : pz_Mu) (n : Nat) : Nat := pz_nw (decide (pz_ms x ≠ some (n / 4 % 5) ∨ (pz_mf x = true ∧ n / 4 < pz_mr x))) (pz_mw x) (pz_mc x)
def pz_mset (x : pz_Mu) (n i : Nat) (w : Int64) : pz_Mu :=
  (vp_updL (pz_mM x) (16 * n + i) (pz_cut (if pz_mF x = 1 then pz_now x n else 128) i w (pz_mM x (16 * n + i))), decide (pz_mF x ≠ 1), pz_ms x, pz_mf x, pz_mr x, (if pz_mF x = 1 then 0 else pz_mF x), pz_mw x, pz_mc x)
theorem pz_Inv.set {dk : Nat → pz_Dk} {su : pz_Su} {x : pz_Mu} (h : pz_Inv dk su x) (hon : pz_mo x = true) {n i : Nat} (hn : n < 600) (hi : i < 16) {w : Int64} {bl pt py : Nat → Int64}
    (hbl : ∀ j, j < 16 → bl j = if j = i then w else pz_mM x (16 * n + j)) (hpt : ∀ j, j < 16 → pt j = pz_R (dk (n / 4 % 5)) (16 * (n / 4) + j) ^^^ pz_mM x (16 * n + j)) (hpy : ∀ j, j < 16 → py j = pt j ^^^ bl j) :
    pz_Inv (pz_wrs dk (pz_beg false su) bl pt py n).1 (pz_end (pz_wrs dk (pz_beg false su) bl pt py n).2) (pz_mset x n i w) := by
  have hs : n / 4 < 150 := by omega
  have hp5 : n / 4 % 5 < 5 := by omega
  have hq5 := pz_dn_lt n
  have hqp := pz_dn_ne n
  have hIC := h.IC hon
  obtain ⟨e1, e2, e3, e4⟩ := pz_wrs_at dk (pz_beg false su) bl pt py n _ _ rfl rfl
  have hthere := h.2.1.there hp5 hs
  have hIP : pz_IP su true (pz_mF x) (pz_mw x) (pz_mc x) := by rw [← hon]; exact h.2.2
  obtain ⟨a1, a2, a3, a4⟩ := pz_amt hIP (decide (n / 4 < pz_th (dk (n / 4 % 5)))) (decide (n / 4 < pz_th (dk (pz_dn n)))) (if pz_mF x = 1 then pz_now x n else 128) (by
    unfold pz_now; rw [decide_eq_decide.mpr hthere])
  generalize hN : (if pz_mF x = 1 then pz_now x n else 128) = N at a1 a2 a3
  generalize pz_wrs dk (pz_beg false su) bl pt py n = r at e1 e2 e3 e4 ⊢
  generalize pz_l1 (decide (n / 4 < pz_th (dk (n / 4 % 5)))) (pz_beg false su) = l1 at e3 a3
  generalize pz_l2 (decide (n / 4 < pz_th (dk (n / 4 % 5)))) (decide (n / 4 < pz_th (dk (pz_dn n)))) (pz_beg false su) = l2 at e4 a1
  generalize pz_l3 (decide (n / 4 < pz_th (dk (n / 4 % 5)))) (decide (n / 4 < pz_th (dk (pz_dn n)))) (pz_beg false su) = l3 at e1 e3 a2 a3 a4
  have hth : ∀ d, d < 5 → pz_th (r.1 d) = pz_th (dk d) ∧ pz_dd (r.1 d) = pz_dd (dk d) := by
    intro d hd
    by_cases c1 : d = n / 4 % 5
    · subst c1
      rw [e3]
      split
      · rw [pz_th_dwr, pz_dd_dwr]; exact ⟨pz_drec_th _ _ _ _, pz_drec_dd _ _ _ _⟩
      · exact ⟨rfl, rfl⟩
    · by_cases c2 : d = pz_dn n
      · subst c2
        rw [e4]
        split
        · exact ⟨rfl, rfl⟩
        · exact ⟨rfl, rfl⟩
      · rw [e2 d c1 c2]; exact ⟨rfl, rfl⟩
  have hsame : pz_Same (pz_mM x) (vp_updL (pz_mM x) (16 * n + i) (pz_cut N i w (pz_mM x (16 * n + i)))) n := by
    intro k hk
    exact pk_uLn (by omega)
  have hM' : ∀ j, j < 16 → vp_updL (pz_mM x) (16 * n + i) (pz_cut N i w (pz_mM x (16 * n + i))) (16 * n + j) = pz_cut N j (bl j) (pz_mM x (16 * n + j)) := by
    intro j hj
    rw [hbl j hj]
    by_cases c : j = i
    · subst c; rw [if_pos rfl, pk_uLs]
    · rw [if_neg c, pz_cut_self, pk_uLn (by omega)]
  refine ⟨?_, ?_, ?_⟩
  · show pz_IC r.1 (vp_updL (pz_mM x) (16 * n + i) (pz_cut (if pz_mF x = 1 then pz_now x n else 128) i w (pz_mM x (16 * n + i)))) (fun _ => decide (pz_mF x ≠ 1) = false)
    rw [hN]
    refine hIC.set hn hsame (fun d _ h1 h2 => e2 d h1 h2) (fun d hd => (hth d hd).1) ?_ ?_ ?_ ?_ ?_ ?_
    · intro t j ht hj hne
      rw [e4]
      split
      · rw [pz_R_dwr]; exact pz_wr_out _ _ _ hj hne
      · rfl
    · intro hb j hj
      rw [e4, if_pos (decide_eq_true hb), hM' j hj]
      rw [pz_R_dwr]
      rw [pz_wr_in _ _ _ _ hj, a1 (decide_eq_true hb)]
      congr 1
      rw [← pz_C_blk (pz_mM x) n j]
      exact hIC.row hq5 hs hb hj (Or.inl fun k => k)
    · rw [e4]
      split <;> exact ⟨rfl, rfl⟩
    · intro t j ht hj hne
      rw [e3]
      split
      · rw [pz_R_dwr]
        rw [pz_wr_out _ _ _ hj hne, pz_drec_R]
      · rfl
    · intro ha
      rw [e3, if_pos (decide_eq_true ha)]
      have hCp : ∀ j, j < 16 → pz_R (dk (n / 4 % 5)) (16 * (n / 4) + j) = pz_C (pz_mM x) (n / 4 % 5) (n / 4) j := fun j hj => hIC.row hp5 hs ha hj (Or.inl fun k => k)
      have hrow : l3.1 = N → ∀ j, j < 16 → pz_R (pz_dwr (pz_drec (dk (n / 4 % 5)) n pt l1.1) (n / 4) py l3.1) (16 * (n / 4) + j) = pz_C (vp_updL (pz_mM x) (16 * n + i) (pz_cut N i w (pz_mM x (16 * n + i)))) (n / 4 % 5) (n / 4) j := by
        intro h3 j hj
        rw [pz_R_dwr]
        rw [pz_wr_in _ _ _ _ hj, h3, hpy j hj, hpt j hj, pz_C_par hsame hj, hM' j hj]
        rw [pz_drec_R, hCp j hj]
        generalize pz_C (pz_mM x) (n / 4 % 5) (n / 4) j = u
        generalize pz_mM x (16 * n + j) = v
        rw [show u ^^^ v ^^^ bl j = bl j ^^^ (u ^^^ v) from Int64.xor_comm _ _, ← Int64.xor_comm (pz_cut N j (bl j) v), ← pz_cut_xor]
        congr 1
        rw [Int64.xor_comm u v, ← Int64.xor_assoc, Int64.xor_self, Int64.xor_comm, Int64.xor_zero]
      by_cases hb : n / 4 < pz_th (dk (pz_dn n))
      · rcases a3 (decide_eq_true ha) (decide_eq_true hb) with g | ⟨g1, g2⟩
        · exact Or.inl (hrow g)
        · right
          refine ⟨by simp [g1], ?_, hb⟩
          rw [pz_rb_dwr]
          unfold pz_drec
          rw [if_neg (by omega)]
      · exact Or.inl (hrow (a2 (decide_eq_true ha) (decide_eq_false hb)))
    · rw [e3]
      by_cases ha : n / 4 < pz_th (dk (n / 4 % 5))
      · rw [if_pos (decide_eq_true ha)]
        by_cases g : l1.1 < 136
        · left
          rw [pz_rb_dwr]
          unfold pz_drec
          rw [if_pos g]
        · right; left
          refine ⟨ha, ?_, fun j hj => ?_⟩
          · rw [pz_rb_dwr]
            unfold pz_drec
            rw [if_neg g]
          · rw [pz_rc_dwr]
            unfold pz_drec
            rw [if_neg g]
            show va_cpy pt _ 0 0 16 j = _
            rw [pk_cpy_in (Nat.zero_le _) (by omega), show 0 + (j - 0) = j by omega, hpt j hj]
            congr 1
            exact hIC.row hp5 hs ha hj (Or.inl fun k => k)
      · right; right
        rw [if_neg (by simp [ha])]
        exact ⟨ha, rfl, rfl⟩
  · obtain ⟨s1, s2, s3⟩ := h.2.1
    refine ⟨fun d hd hne => ?_, fun d hd => ?_, s3⟩
    · rw [(hth d hd).1, (hth d hd).2]; exact s1 d hd hne
    · have h5 := (s2 d hd).1
      rw [(hth d h5).1, (hth d h5).2]; exact s2 d hd
  · rw [e1]; exact a4
